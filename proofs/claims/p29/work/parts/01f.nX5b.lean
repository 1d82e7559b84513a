theorem dX5_note_0 : decode cX5_note 0 = .ok (.aload_n 0, 1) := by decide +kernel
theorem dX5_note_1 : decode cX5_note 1 = .ok (.getfield 10, 3) := by decide +kernel
theorem dX5_note_4 : decode cX5_note 4 = .ok (.iload_n 1, 1) := by decide +kernel
theorem dX5_note_5 : decode cX5_note 5 = .ok (.invokevirtual 94, 3) := by decide +kernel
theorem dX5_note_8 : decode cX5_note 8 = .ok (.ifCond .ne 5, 3) := by decide +kernel
theorem dX5_note_11 : decode cX5_note 11 = .ok (.iconst (-1), 1) := by decide +kernel
theorem dX5_note_12 : decode cX5_note 12 = .ok (.ireturn, 1) := by decide +kernel
theorem dX5_note_13 : decode cX5_note 13 = .ok (.iload_n 2, 1) := by decide +kernel
theorem dX5_note_14 : decode cX5_note 14 = .ok (.tableswitch 119 0 6 #[42, 52, 62, 71, 86, 96, 105], 42) := by decide +kernel
theorem dX5_note_56 : decode cX5_note 56 = .ok (.aload_n 0, 1) := by decide +kernel
theorem dX5_note_57 : decode cX5_note 57 = .ok (.getfield 10, 3) := by decide +kernel
theorem dX5_note_60 : decode cX5_note 60 = .ok (.getfield 106, 3) := by decide +kernel
theorem dX5_note_63 : decode cX5_note 63 = .ok (.iload_n 1, 1) := by decide +kernel
theorem dX5_note_64 : decode cX5_note 64 = .ok (.iaload, 1) := by decide +kernel
theorem dX5_note_65 : decode cX5_note 65 = .ok (.ireturn, 1) := by decide +kernel
theorem dX5_note_66 : decode cX5_note 66 = .ok (.aload_n 0, 1) := by decide +kernel
theorem dX5_note_67 : decode cX5_note 67 = .ok (.getfield 10, 3) := by decide +kernel
theorem dX5_note_70 : decode cX5_note 70 = .ok (.getfield 110, 3) := by decide +kernel
theorem dX5_note_73 : decode cX5_note 73 = .ok (.iload_n 1, 1) := by decide +kernel
theorem dX5_note_74 : decode cX5_note 74 = .ok (.iaload, 1) := by decide +kernel
theorem dX5_note_75 : decode cX5_note 75 = .ok (.ireturn, 1) := by decide +kernel
theorem dX5_note_76 : decode cX5_note 76 = .ok (.aload_n 0, 1) := by decide +kernel
theorem dX5_note_77 : decode cX5_note 77 = .ok (.getfield 10, 3) := by decide +kernel
theorem dX5_note_80 : decode cX5_note 80 = .ok (.iload_n 1, 1) := by decide +kernel
theorem dX5_note_81 : decode cX5_note 81 = .ok (.invokevirtual 98, 3) := by decide +kernel
theorem dX5_note_84 : decode cX5_note 84 = .ok (.ireturn, 1) := by decide +kernel
theorem dX5_note_85 : decode cX5_note 85 = .ok (.aload_n 0, 1) := by decide +kernel
theorem dX5_note_86 : decode cX5_note 86 = .ok (.invokevirtual 117, 3) := by decide +kernel
theorem dX5_note_89 : decode cX5_note 89 = .ok (.pop, 1) := by decide +kernel
theorem dX5_note_90 : decode cX5_note 90 = .ok (.aload_n 0, 1) := by decide +kernel
theorem dX5_note_91 : decode cX5_note 91 = .ok (.getfield 44, 3) := by decide +kernel
theorem dX5_note_94 : decode cX5_note 94 = .ok (.getfield 160, 3) := by decide +kernel
theorem dX5_note_97 : decode cX5_note 97 = .ok (.iload_n 1, 1) := by decide +kernel
theorem dX5_note_98 : decode cX5_note 98 = .ok (.iaload, 1) := by decide +kernel
theorem dX5_note_99 : decode cX5_note 99 = .ok (.ireturn, 1) := by decide +kernel
theorem dX5_note_100 : decode cX5_note 100 = .ok (.aload_n 0, 1) := by decide +kernel
theorem dX5_note_101 : decode cX5_note 101 = .ok (.getfield 10, 3) := by decide +kernel
theorem dX5_note_104 : decode cX5_note 104 = .ok (.getfield 163, 3) := by decide +kernel
theorem dX5_note_107 : decode cX5_note 107 = .ok (.iload_n 1, 1) := by decide +kernel
theorem dX5_note_108 : decode cX5_note 108 = .ok (.iaload, 1) := by decide +kernel
theorem dX5_note_109 : decode cX5_note 109 = .ok (.ireturn, 1) := by decide +kernel
theorem dX5_note_110 : decode cX5_note 110 = .ok (.aload_n 0, 1) := by decide +kernel
theorem dX5_note_111 : decode cX5_note 111 = .ok (.getfield 10, 3) := by decide +kernel
theorem dX5_note_114 : decode cX5_note 114 = .ok (.iload_n 1, 1) := by decide +kernel
theorem dX5_note_115 : decode cX5_note 115 = .ok (.invokevirtual 209, 3) := by decide +kernel
theorem dX5_note_118 : decode cX5_note 118 = .ok (.ireturn, 1) := by decide +kernel
theorem dX5_note_119 : decode cX5_note 119 = .ok (.aload_n 0, 1) := by decide +kernel
theorem dX5_note_120 : decode cX5_note 120 = .ok (.iload_n 1, 1) := by decide +kernel
theorem dX5_note_121 : decode cX5_note 121 = .ok (.invokevirtual 212, 3) := by decide +kernel
theorem dX5_note_124 : decode cX5_note 124 = .ok (.ifCond .eq 7, 3) := by decide +kernel
theorem dX5_note_127 : decode cX5_note 127 = .ok (.iconst 1, 1) := by decide +kernel
theorem dX5_note_128 : decode cX5_note 128 = .ok (.goto 4, 3) := by decide +kernel
theorem dX5_note_131 : decode cX5_note 131 = .ok (.iconst 0, 1) := by decide +kernel
theorem dX5_note_132 : decode cX5_note 132 = .ok (.ireturn, 1) := by decide +kernel
theorem dX5_note_133 : decode cX5_note 133 = .ok (.bipush (-2), 2) := by decide +kernel
theorem dX5_note_135 : decode cX5_note 135 = .ok (.ireturn, 1) := by decide +kernel
set_option maxRecDepth 20000 in
theorem ggX5_dots_X5_isPerson : GoodIn wsX5_dots wsX5_isPerson := goodIn_r _ [5, 6, 7, 4, 8] (by decide +kernel) (by decide +kernel)
set_option maxRecDepth 20000 in
theorem gX5_dots_X5_isPerson : GoodIn wsX5_dots (va_wsS RX5 134 yX5_isPerson wsX5_isPerson) := goodIn_app (goodIn_of _ (by decide +kernel)) ggX5_dots_X5_isPerson
set_option maxRecDepth 20000 in
theorem ggX5_dots_X0_hasNote : GoodIn wsX5_dots wsX0_hasNote := goodIn_r _ [13, 14, 31, 32, 33, 34, 35, 36, 37, 38] (by decide +kernel) (by decide +kernel)
set_option maxRecDepth 20000 in
theorem gX5_dots_X0_hasNote : GoodIn wsX5_dots (wsV RX5 94 RX0 yX0_hasNote wsX0_hasNote) := goodIn_app (goodIn_of _ (by decide +kernel)) ggX5_dots_X0_hasNote
set_option maxRecDepth 20000 in
theorem ggX5_dots_X0_dotsOfPerson : GoodIn wsX5_dots wsX0_dotsOfPerson := goodIn_r _ [18, 19, 31, 32, 33, 34, 35, 36, 37, 38] (by decide +kernel) (by decide +kernel)
set_option maxRecDepth 20000 in
theorem gX5_dots_X0_dotsOfPerson : GoodIn wsX5_dots (wsV RX5 146 RX0 yX0_dotsOfPerson wsX0_dotsOfPerson) := goodIn_app (goodIn_of _ (by decide +kernel)) ggX5_dots_X0_dotsOfPerson
theorem dX5_dots_0 : decode cX5_dots 0 = .ok (.iload_n 1, 1) := by decide +kernel
theorem dX5_dots_1 : decode cX5_dots 1 = .ok (.invokestatic 134, 3) := by decide +kernel
theorem dX5_dots_4 : decode cX5_dots 4 = .ok (.ifCond .eq 14, 3) := by decide +kernel
theorem dX5_dots_7 : decode cX5_dots 7 = .ok (.aload_n 0, 1) := by decide +kernel
theorem dX5_dots_8 : decode cX5_dots 8 = .ok (.getfield 10, 3) := by decide +kernel
theorem dX5_dots_11 : decode cX5_dots 11 = .ok (.iload_n 2, 1) := by decide +kernel
theorem dX5_dots_12 : decode cX5_dots 12 = .ok (.invokevirtual 94, 3) := by decide +kernel
theorem dX5_dots_15 : decode cX5_dots 15 = .ok (.ifCond .ne 5, 3) := by decide +kernel
theorem dX5_dots_18 : decode cX5_dots 18 = .ok (.iconst (-1), 1) := by decide +kernel
theorem dX5_dots_19 : decode cX5_dots 19 = .ok (.ireturn, 1) := by decide +kernel
theorem dX5_dots_20 : decode cX5_dots 20 = .ok (.aload_n 0, 1) := by decide +kernel
theorem dX5_dots_21 : decode cX5_dots 21 = .ok (.getfield 10, 3) := by decide +kernel
theorem dX5_dots_24 : decode cX5_dots 24 = .ok (.iload_n 1, 1) := by decide +kernel
theorem dX5_dots_25 : decode cX5_dots 25 = .ok (.iload_n 2, 1) := by decide +kernel
theorem dX5_dots_26 : decode cX5_dots 26 = .ok (.invokevirtual 146, 3) := by decide +kernel
theorem dX5_dots_29 : decode cX5_dots 29 = .ok (.ireturn, 1) := by decide +kernel
set_option maxRecDepth 20000 in
theorem ggX5_heap_X5_findHeaps : GoodIn wsX5_heap wsX5_findHeaps := goodIn_r _ [7, 1, 2, 8, 9, 10, 11, 12, 13, 14, 15, 16, 17, 18, 19, 20, 21, 22, 23, 24, 25, 26, 27, 28, 29, 30, 31, 32, 33, 34, 35, 36, 37, 38, 39, 40, 41, 42, 43, 98, 99, 100, 101, 102, 103, 104, 105, 106, 107, 108, 109, 110, 111, 112, 113, 114, 115, 116, 117, 118, 119, 120] (by decide +kernel) (by decide +kernel)
set_option maxRecDepth 20000 in
theorem gX5_heap_X5_findHeaps : GoodIn wsX5_heap (wsV RX5 117 RX5 yX5_findHeaps wsX5_findHeaps) := goodIn_app (goodIn_of _ (by decide +kernel)) ggX5_heap_X5_findHeaps
set_option maxRecDepth 20000 in
theorem ggX5_heap_X2_has : GoodIn wsX5_heap wsX2_has := goodIn_r _ [47, 17, 117, 118, 119, 120] (by decide +kernel) (by decide +kernel)
set_option maxRecDepth 20000 in
theorem gX5_heap_X2_has : GoodIn wsX5_heap (wsV RX5 121 RX2 yX2_has wsX2_has) := goodIn_app (goodIn_of _ (by decide +kernel)) ggX5_heap_X2_has
set_option maxRecDepth 20000 in
theorem ggX5_heap_X2_notesIn : GoodIn wsX5_heap wsX2_notesIn := goodIn_r _ [51, 15, 43, 117, 118, 119, 120] (by decide +kernel) (by decide +kernel)
set_option maxRecDepth 20000 in
theorem gX5_heap_X2_notesIn : GoodIn wsX5_heap (wsV RX5 215 RX2 yX2_notesIn wsX2_notesIn) := goodIn_app (goodIn_of _ (by decide +kernel)) ggX5_heap_X2_notesIn
set_option maxRecDepth 20000 in
theorem ggX5_heap_X2_lowestNoteIn : GoodIn wsX5_heap wsX2_lowestNoteIn := goodIn_r _ [55, 15, 43, 117, 118, 119, 120] (by decide +kernel) (by decide +kernel)
set_option maxRecDepth 20000 in
theorem gX5_heap_X2_lowestNoteIn : GoodIn wsX5_heap (wsV RX5 218 RX2 yX2_lowestNoteIn wsX2_lowestNoteIn) := goodIn_app (goodIn_of _ (by decide +kernel)) ggX5_heap_X2_lowestNoteIn
set_option maxRecDepth 20000 in
theorem ggX5_heap_X2_dotsIn : GoodIn wsX5_heap wsX2_dotsIn := goodIn_r _ [59, 15, 43, 60, 61, 62, 21, 63, 64, 65, 66, 67, 68, 117, 118, 119, 120, 109, 110, 111, 112, 113, 114, 115, 116] (by decide +kernel) (by decide +kernel)
set_option maxRecDepth 20000 in
theorem gX5_heap_X2_dotsIn : GoodIn wsX5_heap (wsV RX5 221 RX2 yX2_dotsIn wsX2_dotsIn) := goodIn_app (goodIn_of _ (by decide +kernel)) ggX5_heap_X2_dotsIn
set_option maxRecDepth 20000 in
theorem ggX5_heap_X5_themesInHeap : GoodIn wsX5_heap wsX5_themesInHeap := goodIn_r _ [72, 2, 73, 74, 75, 76, 6, 77, 78, 1, 79, 80, 98, 99, 100, 101, 102, 103, 104, 105, 106, 107, 108, 109, 110, 111, 112, 113, 114, 115, 116, 117, 118, 119, 120] (by decide +kernel) (by decide +kernel)
set_option maxRecDepth 20000 in
theorem gX5_heap_X5_themesInHeap : GoodIn wsX5_heap (wsV RX5 224 RX5 yX5_themesInHeap wsX5_themesInHeap) := goodIn_app (goodIn_of _ (by decide +kernel)) ggX5_heap_X5_themesInHeap
set_option maxRecDepth 20000 in
theorem ggX5_heap_X2_freeNotesIn : GoodIn wsX5_heap wsX2_freeNotesIn := goodIn_r _ [84, 15, 43, 85, 117, 118, 119, 120, 109, 110, 111, 112, 113, 114, 115, 116] (by decide +kernel) (by decide +kernel)
set_option maxRecDepth 20000 in
theorem gX5_heap_X2_freeNotesIn : GoodIn wsX5_heap (wsV RX5 150 RX2 yX2_freeNotesIn wsX2_freeNotesIn) := goodIn_app (goodIn_of _ (by decide +kernel)) ggX5_heap_X2_freeNotesIn
set_option maxRecDepth 20000 in
theorem ggX5_heap_X2_middleOf : GoodIn wsX5_heap wsX2_middleOf := goodIn_r _ [89, 15, 43, 90, 91, 92, 12, 93, 18, 19, 20, 21, 22, 23, 24, 25, 26, 27, 28, 117, 118, 119, 120, 109, 110, 111, 112, 113, 114, 115, 116] (by decide +kernel) (by decide +kernel)
set_option maxRecDepth 20000 in
theorem gX5_heap_X2_middleOf : GoodIn wsX5_heap (wsV RX5 227 RX2 yX2_middleOf wsX2_middleOf) := goodIn_app (goodIn_of _ (by decide +kernel)) ggX5_heap_X2_middleOf
set_option maxRecDepth 20000 in
theorem ggX5_heap_X2_widthOf : GoodIn wsX5_heap wsX2_widthOf := goodIn_r _ [97, 15, 43, 36, 37, 26, 38, 18, 19, 20, 21, 22, 23, 24, 25, 27, 28, 117, 118, 119, 120, 109, 110, 111, 112, 113, 114, 115, 116] (by decide +kernel) (by decide +kernel)
set_option maxRecDepth 20000 in
theorem gX5_heap_X2_widthOf : GoodIn wsX5_heap (wsV RX5 230 RX2 yX2_widthOf wsX2_widthOf) := goodIn_app (goodIn_of _ (by decide +kernel)) ggX5_heap_X2_widthOf
theorem dX5_heap_0 : decode cX5_heap 0 = .ok (.aload_n 0, 1) := by decide +kernel
theorem dX5_heap_1 : decode cX5_heap 1 = .ok (.invokevirtual 117, 3) := by decide +kernel
theorem dX5_heap_4 : decode cX5_heap 4 = .ok (.pop, 1) := by decide +kernel
theorem dX5_heap_5 : decode cX5_heap 5 = .ok (.aload_n 0, 1) := by decide +kernel
theorem dX5_heap_6 : decode cX5_heap 6 = .ok (.getfield 44, 3) := by decide +kernel
theorem dX5_heap_9 : decode cX5_heap 9 = .ok (.iload_n 1, 1) := by decide +kernel
theorem dX5_heap_10 : decode cX5_heap 10 = .ok (.invokevirtual 121, 3) := by decide +kernel
theorem dX5_heap_13 : decode cX5_heap 13 = .ok (.ifCond .ne 5, 3) := by decide +kernel
theorem dX5_heap_16 : decode cX5_heap 16 = .ok (.iconst (-1), 1) := by decide +kernel
theorem dX5_heap_17 : decode cX5_heap 17 = .ok (.ireturn, 1) := by decide +kernel
theorem dX5_heap_18 : decode cX5_heap 18 = .ok (.iload_n 2, 1) := by decide +kernel
theorem dX5_heap_19 : decode cX5_heap 19 = .ok (.tableswitch 117 0 6 #[41, 50, 59, 72, 78, 91, 104], 41) := by decide +kernel
theorem dX5_heap_60 : decode cX5_heap 60 = .ok (.aload_n 0, 1) := by decide +kernel
theorem dX5_heap_61 : decode cX5_heap 61 = .ok (.getfield 44, 3) := by decide +kernel
theorem dX5_heap_64 : decode cX5_heap 64 = .ok (.iload_n 1, 1) := by decide +kernel
theorem dX5_heap_65 : decode cX5_heap 65 = .ok (.invokevirtual 215, 3) := by decide +kernel
theorem dX5_heap_68 : decode cX5_heap 68 = .ok (.ireturn, 1) := by decide +kernel
theorem dX5_heap_69 : decode cX5_heap 69 = .ok (.aload_n 0, 1) := by decide +kernel
theorem dX5_heap_70 : decode cX5_heap 70 = .ok (.getfield 44, 3) := by decide +kernel
theorem dX5_heap_73 : decode cX5_heap 73 = .ok (.iload_n 1, 1) := by decide +kernel
theorem dX5_heap_74 : decode cX5_heap 74 = .ok (.invokevirtual 218, 3) := by decide +kernel
theorem dX5_heap_77 : decode cX5_heap 77 = .ok (.ireturn, 1) := by decide +kernel
theorem dX5_heap_78 : decode cX5_heap 78 = .ok (.aload_n 0, 1) := by decide +kernel
theorem dX5_heap_79 : decode cX5_heap 79 = .ok (.getfield 44, 3) := by decide +kernel
theorem dX5_heap_82 : decode cX5_heap 82 = .ok (.iload_n 1, 1) := by decide +kernel
theorem dX5_heap_83 : decode cX5_heap 83 = .ok (.aload_n 0, 1) := by decide +kernel
theorem dX5_heap_84 : decode cX5_heap 84 = .ok (.getfield 10, 3) := by decide +kernel
theorem dX5_heap_87 : decode cX5_heap 87 = .ok (.invokevirtual 221, 3) := by decide +kernel
theorem dX5_heap_90 : decode cX5_heap 90 = .ok (.ireturn, 1) := by decide +kernel
theorem dX5_heap_91 : decode cX5_heap 91 = .ok (.aload_n 0, 1) := by decide +kernel
theorem dX5_heap_92 : decode cX5_heap 92 = .ok (.iload_n 1, 1) := by decide +kernel
theorem dX5_heap_93 : decode cX5_heap 93 = .ok (.invokevirtual 224, 3) := by decide +kernel
theorem dX5_heap_96 : decode cX5_heap 96 = .ok (.ireturn, 1) := by decide +kernel
theorem dX5_heap_97 : decode cX5_heap 97 = .ok (.aload_n 0, 1) := by decide +kernel
theorem dX5_heap_98 : decode cX5_heap 98 = .ok (.getfield 44, 3) := by decide +kernel
theorem dX5_heap_101 : decode cX5_heap 101 = .ok (.iload_n 1, 1) := by decide +kernel
theorem dX5_heap_102 : decode cX5_heap 102 = .ok (.aload_n 0, 1) := by decide +kernel
theorem dX5_heap_103 : decode cX5_heap 103 = .ok (.getfield 10, 3) := by decide +kernel
theorem dX5_heap_106 : decode cX5_heap 106 = .ok (.invokevirtual 150, 3) := by decide +kernel
theorem dX5_heap_109 : decode cX5_heap 109 = .ok (.ireturn, 1) := by decide +kernel
theorem dX5_heap_110 : decode cX5_heap 110 = .ok (.aload_n 0, 1) := by decide +kernel
theorem dX5_heap_111 : decode cX5_heap 111 = .ok (.getfield 44, 3) := by decide +kernel
theorem dX5_heap_114 : decode cX5_heap 114 = .ok (.iload_n 1, 1) := by decide +kernel
theorem dX5_heap_115 : decode cX5_heap 115 = .ok (.aload_n 0, 1) := by decide +kernel
theorem dX5_heap_116 : decode cX5_heap 116 = .ok (.getfield 10, 3) := by decide +kernel
theorem dX5_heap_119 : decode cX5_heap 119 = .ok (.invokevirtual 227, 3) := by decide +kernel
theorem dX5_heap_122 : decode cX5_heap 122 = .ok (.ireturn, 1) := by decide +kernel
theorem dX5_heap_123 : decode cX5_heap 123 = .ok (.aload_n 0, 1) := by decide +kernel
theorem dX5_heap_124 : decode cX5_heap 124 = .ok (.getfield 44, 3) := by decide +kernel
theorem dX5_heap_127 : decode cX5_heap 127 = .ok (.iload_n 1, 1) := by decide +kernel
theorem dX5_heap_128 : decode cX5_heap 128 = .ok (.aload_n 0, 1) := by decide +kernel
theorem dX5_heap_129 : decode cX5_heap 129 = .ok (.getfield 10, 3) := by decide +kernel
theorem dX5_heap_132 : decode cX5_heap 132 = .ok (.invokevirtual 230, 3) := by decide +kernel
theorem dX5_heap_135 : decode cX5_heap 135 = .ok (.ireturn, 1) := by decide +kernel
theorem dX5_heap_136 : decode cX5_heap 136 = .ok (.bipush (-2), 2) := by decide +kernel
theorem dX5_heap_138 : decode cX5_heap 138 = .ok (.ireturn, 1) := by decide +kernel
set_option maxRecDepth 20000 in
theorem ggX5_theme_X0_hasTheme : GoodIn wsX5_theme wsX0_hasTheme := goodIn_r _ [8, 9, 127, 128, 129, 130, 131, 132, 133, 134] (by decide +kernel) (by decide +kernel)
set_option maxRecDepth 20000 in
theorem gX5_theme_X0_hasTheme : GoodIn wsX5_theme (wsV RX5 166 RX0 yX0_hasTheme wsX0_hasTheme) := goodIn_app (goodIn_of _ (by decide +kernel)) ggX5_theme_X0_hasTheme
set_option maxRecDepth 20000 in
theorem ggX5_theme_X0_notesOfTheme : GoodIn wsX5_theme wsX0_notesOfTheme := goodIn_r _ [13, 14, 15, 127, 128, 129, 130, 131, 132, 133, 134] (by decide +kernel) (by decide +kernel)
set_option maxRecDepth 20000 in
theorem gX5_theme_X0_notesOfTheme : GoodIn wsX5_theme (wsV RX5 172 RX0 yX0_notesOfTheme wsX0_notesOfTheme) := goodIn_app (goodIn_of _ (by decide +kernel)) ggX5_theme_X0_notesOfTheme
set_option maxRecDepth 20000 in
theorem ggX5_theme_X0_dotsOfTheme : GoodIn wsX5_theme wsX0_dotsOfTheme := goodIn_r _ [19, 14, 15, 20, 21, 22, 7, 23, 24, 25, 26, 27, 28, 127, 128, 129, 130, 131, 132, 133, 134] (by decide +kernel) (by decide +kernel)
set_option maxRecDepth 20000 in
theorem gX5_theme_X0_dotsOfTheme : GoodIn wsX5_theme (wsV RX5 233 RX0 yX0_dotsOfTheme wsX0_dotsOfTheme) := goodIn_app (goodIn_of _ (by decide +kernel)) ggX5_theme_X0_dotsOfTheme
set_option maxRecDepth 20000 in
theorem ggX5_theme_X4_choose : GoodIn wsX5_theme wsX4_choose := goodIn_r _ [33, 34, 35, 36, 37, 38, 32, 39, 40, 41, 42, 7, 43, 44, 45, 46, 47, 48, 49, 50, 51, 52, 127, 128, 129, 130, 131, 132, 133, 134, 126] (by decide +kernel) (by decide +kernel)
set_option maxRecDepth 20000 in
theorem gX5_theme_X4_choose : GoodIn wsX5_theme (wsV RX5 187 RX4 yX4_choose wsX4_choose) := goodIn_app (goodIn_of _ (by decide +kernel)) ggX5_theme_X4_choose
set_option maxRecDepth 20000 in
theorem ggX5_theme_X5_rankOf : GoodIn wsX5_theme wsX5_rankOf := goodIn_r _ [57, 1, 58, 16, 17, 18, 7, 19, 14, 15, 20, 21, 22, 23, 24, 25, 26, 27, 28, 115, 116, 117, 118, 119, 120, 121, 122, 123, 124, 125, 127, 128, 129, 130, 131, 132, 133, 134] (by decide +kernel) (by decide +kernel)
set_option maxRecDepth 20000 in
theorem gX5_theme_X5_rankOf : GoodIn wsX5_theme (wsV RX5 236 RX5 yX5_rankOf wsX5_rankOf) := goodIn_app (goodIn_of _ (by decide +kernel)) ggX5_theme_X5_rankOf
set_option maxRecDepth 20000 in
theorem ggX5_theme_X5_heapsOfTheme : GoodIn wsX5_theme wsX5_heapsOfTheme := goodIn_r _ [62, 63, 64, 65, 56, 66, 67, 1, 68, 69, 70, 71, 72, 73, 74, 75, 76, 77, 78, 79, 80, 7, 81, 82, 83, 84, 85, 86, 87, 88, 89, 90, 91, 92, 93, 94, 95, 96, 97, 98, 99, 100, 101, 102, 103, 104, 105, 106, 107, 108, 109, 115, 116, 117, 118, 119, 120, 121, 122, 123, 124, 125, 127, 128, 129, 130, 131, 132, 133, 134, 135, 136, 137, 138] (by decide +kernel) (by decide +kernel)
set_option maxRecDepth 20000 in
theorem gX5_theme_X5_heapsOfTheme : GoodIn wsX5_theme (wsV RX5 239 RX5 yX5_heapsOfTheme wsX5_heapsOfTheme) := goodIn_app (goodIn_of _ (by decide +kernel)) ggX5_theme_X5_heapsOfTheme
set_option maxRecDepth 20000 in
theorem ggX5_theme_X0_votersOf : GoodIn wsX5_theme wsX0_votersOf := goodIn_r _ [113, 114, 41, 42, 7, 43, 44, 45, 46, 47, 48, 127, 128, 129, 130, 131, 132, 133, 134] (by decide +kernel) (by decide +kernel)
set_option maxRecDepth 20000 in
theorem gX5_theme_X0_votersOf : GoodIn wsX5_theme (wsV RX5 242 RX0 yX0_votersOf wsX0_votersOf) := goodIn_app (goodIn_of _ (by decide +kernel)) ggX5_theme_X0_votersOf
theorem dX5_theme_0 : decode cX5_theme 0 = .ok (.aload_n 0, 1) := by decide +kernel
theorem dX5_theme_1 : decode cX5_theme 1 = .ok (.getfield 10, 3) := by decide +kernel
theorem dX5_theme_4 : decode cX5_theme 4 = .ok (.iload_n 1, 1) := by decide +kernel
theorem dX5_theme_5 : decode cX5_theme 5 = .ok (.invokevirtual 166, 3) := by decide +kernel
theorem dX5_theme_8 : decode cX5_theme 8 = .ok (.ifCond .ne 5, 3) := by decide +kernel
theorem dX5_theme_11 : decode cX5_theme 11 = .ok (.iconst (-1), 1) := by decide +kernel
theorem dX5_theme_12 : decode cX5_theme 12 = .ok (.ireturn, 1) := by decide +kernel
theorem dX5_theme_13 : decode cX5_theme 13 = .ok (.iload_n 2, 1) := by decide +kernel
theorem dX5_theme_14 : decode cX5_theme 14 = .ok (.tableswitch 99 0 5 #[38, 47, 56, 78, 84, 90], 38) := by decide +kernel
theorem dX5_theme_52 : decode cX5_theme 52 = .ok (.aload_n 0, 1) := by decide +kernel
theorem dX5_theme_53 : decode cX5_theme 53 = .ok (.getfield 10, 3) := by decide +kernel
theorem dX5_theme_56 : decode cX5_theme 56 = .ok (.iload_n 1, 1) := by decide +kernel
theorem dX5_theme_57 : decode cX5_theme 57 = .ok (.invokevirtual 172, 3) := by decide +kernel
theorem dX5_theme_60 : decode cX5_theme 60 = .ok (.ireturn, 1) := by decide +kernel
theorem dX5_theme_61 : decode cX5_theme 61 = .ok (.aload_n 0, 1) := by decide +kernel
theorem dX5_theme_62 : decode cX5_theme 62 = .ok (.getfield 10, 3) := by decide +kernel
theorem dX5_theme_65 : decode cX5_theme 65 = .ok (.iload_n 1, 1) := by decide +kernel
theorem dX5_theme_66 : decode cX5_theme 66 = .ok (.invokevirtual 233, 3) := by decide +kernel
theorem dX5_theme_69 : decode cX5_theme 69 = .ok (.ireturn, 1) := by decide +kernel
theorem dX5_theme_70 : decode cX5_theme 70 = .ok (.aload_n 0, 1) := by decide +kernel
theorem dX5_theme_71 : decode cX5_theme 71 = .ok (.getfield 54, 3) := by decide +kernel
theorem dX5_theme_74 : decode cX5_theme 74 = .ok (.aload_n 0, 1) := by decide +kernel
theorem dX5_theme_75 : decode cX5_theme 75 = .ok (.getfield 10, 3) := by decide +kernel
theorem dX5_theme_78 : decode cX5_theme 78 = .ok (.invokevirtual 187, 3) := by decide +kernel
theorem dX5_theme_81 : decode cX5_theme 81 = .ok (.pop, 1) := by decide +kernel
theorem dX5_theme_82 : decode cX5_theme 82 = .ok (.aload_n 0, 1) := by decide +kernel
theorem dX5_theme_83 : decode cX5_theme 83 = .ok (.getfield 54, 3) := by decide +kernel
theorem dX5_theme_86 : decode cX5_theme 86 = .ok (.getfield 191, 3) := by decide +kernel
theorem dX5_theme_89 : decode cX5_theme 89 = .ok (.iload_n 1, 1) := by decide +kernel
theorem dX5_theme_90 : decode cX5_theme 90 = .ok (.iaload, 1) := by decide +kernel
theorem dX5_theme_91 : decode cX5_theme 91 = .ok (.ireturn, 1) := by decide +kernel
theorem dX5_theme_92 : decode cX5_theme 92 = .ok (.aload_n 0, 1) := by decide +kernel
theorem dX5_theme_93 : decode cX5_theme 93 = .ok (.iload_n 1, 1) := by decide +kernel
theorem dX5_theme_94 : decode cX5_theme 94 = .ok (.invokevirtual 236, 3) := by decide +kernel
theorem dX5_theme_97 : decode cX5_theme 97 = .ok (.ireturn, 1) := by decide +kernel
theorem dX5_theme_98 : decode cX5_theme 98 = .ok (.aload_n 0, 1) := by decide +kernel
theorem dX5_theme_99 : decode cX5_theme 99 = .ok (.iload_n 1, 1) := by decide +kernel
theorem dX5_theme_100 : decode cX5_theme 100 = .ok (.invokevirtual 239, 3) := by decide +kernel
theorem dX5_theme_103 : decode cX5_theme 103 = .ok (.ireturn, 1) := by decide +kernel
theorem dX5_theme_104 : decode cX5_theme 104 = .ok (.aload_n 0, 1) := by decide +kernel
theorem dX5_theme_105 : decode cX5_theme 105 = .ok (.getfield 10, 3) := by decide +kernel
theorem dX5_theme_108 : decode cX5_theme 108 = .ok (.iload_n 1, 1) := by decide +kernel
theorem dX5_theme_109 : decode cX5_theme 109 = .ok (.invokevirtual 242, 3) := by decide +kernel
theorem dX5_theme_112 : decode cX5_theme 112 = .ok (.ireturn, 1) := by decide +kernel
theorem dX5_theme_113 : decode cX5_theme 113 = .ok (.bipush (-2), 2) := by decide +kernel
theorem dX5_theme_115 : decode cX5_theme 115 = .ok (.ireturn, 1) := by decide +kernel
set_option maxRecDepth 20000 in
theorem ggX5_votes_X0_hasTheme : GoodIn wsX5_votes wsX0_hasTheme := goodIn_r _ [6, 7, 35, 36, 37, 38, 39, 40, 41, 42] (by decide +kernel) (by decide +kernel)
set_option maxRecDepth 20000 in
theorem gX5_votes_X0_hasTheme : GoodIn wsX5_votes (wsV RX5 166 RX0 yX0_hasTheme wsX0_hasTheme) := goodIn_app (goodIn_of _ (by decide +kernel)) ggX5_votes_X0_hasTheme
set_option maxRecDepth 20000 in
theorem ggX5_votes_X5_isName : GoodIn wsX5_votes wsX5_isName := goodIn_r _ [11, 12, 13, 10, 14] (by decide +kernel) (by decide +kernel)
set_option maxRecDepth 20000 in
theorem gX5_votes_X5_isName : GoodIn wsX5_votes (va_wsS RX5 178 yX5_isName wsX5_isName) := goodIn_app (goodIn_of _ (by decide +kernel)) ggX5_votes_X5_isName
set_option maxRecDepth 20000 in
theorem ggX5_votes_X0_votesFor : GoodIn wsX5_votes wsX0_votesFor := goodIn_r _ [18, 19, 20, 21, 5, 22, 23, 35, 36, 37, 38, 39, 40, 41, 42] (by decide +kernel) (by decide +kernel)
set_option maxRecDepth 20000 in
theorem gX5_votes_X0_votesFor : GoodIn wsX5_votes (wsV RX5 245 RX0 yX0_votesFor wsX0_votesFor) := goodIn_app (goodIn_of _ (by decide +kernel)) ggX5_votes_X0_votesFor
theorem dX5_votes_0 : decode cX5_votes 0 = .ok (.aload_n 0, 1) := by decide +kernel
theorem dX5_votes_1 : decode cX5_votes 1 = .ok (.getfield 10, 3) := by decide +kernel
theorem dX5_votes_4 : decode cX5_votes 4 = .ok (.iload_n 1, 1) := by decide +kernel
theorem dX5_votes_5 : decode cX5_votes 5 = .ok (.invokevirtual 166, 3) := by decide +kernel
theorem dX5_votes_8 : decode cX5_votes 8 = .ok (.ifCond .ne 5, 3) := by decide +kernel
theorem dX5_votes_11 : decode cX5_votes 11 = .ok (.iconst (-1), 1) := by decide +kernel
theorem dX5_votes_12 : decode cX5_votes 12 = .ok (.ireturn, 1) := by decide +kernel
theorem dX5_votes_13 : decode cX5_votes 13 = .ok (.iload_n 2, 1) := by decide +kernel
theorem dX5_votes_14 : decode cX5_votes 14 = .ok (.invokestatic 178, 3) := by decide +kernel
theorem dX5_votes_17 : decode cX5_votes 17 = .ok (.ifCond .ne 6, 3) := by decide +kernel
theorem dX5_votes_20 : decode cX5_votes 20 = .ok (.bipush (-2), 2) := by decide +kernel
theorem dX5_votes_22 : decode cX5_votes 22 = .ok (.ireturn, 1) := by decide +kernel
theorem dX5_votes_23 : decode cX5_votes 23 = .ok (.aload_n 0, 1) := by decide +kernel
theorem dX5_votes_24 : decode cX5_votes 24 = .ok (.getfield 10, 3) := by decide +kernel
theorem dX5_votes_27 : decode cX5_votes 27 = .ok (.iload_n 1, 1) := by decide +kernel
theorem dX5_votes_28 : decode cX5_votes 28 = .ok (.iload_n 2, 1) := by decide +kernel
theorem dX5_votes_29 : decode cX5_votes 29 = .ok (.invokevirtual 245, 3) := by decide +kernel
theorem dX5_votes_32 : decode cX5_votes 32 = .ok (.ireturn, 1) := by decide +kernel
set_option maxRecDepth 20000 in
theorem ggX5_ifDragged_X0_hasNote : GoodIn wsX5_ifDragged wsX0_hasNote := goodIn_r _ [11, 12, 96, 97, 98, 99, 100, 101, 102, 103] (by decide +kernel) (by decide +kernel)
set_option maxRecDepth 20000 in
theorem gX5_ifDragged_X0_hasNote : GoodIn wsX5_ifDragged (wsV RX5 94 RX0 yX0_hasNote wsX0_hasNote) := goodIn_app (goodIn_of _ (by decide +kernel)) ggX5_ifDragged_X0_hasNote
set_option maxRecDepth 20000 in
theorem ggX5_ifDragged_X5_isPlace : GoodIn wsX5_ifDragged wsX5_isPlace := goodIn_r _ [16, 17, 18, 15, 19] (by decide +kernel) (by decide +kernel)
set_option maxRecDepth 20000 in
theorem gX5_ifDragged_X5_isPlace : GoodIn wsX5_ifDragged (va_wsS RX5 67 yX5_isPlace wsX5_isPlace) := goodIn_app (goodIn_of _ (by decide +kernel)) ggX5_ifDragged_X5_isPlace
set_option maxRecDepth 20000 in
theorem ggX5_ifDragged_X5_isWithin : GoodIn wsX5_ifDragged wsX5_isWithin := goodIn_r _ [19] (by decide +kernel) (by decide +kernel)
set_option maxRecDepth 20000 in
theorem gX5_ifDragged_X5_isWithin : GoodIn wsX5_ifDragged (va_wsS RX5 124 yX5_isWithin wsX5_isWithin) := goodIn_app (goodIn_of _ (by decide +kernel)) ggX5_ifDragged_X5_isWithin
set_option maxRecDepth 20000 in
theorem ggX5_ifDragged_X5_findHeaps : GoodIn wsX5_ifDragged wsX5_findHeaps := goodIn_r _ [23, 24, 1, 4, 25, 26, 27, 28, 29, 30, 31, 32, 33, 34, 35, 36, 10, 37, 38, 39, 40, 41, 42, 43, 44, 45, 46, 47, 48, 49, 50, 51, 52, 53, 54, 55, 56, 57, 58, 85, 86, 87, 88, 89, 90, 91, 92, 93, 94, 95, 96, 97, 98, 99, 100, 101, 102, 103, 104, 105, 106, 107] (by decide +kernel) (by decide +kernel)
set_option maxRecDepth 20000 in
theorem gX5_ifDragged_X5_findHeaps : GoodIn wsX5_ifDragged (wsV RX5 117 RX5 yX5_findHeaps wsX5_findHeaps) := goodIn_app (goodIn_of _ (by decide +kernel)) ggX5_ifDragged_X5_findHeaps
set_option maxRecDepth 20000 in
theorem ggX5_ifDragged_X0_copyFrom : GoodIn wsX5_ifDragged wsX0_copyFrom := goodIn_r _ [62, 12, 38, 63, 64, 65, 66, 43, 67, 68, 69, 70, 71, 96, 97, 98, 99, 100, 101, 102, 103] (by decide +kernel) (by decide +kernel)
set_option maxRecDepth 20000 in
theorem gX5_ifDragged_X0_copyFrom : GoodIn wsX5_ifDragged (wsV RX5 81 RX0 yX0_copyFrom wsX0_copyFrom) := goodIn_app (goodIn_of _ (by decide +kernel)) ggX5_ifDragged_X0_copyFrom
set_option maxRecDepth 20000 in
theorem ggX5_ifDragged_X0_moveNote : GoodIn wsX5_ifDragged wsX0_moveNote := goodIn_r _ [75, 38, 43, 96, 97, 98, 99, 100, 101, 102, 103] (by decide +kernel) (by decide +kernel)
set_option maxRecDepth 20000 in
theorem gX5_ifDragged_X0_moveNote : GoodIn wsX5_ifDragged (wsV RX5 113 RX0 yX0_moveNote wsX0_moveNote) := goodIn_app (goodIn_of _ (by decide +kernel)) ggX5_ifDragged_X0_moveNote
set_option maxRecDepth 20000 in
theorem ggX5_ifDragged_X2_find : GoodIn wsX5_ifDragged wsX2_find := goodIn_r _ [29, 30, 31, 32, 33, 34, 35, 36, 10, 37, 38, 39, 40, 41, 42, 43, 44, 45, 46, 28, 47, 48, 49, 50, 51, 52, 53, 54, 55, 56, 57, 58, 96, 97, 98, 99, 100, 101, 102, 103, 104, 105, 106, 107] (by decide +kernel) (by decide +kernel)
set_option maxRecDepth 20000 in
theorem gX5_ifDragged_X2_find : GoodIn wsX5_ifDragged (wsV RX5 248 RX2 yX2_find wsX2_find) := goodIn_app (goodIn_of _ (by decide +kernel)) ggX5_ifDragged_X2_find
set_option maxRecDepth 20000 in
theorem ggX5_ifDragged_X2_notesIn : GoodIn wsX5_ifDragged wsX2_notesIn := goodIn_r _ [79, 31, 58, 104, 105, 106, 107] (by decide +kernel) (by decide +kernel)
set_option maxRecDepth 20000 in
theorem gX5_ifDragged_X2_notesIn : GoodIn wsX5_ifDragged (wsV RX5 215 RX2 yX2_notesIn wsX2_notesIn) := goodIn_app (goodIn_of _ (by decide +kernel)) ggX5_ifDragged_X2_notesIn
set_option maxRecDepth 20000 in
theorem ggX5_ifDragged_X5_notesParted : GoodIn wsX5_ifDragged wsX5_notesParted := goodIn_r _ [83, 1, 84, 24, 6, 3, 85, 86, 87, 88, 89, 90, 91, 92, 93, 94, 95, 96, 97, 98, 99, 100, 101, 102, 103, 104, 105, 106, 107] (by decide +kernel) (by decide +kernel)
set_option maxRecDepth 20000 in
theorem gX5_ifDragged_X5_notesParted : GoodIn wsX5_ifDragged (wsV RX5 255 RX5 yX5_notesParted wsX5_notesParted) := goodIn_app (goodIn_of _ (by decide +kernel)) ggX5_ifDragged_X5_notesParted
theorem dX5_ifDragged_0 : decode cX5_ifDragged 0 = .ok (.aload_n 0, 1) := by decide +kernel
theorem dX5_ifDragged_1 : decode cX5_ifDragged 1 = .ok (.getfield 10, 3) := by decide +kernel
theorem dX5_ifDragged_4 : decode cX5_ifDragged 4 = .ok (.iload_n 1, 1) := by decide +kernel
theorem dX5_ifDragged_5 : decode cX5_ifDragged 5 = .ok (.invokevirtual 94, 3) := by decide +kernel
theorem dX5_ifDragged_8 : decode cX5_ifDragged 8 = .ok (.ifCond .eq 11, 3) := by decide +kernel
theorem dX5_ifDragged_11 : decode cX5_ifDragged 11 = .ok (.iload_n 2, 1) := by decide +kernel
theorem dX5_ifDragged_12 : decode cX5_ifDragged 12 = .ok (.iload_n 3, 1) := by decide +kernel
theorem dX5_ifDragged_13 : decode cX5_ifDragged 13 = .ok (.invokestatic 67, 3) := by decide +kernel
theorem dX5_ifDragged_16 : decode cX5_ifDragged 16 = .ok (.ifCond .ne 5, 3) := by decide +kernel
theorem dX5_ifDragged_19 : decode cX5_ifDragged 19 = .ok (.iconst (-1), 1) := by decide +kernel
theorem dX5_ifDragged_20 : decode cX5_ifDragged 20 = .ok (.ireturn, 1) := by decide +kernel
theorem dX5_ifDragged_21 : decode cX5_ifDragged 21 = .ok (.iload 4, 2) := by decide +kernel
theorem dX5_ifDragged_23 : decode cX5_ifDragged 23 = .ok (.iconst 0, 1) := by decide +kernel
theorem dX5_ifDragged_24 : decode cX5_ifDragged 24 = .ok (.iconst 2, 1) := by decide +kernel
theorem dX5_ifDragged_25 : decode cX5_ifDragged 25 = .ok (.invokestatic 124, 3) := by decide +kernel
theorem dX5_ifDragged_28 : decode cX5_ifDragged 28 = .ok (.ifCond .ne 6, 3) := by decide +kernel
theorem dX5_ifDragged_31 : decode cX5_ifDragged 31 = .ok (.bipush (-2), 2) := by decide +kernel
theorem dX5_ifDragged_33 : decode cX5_ifDragged 33 = .ok (.ireturn, 1) := by decide +kernel
theorem dX5_ifDragged_34 : decode cX5_ifDragged 34 = .ok (.aload_n 0, 1) := by decide +kernel
theorem dX5_ifDragged_35 : decode cX5_ifDragged 35 = .ok (.invokevirtual 117, 3) := by decide +kernel
theorem dX5_ifDragged_38 : decode cX5_ifDragged 38 = .ok (.pop, 1) := by decide +kernel
theorem dX5_ifDragged_39 : decode cX5_ifDragged 39 = .ok (.aload_n 0, 1) := by decide +kernel
theorem dX5_ifDragged_40 : decode cX5_ifDragged 40 = .ok (.getfield 38, 3) := by decide +kernel
theorem dX5_ifDragged_43 : decode cX5_ifDragged 43 = .ok (.aload_n 0, 1) := by decide +kernel
theorem dX5_ifDragged_44 : decode cX5_ifDragged 44 = .ok (.getfield 10, 3) := by decide +kernel
theorem dX5_ifDragged_47 : decode cX5_ifDragged 47 = .ok (.invokevirtual 81, 3) := by decide +kernel
theorem dX5_ifDragged_50 : decode cX5_ifDragged 50 = .ok (.aload_n 0, 1) := by decide +kernel
theorem dX5_ifDragged_51 : decode cX5_ifDragged 51 = .ok (.getfield 38, 3) := by decide +kernel
theorem dX5_ifDragged_54 : decode cX5_ifDragged 54 = .ok (.iload_n 1, 1) := by decide +kernel
theorem dX5_ifDragged_55 : decode cX5_ifDragged 55 = .ok (.iload_n 2, 1) := by decide +kernel
theorem dX5_ifDragged_56 : decode cX5_ifDragged 56 = .ok (.iload_n 3, 1) := by decide +kernel
theorem dX5_ifDragged_57 : decode cX5_ifDragged 57 = .ok (.invokevirtual 113, 3) := by decide +kernel
theorem dX5_ifDragged_60 : decode cX5_ifDragged 60 = .ok (.aload_n 0, 1) := by decide +kernel
theorem dX5_ifDragged_61 : decode cX5_ifDragged 61 = .ok (.getfield 48, 3) := by decide +kernel
theorem dX5_ifDragged_64 : decode cX5_ifDragged 64 = .ok (.aload_n 0, 1) := by decide +kernel
theorem dX5_ifDragged_65 : decode cX5_ifDragged 65 = .ok (.getfield 38, 3) := by decide +kernel
theorem dX5_ifDragged_68 : decode cX5_ifDragged 68 = .ok (.aload_n 0, 1) := by decide +kernel
theorem dX5_ifDragged_69 : decode cX5_ifDragged 69 = .ok (.getfield 38, 3) := by decide +kernel
theorem dX5_ifDragged_72 : decode cX5_ifDragged 72 = .ok (.getfield 200, 3) := by decide +kernel
theorem dX5_ifDragged_75 : decode cX5_ifDragged 75 = .ok (.iconst 0, 1) := by decide +kernel
theorem dX5_ifDragged_76 : decode cX5_ifDragged 76 = .ok (.iaload, 1) := by decide +kernel
theorem dX5_ifDragged_77 : decode cX5_ifDragged 77 = .ok (.invokevirtual 248, 3) := by decide +kernel
theorem dX5_ifDragged_80 : decode cX5_ifDragged 80 = .ok (.pop, 1) := by decide +kernel
theorem dX5_ifDragged_81 : decode cX5_ifDragged 81 = .ok (.iload 4, 2) := by decide +kernel
theorem dX5_ifDragged_83 : decode cX5_ifDragged 83 = .ok (.ifCond .ne 11, 3) := by decide +kernel
theorem dX5_ifDragged_86 : decode cX5_ifDragged 86 = .ok (.aload_n 0, 1) := by decide +kernel
theorem dX5_ifDragged_87 : decode cX5_ifDragged 87 = .ok (.getfield 48, 3) := by decide +kernel
theorem dX5_ifDragged_90 : decode cX5_ifDragged 90 = .ok (.getfield 252, 3) := by decide +kernel
theorem dX5_ifDragged_93 : decode cX5_ifDragged 93 = .ok (.ireturn, 1) := by decide +kernel
theorem dX5_ifDragged_94 : decode cX5_ifDragged 94 = .ok (.iload 4, 2) := by decide +kernel
theorem dX5_ifDragged_96 : decode cX5_ifDragged 96 = .ok (.iconst 1, 1) := by decide +kernel
theorem dX5_ifDragged_97 : decode cX5_ifDragged 97 = .ok (.if_icmp .ne 20, 3) := by decide +kernel
theorem dX5_ifDragged_100 : decode cX5_ifDragged 100 = .ok (.aload_n 0, 1) := by decide +kernel
theorem dX5_ifDragged_101 : decode cX5_ifDragged 101 = .ok (.getfield 48, 3) := by decide +kernel
theorem dX5_ifDragged_104 : decode cX5_ifDragged 104 = .ok (.aload_n 0, 1) := by decide +kernel
theorem dX5_ifDragged_105 : decode cX5_ifDragged 105 = .ok (.getfield 48, 3) := by decide +kernel
theorem dX5_ifDragged_108 : decode cX5_ifDragged 108 = .ok (.getfield 160, 3) := by decide +kernel
theorem dX5_ifDragged_111 : decode cX5_ifDragged 111 = .ok (.iload_n 1, 1) := by decide +kernel
theorem dX5_ifDragged_112 : decode cX5_ifDragged 112 = .ok (.iaload, 1) := by decide +kernel
theorem dX5_ifDragged_113 : decode cX5_ifDragged 113 = .ok (.invokevirtual 215, 3) := by decide +kernel
theorem dX5_ifDragged_116 : decode cX5_ifDragged 116 = .ok (.ireturn, 1) := by decide +kernel
theorem dX5_ifDragged_117 : decode cX5_ifDragged 117 = .ok (.aload_n 0, 1) := by decide +kernel
theorem dX5_ifDragged_118 : decode cX5_ifDragged 118 = .ok (.iload_n 1, 1) := by decide +kernel
theorem dX5_ifDragged_119 : decode cX5_ifDragged 119 = .ok (.invokevirtual 255, 3) := by decide +kernel
theorem dX5_ifDragged_122 : decode cX5_ifDragged 122 = .ok (.ireturn, 1) := by decide +kernel
set_option maxRecDepth 20000 in
theorem ggX5_reachFor_X5_isWithin : GoodIn wsX5_reachFor wsX5_isWithin := goodIn_r _ [6] (by decide +kernel) (by decide +kernel)
set_option maxRecDepth 20000 in
theorem gX5_reachFor_X5_isWithin : GoodIn wsX5_reachFor (va_wsS RX5 124 yX5_isWithin wsX5_isWithin) := goodIn_app (goodIn_of _ (by decide +kernel)) ggX5_reachFor_X5_isWithin
set_option maxRecDepth 20000 in
theorem ggX5_reachFor_X2_find : GoodIn wsX5_reachFor wsX2_find := goodIn_r _ [11, 12, 13, 14, 15, 16, 17, 18, 19, 20, 21, 22, 23, 24, 25, 26, 27, 28, 29, 10, 30, 31, 32, 33, 34, 35, 36, 37, 38, 39, 40, 41, 53, 54, 55, 56, 57, 58, 59, 60, 61, 62, 63, 64] (by decide +kernel) (by decide +kernel)
set_option maxRecDepth 20000 in
theorem gX5_reachFor_X2_find : GoodIn wsX5_reachFor (wsV RX5 248 RX2 yX2_find wsX2_find) := goodIn_app (goodIn_of _ (by decide +kernel)) ggX5_reachFor_X2_find
theorem dX5_reachFor_0 : decode cX5_reachFor 0 = .ok (.iload_n 1, 1) := by decide +kernel
theorem dX5_reachFor_1 : decode cX5_reachFor 1 = .ok (.iconst 1, 1) := by decide +kernel
theorem dX5_reachFor_2 : decode cX5_reachFor 2 = .ok (.bipush 20, 2) := by decide +kernel
theorem dX5_reachFor_4 : decode cX5_reachFor 4 = .ok (.invokestatic 124, 3) := by decide +kernel
theorem dX5_reachFor_7 : decode cX5_reachFor 7 = .ok (.ifCond .ne 6, 3) := by decide +kernel
theorem dX5_reachFor_10 : decode cX5_reachFor 10 = .ok (.bipush (-2), 2) := by decide +kernel
theorem dX5_reachFor_12 : decode cX5_reachFor 12 = .ok (.ireturn, 1) := by decide +kernel
theorem dX5_reachFor_13 : decode cX5_reachFor 13 = .ok (.iconst (-1), 1) := by decide +kernel
theorem dX5_reachFor_14 : decode cX5_reachFor 14 = .ok (.istore_n 2, 1) := by decide +kernel
theorem dX5_reachFor_15 : decode cX5_reachFor 15 = .ok (.bipush 32, 2) := by decide +kernel
theorem dX5_reachFor_17 : decode cX5_reachFor 17 = .ok (.istore_n 3, 1) := by decide +kernel
theorem dX5_reachFor_18 : decode cX5_reachFor 18 = .ok (.iload_n 3, 1) := by decide +kernel
theorem dX5_reachFor_19 : decode cX5_reachFor 19 = .ok (.ifCond .le 32, 3) := by decide +kernel
theorem dX5_reachFor_22 : decode cX5_reachFor 22 = .ok (.aload_n 0, 1) := by decide +kernel
theorem dX5_reachFor_23 : decode cX5_reachFor 23 = .ok (.getfield 48, 3) := by decide +kernel
theorem dX5_reachFor_26 : decode cX5_reachFor 26 = .ok (.aload_n 0, 1) := by decide +kernel
theorem dX5_reachFor_27 : decode cX5_reachFor 27 = .ok (.getfield 10, 3) := by decide +kernel
theorem dX5_reachFor_30 : decode cX5_reachFor 30 = .ok (.iload_n 2, 1) := by decide +kernel
theorem dX5_reachFor_31 : decode cX5_reachFor 31 = .ok (.iload_n 3, 1) := by decide +kernel
theorem dX5_reachFor_32 : decode cX5_reachFor 32 = .ok (.iadd, 1) := by decide +kernel
theorem dX5_reachFor_33 : decode cX5_reachFor 33 = .ok (.invokevirtual 248, 3) := by decide +kernel
theorem dX5_reachFor_36 : decode cX5_reachFor 36 = .ok (.iload_n 1, 1) := by decide +kernel
theorem dX5_reachFor_37 : decode cX5_reachFor 37 = .ok (.if_icmp .le 7, 3) := by decide +kernel
theorem dX5_reachFor_40 : decode cX5_reachFor 40 = .ok (.iload_n 2, 1) := by decide +kernel
theorem dX5_reachFor_41 : decode cX5_reachFor 41 = .ok (.iload_n 3, 1) := by decide +kernel
theorem dX5_reachFor_42 : decode cX5_reachFor 42 = .ok (.iadd, 1) := by decide +kernel
theorem dX5_reachFor_43 : decode cX5_reachFor 43 = .ok (.istore_n 2, 1) := by decide +kernel
theorem dX5_reachFor_44 : decode cX5_reachFor 44 = .ok (.iload_n 3, 1) := by decide +kernel
theorem dX5_reachFor_45 : decode cX5_reachFor 45 = .ok (.iconst 2, 1) := by decide +kernel
theorem dX5_reachFor_46 : decode cX5_reachFor 46 = .ok (.idiv, 1) := by decide +kernel
theorem dX5_reachFor_47 : decode cX5_reachFor 47 = .ok (.istore_n 3, 1) := by decide +kernel
theorem dX5_reachFor_48 : decode cX5_reachFor 48 = .ok (.goto (-30), 3) := by decide +kernel
theorem dX5_reachFor_51 : decode cX5_reachFor 51 = .ok (.iload_n 2, 1) := by decide +kernel
theorem dX5_reachFor_52 : decode cX5_reachFor 52 = .ok (.iconst 1, 1) := by decide +kernel
theorem dX5_reachFor_53 : decode cX5_reachFor 53 = .ok (.iadd, 1) := by decide +kernel
theorem dX5_reachFor_54 : decode cX5_reachFor 54 = .ok (.ireturn, 1) := by decide +kernel
set_option maxRecDepth 20000 in
theorem ggX5_nearest_X0_hasNote : GoodIn wsX5_nearest wsX0_hasNote := goodIn_r _ [8, 9, 31, 32, 33, 34, 35, 36, 37, 38] (by decide +kernel) (by decide +kernel)
set_option maxRecDepth 20000 in
theorem gX5_nearest_X0_hasNote : GoodIn wsX5_nearest (wsV RX5 94 RX0 yX0_hasNote wsX0_hasNote) := goodIn_app (goodIn_of _ (by decide +kernel)) ggX5_nearest_X0_hasNote
set_option maxRecDepth 20000 in
theorem ggX5_nearest_X0_distance : GoodIn wsX5_nearest wsX0_distance := goodIn_r _ [13, 14, 15, 16, 17, 18, 19, 31, 32, 33, 34, 35, 36, 37, 38] (by decide +kernel) (by decide +kernel)
set_option maxRecDepth 20000 in
theorem gX5_nearest_X0_distance : GoodIn wsX5_nearest (wsV RX5 258 RX0 yX0_distance wsX0_distance) := goodIn_app (goodIn_of _ (by decide +kernel)) ggX5_nearest_X0_distance
theorem dX5_nearest_0 : decode cX5_nearest 0 = .ok (.aload_n 0, 1) := by decide +kernel
theorem dX5_nearest_1 : decode cX5_nearest 1 = .ok (.getfield 10, 3) := by decide +kernel
theorem dX5_nearest_4 : decode cX5_nearest 4 = .ok (.iload_n 1, 1) := by decide +kernel
theorem dX5_nearest_5 : decode cX5_nearest 5 = .ok (.invokevirtual 94, 3) := by decide +kernel
theorem dX5_nearest_8 : decode cX5_nearest 8 = .ok (.ifCond .ne 5, 3) := by decide +kernel
theorem dX5_nearest_11 : decode cX5_nearest 11 = .ok (.iconst (-1), 1) := by decide +kernel
theorem dX5_nearest_12 : decode cX5_nearest 12 = .ok (.ireturn, 1) := by decide +kernel
theorem dX5_nearest_13 : decode cX5_nearest 13 = .ok (.bipush (-5), 2) := by decide +kernel
theorem dX5_nearest_15 : decode cX5_nearest 15 = .ok (.istore_n 2, 1) := by decide +kernel
theorem dX5_nearest_16 : decode cX5_nearest 16 = .ok (.bipush 50, 2) := by decide +kernel
theorem dX5_nearest_18 : decode cX5_nearest 18 = .ok (.istore_n 3, 1) := by decide +kernel
theorem dX5_nearest_19 : decode cX5_nearest 19 = .ok (.iconst 0, 1) := by decide +kernel
theorem dX5_nearest_20 : decode cX5_nearest 20 = .ok (.istore 4, 2) := by decide +kernel
theorem dX5_nearest_22 : decode cX5_nearest 22 = .ok (.iload 4, 2) := by decide +kernel
theorem dX5_nearest_24 : decode cX5_nearest 24 = .ok (.aload_n 0, 1) := by decide +kernel
theorem dX5_nearest_25 : decode cX5_nearest 25 = .ok (.getfield 10, 3) := by decide +kernel
theorem dX5_nearest_28 : decode cX5_nearest 28 = .ok (.getfield 71, 3) := by decide +kernel
theorem dX5_nearest_31 : decode cX5_nearest 31 = .ok (.if_icmp .ge 73, 3) := by decide +kernel
theorem dX5_nearest_34 : decode cX5_nearest 34 = .ok (.aload_n 0, 1) := by decide +kernel
theorem dX5_nearest_35 : decode cX5_nearest 35 = .ok (.getfield 10, 3) := by decide +kernel
theorem dX5_nearest_38 : decode cX5_nearest 38 = .ok (.getfield 163, 3) := by decide +kernel
theorem dX5_nearest_41 : decode cX5_nearest 41 = .ok (.iload 4, 2) := by decide +kernel
theorem dX5_nearest_43 : decode cX5_nearest 43 = .ok (.iaload, 1) := by decide +kernel
theorem dX5_nearest_44 : decode cX5_nearest 44 = .ok (.istore 5, 2) := by decide +kernel
theorem dX5_nearest_46 : decode cX5_nearest 46 = .ok (.iload 4, 2) := by decide +kernel
theorem dX5_nearest_48 : decode cX5_nearest 48 = .ok (.iload_n 1, 1) := by decide +kernel
theorem dX5_nearest_49 : decode cX5_nearest 49 = .ok (.if_icmp .eq 49, 3) := by decide +kernel
theorem dX5_nearest_52 : decode cX5_nearest 52 = .ok (.iload 5, 2) := by decide +kernel
theorem dX5_nearest_54 : decode cX5_nearest 54 = .ok (.bipush (-5), 2) := by decide +kernel
theorem dX5_nearest_56 : decode cX5_nearest 56 = .ok (.if_icmp .ne 6, 3) := by decide +kernel
theorem dX5_nearest_59 : decode cX5_nearest 59 = .ok (.goto 39, 3) := by decide +kernel
theorem dX5_nearest_62 : decode cX5_nearest 62 = .ok (.aload_n 0, 1) := by decide +kernel
theorem dX5_nearest_63 : decode cX5_nearest 63 = .ok (.getfield 10, 3) := by decide +kernel
theorem dX5_nearest_66 : decode cX5_nearest 66 = .ok (.iload_n 1, 1) := by decide +kernel
theorem dX5_nearest_67 : decode cX5_nearest 67 = .ok (.iload 4, 2) := by decide +kernel
theorem dX5_nearest_69 : decode cX5_nearest 69 = .ok (.invokevirtual 258, 3) := by decide +kernel
theorem dX5_nearest_72 : decode cX5_nearest 72 = .ok (.istore 6, 2) := by decide +kernel
theorem dX5_nearest_74 : decode cX5_nearest 74 = .ok (.iload 6, 2) := by decide +kernel
theorem dX5_nearest_76 : decode cX5_nearest 76 = .ok (.iload_n 3, 1) := by decide +kernel
theorem dX5_nearest_77 : decode cX5_nearest 77 = .ok (.if_icmp .lt 15, 3) := by decide +kernel
theorem dX5_nearest_80 : decode cX5_nearest 80 = .ok (.iload 6, 2) := by decide +kernel
theorem dX5_nearest_82 : decode cX5_nearest 82 = .ok (.iload_n 3, 1) := by decide +kernel
theorem dX5_nearest_83 : decode cX5_nearest 83 = .ok (.if_icmp .ne 15, 3) := by decide +kernel
theorem dX5_nearest_86 : decode cX5_nearest 86 = .ok (.iload 5, 2) := by decide +kernel
theorem dX5_nearest_88 : decode cX5_nearest 88 = .ok (.iload_n 2, 1) := by decide +kernel
theorem dX5_nearest_89 : decode cX5_nearest 89 = .ok (.if_icmp .ge 9, 3) := by decide +kernel
theorem dX5_nearest_92 : decode cX5_nearest 92 = .ok (.iload 5, 2) := by decide +kernel
theorem dX5_nearest_94 : decode cX5_nearest 94 = .ok (.istore_n 2, 1) := by decide +kernel
theorem dX5_nearest_95 : decode cX5_nearest 95 = .ok (.iload 6, 2) := by decide +kernel
theorem dX5_nearest_97 : decode cX5_nearest 97 = .ok (.istore_n 3, 1) := by decide +kernel
theorem dX5_nearest_98 : decode cX5_nearest 98 = .ok (.iinc 4 1, 3) := by decide +kernel
theorem dX5_nearest_101 : decode cX5_nearest 101 = .ok (.goto (-79), 3) := by decide +kernel
theorem dX5_nearest_104 : decode cX5_nearest 104 = .ok (.iload_n 2, 1) := by decide +kernel
theorem dX5_nearest_105 : decode cX5_nearest 105 = .ok (.ireturn, 1) := by decide +kernel
set_option maxRecDepth 20000 in
theorem ggX5_count_X5_findHeaps : GoodIn wsX5_count wsX5_findHeaps := goodIn_r _ [13, 14, 1, 5, 15, 16, 17, 18, 19, 20, 21, 22, 23, 24, 25, 26, 27, 28, 29, 30, 31, 32, 33, 34, 35, 36, 37, 38, 39, 40, 41, 42, 43, 44, 45, 46, 47, 48, 49, 111, 112, 113, 114, 115, 116, 117, 118, 119, 120, 121, 122, 123, 124, 125, 126, 127, 128, 129, 132, 133, 134, 135] (by decide +kernel) (by decide +kernel)
set_option maxRecDepth 20000 in
theorem gX5_count_X5_findHeaps : GoodIn wsX5_count (wsV RX5 117 RX5 yX5_findHeaps wsX5_findHeaps) := goodIn_app (goodIn_of _ (by decide +kernel)) ggX5_count_X5_findHeaps
set_option maxRecDepth 20000 in
theorem ggX5_count_X0_allDotsStuck : GoodIn wsX5_count wsX0_allDotsStuck := goodIn_r _ [53, 54, 55, 56, 57, 27, 58, 59, 60, 61, 62, 63, 122, 123, 124, 125, 126, 127, 128, 129] (by decide +kernel) (by decide +kernel)
set_option maxRecDepth 20000 in
theorem gX5_count_X0_allDotsStuck : GoodIn wsX5_count (wsV RX5 261 RX0 yX0_allDotsStuck wsX0_allDotsStuck) := goodIn_app (goodIn_of _ (by decide +kernel)) ggX5_count_X0_allDotsStuck
set_option maxRecDepth 20000 in
theorem ggX5_count_X0_allDotsLeft : GoodIn wsX5_count wsX0_allDotsLeft := goodIn_r _ [67, 68, 69, 70, 27, 71, 72, 54, 73, 43, 32, 44, 59, 60, 61, 62, 63, 122, 123, 124, 125, 126, 127, 128, 129] (by decide +kernel) (by decide +kernel)
set_option maxRecDepth 20000 in
theorem gX5_count_X0_allDotsLeft : GoodIn wsX5_count (wsV RX5 264 RX0 yX0_allDotsLeft wsX0_allDotsLeft) := goodIn_app (goodIn_of _ (by decide +kernel)) ggX5_count_X0_allDotsLeft
set_option maxRecDepth 20000 in
theorem ggX5_count_X0_notesOfTheme : GoodIn wsX5_count wsX0_notesOfTheme := goodIn_r _ [77, 54, 78, 122, 123, 124, 125, 126, 127, 128, 129] (by decide +kernel) (by decide +kernel)
set_option maxRecDepth 20000 in
theorem gX5_count_X0_notesOfTheme : GoodIn wsX5_count (wsV RX5 172 RX0 yX0_notesOfTheme wsX0_notesOfTheme) := goodIn_app (goodIn_of _ (by decide +kernel)) ggX5_count_X0_notesOfTheme
set_option maxRecDepth 20000 in
theorem ggX5_count_X4_choose : GoodIn wsX5_count wsX4_choose := goodIn_r _ [83, 84, 85, 86, 87, 88, 82, 89, 90, 91, 92, 27, 93, 94, 95, 96, 97, 98, 99, 100, 101, 102, 122, 123, 124, 125, 126, 127, 128, 129, 136] (by decide +kernel) (by decide +kernel)
set_option maxRecDepth 20000 in
theorem gX5_count_X4_choose : GoodIn wsX5_count (wsV RX5 187 RX4 yX4_choose wsX4_choose) := goodIn_app (goodIn_of _ (by decide +kernel)) ggX5_count_X4_choose
set_option maxRecDepth 20000 in
theorem ggX5_count_X5_notesAlone : GoodIn wsX5_count wsX5_notesAlone := goodIn_r _ [106, 14, 9, 10, 11, 12, 13, 1, 5, 15, 16, 17, 18, 19, 20, 21, 22, 23, 24, 25, 26, 27, 28, 29, 30, 31, 32, 33, 34, 35, 36, 37, 38, 39, 40, 41, 42, 43, 44, 45, 46, 47, 48, 49, 107, 108, 109, 110, 111, 112, 113, 114, 115, 116, 117, 118, 119, 120, 121, 122, 123, 124, 125, 126, 127, 128, 129, 132, 133, 134, 135] (by decide +kernel) (by decide +kernel)
set_option maxRecDepth 20000 in
theorem gX5_count_X5_notesAlone : GoodIn wsX5_count (wsV RX5 267 RX5 yX5_notesAlone wsX5_notesAlone) := goodIn_app (goodIn_of _ (by decide +kernel)) ggX5_count_X5_notesAlone
theorem dX5_count_0 : decode cX5_count 0 = .ok (.iload_n 1, 1) := by decide +kernel
theorem dX5_count_1 : decode cX5_count 1 = .ok (.tableswitch 157 0 12 #[67, 75, 80, 88, 96, 104, 114, 126, 131, 131, 131, 144, 152], 67) := by decide +kernel
theorem dX5_count_68 : decode cX5_count 68 = .ok (.aload_n 0, 1) := by decide +kernel
theorem dX5_count_69 : decode cX5_count 69 = .ok (.getfield 10, 3) := by decide +kernel
theorem dX5_count_72 : decode cX5_count 72 = .ok (.getfield 71, 3) := by decide +kernel
theorem dX5_count_75 : decode cX5_count 75 = .ok (.ireturn, 1) := by decide +kernel
theorem dX5_count_76 : decode cX5_count 76 = .ok (.aload_n 0, 1) := by decide +kernel
theorem dX5_count_77 : decode cX5_count 77 = .ok (.invokevirtual 117, 3) := by decide +kernel
theorem dX5_count_80 : decode cX5_count 80 = .ok (.ireturn, 1) := by decide +kernel
theorem dX5_count_81 : decode cX5_count 81 = .ok (.aload_n 0, 1) := by decide +kernel
theorem dX5_count_82 : decode cX5_count 82 = .ok (.getfield 10, 3) := by decide +kernel
theorem dX5_count_85 : decode cX5_count 85 = .ok (.getfield 154, 3) := by decide +kernel
theorem dX5_count_88 : decode cX5_count 88 = .ok (.ireturn, 1) := by decide +kernel
theorem dX5_count_89 : decode cX5_count 89 = .ok (.aload_n 0, 1) := by decide +kernel
theorem dX5_count_90 : decode cX5_count 90 = .ok (.getfield 10, 3) := by decide +kernel
theorem dX5_count_93 : decode cX5_count 93 = .ok (.invokevirtual 261, 3) := by decide +kernel
theorem dX5_count_96 : decode cX5_count 96 = .ok (.ireturn, 1) := by decide +kernel
theorem dX5_count_97 : decode cX5_count 97 = .ok (.aload_n 0, 1) := by decide +kernel
theorem dX5_count_98 : decode cX5_count 98 = .ok (.getfield 10, 3) := by decide +kernel
theorem dX5_count_101 : decode cX5_count 101 = .ok (.invokevirtual 264, 3) := by decide +kernel
theorem dX5_count_104 : decode cX5_count 104 = .ok (.ireturn, 1) := by decide +kernel
theorem dX5_count_105 : decode cX5_count 105 = .ok (.aload_n 0, 1) := by decide +kernel
theorem dX5_count_106 : decode cX5_count 106 = .ok (.getfield 10, 3) := by decide +kernel
theorem dX5_count_109 : decode cX5_count 109 = .ok (.bipush (-5), 2) := by decide +kernel
theorem dX5_count_111 : decode cX5_count 111 = .ok (.invokevirtual 172, 3) := by decide +kernel
theorem dX5_count_114 : decode cX5_count 114 = .ok (.ireturn, 1) := by decide +kernel
theorem dX5_count_115 : decode cX5_count 115 = .ok (.aload_n 0, 1) := by decide +kernel
theorem dX5_count_116 : decode cX5_count 116 = .ok (.getfield 54, 3) := by decide +kernel
theorem dX5_count_119 : decode cX5_count 119 = .ok (.aload_n 0, 1) := by decide +kernel
theorem dX5_count_120 : decode cX5_count 120 = .ok (.getfield 10, 3) := by decide +kernel
theorem dX5_count_123 : decode cX5_count 123 = .ok (.invokevirtual 187, 3) := by decide +kernel
theorem dX5_count_126 : decode cX5_count 126 = .ok (.ireturn, 1) := by decide +kernel
theorem dX5_count_127 : decode cX5_count 127 = .ok (.aload_n 0, 1) := by decide +kernel
theorem dX5_count_128 : decode cX5_count 128 = .ok (.invokevirtual 267, 3) := by decide +kernel
theorem dX5_count_131 : decode cX5_count 131 = .ok (.ireturn, 1) := by decide +kernel
theorem dX5_count_132 : decode cX5_count 132 = .ok (.aload_n 0, 1) := by decide +kernel
theorem dX5_count_133 : decode cX5_count 133 = .ok (.getfield 10, 3) := by decide +kernel
theorem dX5_count_136 : decode cX5_count 136 = .ok (.getfield 200, 3) := by decide +kernel
theorem dX5_count_139 : decode cX5_count 139 = .ok (.iload_n 1, 1) := by decide +kernel
theorem dX5_count_140 : decode cX5_count 140 = .ok (.bipush 8, 2) := by decide +kernel
theorem dX5_count_142 : decode cX5_count 142 = .ok (.isub, 1) := by decide +kernel
theorem dX5_count_143 : decode cX5_count 143 = .ok (.iaload, 1) := by decide +kernel
theorem dX5_count_144 : decode cX5_count 144 = .ok (.ireturn, 1) := by decide +kernel
theorem dX5_count_145 : decode cX5_count 145 = .ok (.aload_n 0, 1) := by decide +kernel
theorem dX5_count_146 : decode cX5_count 146 = .ok (.getfield 19, 3) := by decide +kernel
theorem dX5_count_149 : decode cX5_count 149 = .ok (.getfield 203, 3) := by decide +kernel
theorem dX5_count_152 : decode cX5_count 152 = .ok (.ireturn, 1) := by decide +kernel
theorem dX5_count_153 : decode cX5_count 153 = .ok (.aload_n 0, 1) := by decide +kernel
theorem dX5_count_154 : decode cX5_count 154 = .ok (.getfield 34, 3) := by decide +kernel
theorem dX5_count_157 : decode cX5_count 157 = .ok (.ireturn, 1) := by decide +kernel
theorem dX5_count_158 : decode cX5_count 158 = .ok (.bipush (-2), 2) := by decide +kernel
theorem dX5_count_160 : decode cX5_count 160 = .ok (.ireturn, 1) := by decide +kernel
theorem dX5_isWithin_0 : decode cX5_isWithin 0 = .ok (.iload_n 0, 1) := by decide +kernel
theorem dX5_isWithin_1 : decode cX5_isWithin 1 = .ok (.iload_n 1, 1) := by decide +kernel
theorem dX5_isWithin_2 : decode cX5_isWithin 2 = .ok (.if_icmp .lt 12, 3) := by decide +kernel
theorem dX5_isWithin_5 : decode cX5_isWithin 5 = .ok (.iload_n 0, 1) := by decide +kernel
theorem dX5_isWithin_6 : decode cX5_isWithin 6 = .ok (.iload_n 2, 1) := by decide +kernel
theorem dX5_isWithin_7 : decode cX5_isWithin 7 = .ok (.if_icmp .gt 7, 3) := by decide +kernel
theorem dX5_isWithin_10 : decode cX5_isWithin 10 = .ok (.iconst 1, 1) := by decide +kernel
theorem dX5_isWithin_11 : decode cX5_isWithin 11 = .ok (.goto 4, 3) := by decide +kernel
theorem dX5_isWithin_14 : decode cX5_isWithin 14 = .ok (.iconst 0, 1) := by decide +kernel
theorem dX5_isWithin_15 : decode cX5_isWithin 15 = .ok (.ireturn, 1) := by decide +kernel
set_option maxRecDepth 20000 in
theorem ggX5_isPlace_X5_isWithin : GoodIn wsX5_isPlace wsX5_isWithin := goodIn_r _ [4] (by decide +kernel) (by decide +kernel)
set_option maxRecDepth 20000 in
theorem gX5_isPlace_X5_isWithin : GoodIn wsX5_isPlace (va_wsS RX5 124 yX5_isWithin wsX5_isWithin) := goodIn_app (goodIn_of _ (by decide +kernel)) ggX5_isPlace_X5_isWithin
theorem dX5_isPlace_0 : decode cX5_isPlace 0 = .ok (.iload_n 0, 1) := by decide +kernel
theorem dX5_isPlace_1 : decode cX5_isPlace 1 = .ok (.iconst 0, 1) := by decide +kernel
theorem dX5_isPlace_2 : decode cX5_isPlace 2 = .ok (.bipush 29, 2) := by decide +kernel
theorem dX5_isPlace_4 : decode cX5_isPlace 4 = .ok (.invokestatic 124, 3) := by decide +kernel
theorem dX5_isPlace_7 : decode cX5_isPlace 7 = .ok (.ifCond .eq 17, 3) := by decide +kernel
theorem dX5_isPlace_10 : decode cX5_isPlace 10 = .ok (.iload_n 1, 1) := by decide +kernel
theorem dX5_isPlace_11 : decode cX5_isPlace 11 = .ok (.iconst 0, 1) := by decide +kernel
theorem dX5_isPlace_12 : decode cX5_isPlace 12 = .ok (.bipush 19, 2) := by decide +kernel
theorem dX5_isPlace_14 : decode cX5_isPlace 14 = .ok (.invokestatic 124, 3) := by decide +kernel
theorem dX5_isPlace_17 : decode cX5_isPlace 17 = .ok (.ifCond .eq 7, 3) := by decide +kernel
theorem dX5_isPlace_20 : decode cX5_isPlace 20 = .ok (.iconst 1, 1) := by decide +kernel
theorem dX5_isPlace_21 : decode cX5_isPlace 21 = .ok (.goto 4, 3) := by decide +kernel
theorem dX5_isPlace_24 : decode cX5_isPlace 24 = .ok (.iconst 0, 1) := by decide +kernel
theorem dX5_isPlace_25 : decode cX5_isPlace 25 = .ok (.ireturn, 1) := by decide +kernel
set_option maxRecDepth 20000 in
theorem ggX5_isPerson_X5_isWithin : GoodIn wsX5_isPerson wsX5_isWithin := goodIn_r _ [4] (by decide +kernel) (by decide +kernel)
set_option maxRecDepth 20000 in
theorem gX5_isPerson_X5_isWithin : GoodIn wsX5_isPerson (va_wsS RX5 124 yX5_isWithin wsX5_isWithin) := goodIn_app (goodIn_of _ (by decide +kernel)) ggX5_isPerson_X5_isWithin
theorem dX5_isPerson_0 : decode cX5_isPerson 0 = .ok (.iload_n 0, 1) := by decide +kernel
theorem dX5_isPerson_1 : decode cX5_isPerson 1 = .ok (.iconst 0, 1) := by decide +kernel
theorem dX5_isPerson_2 : decode cX5_isPerson 2 = .ok (.iconst 5, 1) := by decide +kernel
theorem dX5_isPerson_3 : decode cX5_isPerson 3 = .ok (.invokestatic 124, 3) := by decide +kernel
theorem dX5_isPerson_6 : decode cX5_isPerson 6 = .ok (.ireturn, 1) := by decide +kernel
set_option maxRecDepth 20000 in
theorem ggX5_isName_X5_isWithin : GoodIn wsX5_isName wsX5_isWithin := goodIn_r _ [4] (by decide +kernel) (by decide +kernel)
set_option maxRecDepth 20000 in
theorem gX5_isName_X5_isWithin : GoodIn wsX5_isName (va_wsS RX5 124 yX5_isWithin wsX5_isWithin) := goodIn_app (goodIn_of _ (by decide +kernel)) ggX5_isName_X5_isWithin
theorem dX5_isName_0 : decode cX5_isName 0 = .ok (.iload_n 0, 1) := by decide +kernel
theorem dX5_isName_1 : decode cX5_isName 1 = .ok (.iconst 0, 1) := by decide +kernel
theorem dX5_isName_2 : decode cX5_isName 2 = .ok (.bipush 9, 2) := by decide +kernel
theorem dX5_isName_4 : decode cX5_isName 4 = .ok (.invokestatic 124, 3) := by decide +kernel
theorem dX5_isName_7 : decode cX5_isName 7 = .ok (.ireturn, 1) := by decide +kernel
set_option maxRecDepth 20000 in
theorem ggX5_findHeaps_X2_find : GoodIn wsX5_findHeaps wsX2_find := goodIn_r _ [8, 9, 10, 11, 12, 13, 14, 15, 16, 17, 18, 19, 20, 21, 22, 23, 24, 25, 26, 7, 27, 28, 29, 30, 31, 32, 33, 34, 35, 36, 37, 38, 50, 51, 52, 53, 54, 55, 56, 57, 58, 59, 60, 61] (by decide +kernel) (by decide +kernel)
set_option maxRecDepth 20000 in
theorem gX5_findHeaps_X2_find : GoodIn wsX5_findHeaps (wsV RX5 248 RX2 yX2_find wsX2_find) := goodIn_app (goodIn_of _ (by decide +kernel)) ggX5_findHeaps_X2_find
theorem dX5_findHeaps_0 : decode cX5_findHeaps 0 = .ok (.aload_n 0, 1) := by decide +kernel
theorem dX5_findHeaps_1 : decode cX5_findHeaps 1 = .ok (.getfield 44, 3) := by decide +kernel
theorem dX5_findHeaps_4 : decode cX5_findHeaps 4 = .ok (.aload_n 0, 1) := by decide +kernel
theorem dX5_findHeaps_5 : decode cX5_findHeaps 5 = .ok (.getfield 10, 3) := by decide +kernel
theorem dX5_findHeaps_8 : decode cX5_findHeaps 8 = .ok (.aload_n 0, 1) := by decide +kernel
theorem dX5_findHeaps_9 : decode cX5_findHeaps 9 = .ok (.getfield 10, 3) := by decide +kernel
theorem dX5_findHeaps_12 : decode cX5_findHeaps 12 = .ok (.getfield 200, 3) := by decide +kernel
theorem dX5_findHeaps_15 : decode cX5_findHeaps 15 = .ok (.iconst 0, 1) := by decide +kernel
theorem dX5_findHeaps_16 : decode cX5_findHeaps 16 = .ok (.iaload, 1) := by decide +kernel
theorem dX5_findHeaps_17 : decode cX5_findHeaps 17 = .ok (.invokevirtual 248, 3) := by decide +kernel
theorem dX5_findHeaps_20 : decode cX5_findHeaps 20 = .ok (.ireturn, 1) := by decide +kernel
set_option maxRecDepth 20000 in
theorem ggX5_staysOnBoard_X5_isPlace : GoodIn wsX5_staysOnBoard wsX5_isPlace := goodIn_r _ [10, 11, 12, 9, 13] (by decide +kernel) (by decide +kernel)
set_option maxRecDepth 20000 in
theorem gX5_staysOnBoard_X5_isPlace : GoodIn wsX5_staysOnBoard (va_wsS RX5 67 yX5_isPlace wsX5_isPlace) := goodIn_app (goodIn_of _ (by decide +kernel)) ggX5_staysOnBoard_X5_isPlace
theorem dX5_staysOnBoard_0 : decode cX5_staysOnBoard 0 = .ok (.iconst 0, 1) := by decide +kernel
theorem dX5_staysOnBoard_1 : decode cX5_staysOnBoard 1 = .ok (.istore 4, 2) := by decide +kernel
theorem dX5_staysOnBoard_3 : decode cX5_staysOnBoard 3 = .ok (.iload 4, 2) := by decide +kernel
theorem dX5_staysOnBoard_5 : decode cX5_staysOnBoard 5 = .ok (.aload_n 0, 1) := by decide +kernel
theorem dX5_staysOnBoard_6 : decode cX5_staysOnBoard 6 = .ok (.getfield 10, 3) := by decide +kernel
theorem dX5_staysOnBoard_9 : decode cX5_staysOnBoard 9 = .ok (.getfield 71, 3) := by decide +kernel
theorem dX5_staysOnBoard_12 : decode cX5_staysOnBoard 12 = .ok (.if_icmp .ge 55, 3) := by decide +kernel
theorem dX5_staysOnBoard_15 : decode cX5_staysOnBoard 15 = .ok (.aload_n 0, 1) := by decide +kernel
theorem dX5_staysOnBoard_16 : decode cX5_staysOnBoard 16 = .ok (.getfield 44, 3) := by decide +kernel
theorem dX5_staysOnBoard_19 : decode cX5_staysOnBoard 19 = .ok (.getfield 160, 3) := by decide +kernel
theorem dX5_staysOnBoard_22 : decode cX5_staysOnBoard 22 = .ok (.iload 4, 2) := by decide +kernel
theorem dX5_staysOnBoard_24 : decode cX5_staysOnBoard 24 = .ok (.iaload, 1) := by decide +kernel
theorem dX5_staysOnBoard_25 : decode cX5_staysOnBoard 25 = .ok (.iload_n 1, 1) := by decide +kernel
theorem dX5_staysOnBoard_26 : decode cX5_staysOnBoard 26 = .ok (.if_icmp .ne 35, 3) := by decide +kernel
theorem dX5_staysOnBoard_29 : decode cX5_staysOnBoard 29 = .ok (.aload_n 0, 1) := by decide +kernel
theorem dX5_staysOnBoard_30 : decode cX5_staysOnBoard 30 = .ok (.getfield 10, 3) := by decide +kernel
theorem dX5_staysOnBoard_33 : decode cX5_staysOnBoard 33 = .ok (.getfield 106, 3) := by decide +kernel
theorem dX5_staysOnBoard_36 : decode cX5_staysOnBoard 36 = .ok (.iload 4, 2) := by decide +kernel
theorem dX5_staysOnBoard_38 : decode cX5_staysOnBoard 38 = .ok (.iaload, 1) := by decide +kernel
theorem dX5_staysOnBoard_39 : decode cX5_staysOnBoard 39 = .ok (.iload_n 2, 1) := by decide +kernel
theorem dX5_staysOnBoard_40 : decode cX5_staysOnBoard 40 = .ok (.iadd, 1) := by decide +kernel
theorem dX5_staysOnBoard_41 : decode cX5_staysOnBoard 41 = .ok (.aload_n 0, 1) := by decide +kernel
theorem dX5_staysOnBoard_42 : decode cX5_staysOnBoard 42 = .ok (.getfield 10, 3) := by decide +kernel
theorem dX5_staysOnBoard_45 : decode cX5_staysOnBoard 45 = .ok (.getfield 110, 3) := by decide +kernel
theorem dX5_staysOnBoard_48 : decode cX5_staysOnBoard 48 = .ok (.iload 4, 2) := by decide +kernel
theorem dX5_staysOnBoard_50 : decode cX5_staysOnBoard 50 = .ok (.iaload, 1) := by decide +kernel
theorem dX5_staysOnBoard_51 : decode cX5_staysOnBoard 51 = .ok (.iload_n 3, 1) := by decide +kernel
theorem dX5_staysOnBoard_52 : decode cX5_staysOnBoard 52 = .ok (.iadd, 1) := by decide +kernel
theorem dX5_staysOnBoard_53 : decode cX5_staysOnBoard 53 = .ok (.invokestatic 67, 3) := by decide +kernel
theorem dX5_staysOnBoard_56 : decode cX5_staysOnBoard 56 = .ok (.ifCond .ne 5, 3) := by decide +kernel
theorem dX5_staysOnBoard_59 : decode cX5_staysOnBoard 59 = .ok (.iconst 0, 1) := by decide +kernel
theorem dX5_staysOnBoard_60 : decode cX5_staysOnBoard 60 = .ok (.ireturn, 1) := by decide +kernel
theorem dX5_staysOnBoard_61 : decode cX5_staysOnBoard 61 = .ok (.iinc 4 1, 3) := by decide +kernel
theorem dX5_staysOnBoard_64 : decode cX5_staysOnBoard 64 = .ok (.goto (-61), 3) := by decide +kernel
theorem dX5_staysOnBoard_67 : decode cX5_staysOnBoard 67 = .ok (.iconst 1, 1) := by decide +kernel
theorem dX5_staysOnBoard_68 : decode cX5_staysOnBoard 68 = .ok (.ireturn, 1) := by decide +kernel
set_option maxRecDepth 20000 in
theorem ggX5_moveHeap_X0_moveNote : GoodIn wsX5_moveHeap wsX0_moveNote := goodIn_r _ [11, 12, 13, 25, 26, 27, 28, 29, 30, 31, 32] (by decide +kernel) (by decide +kernel)
set_option maxRecDepth 20000 in
theorem gX5_moveHeap_X0_moveNote : GoodIn wsX5_moveHeap (wsV RX5 113 RX0 yX0_moveNote wsX0_moveNote) := goodIn_app (goodIn_of _ (by decide +kernel)) ggX5_moveHeap_X0_moveNote
theorem dX5_moveHeap_0 : decode cX5_moveHeap 0 = .ok (.iconst 0, 1) := by decide +kernel
theorem dX5_moveHeap_1 : decode cX5_moveHeap 1 = .ok (.istore 4, 2) := by decide +kernel
theorem dX5_moveHeap_3 : decode cX5_moveHeap 3 = .ok (.iload 4, 2) := by decide +kernel
theorem dX5_moveHeap_5 : decode cX5_moveHeap 5 = .ok (.aload_n 0, 1) := by decide +kernel
theorem dX5_moveHeap_6 : decode cX5_moveHeap 6 = .ok (.getfield 10, 3) := by decide +kernel
theorem dX5_moveHeap_9 : decode cX5_moveHeap 9 = .ok (.getfield 71, 3) := by decide +kernel
theorem dX5_moveHeap_12 : decode cX5_moveHeap 12 = .ok (.if_icmp .ge 56, 3) := by decide +kernel
theorem dX5_moveHeap_15 : decode cX5_moveHeap 15 = .ok (.aload_n 0, 1) := by decide +kernel
theorem dX5_moveHeap_16 : decode cX5_moveHeap 16 = .ok (.getfield 44, 3) := by decide +kernel
theorem dX5_moveHeap_19 : decode cX5_moveHeap 19 = .ok (.getfield 160, 3) := by decide +kernel
theorem dX5_moveHeap_22 : decode cX5_moveHeap 22 = .ok (.iload 4, 2) := by decide +kernel
theorem dX5_moveHeap_24 : decode cX5_moveHeap 24 = .ok (.iaload, 1) := by decide +kernel
theorem dX5_moveHeap_25 : decode cX5_moveHeap 25 = .ok (.iload_n 1, 1) := by decide +kernel
theorem dX5_moveHeap_26 : decode cX5_moveHeap 26 = .ok (.if_icmp .ne 36, 3) := by decide +kernel
theorem dX5_moveHeap_29 : decode cX5_moveHeap 29 = .ok (.aload_n 0, 1) := by decide +kernel
theorem dX5_moveHeap_30 : decode cX5_moveHeap 30 = .ok (.getfield 10, 3) := by decide +kernel
theorem dX5_moveHeap_33 : decode cX5_moveHeap 33 = .ok (.iload 4, 2) := by decide +kernel
theorem dX5_moveHeap_35 : decode cX5_moveHeap 35 = .ok (.aload_n 0, 1) := by decide +kernel
theorem dX5_moveHeap_36 : decode cX5_moveHeap 36 = .ok (.getfield 10, 3) := by decide +kernel
theorem dX5_moveHeap_39 : decode cX5_moveHeap 39 = .ok (.getfield 106, 3) := by decide +kernel
theorem dX5_moveHeap_42 : decode cX5_moveHeap 42 = .ok (.iload 4, 2) := by decide +kernel
theorem dX5_moveHeap_44 : decode cX5_moveHeap 44 = .ok (.iaload, 1) := by decide +kernel
theorem dX5_moveHeap_45 : decode cX5_moveHeap 45 = .ok (.iload_n 2, 1) := by decide +kernel
theorem dX5_moveHeap_46 : decode cX5_moveHeap 46 = .ok (.iadd, 1) := by decide +kernel
theorem dX5_moveHeap_47 : decode cX5_moveHeap 47 = .ok (.aload_n 0, 1) := by decide +kernel
theorem dX5_moveHeap_48 : decode cX5_moveHeap 48 = .ok (.getfield 10, 3) := by decide +kernel
theorem dX5_moveHeap_51 : decode cX5_moveHeap 51 = .ok (.getfield 110, 3) := by decide +kernel
theorem dX5_moveHeap_54 : decode cX5_moveHeap 54 = .ok (.iload 4, 2) := by decide +kernel
theorem dX5_moveHeap_56 : decode cX5_moveHeap 56 = .ok (.iaload, 1) := by decide +kernel
theorem dX5_moveHeap_57 : decode cX5_moveHeap 57 = .ok (.iload_n 3, 1) := by decide +kernel
theorem dX5_moveHeap_58 : decode cX5_moveHeap 58 = .ok (.iadd, 1) := by decide +kernel
theorem dX5_moveHeap_59 : decode cX5_moveHeap 59 = .ok (.invokevirtual 113, 3) := by decide +kernel
theorem dX5_moveHeap_62 : decode cX5_moveHeap 62 = .ok (.iinc 4 1, 3) := by decide +kernel
theorem dX5_moveHeap_65 : decode cX5_moveHeap 65 = .ok (.goto (-62), 3) := by decide +kernel
theorem dX5_moveHeap_68 : decode cX5_moveHeap 68 = .ok (.return_, 1) := by decide +kernel
set_option maxRecDepth 20000 in
theorem ggX5_holdsItsHeap_X5_findHeaps : GoodIn wsX5_holdsItsHeap wsX5_findHeaps := goodIn_r _ [9, 10, 2, 4, 11, 12, 13, 14, 15, 16, 17, 18, 19, 20, 21, 22, 23, 24, 25, 26, 27, 28, 29, 30, 31, 32, 33, 34, 35, 36, 37, 38, 39, 40, 41, 42, 43, 44, 45, 88, 89, 90, 91, 92, 93, 94, 95, 96, 97, 98, 99, 100, 101, 102, 103, 104, 105, 106, 107, 108, 109, 110] (by decide +kernel) (by decide +kernel)
set_option maxRecDepth 20000 in
theorem gX5_holdsItsHeap_X5_findHeaps : GoodIn wsX5_holdsItsHeap (wsV RX5 117 RX5 yX5_findHeaps wsX5_findHeaps) := goodIn_app (goodIn_of _ (by decide +kernel)) ggX5_holdsItsHeap_X5_findHeaps
set_option maxRecDepth 20000 in
theorem ggX5_holdsItsHeap_X0_copyFrom : GoodIn wsX5_holdsItsHeap wsX0_copyFrom := goodIn_r _ [49, 50, 25, 51, 52, 53, 54, 30, 55, 56, 57, 58, 59, 99, 100, 101, 102, 103, 104, 105, 106] (by decide +kernel) (by decide +kernel)
set_option maxRecDepth 20000 in
theorem gX5_holdsItsHeap_X0_copyFrom : GoodIn wsX5_holdsItsHeap (wsV RX5 81 RX0 yX0_copyFrom wsX0_copyFrom) := goodIn_app (goodIn_of _ (by decide +kernel)) ggX5_holdsItsHeap_X0_copyFrom
set_option maxRecDepth 20000 in
theorem ggX5_holdsItsHeap_X0_removeNote : GoodIn wsX5_holdsItsHeap wsX0_removeNote := goodIn_r _ [63, 55, 50, 64, 65, 66, 23, 67, 25, 30, 56, 68, 69, 70, 71, 72, 73, 74, 75, 57, 76, 77, 78, 79, 80, 81, 82, 83, 58, 84, 85, 86, 87, 99, 100, 101, 102, 103, 104, 105, 106] (by decide +kernel) (by decide +kernel)
set_option maxRecDepth 20000 in
theorem gX5_holdsItsHeap_X0_removeNote : GoodIn wsX5_holdsItsHeap (wsV RX5 102 RX0 yX0_removeNote wsX0_removeNote) := goodIn_app (goodIn_of _ (by decide +kernel)) ggX5_holdsItsHeap_X0_removeNote
set_option maxRecDepth 20000 in
theorem ggX5_holdsItsHeap_X2_find : GoodIn wsX5_holdsItsHeap wsX2_find := goodIn_r _ [15, 16, 17, 18, 19, 20, 21, 22, 23, 24, 25, 26, 27, 28, 29, 30, 31, 32, 33, 14, 34, 35, 36, 37, 38, 39, 40, 41, 42, 43, 44, 45, 99, 100, 101, 102, 103, 104, 105, 106, 107, 108, 109, 110] (by decide +kernel) (by decide +kernel)
set_option maxRecDepth 20000 in
theorem gX5_holdsItsHeap_X2_find : GoodIn wsX5_holdsItsHeap (wsV RX5 248 RX2 yX2_find wsX2_find) := goodIn_app (goodIn_of _ (by decide +kernel)) ggX5_holdsItsHeap_X2_find
theorem dX5_holdsItsHeap_0 : decode cX5_holdsItsHeap 0 = .ok (.aload_n 0, 1) := by decide +kernel
theorem dX5_holdsItsHeap_1 : decode cX5_holdsItsHeap 1 = .ok (.invokevirtual 117, 3) := by decide +kernel
theorem dX5_holdsItsHeap_4 : decode cX5_holdsItsHeap 4 = .ok (.istore_n 2, 1) := by decide +kernel
theorem dX5_holdsItsHeap_5 : decode cX5_holdsItsHeap 5 = .ok (.aload_n 0, 1) := by decide +kernel
theorem dX5_holdsItsHeap_6 : decode cX5_holdsItsHeap 6 = .ok (.getfield 38, 3) := by decide +kernel
theorem dX5_holdsItsHeap_9 : decode cX5_holdsItsHeap 9 = .ok (.aload_n 0, 1) := by decide +kernel
theorem dX5_holdsItsHeap_10 : decode cX5_holdsItsHeap 10 = .ok (.getfield 10, 3) := by decide +kernel
theorem dX5_holdsItsHeap_13 : decode cX5_holdsItsHeap 13 = .ok (.invokevirtual 81, 3) := by decide +kernel
theorem dX5_holdsItsHeap_16 : decode cX5_holdsItsHeap 16 = .ok (.aload_n 0, 1) := by decide +kernel
theorem dX5_holdsItsHeap_17 : decode cX5_holdsItsHeap 17 = .ok (.getfield 38, 3) := by decide +kernel
theorem dX5_holdsItsHeap_20 : decode cX5_holdsItsHeap 20 = .ok (.iload_n 1, 1) := by decide +kernel
theorem dX5_holdsItsHeap_21 : decode cX5_holdsItsHeap 21 = .ok (.invokevirtual 102, 3) := by decide +kernel
theorem dX5_holdsItsHeap_24 : decode cX5_holdsItsHeap 24 = .ok (.aload_n 0, 1) := by decide +kernel
theorem dX5_holdsItsHeap_25 : decode cX5_holdsItsHeap 25 = .ok (.getfield 48, 3) := by decide +kernel
theorem dX5_holdsItsHeap_28 : decode cX5_holdsItsHeap 28 = .ok (.aload_n 0, 1) := by decide +kernel
theorem dX5_holdsItsHeap_29 : decode cX5_holdsItsHeap 29 = .ok (.getfield 38, 3) := by decide +kernel
theorem dX5_holdsItsHeap_32 : decode cX5_holdsItsHeap 32 = .ok (.aload_n 0, 1) := by decide +kernel
theorem dX5_holdsItsHeap_33 : decode cX5_holdsItsHeap 33 = .ok (.getfield 38, 3) := by decide +kernel
theorem dX5_holdsItsHeap_36 : decode cX5_holdsItsHeap 36 = .ok (.getfield 200, 3) := by decide +kernel
theorem dX5_holdsItsHeap_39 : decode cX5_holdsItsHeap 39 = .ok (.iconst 0, 1) := by decide +kernel
theorem dX5_holdsItsHeap_40 : decode cX5_holdsItsHeap 40 = .ok (.iaload, 1) := by decide +kernel
theorem dX5_holdsItsHeap_41 : decode cX5_holdsItsHeap 41 = .ok (.invokevirtual 248, 3) := by decide +kernel
theorem dX5_holdsItsHeap_44 : decode cX5_holdsItsHeap 44 = .ok (.iload_n 2, 1) := by decide +kernel
theorem dX5_holdsItsHeap_45 : decode cX5_holdsItsHeap 45 = .ok (.if_icmp .le 7, 3) := by decide +kernel
theorem dX5_holdsItsHeap_48 : decode cX5_holdsItsHeap 48 = .ok (.iconst 1, 1) := by decide +kernel
theorem dX5_holdsItsHeap_49 : decode cX5_holdsItsHeap 49 = .ok (.goto 4, 3) := by decide +kernel
theorem dX5_holdsItsHeap_52 : decode cX5_holdsItsHeap 52 = .ok (.iconst 0, 1) := by decide +kernel
theorem dX5_holdsItsHeap_53 : decode cX5_holdsItsHeap 53 = .ok (.ireturn, 1) := by decide +kernel
theorem dX5_notesParted_0 : decode cX5_notesParted 0 = .ok (.iconst 0, 1) := by decide +kernel
theorem dX5_notesParted_1 : decode cX5_notesParted 1 = .ok (.istore_n 2, 1) := by decide +kernel
theorem dX5_notesParted_2 : decode cX5_notesParted 2 = .ok (.iconst 0, 1) := by decide +kernel
theorem dX5_notesParted_3 : decode cX5_notesParted 3 = .ok (.istore_n 3, 1) := by decide +kernel
theorem dX5_notesParted_4 : decode cX5_notesParted 4 = .ok (.iload_n 3, 1) := by decide +kernel
theorem dX5_notesParted_5 : decode cX5_notesParted 5 = .ok (.aload_n 0, 1) := by decide +kernel
theorem dX5_notesParted_6 : decode cX5_notesParted 6 = .ok (.getfield 10, 3) := by decide +kernel
theorem dX5_notesParted_9 : decode cX5_notesParted 9 = .ok (.getfield 71, 3) := by decide +kernel
theorem dX5_notesParted_12 : decode cX5_notesParted 12 = .ok (.if_icmp .ge 54, 3) := by decide +kernel
theorem dX5_notesParted_15 : decode cX5_notesParted 15 = .ok (.aload_n 0, 1) := by decide +kernel
theorem dX5_notesParted_16 : decode cX5_notesParted 16 = .ok (.getfield 44, 3) := by decide +kernel
theorem dX5_notesParted_19 : decode cX5_notesParted 19 = .ok (.getfield 160, 3) := by decide +kernel
theorem dX5_notesParted_22 : decode cX5_notesParted 22 = .ok (.iload_n 3, 1) := by decide +kernel
theorem dX5_notesParted_23 : decode cX5_notesParted 23 = .ok (.iaload, 1) := by decide +kernel
theorem dX5_notesParted_24 : decode cX5_notesParted 24 = .ok (.aload_n 0, 1) := by decide +kernel
theorem dX5_notesParted_25 : decode cX5_notesParted 25 = .ok (.getfield 44, 3) := by decide +kernel
theorem dX5_notesParted_28 : decode cX5_notesParted 28 = .ok (.getfield 160, 3) := by decide +kernel
theorem dX5_notesParted_31 : decode cX5_notesParted 31 = .ok (.iload_n 1, 1) := by decide +kernel
theorem dX5_notesParted_32 : decode cX5_notesParted 32 = .ok (.iaload, 1) := by decide +kernel
theorem dX5_notesParted_33 : decode cX5_notesParted 33 = .ok (.if_icmp .ne 27, 3) := by decide +kernel
theorem dX5_notesParted_36 : decode cX5_notesParted 36 = .ok (.aload_n 0, 1) := by decide +kernel
theorem dX5_notesParted_37 : decode cX5_notesParted 37 = .ok (.getfield 48, 3) := by decide +kernel
theorem dX5_notesParted_40 : decode cX5_notesParted 40 = .ok (.getfield 160, 3) := by decide +kernel
theorem dX5_notesParted_43 : decode cX5_notesParted 43 = .ok (.iload_n 3, 1) := by decide +kernel
theorem dX5_notesParted_44 : decode cX5_notesParted 44 = .ok (.iaload, 1) := by decide +kernel
theorem dX5_notesParted_45 : decode cX5_notesParted 45 = .ok (.aload_n 0, 1) := by decide +kernel
theorem dX5_notesParted_46 : decode cX5_notesParted 46 = .ok (.getfield 48, 3) := by decide +kernel
theorem dX5_notesParted_49 : decode cX5_notesParted 49 = .ok (.getfield 160, 3) := by decide +kernel
theorem dX5_notesParted_52 : decode cX5_notesParted 52 = .ok (.iload_n 1, 1) := by decide +kernel
theorem dX5_notesParted_53 : decode cX5_notesParted 53 = .ok (.iaload, 1) := by decide +kernel
theorem dX5_notesParted_54 : decode cX5_notesParted 54 = .ok (.if_icmp .eq 6, 3) := by decide +kernel
theorem dX5_notesParted_57 : decode cX5_notesParted 57 = .ok (.iinc 2 1, 3) := by decide +kernel
theorem dX5_notesParted_60 : decode cX5_notesParted 60 = .ok (.iinc 3 1, 3) := by decide +kernel
theorem dX5_notesParted_63 : decode cX5_notesParted 63 = .ok (.goto (-59), 3) := by decide +kernel
theorem dX5_notesParted_66 : decode cX5_notesParted 66 = .ok (.iload_n 2, 1) := by decide +kernel
theorem dX5_notesParted_67 : decode cX5_notesParted 67 = .ok (.ireturn, 1) := by decide +kernel
set_option maxRecDepth 20000 in
theorem ggX5_themesInHeap_X5_meet : GoodIn wsX5_themesInHeap wsX5_meet := goodIn_r _ [7, 1, 8, 9, 10, 11, 12, 13, 14, 15, 16, 17, 18, 19, 20, 21, 22, 23, 24, 25, 26, 27, 28, 29, 30, 31, 32, 33, 34] (by decide +kernel) (by decide +kernel)
set_option maxRecDepth 20000 in
theorem gX5_themesInHeap_X5_meet : GoodIn wsX5_themesInHeap (wsV RX5 270 RX5 yX5_meet wsX5_meet) := goodIn_app (goodIn_of _ (by decide +kernel)) ggX5_themesInHeap_X5_meet
theorem dX5_themesInHeap_0 : decode cX5_themesInHeap 0 = .ok (.iconst 0, 1) := by decide +kernel
theorem dX5_themesInHeap_1 : decode cX5_themesInHeap 1 = .ok (.istore_n 2, 1) := by decide +kernel
theorem dX5_themesInHeap_2 : decode cX5_themesInHeap 2 = .ok (.iconst 0, 1) := by decide +kernel
theorem dX5_themesInHeap_3 : decode cX5_themesInHeap 3 = .ok (.istore_n 3, 1) := by decide +kernel
theorem dX5_themesInHeap_4 : decode cX5_themesInHeap 4 = .ok (.iload_n 3, 1) := by decide +kernel
theorem dX5_themesInHeap_5 : decode cX5_themesInHeap 5 = .ok (.aload_n 0, 1) := by decide +kernel
theorem dX5_themesInHeap_6 : decode cX5_themesInHeap 6 = .ok (.getfield 10, 3) := by decide +kernel
theorem dX5_themesInHeap_9 : decode cX5_themesInHeap 9 = .ok (.getfield 154, 3) := by decide +kernel
theorem dX5_themesInHeap_12 : decode cX5_themesInHeap 12 = .ok (.if_icmp .ge 21, 3) := by decide +kernel
theorem dX5_themesInHeap_15 : decode cX5_themesInHeap 15 = .ok (.aload_n 0, 1) := by decide +kernel
theorem dX5_themesInHeap_16 : decode cX5_themesInHeap 16 = .ok (.iload_n 1, 1) := by decide +kernel
theorem dX5_themesInHeap_17 : decode cX5_themesInHeap 17 = .ok (.iload_n 3, 1) := by decide +kernel
theorem dX5_themesInHeap_18 : decode cX5_themesInHeap 18 = .ok (.invokevirtual 270, 3) := by decide +kernel
theorem dX5_themesInHeap_21 : decode cX5_themesInHeap 21 = .ok (.ifCond .eq 6, 3) := by decide +kernel
theorem dX5_themesInHeap_24 : decode cX5_themesInHeap 24 = .ok (.iinc 2 1, 3) := by decide +kernel
theorem dX5_themesInHeap_27 : decode cX5_themesInHeap 27 = .ok (.iinc 3 1, 3) := by decide +kernel
theorem dX5_themesInHeap_30 : decode cX5_themesInHeap 30 = .ok (.goto (-26), 3) := by decide +kernel
theorem dX5_themesInHeap_33 : decode cX5_themesInHeap 33 = .ok (.iload_n 2, 1) := by decide +kernel
theorem dX5_themesInHeap_34 : decode cX5_themesInHeap 34 = .ok (.ireturn, 1) := by decide +kernel
set_option maxRecDepth 20000 in
theorem ggX5_heapsOfTheme_X5_findHeaps : GoodIn wsX5_heapsOfTheme wsX5_findHeaps := goodIn_r _ [5, 6, 7, 8, 9, 10, 11, 12, 13, 14, 15, 16, 17, 18, 19, 20, 21, 22, 23, 24, 25, 26, 27, 28, 29, 30, 31, 32, 33, 34, 35, 36, 37, 38, 39, 40, 41, 42, 43, 51, 52, 53, 54, 55, 56, 57, 58, 59, 60, 61, 62, 63, 64, 65, 66, 67, 68, 69, 70, 71, 72, 73] (by decide +kernel) (by decide +kernel)
set_option maxRecDepth 20000 in
theorem gX5_heapsOfTheme_X5_findHeaps : GoodIn wsX5_heapsOfTheme (wsV RX5 117 RX5 yX5_findHeaps wsX5_findHeaps) := goodIn_app (goodIn_of _ (by decide +kernel)) ggX5_heapsOfTheme_X5_findHeaps
set_option maxRecDepth 20000 in
theorem ggX5_heapsOfTheme_X5_meet : GoodIn wsX5_heapsOfTheme wsX5_meet := goodIn_r _ [47, 7, 48, 6, 49, 50, 51, 52, 53, 54, 55, 56, 57, 58, 59, 60, 61, 62, 63, 64, 65, 66, 67, 68, 69, 70, 71, 72, 73] (by decide +kernel) (by decide +kernel)
set_option maxRecDepth 20000 in
theorem gX5_heapsOfTheme_X5_meet : GoodIn wsX5_heapsOfTheme (wsV RX5 270 RX5 yX5_meet wsX5_meet) := goodIn_app (goodIn_of _ (by decide +kernel)) ggX5_heapsOfTheme_X5_meet
theorem dX5_heapsOfTheme_0 : decode cX5_heapsOfTheme 0 = .ok (.aload_n 0, 1) := by decide +kernel
theorem dX5_heapsOfTheme_1 : decode cX5_heapsOfTheme 1 = .ok (.invokevirtual 117, 3) := by decide +kernel
theorem dX5_heapsOfTheme_4 : decode cX5_heapsOfTheme 4 = .ok (.istore_n 2, 1) := by decide +kernel
theorem dX5_heapsOfTheme_5 : decode cX5_heapsOfTheme 5 = .ok (.iconst 0, 1) := by decide +kernel
theorem dX5_heapsOfTheme_6 : decode cX5_heapsOfTheme 6 = .ok (.istore_n 3, 1) := by decide +kernel
theorem dX5_heapsOfTheme_7 : decode cX5_heapsOfTheme 7 = .ok (.iconst 0, 1) := by decide +kernel
theorem dX5_heapsOfTheme_8 : decode cX5_heapsOfTheme 8 = .ok (.istore 4, 2) := by decide +kernel
theorem dX5_heapsOfTheme_10 : decode cX5_heapsOfTheme 10 = .ok (.iload 4, 2) := by decide +kernel
theorem dX5_heapsOfTheme_12 : decode cX5_heapsOfTheme 12 = .ok (.iload_n 2, 1) := by decide +kernel
theorem dX5_heapsOfTheme_13 : decode cX5_heapsOfTheme 13 = .ok (.if_icmp .ge 22, 3) := by decide +kernel
theorem dX5_heapsOfTheme_16 : decode cX5_heapsOfTheme 16 = .ok (.aload_n 0, 1) := by decide +kernel
theorem dX5_heapsOfTheme_17 : decode cX5_heapsOfTheme 17 = .ok (.iload 4, 2) := by decide +kernel
theorem dX5_heapsOfTheme_19 : decode cX5_heapsOfTheme 19 = .ok (.iload_n 1, 1) := by decide +kernel
theorem dX5_heapsOfTheme_20 : decode cX5_heapsOfTheme 20 = .ok (.invokevirtual 270, 3) := by decide +kernel
theorem dX5_heapsOfTheme_23 : decode cX5_heapsOfTheme 23 = .ok (.ifCond .eq 6, 3) := by decide +kernel
theorem dX5_heapsOfTheme_26 : decode cX5_heapsOfTheme 26 = .ok (.iinc 3 1, 3) := by decide +kernel
theorem dX5_heapsOfTheme_29 : decode cX5_heapsOfTheme 29 = .ok (.iinc 4 1, 3) := by decide +kernel
theorem dX5_heapsOfTheme_32 : decode cX5_heapsOfTheme 32 = .ok (.goto (-22), 3) := by decide +kernel
theorem dX5_heapsOfTheme_35 : decode cX5_heapsOfTheme 35 = .ok (.iload_n 3, 1) := by decide +kernel
theorem dX5_heapsOfTheme_36 : decode cX5_heapsOfTheme 36 = .ok (.ireturn, 1) := by decide +kernel
theorem dX5_meet_0 : decode cX5_meet 0 = .ok (.iconst 0, 1) := by decide +kernel
theorem dX5_meet_1 : decode cX5_meet 1 = .ok (.istore_n 3, 1) := by decide +kernel
theorem dX5_meet_2 : decode cX5_meet 2 = .ok (.iload_n 3, 1) := by decide +kernel
theorem dX5_meet_3 : decode cX5_meet 3 = .ok (.aload_n 0, 1) := by decide +kernel
theorem dX5_meet_4 : decode cX5_meet 4 = .ok (.getfield 10, 3) := by decide +kernel
theorem dX5_meet_7 : decode cX5_meet 7 = .ok (.getfield 71, 3) := by decide +kernel
theorem dX5_meet_10 : decode cX5_meet 10 = .ok (.if_icmp .ge 37, 3) := by decide +kernel
theorem dX5_meet_13 : decode cX5_meet 13 = .ok (.aload_n 0, 1) := by decide +kernel
theorem dX5_meet_14 : decode cX5_meet 14 = .ok (.getfield 44, 3) := by decide +kernel
theorem dX5_meet_17 : decode cX5_meet 17 = .ok (.getfield 160, 3) := by decide +kernel
theorem dX5_meet_20 : decode cX5_meet 20 = .ok (.iload_n 3, 1) := by decide +kernel
theorem dX5_meet_21 : decode cX5_meet 21 = .ok (.iaload, 1) := by decide +kernel
theorem dX5_meet_22 : decode cX5_meet 22 = .ok (.iload_n 1, 1) := by decide +kernel
theorem dX5_meet_23 : decode cX5_meet 23 = .ok (.if_icmp .ne 18, 3) := by decide +kernel
theorem dX5_meet_26 : decode cX5_meet 26 = .ok (.aload_n 0, 1) := by decide +kernel
theorem dX5_meet_27 : decode cX5_meet 27 = .ok (.getfield 10, 3) := by decide +kernel
theorem dX5_meet_30 : decode cX5_meet 30 = .ok (.getfield 163, 3) := by decide +kernel
theorem dX5_meet_33 : decode cX5_meet 33 = .ok (.iload_n 3, 1) := by decide +kernel
theorem dX5_meet_34 : decode cX5_meet 34 = .ok (.iaload, 1) := by decide +kernel
theorem dX5_meet_35 : decode cX5_meet 35 = .ok (.iload_n 2, 1) := by decide +kernel
theorem dX5_meet_36 : decode cX5_meet 36 = .ok (.if_icmp .ne 5, 3) := by decide +kernel
theorem dX5_meet_39 : decode cX5_meet 39 = .ok (.iconst 1, 1) := by decide +kernel
theorem dX5_meet_40 : decode cX5_meet 40 = .ok (.ireturn, 1) := by decide +kernel
theorem dX5_meet_41 : decode cX5_meet 41 = .ok (.iinc 3 1, 3) := by decide +kernel
theorem dX5_meet_44 : decode cX5_meet 44 = .ok (.goto (-42), 3) := by decide +kernel
theorem dX5_meet_47 : decode cX5_meet 47 = .ok (.iconst 0, 1) := by decide +kernel
theorem dX5_meet_48 : decode cX5_meet 48 = .ok (.ireturn, 1) := by decide +kernel
set_option maxRecDepth 20000 in
theorem ggX5_rankOf_X0_dotsOfTheme : GoodIn wsX5_rankOf wsX0_dotsOfTheme := goodIn_r _ [7, 8, 9, 10, 11, 12, 6, 13, 14, 15, 16, 17, 18, 30, 31, 32, 33, 34, 35, 36, 37] (by decide +kernel) (by decide +kernel)
set_option maxRecDepth 20000 in
theorem gX5_rankOf_X0_dotsOfTheme : GoodIn wsX5_rankOf (wsV RX5 233 RX0 yX0_dotsOfTheme wsX0_dotsOfTheme) := goodIn_app (goodIn_of _ (by decide +kernel)) ggX5_rankOf_X0_dotsOfTheme
theorem dX5_rankOf_0 : decode cX5_rankOf 0 = .ok (.aload_n 0, 1) := by decide +kernel
theorem dX5_rankOf_1 : decode cX5_rankOf 1 = .ok (.getfield 10, 3) := by decide +kernel
theorem dX5_rankOf_4 : decode cX5_rankOf 4 = .ok (.iload_n 1, 1) := by decide +kernel
theorem dX5_rankOf_5 : decode cX5_rankOf 5 = .ok (.invokevirtual 233, 3) := by decide +kernel
theorem dX5_rankOf_8 : decode cX5_rankOf 8 = .ok (.istore_n 2, 1) := by decide +kernel
theorem dX5_rankOf_9 : decode cX5_rankOf 9 = .ok (.iconst 0, 1) := by decide +kernel
theorem dX5_rankOf_10 : decode cX5_rankOf 10 = .ok (.istore_n 3, 1) := by decide +kernel
theorem dX5_rankOf_11 : decode cX5_rankOf 11 = .ok (.iconst 0, 1) := by decide +kernel
theorem dX5_rankOf_12 : decode cX5_rankOf 12 = .ok (.istore 4, 2) := by decide +kernel
theorem dX5_rankOf_14 : decode cX5_rankOf 14 = .ok (.iload 4, 2) := by decide +kernel
theorem dX5_rankOf_16 : decode cX5_rankOf 16 = .ok (.aload_n 0, 1) := by decide +kernel
theorem dX5_rankOf_17 : decode cX5_rankOf 17 = .ok (.getfield 10, 3) := by decide +kernel
theorem dX5_rankOf_20 : decode cX5_rankOf 20 = .ok (.getfield 154, 3) := by decide +kernel
theorem dX5_rankOf_23 : decode cX5_rankOf 23 = .ok (.if_icmp .ge 41, 3) := by decide +kernel
theorem dX5_rankOf_26 : decode cX5_rankOf 26 = .ok (.aload_n 0, 1) := by decide +kernel
theorem dX5_rankOf_27 : decode cX5_rankOf 27 = .ok (.getfield 10, 3) := by decide +kernel
theorem dX5_rankOf_30 : decode cX5_rankOf 30 = .ok (.iload 4, 2) := by decide +kernel
theorem dX5_rankOf_32 : decode cX5_rankOf 32 = .ok (.invokevirtual 233, 3) := by decide +kernel
theorem dX5_rankOf_35 : decode cX5_rankOf 35 = .ok (.istore 5, 2) := by decide +kernel
theorem dX5_rankOf_37 : decode cX5_rankOf 37 = .ok (.iload 5, 2) := by decide +kernel
theorem dX5_rankOf_39 : decode cX5_rankOf 39 = .ok (.iload_n 2, 1) := by decide +kernel
theorem dX5_rankOf_40 : decode cX5_rankOf 40 = .ok (.if_icmp .gt 15, 3) := by decide +kernel
theorem dX5_rankOf_43 : decode cX5_rankOf 43 = .ok (.iload 5, 2) := by decide +kernel
theorem dX5_rankOf_45 : decode cX5_rankOf 45 = .ok (.iload_n 2, 1) := by decide +kernel
theorem dX5_rankOf_46 : decode cX5_rankOf 46 = .ok (.if_icmp .ne 12, 3) := by decide +kernel
theorem dX5_rankOf_49 : decode cX5_rankOf 49 = .ok (.iload 4, 2) := by decide +kernel
theorem dX5_rankOf_51 : decode cX5_rankOf 51 = .ok (.iload_n 1, 1) := by decide +kernel
theorem dX5_rankOf_52 : decode cX5_rankOf 52 = .ok (.if_icmp .ge 6, 3) := by decide +kernel
theorem dX5_rankOf_55 : decode cX5_rankOf 55 = .ok (.iinc 3 1, 3) := by decide +kernel
theorem dX5_rankOf_58 : decode cX5_rankOf 58 = .ok (.iinc 4 1, 3) := by decide +kernel
theorem dX5_rankOf_61 : decode cX5_rankOf 61 = .ok (.goto (-47), 3) := by decide +kernel
theorem dX5_rankOf_64 : decode cX5_rankOf 64 = .ok (.iload_n 3, 1) := by decide +kernel
theorem dX5_rankOf_65 : decode cX5_rankOf 65 = .ok (.ireturn, 1) := by decide +kernel
set_option maxRecDepth 20000 in
theorem ggX5_notesAlone_X5_findHeaps : GoodIn wsX5_notesAlone wsX5_findHeaps := goodIn_r _ [6, 1, 7, 8, 9, 10, 11, 12, 13, 14, 15, 16, 17, 18, 19, 20, 21, 22, 23, 24, 25, 26, 27, 28, 29, 30, 31, 32, 33, 34, 35, 36, 37, 38, 39, 40, 41, 42, 43, 48, 49, 50, 51, 52, 53, 54, 55, 56, 57, 58, 59, 60, 61, 62, 63, 64, 65, 66, 67, 68, 69, 70] (by decide +kernel) (by decide +kernel)
set_option maxRecDepth 20000 in
theorem gX5_notesAlone_X5_findHeaps : GoodIn wsX5_notesAlone (wsV RX5 117 RX5 yX5_findHeaps wsX5_findHeaps) := goodIn_app (goodIn_of _ (by decide +kernel)) ggX5_notesAlone_X5_findHeaps
set_option maxRecDepth 20000 in
theorem ggX5_notesAlone_X2_notesIn : GoodIn wsX5_notesAlone wsX2_notesIn := goodIn_r _ [47, 15, 43, 67, 68, 69, 70] (by decide +kernel) (by decide +kernel)
set_option maxRecDepth 20000 in
theorem gX5_notesAlone_X2_notesIn : GoodIn wsX5_notesAlone (wsV RX5 215 RX2 yX2_notesIn wsX2_notesIn) := goodIn_app (goodIn_of _ (by decide +kernel)) ggX5_notesAlone_X2_notesIn
theorem dX5_notesAlone_0 : decode cX5_notesAlone 0 = .ok (.aload_n 0, 1) := by decide +kernel
theorem dX5_notesAlone_1 : decode cX5_notesAlone 1 = .ok (.invokevirtual 117, 3) := by decide +kernel
theorem dX5_notesAlone_4 : decode cX5_notesAlone 4 = .ok (.istore_n 1, 1) := by decide +kernel
theorem dX5_notesAlone_5 : decode cX5_notesAlone 5 = .ok (.iconst 0, 1) := by decide +kernel
theorem dX5_notesAlone_6 : decode cX5_notesAlone 6 = .ok (.istore_n 2, 1) := by decide +kernel
theorem dX5_notesAlone_7 : decode cX5_notesAlone 7 = .ok (.iconst 0, 1) := by decide +kernel
theorem dX5_notesAlone_8 : decode cX5_notesAlone 8 = .ok (.istore_n 3, 1) := by decide +kernel
theorem dX5_notesAlone_9 : decode cX5_notesAlone 9 = .ok (.iload_n 3, 1) := by decide +kernel
theorem dX5_notesAlone_10 : decode cX5_notesAlone 10 = .ok (.iload_n 1, 1) := by decide +kernel
theorem dX5_notesAlone_11 : decode cX5_notesAlone 11 = .ok (.if_icmp .ge 24, 3) := by decide +kernel
theorem dX5_notesAlone_14 : decode cX5_notesAlone 14 = .ok (.aload_n 0, 1) := by decide +kernel
theorem dX5_notesAlone_15 : decode cX5_notesAlone 15 = .ok (.getfield 44, 3) := by decide +kernel
theorem dX5_notesAlone_18 : decode cX5_notesAlone 18 = .ok (.iload_n 3, 1) := by decide +kernel
theorem dX5_notesAlone_19 : decode cX5_notesAlone 19 = .ok (.invokevirtual 215, 3) := by decide +kernel
theorem dX5_notesAlone_22 : decode cX5_notesAlone 22 = .ok (.iconst 1, 1) := by decide +kernel
theorem dX5_notesAlone_23 : decode cX5_notesAlone 23 = .ok (.if_icmp .ne 6, 3) := by decide +kernel
theorem dX5_notesAlone_26 : decode cX5_notesAlone 26 = .ok (.iinc 2 1, 3) := by decide +kernel
theorem dX5_notesAlone_29 : decode cX5_notesAlone 29 = .ok (.iinc 3 1, 3) := by decide +kernel
theorem dX5_notesAlone_32 : decode cX5_notesAlone 32 = .ok (.goto (-23), 3) := by decide +kernel
theorem dX5_notesAlone_35 : decode cX5_notesAlone 35 = .ok (.iload_n 2, 1) := by decide +kernel
theorem dX5_notesAlone_36 : decode cX5_notesAlone 36 = .ok (.ireturn, 1) := by decide +kernel
