section
-- ===== PART A: goes FIRST, ahead of the names: the tables' words, and 'selects' of the private methods out of them =====
/-- a private method of a class that the tables say can be made, by its rows of tables_1 -/
def lw_okq (q : MethodName × Nat) : Prop := (q.1.cls ≠ "java/lang/invoke/MethodHandle" ∧ q.1.cls ≠ "java/lang/invoke/VarHandle") ∧ Cond.instantiable q.1.cls q.2 ∈ tables_1 ∧ Cond.privateMethod q.1 ∈ tables_1 ∧ Cond.instanceMethod q.1 ∈ tables_1
theorem lw_p0 : lw_okq (⟨"NoteThemes$History", "dropOldest", "()V"⟩, 2) := ⟨⟨by decide +kernel, by decide +kernel⟩, List.mem_of_getElem? (i := 66) (by decide +kernel), List.mem_of_getElem? (i := 187) (by decide +kernel), List.mem_of_getElem? (i := 188) (by decide +kernel)⟩
theorem lw_p1 : lw_okq (⟨"NoteThemes$BoardText", "beginNumber", "(I)V"⟩, 5) := ⟨⟨by decide +kernel, by decide +kernel⟩, List.mem_of_getElem? (i := 116) (by decide +kernel), List.mem_of_getElem? (i := 216) (by decide +kernel), List.mem_of_getElem? (i := 217) (by decide +kernel)⟩
theorem lw_p2 : lw_okq (⟨"NoteThemes$BoardText", "takes", "(C)Z"⟩, 5) := ⟨⟨by decide +kernel, by decide +kernel⟩, List.mem_of_getElem? (i := 116) (by decide +kernel), List.mem_of_getElem? (i := 220) (by decide +kernel), List.mem_of_getElem? (i := 221) (by decide +kernel)⟩
theorem lw_p3 : lw_okq (⟨"NoteThemes$BoardText", "takesComma", "()Z"⟩, 5) := ⟨⟨by decide +kernel, by decide +kernel⟩, List.mem_of_getElem? (i := 116) (by decide +kernel), List.mem_of_getElem? (i := 224) (by decide +kernel), List.mem_of_getElem? (i := 225) (by decide +kernel)⟩
theorem lw_p4 : lw_okq (⟨"NoteThemes$BoardText", "endsNote", "()Z"⟩, 5) := ⟨⟨by decide +kernel, by decide +kernel⟩, List.mem_of_getElem? (i := 116) (by decide +kernel), List.mem_of_getElem? (i := 228) (by decide +kernel), List.mem_of_getElem? (i := 229) (by decide +kernel)⟩
theorem lw_p5 : lw_okq (⟨"NoteThemes$BoardText", "takesStar", "()Z"⟩, 5) := ⟨⟨by decide +kernel, by decide +kernel⟩, List.mem_of_getElem? (i := 116) (by decide +kernel), List.mem_of_getElem? (i := 233) (by decide +kernel), List.mem_of_getElem? (i := 234) (by decide +kernel)⟩
theorem lw_p6 : lw_okq (⟨"NoteThemes$BoardText", "takesSemicolon", "()Z"⟩, 5) := ⟨⟨by decide +kernel, by decide +kernel⟩, List.mem_of_getElem? (i := 116) (by decide +kernel), List.mem_of_getElem? (i := 256) (by decide +kernel), List.mem_of_getElem? (i := 257) (by decide +kernel)⟩
theorem lw_p7 : lw_okq (⟨"NoteThemes$BoardText", "takesDigit", "(I)Z"⟩, 5) := ⟨⟨by decide +kernel, by decide +kernel⟩, List.mem_of_getElem? (i := 116) (by decide +kernel), List.mem_of_getElem? (i := 260) (by decide +kernel), List.mem_of_getElem? (i := 261) (by decide +kernel)⟩
theorem lw_p8 : lw_okq (⟨"NoteThemes$Board", "copyNote", "(II)V"⟩, 8) := ⟨⟨by decide +kernel, by decide +kernel⟩, List.mem_of_getElem? (i := 19) (by decide +kernel), List.mem_of_getElem? (i := 280) (by decide +kernel), List.mem_of_getElem? (i := 281) (by decide +kernel)⟩
theorem lw_p9 : lw_okq (⟨"NoteThemes", "findHeaps", "()I"⟩, 11) := ⟨⟨by decide +kernel, by decide +kernel⟩, List.mem_of_getElem? (i := 11) (by decide +kernel), List.mem_of_getElem? (i := 305) (by decide +kernel), List.mem_of_getElem? (i := 306) (by decide +kernel)⟩
theorem lw_p10 : lw_okq (⟨"NoteThemes$Heaps", "join", "(II)V"⟩, 4) := ⟨⟨by decide +kernel, by decide +kernel⟩, List.mem_of_getElem? (i := 83) (by decide +kernel), List.mem_of_getElem? (i := 320) (by decide +kernel), List.mem_of_getElem? (i := 321) (by decide +kernel)⟩
theorem lw_p11 : lw_okq (⟨"NoteThemes$Heaps", "numberThem", "()V"⟩, 4) := ⟨⟨by decide +kernel, by decide +kernel⟩, List.mem_of_getElem? (i := 83) (by decide +kernel), List.mem_of_getElem? (i := 328) (by decide +kernel), List.mem_of_getElem? (i := 329) (by decide +kernel)⟩
theorem lw_p12 : lw_okq (⟨"NoteThemes", "staysOnBoard", "(III)Z"⟩, 11) := ⟨⟨by decide +kernel, by decide +kernel⟩, List.mem_of_getElem? (i := 11) (by decide +kernel), List.mem_of_getElem? (i := 340) (by decide +kernel), List.mem_of_getElem? (i := 341) (by decide +kernel)⟩
theorem lw_p13 : lw_okq (⟨"NoteThemes", "moveHeap", "(III)V"⟩, 11) := ⟨⟨by decide +kernel, by decide +kernel⟩, List.mem_of_getElem? (i := 11) (by decide +kernel), List.mem_of_getElem? (i := 344) (by decide +kernel), List.mem_of_getElem? (i := 345) (by decide +kernel)⟩
theorem lw_p14 : lw_okq (⟨"NoteThemes$Names", "bestName", "(LNoteThemes$Board;I)I"⟩, 1) := ⟨⟨by decide +kernel, by decide +kernel⟩, List.mem_of_getElem? (i := 105) (by decide +kernel), List.mem_of_getElem? (i := 406) (by decide +kernel), List.mem_of_getElem? (i := 407) (by decide +kernel)⟩
theorem lw_p15 : lw_okq (⟨"NoteThemes$Names", "isTaken", "(II)Z"⟩, 1) := ⟨⟨by decide +kernel, by decide +kernel⟩, List.mem_of_getElem? (i := 105) (by decide +kernel), List.mem_of_getElem? (i := 414) (by decide +kernel), List.mem_of_getElem? (i := 415) (by decide +kernel)⟩
def lw_privs_1 : List (MethodName × Nat) := [(⟨"NoteThemes$History", "dropOldest", "()V"⟩, 2), (⟨"NoteThemes$BoardText", "beginNumber", "(I)V"⟩, 5), (⟨"NoteThemes$BoardText", "takes", "(C)Z"⟩, 5), (⟨"NoteThemes$BoardText", "takesComma", "()Z"⟩, 5), (⟨"NoteThemes$BoardText", "endsNote", "()Z"⟩, 5), (⟨"NoteThemes$BoardText", "takesStar", "()Z"⟩, 5), (⟨"NoteThemes$BoardText", "takesSemicolon", "()Z"⟩, 5), (⟨"NoteThemes$BoardText", "takesDigit", "(I)Z"⟩, 5), (⟨"NoteThemes$Board", "copyNote", "(II)V"⟩, 8), (⟨"NoteThemes", "findHeaps", "()I"⟩, 11), (⟨"NoteThemes$Heaps", "join", "(II)V"⟩, 4), (⟨"NoteThemes$Heaps", "numberThem", "()V"⟩, 4), (⟨"NoteThemes", "staysOnBoard", "(III)Z"⟩, 11), (⟨"NoteThemes", "moveHeap", "(III)V"⟩, 11), (⟨"NoteThemes$Names", "bestName", "(LNoteThemes$Board;I)I"⟩, 1), (⟨"NoteThemes$Names", "isTaken", "(II)Z"⟩, 1)]
theorem lw_r1 : ∀ q ∈ lw_privs_1, lw_okq q := List.forall_mem_cons.mpr ⟨lw_p0, List.forall_mem_cons.mpr ⟨lw_p1, List.forall_mem_cons.mpr ⟨lw_p2, List.forall_mem_cons.mpr ⟨lw_p3, List.forall_mem_cons.mpr ⟨lw_p4, List.forall_mem_cons.mpr ⟨lw_p5, List.forall_mem_cons.mpr ⟨lw_p6, List.forall_mem_cons.mpr ⟨lw_p7, List.forall_mem_cons.mpr ⟨lw_p8, List.forall_mem_cons.mpr ⟨lw_p9, List.forall_mem_cons.mpr ⟨lw_p10, List.forall_mem_cons.mpr ⟨lw_p11, List.forall_mem_cons.mpr ⟨lw_p12, List.forall_mem_cons.mpr ⟨lw_p13, List.forall_mem_cons.mpr ⟨lw_p14, List.forall_mem_cons.mpr ⟨lw_p15, fun _ h => absurd h List.not_mem_nil⟩⟩⟩⟩⟩⟩⟩⟩⟩⟩⟩⟩⟩⟩⟩⟩
theorem lw_p16 : lw_okq (⟨"NoteThemes", "holdsItsHeap", "(I)Z"⟩, 11) := ⟨⟨by decide +kernel, by decide +kernel⟩, List.mem_of_getElem? (i := 11) (by decide +kernel), List.mem_of_getElem? (i := 459) (by decide +kernel), List.mem_of_getElem? (i := 460) (by decide +kernel)⟩
theorem lw_p17 : lw_okq (⟨"NoteThemes", "themesInHeap", "(I)I"⟩, 11) := ⟨⟨by decide +kernel, by decide +kernel⟩, List.mem_of_getElem? (i := 11) (by decide +kernel), List.mem_of_getElem? (i := 484) (by decide +kernel), List.mem_of_getElem? (i := 485) (by decide +kernel)⟩
theorem lw_p18 : lw_okq (⟨"NoteThemes", "meet", "(II)Z"⟩, 11) := ⟨⟨by decide +kernel, by decide +kernel⟩, List.mem_of_getElem? (i := 11) (by decide +kernel), List.mem_of_getElem? (i := 488) (by decide +kernel), List.mem_of_getElem? (i := 489) (by decide +kernel)⟩
theorem lw_p19 : lw_okq (⟨"NoteThemes$Heaps", "distancesTo", "(ILNoteThemes$Board;)I"⟩, 4) := ⟨⟨by decide +kernel, by decide +kernel⟩, List.mem_of_getElem? (i := 83) (by decide +kernel), List.mem_of_getElem? (i := 496) (by decide +kernel), List.mem_of_getElem? (i := 497) (by decide +kernel)⟩
theorem lw_p20 : lw_okq (⟨"NoteThemes", "rankOf", "(I)I"⟩, 11) := ⟨⟨by decide +kernel, by decide +kernel⟩, List.mem_of_getElem? (i := 11) (by decide +kernel), List.mem_of_getElem? (i := 513) (by decide +kernel), List.mem_of_getElem? (i := 514) (by decide +kernel)⟩
theorem lw_p21 : lw_okq (⟨"NoteThemes", "heapsOfTheme", "(I)I"⟩, 11) := ⟨⟨by decide +kernel, by decide +kernel⟩, List.mem_of_getElem? (i := 11) (by decide +kernel), List.mem_of_getElem? (i := 517) (by decide +kernel), List.mem_of_getElem? (i := 518) (by decide +kernel)⟩
theorem lw_p22 : lw_okq (⟨"NoteThemes", "notesParted", "(I)I"⟩, 11) := ⟨⟨by decide +kernel, by decide +kernel⟩, List.mem_of_getElem? (i := 11) (by decide +kernel), List.mem_of_getElem? (i := 535) (by decide +kernel), List.mem_of_getElem? (i := 536) (by decide +kernel)⟩
theorem lw_p23 : lw_okq (⟨"NoteThemes", "notesAlone", "()I"⟩, 11) := ⟨⟨by decide +kernel, by decide +kernel⟩, List.mem_of_getElem? (i := 11) (by decide +kernel), List.mem_of_getElem? (i := 561) (by decide +kernel), List.mem_of_getElem? (i := 562) (by decide +kernel)⟩
theorem lw_p24 : lw_okq (⟨"NoteThemesModel", "records", "()V"⟩, 15) := ⟨⟨by decide +kernel, by decide +kernel⟩, List.mem_of_getElem? (i := 565) (by decide +kernel), List.mem_of_getElem? (i := 627) (by decide +kernel), List.mem_of_getElem? (i := 628) (by decide +kernel)⟩
theorem lw_p25 : lw_okq (⟨"NoteThemesModel", "adds", "(II)I"⟩, 15) := ⟨⟨by decide +kernel, by decide +kernel⟩, List.mem_of_getElem? (i := 565) (by decide +kernel), List.mem_of_getElem? (i := 634) (by decide +kernel), List.mem_of_getElem? (i := 635) (by decide +kernel)⟩
theorem lw_p26 : lw_okq (⟨"NoteThemesModel", "lays", "(III)V"⟩, 15) := ⟨⟨by decide +kernel, by decide +kernel⟩, List.mem_of_getElem? (i := 565) (by decide +kernel), List.mem_of_getElem? (i := 638) (by decide +kernel), List.mem_of_getElem? (i := 639) (by decide +kernel)⟩
theorem lw_p27 : lw_okq (⟨"NoteThemesModel", "isNote", "(I)Z"⟩, 15) := ⟨⟨by decide +kernel, by decide +kernel⟩, List.mem_of_getElem? (i := 565) (by decide +kernel), List.mem_of_getElem? (i := 646) (by decide +kernel), List.mem_of_getElem? (i := 647) (by decide +kernel)⟩
theorem lw_p28 : lw_okq (⟨"NoteThemesModel", "dotsOf", "(I)I"⟩, 15) := ⟨⟨by decide +kernel, by decide +kernel⟩, List.mem_of_getElem? (i := 565) (by decide +kernel), List.mem_of_getElem? (i := 650) (by decide +kernel), List.mem_of_getElem? (i := 651) (by decide +kernel)⟩
theorem lw_p29 : lw_okq (⟨"NoteThemesModel", "of", "(II)I"⟩, 15) := ⟨⟨by decide +kernel, by decide +kernel⟩, List.mem_of_getElem? (i := 565) (by decide +kernel), List.mem_of_getElem? (i := 654) (by decide +kernel), List.mem_of_getElem? (i := 655) (by decide +kernel)⟩
theorem lw_p30 : lw_okq (⟨"NoteThemesModel", "themeOf", "(I)I"⟩, 15) := ⟨⟨by decide +kernel, by decide +kernel⟩, List.mem_of_getElem? (i := 565) (by decide +kernel), List.mem_of_getElem? (i := 658) (by decide +kernel), List.mem_of_getElem? (i := 659) (by decide +kernel)⟩
theorem lw_p31 : lw_okq (⟨"NoteThemesModel", "dropsEmpty", "(I)V"⟩, 15) := ⟨⟨by decide +kernel, by decide +kernel⟩, List.mem_of_getElem? (i := 565) (by decide +kernel), List.mem_of_getElem? (i := 662) (by decide +kernel), List.mem_of_getElem? (i := 663) (by decide +kernel)⟩
def lw_privs_2 : List (MethodName × Nat) := [(⟨"NoteThemes", "holdsItsHeap", "(I)Z"⟩, 11), (⟨"NoteThemes", "themesInHeap", "(I)I"⟩, 11), (⟨"NoteThemes", "meet", "(II)Z"⟩, 11), (⟨"NoteThemes$Heaps", "distancesTo", "(ILNoteThemes$Board;)I"⟩, 4), (⟨"NoteThemes", "rankOf", "(I)I"⟩, 11), (⟨"NoteThemes", "heapsOfTheme", "(I)I"⟩, 11), (⟨"NoteThemes", "notesParted", "(I)I"⟩, 11), (⟨"NoteThemes", "notesAlone", "()I"⟩, 11), (⟨"NoteThemesModel", "records", "()V"⟩, 15), (⟨"NoteThemesModel", "adds", "(II)I"⟩, 15), (⟨"NoteThemesModel", "lays", "(III)V"⟩, 15), (⟨"NoteThemesModel", "isNote", "(I)Z"⟩, 15), (⟨"NoteThemesModel", "dotsOf", "(I)I"⟩, 15), (⟨"NoteThemesModel", "of", "(II)I"⟩, 15), (⟨"NoteThemesModel", "themeOf", "(I)I"⟩, 15), (⟨"NoteThemesModel", "dropsEmpty", "(I)V"⟩, 15)]
theorem lw_r2 : ∀ q ∈ lw_privs_2, lw_okq q := List.forall_mem_cons.mpr ⟨lw_p16, List.forall_mem_cons.mpr ⟨lw_p17, List.forall_mem_cons.mpr ⟨lw_p18, List.forall_mem_cons.mpr ⟨lw_p19, List.forall_mem_cons.mpr ⟨lw_p20, List.forall_mem_cons.mpr ⟨lw_p21, List.forall_mem_cons.mpr ⟨lw_p22, List.forall_mem_cons.mpr ⟨lw_p23, List.forall_mem_cons.mpr ⟨lw_p24, List.forall_mem_cons.mpr ⟨lw_p25, List.forall_mem_cons.mpr ⟨lw_p26, List.forall_mem_cons.mpr ⟨lw_p27, List.forall_mem_cons.mpr ⟨lw_p28, List.forall_mem_cons.mpr ⟨lw_p29, List.forall_mem_cons.mpr ⟨lw_p30, List.forall_mem_cons.mpr ⟨lw_p31, fun _ h => absurd h List.not_mem_nil⟩⟩⟩⟩⟩⟩⟩⟩⟩⟩⟩⟩⟩⟩⟩⟩
theorem lw_p32 : lw_okq (⟨"NoteThemesModel", "notesOf", "(I)I"⟩, 15) := ⟨⟨by decide +kernel, by decide +kernel⟩, List.mem_of_getElem? (i := 565) (by decide +kernel), List.mem_of_getElem? (i := 666) (by decide +kernel), List.mem_of_getElem? (i := 667) (by decide +kernel)⟩
theorem lw_p33 : lw_okq (⟨"NoteThemesModel", "dropsTheme", "(I)V"⟩, 15) := ⟨⟨by decide +kernel, by decide +kernel⟩, List.mem_of_getElem? (i := 565) (by decide +kernel), List.mem_of_getElem? (i := 670) (by decide +kernel), List.mem_of_getElem? (i := 671) (by decide +kernel)⟩
theorem lw_p34 : lw_okq (⟨"NoteThemesModel", "comes", "(III)V"⟩, 15) := ⟨⟨by decide +kernel, by decide +kernel⟩, List.mem_of_getElem? (i := 565) (by decide +kernel), List.mem_of_getElem? (i := 678) (by decide +kernel), List.mem_of_getElem? (i := 679) (by decide +kernel)⟩
theorem lw_p35 : lw_okq (⟨"NoteThemesModel", "laysNow", "()I"⟩, 15) := ⟨⟨by decide +kernel, by decide +kernel⟩, List.mem_of_getElem? (i := 565) (by decide +kernel), List.mem_of_getElem? (i := 682) (by decide +kernel), List.mem_of_getElem? (i := 683) (by decide +kernel)⟩
theorem lw_p36 : lw_okq (⟨"NoteThemesModel", "laysHeaps", "(II)I"⟩, 15) := ⟨⟨by decide +kernel, by decide +kernel⟩, List.mem_of_getElem? (i := 565) (by decide +kernel), List.mem_of_getElem? (i := 686) (by decide +kernel), List.mem_of_getElem? (i := 687) (by decide +kernel)⟩
theorem lw_p37 : lw_okq (⟨"NoteThemesModel", "spreads", "(III)I"⟩, 15) := ⟨⟨by decide +kernel, by decide +kernel⟩, List.mem_of_getElem? (i := 565) (by decide +kernel), List.mem_of_getElem? (i := 690) (by decide +kernel), List.mem_of_getElem? (i := 691) (by decide +kernel)⟩
theorem lw_p38 : lw_okq (⟨"NoteThemesModel", "distance", "(II)I"⟩, 15) := ⟨⟨by decide +kernel, by decide +kernel⟩, List.mem_of_getElem? (i := 565) (by decide +kernel), List.mem_of_getElem? (i := 694) (by decide +kernel), List.mem_of_getElem? (i := 695) (by decide +kernel)⟩
theorem lw_p39 : lw_okq (⟨"NoteThemesModel", "canDrag", "(III)Z"⟩, 15) := ⟨⟨by decide +kernel, by decide +kernel⟩, List.mem_of_getElem? (i := 565) (by decide +kernel), List.mem_of_getElem? (i := 705) (by decide +kernel), List.mem_of_getElem? (i := 706) (by decide +kernel)⟩
theorem lw_p40 : lw_okq (⟨"NoteThemesModel", "stuckBy", "(I)I"⟩, 15) := ⟨⟨by decide +kernel, by decide +kernel⟩, List.mem_of_getElem? (i := 565) (by decide +kernel), List.mem_of_getElem? (i := 716) (by decide +kernel), List.mem_of_getElem? (i := 717) (by decide +kernel)⟩
theorem lw_p41 : lw_okq (⟨"NoteThemesModel", "without", "(I)I"⟩, 15) := ⟨⟨by decide +kernel, by decide +kernel⟩, List.mem_of_getElem? (i := 565) (by decide +kernel), List.mem_of_getElem? (i := 728) (by decide +kernel), List.mem_of_getElem? (i := 729) (by decide +kernel)⟩
theorem lw_p42 : lw_okq (⟨"NoteThemesModel", "isTheme", "(I)Z"⟩, 15) := ⟨⟨by decide +kernel, by decide +kernel⟩, List.mem_of_getElem? (i := 565) (by decide +kernel), List.mem_of_getElem? (i := 736) (by decide +kernel), List.mem_of_getElem? (i := 737) (by decide +kernel)⟩
theorem lw_p43 : lw_okq (⟨"NoteThemesModel", "voteOf", "(II)I"⟩, 15) := ⟨⟨by decide +kernel, by decide +kernel⟩, List.mem_of_getElem? (i := 565) (by decide +kernel), List.mem_of_getElem? (i := 748) (by decide +kernel), List.mem_of_getElem? (i := 749) (by decide +kernel)⟩
theorem lw_p44 : lw_okq (⟨"NoteThemesModel", "nameOf", "(I)I"⟩, 15) := ⟨⟨by decide +kernel, by decide +kernel⟩, List.mem_of_getElem? (i := 565) (by decide +kernel), List.mem_of_getElem? (i := 752) (by decide +kernel), List.mem_of_getElem? (i := 753) (by decide +kernel)⟩
theorem lw_p45 : lw_okq (⟨"NoteThemesModel", "votesFor", "(II)I"⟩, 15) := ⟨⟨by decide +kernel, by decide +kernel⟩, List.mem_of_getElem? (i := 565) (by decide +kernel), List.mem_of_getElem? (i := 756) (by decide +kernel), List.mem_of_getElem? (i := 757) (by decide +kernel)⟩
theorem lw_p46 : lw_okq (⟨"NoteThemesModel", "isBoard", "()Z"⟩, 15) := ⟨⟨by decide +kernel, by decide +kernel⟩, List.mem_of_getElem? (i := 565) (by decide +kernel), List.mem_of_getElem? (i := 776) (by decide +kernel), List.mem_of_getElem? (i := 777) (by decide +kernel)⟩
theorem lw_p47 : lw_okq (⟨"NoteThemesModel", "takesNote", "()Z"⟩, 15) := ⟨⟨by decide +kernel, by decide +kernel⟩, List.mem_of_getElem? (i := 565) (by decide +kernel), List.mem_of_getElem? (i := 780) (by decide +kernel), List.mem_of_getElem? (i := 781) (by decide +kernel)⟩
def lw_privs_3 : List (MethodName × Nat) := [(⟨"NoteThemesModel", "notesOf", "(I)I"⟩, 15), (⟨"NoteThemesModel", "dropsTheme", "(I)V"⟩, 15), (⟨"NoteThemesModel", "comes", "(III)V"⟩, 15), (⟨"NoteThemesModel", "laysNow", "()I"⟩, 15), (⟨"NoteThemesModel", "laysHeaps", "(II)I"⟩, 15), (⟨"NoteThemesModel", "spreads", "(III)I"⟩, 15), (⟨"NoteThemesModel", "distance", "(II)I"⟩, 15), (⟨"NoteThemesModel", "canDrag", "(III)Z"⟩, 15), (⟨"NoteThemesModel", "stuckBy", "(I)I"⟩, 15), (⟨"NoteThemesModel", "without", "(I)I"⟩, 15), (⟨"NoteThemesModel", "isTheme", "(I)Z"⟩, 15), (⟨"NoteThemesModel", "voteOf", "(II)I"⟩, 15), (⟨"NoteThemesModel", "nameOf", "(I)I"⟩, 15), (⟨"NoteThemesModel", "votesFor", "(II)I"⟩, 15), (⟨"NoteThemesModel", "isBoard", "()Z"⟩, 15), (⟨"NoteThemesModel", "takesNote", "()Z"⟩, 15)]
theorem lw_r3 : ∀ q ∈ lw_privs_3, lw_okq q := List.forall_mem_cons.mpr ⟨lw_p32, List.forall_mem_cons.mpr ⟨lw_p33, List.forall_mem_cons.mpr ⟨lw_p34, List.forall_mem_cons.mpr ⟨lw_p35, List.forall_mem_cons.mpr ⟨lw_p36, List.forall_mem_cons.mpr ⟨lw_p37, List.forall_mem_cons.mpr ⟨lw_p38, List.forall_mem_cons.mpr ⟨lw_p39, List.forall_mem_cons.mpr ⟨lw_p40, List.forall_mem_cons.mpr ⟨lw_p41, List.forall_mem_cons.mpr ⟨lw_p42, List.forall_mem_cons.mpr ⟨lw_p43, List.forall_mem_cons.mpr ⟨lw_p44, List.forall_mem_cons.mpr ⟨lw_p45, List.forall_mem_cons.mpr ⟨lw_p46, List.forall_mem_cons.mpr ⟨lw_p47, fun _ h => absurd h List.not_mem_nil⟩⟩⟩⟩⟩⟩⟩⟩⟩⟩⟩⟩⟩⟩⟩⟩
theorem lw_p48 : lw_okq (⟨"NoteThemesModel", "number", "(I)I"⟩, 15) := ⟨⟨by decide +kernel, by decide +kernel⟩, List.mem_of_getElem? (i := 565) (by decide +kernel), List.mem_of_getElem? (i := 784) (by decide +kernel), List.mem_of_getElem? (i := 785) (by decide +kernel)⟩
theorem lw_p49 : lw_okq (⟨"NoteThemesModel", "here", "()I"⟩, 15) := ⟨⟨by decide +kernel, by decide +kernel⟩, List.mem_of_getElem? (i := 565) (by decide +kernel), List.mem_of_getElem? (i := 788) (by decide +kernel), List.mem_of_getElem? (i := 789) (by decide +kernel)⟩
theorem lw_p50 : lw_okq (⟨"NoteThemesModel", "takes", "(I)Z"⟩, 15) := ⟨⟨by decide +kernel, by decide +kernel⟩, List.mem_of_getElem? (i := 565) (by decide +kernel), List.mem_of_getElem? (i := 792) (by decide +kernel), List.mem_of_getElem? (i := 793) (by decide +kernel)⟩
theorem lw_p51 : lw_okq (⟨"NoteThemesModel", "heapNow", "(I)I"⟩, 15) := ⟨⟨by decide +kernel, by decide +kernel⟩, List.mem_of_getElem? (i := 565) (by decide +kernel), List.mem_of_getElem? (i := 812) (by decide +kernel), List.mem_of_getElem? (i := 813) (by decide +kernel)⟩
theorem lw_p52 : lw_okq (⟨"NoteThemesModel", "near", "(I)I"⟩, 15) := ⟨⟨by decide +kernel, by decide +kernel⟩, List.mem_of_getElem? (i := 565) (by decide +kernel), List.mem_of_getElem? (i := 816) (by decide +kernel), List.mem_of_getElem? (i := 817) (by decide +kernel)⟩
theorem lw_p53 : lw_okq (⟨"NoteThemesModel", "holdsTogether", "(I)I"⟩, 15) := ⟨⟨by decide +kernel, by decide +kernel⟩, List.mem_of_getElem? (i := 565) (by decide +kernel), List.mem_of_getElem? (i := 820) (by decide +kernel), List.mem_of_getElem? (i := 821) (by decide +kernel)⟩
theorem lw_p54 : lw_okq (⟨"NoteThemesModel", "notesIn", "(I)I"⟩, 15) := ⟨⟨by decide +kernel, by decide +kernel⟩, List.mem_of_getElem? (i := 565) (by decide +kernel), List.mem_of_getElem? (i := 824) (by decide +kernel), List.mem_of_getElem? (i := 825) (by decide +kernel)⟩
theorem lw_p55 : lw_okq (⟨"NoteThemesModel", "lowestOf", "(I)I"⟩, 15) := ⟨⟨by decide +kernel, by decide +kernel⟩, List.mem_of_getElem? (i := 565) (by decide +kernel), List.mem_of_getElem? (i := 836) (by decide +kernel), List.mem_of_getElem? (i := 837) (by decide +kernel)⟩
theorem lw_p56 : lw_okq (⟨"NoteThemesModel", "dotsIn", "(I)I"⟩, 15) := ⟨⟨by decide +kernel, by decide +kernel⟩, List.mem_of_getElem? (i := 565) (by decide +kernel), List.mem_of_getElem? (i := 840) (by decide +kernel), List.mem_of_getElem? (i := 841) (by decide +kernel)⟩
theorem lw_p57 : lw_okq (⟨"NoteThemesModel", "themesIn", "(I)I"⟩, 15) := ⟨⟨by decide +kernel, by decide +kernel⟩, List.mem_of_getElem? (i := 565) (by decide +kernel), List.mem_of_getElem? (i := 844) (by decide +kernel), List.mem_of_getElem? (i := 845) (by decide +kernel)⟩
theorem lw_p58 : lw_okq (⟨"NoteThemesModel", "middleOf", "(I)I"⟩, 15) := ⟨⟨by decide +kernel, by decide +kernel⟩, List.mem_of_getElem? (i := 565) (by decide +kernel), List.mem_of_getElem? (i := 848) (by decide +kernel), List.mem_of_getElem? (i := 849) (by decide +kernel)⟩
theorem lw_p59 : lw_okq (⟨"NoteThemesModel", "widthOf", "(I)I"⟩, 15) := ⟨⟨by decide +kernel, by decide +kernel⟩, List.mem_of_getElem? (i := 565) (by decide +kernel), List.mem_of_getElem? (i := 852) (by decide +kernel), List.mem_of_getElem? (i := 853) (by decide +kernel)⟩
theorem lw_p60 : lw_okq (⟨"NoteThemesModel", "dotsOfTheme", "(I)I"⟩, 15) := ⟨⟨by decide +kernel, by decide +kernel⟩, List.mem_of_getElem? (i := 565) (by decide +kernel), List.mem_of_getElem? (i := 860) (by decide +kernel), List.mem_of_getElem? (i := 861) (by decide +kernel)⟩
theorem lw_p61 : lw_okq (⟨"NoteThemesModel", "rankOf", "(I)I"⟩, 15) := ⟨⟨by decide +kernel, by decide +kernel⟩, List.mem_of_getElem? (i := 565) (by decide +kernel), List.mem_of_getElem? (i := 864) (by decide +kernel), List.mem_of_getElem? (i := 865) (by decide +kernel)⟩
theorem lw_p62 : lw_okq (⟨"NoteThemesModel", "heapsOfTheme", "(I)I"⟩, 15) := ⟨⟨by decide +kernel, by decide +kernel⟩, List.mem_of_getElem? (i := 565) (by decide +kernel), List.mem_of_getElem? (i := 868) (by decide +kernel), List.mem_of_getElem? (i := 869) (by decide +kernel)⟩
theorem lw_p63 : lw_okq (⟨"NoteThemesModel", "voted", "(I)I"⟩, 15) := ⟨⟨by decide +kernel, by decide +kernel⟩, List.mem_of_getElem? (i := 565) (by decide +kernel), List.mem_of_getElem? (i := 872) (by decide +kernel), List.mem_of_getElem? (i := 873) (by decide +kernel)⟩
def lw_privs_4 : List (MethodName × Nat) := [(⟨"NoteThemesModel", "number", "(I)I"⟩, 15), (⟨"NoteThemesModel", "here", "()I"⟩, 15), (⟨"NoteThemesModel", "takes", "(I)Z"⟩, 15), (⟨"NoteThemesModel", "heapNow", "(I)I"⟩, 15), (⟨"NoteThemesModel", "near", "(I)I"⟩, 15), (⟨"NoteThemesModel", "holdsTogether", "(I)I"⟩, 15), (⟨"NoteThemesModel", "notesIn", "(I)I"⟩, 15), (⟨"NoteThemesModel", "lowestOf", "(I)I"⟩, 15), (⟨"NoteThemesModel", "dotsIn", "(I)I"⟩, 15), (⟨"NoteThemesModel", "themesIn", "(I)I"⟩, 15), (⟨"NoteThemesModel", "middleOf", "(I)I"⟩, 15), (⟨"NoteThemesModel", "widthOf", "(I)I"⟩, 15), (⟨"NoteThemesModel", "dotsOfTheme", "(I)I"⟩, 15), (⟨"NoteThemesModel", "rankOf", "(I)I"⟩, 15), (⟨"NoteThemesModel", "heapsOfTheme", "(I)I"⟩, 15), (⟨"NoteThemesModel", "voted", "(I)I"⟩, 15)]
theorem lw_r4 : ∀ q ∈ lw_privs_4, lw_okq q := List.forall_mem_cons.mpr ⟨lw_p48, List.forall_mem_cons.mpr ⟨lw_p49, List.forall_mem_cons.mpr ⟨lw_p50, List.forall_mem_cons.mpr ⟨lw_p51, List.forall_mem_cons.mpr ⟨lw_p52, List.forall_mem_cons.mpr ⟨lw_p53, List.forall_mem_cons.mpr ⟨lw_p54, List.forall_mem_cons.mpr ⟨lw_p55, List.forall_mem_cons.mpr ⟨lw_p56, List.forall_mem_cons.mpr ⟨lw_p57, List.forall_mem_cons.mpr ⟨lw_p58, List.forall_mem_cons.mpr ⟨lw_p59, List.forall_mem_cons.mpr ⟨lw_p60, List.forall_mem_cons.mpr ⟨lw_p61, List.forall_mem_cons.mpr ⟨lw_p62, List.forall_mem_cons.mpr ⟨lw_p63, fun _ h => absurd h List.not_mem_nil⟩⟩⟩⟩⟩⟩⟩⟩⟩⟩⟩⟩⟩⟩⟩⟩
theorem lw_p64 : lw_okq (⟨"NoteThemesModel", "stuck", "()I"⟩, 15) := ⟨⟨by decide +kernel, by decide +kernel⟩, List.mem_of_getElem? (i := 565) (by decide +kernel), List.mem_of_getElem? (i := 896) (by decide +kernel), List.mem_of_getElem? (i := 897) (by decide +kernel)⟩
theorem lw_p65 : lw_okq (⟨"NoteThemesModel", "left", "()I"⟩, 15) := ⟨⟨by decide +kernel, by decide +kernel⟩, List.mem_of_getElem? (i := 565) (by decide +kernel), List.mem_of_getElem? (i := 900) (by decide +kernel), List.mem_of_getElem? (i := 901) (by decide +kernel)⟩
theorem lw_p66 : lw_okq (⟨"NoteThemesModel", "named", "()I"⟩, 15) := ⟨⟨by decide +kernel, by decide +kernel⟩, List.mem_of_getElem? (i := 565) (by decide +kernel), List.mem_of_getElem? (i := 904) (by decide +kernel), List.mem_of_getElem? (i := 905) (by decide +kernel)⟩
theorem lw_p67 : lw_okq (⟨"NoteThemesModel", "alone", "()I"⟩, 15) := ⟨⟨by decide +kernel, by decide +kernel⟩, List.mem_of_getElem? (i := 565) (by decide +kernel), List.mem_of_getElem? (i := 908) (by decide +kernel), List.mem_of_getElem? (i := 909) (by decide +kernel)⟩
def lw_privs_5 : List (MethodName × Nat) := [(⟨"NoteThemesModel", "stuck", "()I"⟩, 15), (⟨"NoteThemesModel", "left", "()I"⟩, 15), (⟨"NoteThemesModel", "named", "()I"⟩, 15), (⟨"NoteThemesModel", "alone", "()I"⟩, 15)]
theorem lw_r5 : ∀ q ∈ lw_privs_5, lw_okq q := List.forall_mem_cons.mpr ⟨lw_p64, List.forall_mem_cons.mpr ⟨lw_p65, List.forall_mem_cons.mpr ⟨lw_p66, List.forall_mem_cons.mpr ⟨lw_p67, fun _ h => absurd h List.not_mem_nil⟩⟩⟩⟩
def lw_privs : List (MethodName × Nat) := lw_privs_1 ++ (lw_privs_2 ++ (lw_privs_3 ++ (lw_privs_4 ++ (lw_privs_5))))
def lw_tbl : List Cond := k2_sels lw_privs ++ tables_1
theorem lw_privs_ok : ∀ q ∈ lw_privs, lw_okq q := by
  show ∀ q ∈ lw_privs_1 ++ (lw_privs_2 ++ (lw_privs_3 ++ (lw_privs_4 ++ (lw_privs_5)))), lw_okq q
  exact List.forall_mem_append.mpr ⟨lw_r1, List.forall_mem_append.mpr ⟨lw_r2, List.forall_mem_append.mpr ⟨lw_r3, List.forall_mem_append.mpr ⟨lw_r4, lw_r5⟩⟩⟩⟩
end
section
/-! ===== BEGIN words of one list among another's, by their places ===== -/
theorem goodIn_r {big : List Cond} (ws : List Cond) (ps : List Nat) (hp : ws = ps.filterMap (fun i => big[i]?)) (h : ws.all goodWord = true) : GoodIn big ws := by
  intro w hw
  have h1 := List.all_eq_true.mp h w hw
  rw [hp] at hw
  obtain ⟨i, -, hi⟩ := List.mem_filterMap.mp hw
  have hm : w ∈ big := by first | exact List.mem_of_getElem? hi | exact List.getElem?_mem hi
  exact ⟨hm, good_of_word h1⟩
theorem goodIn_app {big a b : List Cond} (ha : GoodIn big a) (hb : GoodIn big b) : GoodIn big (a ++ b) := fun w h => (List.mem_append.mp h).elim (ha w) (hb w)
theorem goodIn_ca {big a b : List Cond} {c : Cond} (ha : GoodIn big (c :: a)) (hb : GoodIn big b) : GoodIn big (c :: (a ++ b)) := fun w h => (List.mem_cons.mp h).elim (fun e => ha w (List.mem_cons.mpr (Or.inl e))) (fun h => (List.mem_append.mp h).elim (fun h => ha w (List.mem_cons.mpr (Or.inr h))) (hb w))
theorem goodIn_sub {big ws : List Cond} (hm : ∀ w ∈ ws, w ∈ big) (h : ws.all goodWord = true) : GoodIn big ws := fun w hw => ⟨hm w hw, good_of_word (List.all_eq_true.mp h w hw)⟩
/-! ===== END ===== -/

/-! ===== BEGIN printed: names, fields, word lists, decode rows ===== -/
def RX0 : String := "NoteThemes$Board"
def TX0 : u_T := fun k => match k with
  | 0 => ("NoteThemes$Board", "notes", "I", false)
  | 1 => ("NoteThemes$Board", "columnOf", "[I", true)
  | 2 => ("NoteThemes$Board", "rowOf", "[I", true)
  | 3 => ("NoteThemes$Board", "themeOf", "[I", true)
  | 4 => ("NoteThemes$Board", "dotsAt", "[I", true)
  | 5 => ("NoteThemes$Board", "themes", "I", false)
  | 6 => ("NoteThemes$Board", "votedAt", "[I", true)
  | _ => ("NoteThemes$Board", "settings", "[I", true)
def tyX0 : Nat → FieldType := fun k => match k with
  | 0 => .int
  | 1 => .array .int
  | 2 => .array .int
  | 3 => .array .int
  | 4 => .array .int
  | 5 => .int
  | 6 => .array .int
  | _ => .array .int
abbrev wsX00 : List Cond := u_ws RX0 TX0 8
theorem nmX0 : ∀ a, a < 8 → ∀ b, b < 8 → a ≠ b → (TX0 a).2.1 ≠ (TX0 b).2.1 := by decide +kernel
theorem tyX0_ok : ∀ k, k < 8 → parseFieldDescriptor (TX0 k).2.2.1 = some (tyX0 k) := by decide +kernel
abbrev cX0_init : ByteArray := prog_2_method_1_code
def yX0_init : MethodName := ⟨RX0, "<init>", "()V"⟩
abbrev cX0_copyFrom : ByteArray := prog_2_method_2_code
def yX0_copyFrom : MethodName := ⟨RX0, "copyFrom", "(LNoteThemes$Board;)V"⟩
abbrev cX0_removeAll : ByteArray := prog_2_method_3_code
def yX0_removeAll : MethodName := ⟨RX0, "removeAll", "()V"⟩
abbrev cX0_hasNote : ByteArray := prog_2_method_4_code
def yX0_hasNote : MethodName := ⟨RX0, "hasNote", "(I)Z"⟩
abbrev cX0_hasTheme : ByteArray := prog_2_method_5_code
def yX0_hasTheme : MethodName := ⟨RX0, "hasTheme", "(I)Z"⟩
abbrev cX0_addNote : ByteArray := prog_2_method_6_code
def yX0_addNote : MethodName := ⟨RX0, "addNote", "(II)V"⟩
abbrev cX0_moveNote : ByteArray := prog_2_method_7_code
def yX0_moveNote : MethodName := ⟨RX0, "moveNote", "(III)V"⟩
abbrev cX0_removeNote : ByteArray := prog_2_method_8_code
def yX0_removeNote : MethodName := ⟨RX0, "removeNote", "(I)V"⟩
abbrev cX0_copyNote : ByteArray := prog_2_method_9_code
def yX0_copyNote : MethodName := ⟨RX0, "copyNote", "(II)V"⟩
abbrev cX0_distance : ByteArray := prog_2_method_10_code
def yX0_distance : MethodName := ⟨RX0, "distance", "(II)I"⟩
abbrev cX0_notesNear : ByteArray := prog_2_method_11_code
def yX0_notesNear : MethodName := ⟨RX0, "notesNear", "(I)I"⟩
abbrev cX0_dotsOfPerson : ByteArray := prog_2_method_12_code
def yX0_dotsOfPerson : MethodName := ⟨RX0, "dotsOfPerson", "(II)I"⟩
abbrev cX0_addDots : ByteArray := prog_2_method_13_code
def yX0_addDots : MethodName := ⟨RX0, "addDots", "(III)V"⟩
abbrev cX0_dotsOn : ByteArray := prog_2_method_14_code
def yX0_dotsOn : MethodName := ⟨RX0, "dotsOn", "(I)I"⟩
abbrev cX0_dotsLeft : ByteArray := prog_2_method_15_code
def yX0_dotsLeft : MethodName := ⟨RX0, "dotsLeft", "(I)I"⟩
abbrev cX0_hasMostDots : ByteArray := prog_2_method_16_code
def yX0_hasMostDots : MethodName := ⟨RX0, "hasMostDots", "(II)Z"⟩
abbrev cX0_allDotsStuck : ByteArray := prog_2_method_17_code
def yX0_allDotsStuck : MethodName := ⟨RX0, "allDotsStuck", "()I"⟩
abbrev cX0_allDotsLeft : ByteArray := prog_2_method_18_code
def yX0_allDotsLeft : MethodName := ⟨RX0, "allDotsLeft", "()I"⟩
abbrev cX0_addTheme : ByteArray := prog_2_method_19_code
def yX0_addTheme : MethodName := ⟨RX0, "addTheme", "()I"⟩
abbrev cX0_mergeThemes : ByteArray := prog_2_method_20_code
def yX0_mergeThemes : MethodName := ⟨RX0, "mergeThemes", "(II)V"⟩
abbrev cX0_removeThemeIfEmpty : ByteArray := prog_2_method_21_code
def yX0_removeThemeIfEmpty : MethodName := ⟨RX0, "removeThemeIfEmpty", "(I)V"⟩
abbrev cX0_notesOfTheme : ByteArray := prog_2_method_22_code
def yX0_notesOfTheme : MethodName := ⟨RX0, "notesOfTheme", "(I)I"⟩
abbrev cX0_dotsOfTheme : ByteArray := prog_2_method_23_code
def yX0_dotsOfTheme : MethodName := ⟨RX0, "dotsOfTheme", "(I)I"⟩
abbrev cX0_voteOf : ByteArray := prog_2_method_24_code
def yX0_voteOf : MethodName := ⟨RX0, "voteOf", "(II)I"⟩
abbrev cX0_setVote : ByteArray := prog_2_method_25_code
def yX0_setVote : MethodName := ⟨RX0, "setVote", "(III)V"⟩
abbrev cX0_votesFor : ByteArray := prog_2_method_26_code
def yX0_votesFor : MethodName := ⟨RX0, "votesFor", "(II)I"⟩
abbrev cX0_votersOf : ByteArray := prog_2_method_27_code
def yX0_votersOf : MethodName := ⟨RX0, "votersOf", "(I)I"⟩
def RX1 : String := "NoteThemes$BoardText"
def TX1 : u_T := fun k => match k with
  | 0 => ("NoteThemes$BoardText", "board", "LNoteThemes$Board;", true)
  | 1 => ("NoteThemes$BoardText", "notesRead", "I", false)
  | 2 => ("NoteThemes$BoardText", "part", "I", false)
  | 3 => ("NoteThemes$BoardText", "number", "I", false)
  | _ => ("NoteThemes$BoardText", "column", "I", false)
def tyX1 : Nat → FieldType := fun k => match k with
  | 0 => .object "NoteThemes$Board"
  | 1 => .int
  | 2 => .int
  | 3 => .int
  | _ => .int
abbrev wsX10 : List Cond := u_ws RX1 TX1 5
theorem nmX1 : ∀ a, a < 5 → ∀ b, b < 5 → a ≠ b → (TX1 a).2.1 ≠ (TX1 b).2.1 := by decide +kernel
theorem tyX1_ok : ∀ k, k < 5 → parseFieldDescriptor (TX1 k).2.2.1 = some (tyX1 k) := by decide +kernel
abbrev cX1_init : ByteArray := prog_3_method_1_code
def yX1_init : MethodName := ⟨RX1, "<init>", "(LNoteThemes$Board;)V"⟩
abbrev cX1_findFault : ByteArray := prog_3_method_2_code
def yX1_findFault : MethodName := ⟨RX1, "findFault", "([CI)I"⟩
abbrev cX1_beginNumber : ByteArray := prog_3_method_3_code
def yX1_beginNumber : MethodName := ⟨RX1, "beginNumber", "(I)V"⟩
abbrev cX1_takes : ByteArray := prog_3_method_4_code
def yX1_takes : MethodName := ⟨RX1, "takes", "(C)Z"⟩
abbrev cX1_takesDigit : ByteArray := prog_3_method_5_code
def yX1_takesDigit : MethodName := ⟨RX1, "takesDigit", "(I)Z"⟩
abbrev cX1_takesComma : ByteArray := prog_3_method_6_code
def yX1_takesComma : MethodName := ⟨RX1, "takesComma", "()Z"⟩
abbrev cX1_takesSemicolon : ByteArray := prog_3_method_7_code
def yX1_takesSemicolon : MethodName := ⟨RX1, "takesSemicolon", "()Z"⟩
abbrev cX1_endsNote : ByteArray := prog_3_method_8_code
def yX1_endsNote : MethodName := ⟨RX1, "endsNote", "()Z"⟩
abbrev cX1_takesStar : ByteArray := prog_3_method_9_code
def yX1_takesStar : MethodName := ⟨RX1, "takesStar", "()Z"⟩
def RX2 : String := "NoteThemes$Heaps"
def TX2 : u_T := fun k => match k with
  | 0 => ("NoteThemes$Heaps", "number", "I", false)
  | 1 => ("NoteThemes$Heaps", "notes", "I", false)
  | 2 => ("NoteThemes$Heaps", "heapOf", "[I", true)
  | _ => ("NoteThemes$Heaps", "lowestOf", "[I", true)
def tyX2 : Nat → FieldType := fun k => match k with
  | 0 => .int
  | 1 => .int
  | 2 => .array .int
  | _ => .array .int
abbrev wsX20 : List Cond := u_ws RX2 TX2 4
theorem nmX2 : ∀ a, a < 4 → ∀ b, b < 4 → a ≠ b → (TX2 a).2.1 ≠ (TX2 b).2.1 := by decide +kernel
theorem tyX2_ok : ∀ k, k < 4 → parseFieldDescriptor (TX2 k).2.2.1 = some (tyX2 k) := by decide +kernel
abbrev cX2_init : ByteArray := prog_4_method_1_code
def yX2_init : MethodName := ⟨RX2, "<init>", "()V"⟩
abbrev cX2_find : ByteArray := prog_4_method_2_code
def yX2_find : MethodName := ⟨RX2, "find", "(LNoteThemes$Board;I)I"⟩
abbrev cX2_join : ByteArray := prog_4_method_3_code
def yX2_join : MethodName := ⟨RX2, "join", "(II)V"⟩
abbrev cX2_numberThem : ByteArray := prog_4_method_4_code
def yX2_numberThem : MethodName := ⟨RX2, "numberThem", "()V"⟩
abbrev cX2_has : ByteArray := prog_4_method_5_code
def yX2_has : MethodName := ⟨RX2, "has", "(I)Z"⟩
abbrev cX2_notesIn : ByteArray := prog_4_method_6_code
def yX2_notesIn : MethodName := ⟨RX2, "notesIn", "(I)I"⟩
abbrev cX2_lowestNoteIn : ByteArray := prog_4_method_7_code
def yX2_lowestNoteIn : MethodName := ⟨RX2, "lowestNoteIn", "(I)I"⟩
abbrev cX2_dotsIn : ByteArray := prog_4_method_8_code
def yX2_dotsIn : MethodName := ⟨RX2, "dotsIn", "(ILNoteThemes$Board;)I"⟩
abbrev cX2_freeNotesIn : ByteArray := prog_4_method_9_code
def yX2_freeNotesIn : MethodName := ⟨RX2, "freeNotesIn", "(ILNoteThemes$Board;)I"⟩
abbrev cX2_middleOf : ByteArray := prog_4_method_10_code
def yX2_middleOf : MethodName := ⟨RX2, "middleOf", "(ILNoteThemes$Board;)I"⟩
abbrev cX2_distancesTo : ByteArray := prog_4_method_11_code
def yX2_distancesTo : MethodName := ⟨RX2, "distancesTo", "(ILNoteThemes$Board;)I"⟩
abbrev cX2_widthOf : ByteArray := prog_4_method_12_code
def yX2_widthOf : MethodName := ⟨RX2, "widthOf", "(ILNoteThemes$Board;)I"⟩
def RX3 : String := "NoteThemes$History"
def TX3 : u_T := fun k => match k with
  | 0 => ("NoteThemes$History", "states", "I", false)
  | _ => ("NoteThemes$History", "kept", "[LNoteThemes$Board;", true)
def tyX3 : Nat → FieldType := fun k => match k with
  | 0 => .int
  | _ => .array (.object "NoteThemes$Board")
abbrev wsX30 : List Cond := u_ws RX3 TX3 2
theorem nmX3 : ∀ a, a < 2 → ∀ b, b < 2 → a ≠ b → (TX3 a).2.1 ≠ (TX3 b).2.1 := by decide +kernel
theorem tyX3_ok : ∀ k, k < 2 → parseFieldDescriptor (TX3 k).2.2.1 = some (tyX3 k) := by decide +kernel
abbrev cX3_init : ByteArray := prog_5_method_1_code
def yX3_init : MethodName := ⟨RX3, "<init>", "()V"⟩
abbrev cX3_remember : ByteArray := prog_5_method_2_code
def yX3_remember : MethodName := ⟨RX3, "remember", "(LNoteThemes$Board;)V"⟩
abbrev cX3_dropOldest : ByteArray := prog_5_method_3_code
def yX3_dropOldest : MethodName := ⟨RX3, "dropOldest", "()V"⟩
abbrev cX3_takeBack : ByteArray := prog_5_method_4_code
def yX3_takeBack : MethodName := ⟨RX3, "takeBack", "(LNoteThemes$Board;)V"⟩
def RX4 : String := "NoteThemes$Names"
def TX4 : u_T := fun k => match k with
  | _ => ("NoteThemes$Names", "nameOf", "[I", true)
def tyX4 : Nat → FieldType := fun k => match k with
  | _ => .array .int
abbrev wsX40 : List Cond := u_ws RX4 TX4 1
theorem nmX4 : ∀ a, a < 1 → ∀ b, b < 1 → a ≠ b → (TX4 a).2.1 ≠ (TX4 b).2.1 := by decide +kernel
theorem tyX4_ok : ∀ k, k < 1 → parseFieldDescriptor (TX4 k).2.2.1 = some (tyX4 k) := by decide +kernel
abbrev cX4_init : ByteArray := prog_6_method_1_code
def yX4_init : MethodName := ⟨RX4, "<init>", "()V"⟩
abbrev cX4_choose : ByteArray := prog_6_method_2_code
def yX4_choose : MethodName := ⟨RX4, "choose", "(LNoteThemes$Board;)I"⟩
abbrev cX4_bestName : ByteArray := prog_6_method_3_code
def yX4_bestName : MethodName := ⟨RX4, "bestName", "(LNoteThemes$Board;I)I"⟩
abbrev cX4_isTaken : ByteArray := prog_6_method_4_code
def yX4_isTaken : MethodName := ⟨RX4, "isTaken", "(II)Z"⟩
def RX5 : String := "NoteThemes"
def TX5 : u_T := fun k => match k with
  | 0 => ("NoteThemes", "board", "LNoteThemes$Board;", true)
  | 1 => ("NoteThemes", "history", "LNoteThemes$History;", true)
  | 2 => ("NoteThemes", "snapshot", "LNoteThemes$Board;", true)
  | 3 => ("NoteThemes", "hasSnapshot", "Z", false)
  | 4 => ("NoteThemes", "text", "[C", true)
  | 5 => ("NoteThemes", "textLength", "I", false)
  | 6 => ("NoteThemes", "trial", "LNoteThemes$Board;", true)
  | 7 => ("NoteThemes", "heapsNow", "LNoteThemes$Heaps;", true)
  | 8 => ("NoteThemes", "heapsThen", "LNoteThemes$Heaps;", true)
  | 9 => ("NoteThemes", "names", "LNoteThemes$Names;", true)
  | _ => ("NoteThemes", "boardText", "LNoteThemes$BoardText;", true)
def tyX5 : Nat → FieldType := fun k => match k with
  | 0 => .object "NoteThemes$Board"
  | 1 => .object "NoteThemes$History"
  | 2 => .object "NoteThemes$Board"
  | 3 => .boolean
  | 4 => .array .char
  | 5 => .int
  | 6 => .object "NoteThemes$Board"
  | 7 => .object "NoteThemes$Heaps"
  | 8 => .object "NoteThemes$Heaps"
  | 9 => .object "NoteThemes$Names"
  | _ => .object "NoteThemes$BoardText"
abbrev wsX50 : List Cond := u_ws RX5 TX5 11
theorem nmX5 : ∀ a, a < 11 → ∀ b, b < 11 → a ≠ b → (TX5 a).2.1 ≠ (TX5 b).2.1 := by decide +kernel
theorem tyX5_ok : ∀ k, k < 11 → parseFieldDescriptor (TX5 k).2.2.1 = some (tyX5 k) := by decide +kernel
abbrev cX5_init : ByteArray := prog_1_method_1_code
def yX5_init : MethodName := ⟨RX5, "<init>", "()V"⟩
abbrev cX5_put : ByteArray := prog_1_method_2_code
def yX5_put : MethodName := ⟨RX5, "put", "(II)I"⟩
abbrev cX5_load : ByteArray := prog_1_method_3_code
def yX5_load : MethodName := ⟨RX5, "load", "()I"⟩
abbrev cX5_takeOff : ByteArray := prog_1_method_4_code
def yX5_takeOff : MethodName := ⟨RX5, "takeOff", "(I)I"⟩
abbrev cX5_drag : ByteArray := prog_1_method_5_code
def yX5_drag : MethodName := ⟨RX5, "drag", "(III)I"⟩
abbrev cX5_dragHeap : ByteArray := prog_1_method_6_code
def yX5_dragHeap : MethodName := ⟨RX5, "dragHeap", "(III)I"⟩
abbrev cX5_stick : ByteArray := prog_1_method_7_code
def yX5_stick : MethodName := ⟨RX5, "stick", "(II)I"⟩
abbrev cX5_unstick : ByteArray := prog_1_method_8_code
def yX5_unstick : MethodName := ⟨RX5, "unstick", "(II)I"⟩
abbrev cX5_make : ByteArray := prog_1_method_9_code
def yX5_make : MethodName := ⟨RX5, "make", "(I)I"⟩
abbrev cX5_merge : ByteArray := prog_1_method_10_code
def yX5_merge : MethodName := ⟨RX5, "merge", "(II)I"⟩
abbrev cX5_belong : ByteArray := prog_1_method_11_code
def yX5_belong : MethodName := ⟨RX5, "belong", "(II)I"⟩
abbrev cX5_vote : ByteArray := prog_1_method_12_code
def yX5_vote : MethodName := ⟨RX5, "vote", "(III)I"⟩
abbrev cX5_set : ByteArray := prog_1_method_13_code
def yX5_set : MethodName := ⟨RX5, "set", "(II)I"⟩
abbrev cX5_type : ByteArray := prog_1_method_14_code
def yX5_type : MethodName := ⟨RX5, "type", "(C)I"⟩
abbrev cX5_clearText : ByteArray := prog_1_method_15_code
def yX5_clearText : MethodName := ⟨RX5, "clearText", "()I"⟩
abbrev cX5_undo : ByteArray := prog_1_method_16_code
def yX5_undo : MethodName := ⟨RX5, "undo", "()I"⟩
abbrev cX5_keep : ByteArray := prog_1_method_17_code
def yX5_keep : MethodName := ⟨RX5, "keep", "()I"⟩
abbrev cX5_restore : ByteArray := prog_1_method_18_code
def yX5_restore : MethodName := ⟨RX5, "restore", "()I"⟩
abbrev cX5_note : ByteArray := prog_1_method_19_code
def yX5_note : MethodName := ⟨RX5, "note", "(II)I"⟩
abbrev cX5_dots : ByteArray := prog_1_method_20_code
def yX5_dots : MethodName := ⟨RX5, "dots", "(II)I"⟩
abbrev cX5_heap : ByteArray := prog_1_method_21_code
def yX5_heap : MethodName := ⟨RX5, "heap", "(II)I"⟩
abbrev cX5_theme : ByteArray := prog_1_method_22_code
def yX5_theme : MethodName := ⟨RX5, "theme", "(II)I"⟩
abbrev cX5_votes : ByteArray := prog_1_method_23_code
def yX5_votes : MethodName := ⟨RX5, "votes", "(II)I"⟩
abbrev cX5_ifDragged : ByteArray := prog_1_method_24_code
def yX5_ifDragged : MethodName := ⟨RX5, "ifDragged", "(IIII)I"⟩
abbrev cX5_reachFor : ByteArray := prog_1_method_25_code
def yX5_reachFor : MethodName := ⟨RX5, "reachFor", "(I)I"⟩
abbrev cX5_nearest : ByteArray := prog_1_method_26_code
def yX5_nearest : MethodName := ⟨RX5, "nearest", "(I)I"⟩
abbrev cX5_count : ByteArray := prog_1_method_27_code
def yX5_count : MethodName := ⟨RX5, "count", "(I)I"⟩
abbrev cX5_isWithin : ByteArray := prog_1_method_28_code
def yX5_isWithin : MethodName := ⟨RX5, "isWithin", "(III)Z"⟩
abbrev cX5_isPlace : ByteArray := prog_1_method_29_code
def yX5_isPlace : MethodName := ⟨RX5, "isPlace", "(II)Z"⟩
abbrev cX5_isPerson : ByteArray := prog_1_method_30_code
def yX5_isPerson : MethodName := ⟨RX5, "isPerson", "(I)Z"⟩
abbrev cX5_isName : ByteArray := prog_1_method_31_code
def yX5_isName : MethodName := ⟨RX5, "isName", "(I)Z"⟩
abbrev cX5_findHeaps : ByteArray := prog_1_method_32_code
def yX5_findHeaps : MethodName := ⟨RX5, "findHeaps", "()I"⟩
abbrev cX5_staysOnBoard : ByteArray := prog_1_method_33_code
def yX5_staysOnBoard : MethodName := ⟨RX5, "staysOnBoard", "(III)Z"⟩
abbrev cX5_moveHeap : ByteArray := prog_1_method_34_code
def yX5_moveHeap : MethodName := ⟨RX5, "moveHeap", "(III)V"⟩
abbrev cX5_holdsItsHeap : ByteArray := prog_1_method_35_code
def yX5_holdsItsHeap : MethodName := ⟨RX5, "holdsItsHeap", "(I)Z"⟩
abbrev cX5_notesParted : ByteArray := prog_1_method_36_code
def yX5_notesParted : MethodName := ⟨RX5, "notesParted", "(I)I"⟩
abbrev cX5_themesInHeap : ByteArray := prog_1_method_37_code
def yX5_themesInHeap : MethodName := ⟨RX5, "themesInHeap", "(I)I"⟩
abbrev cX5_heapsOfTheme : ByteArray := prog_1_method_38_code
def yX5_heapsOfTheme : MethodName := ⟨RX5, "heapsOfTheme", "(I)I"⟩
abbrev cX5_meet : ByteArray := prog_1_method_39_code
def yX5_meet : MethodName := ⟨RX5, "meet", "(II)Z"⟩
abbrev cX5_rankOf : ByteArray := prog_1_method_40_code
def yX5_rankOf : MethodName := ⟨RX5, "rankOf", "(I)I"⟩
abbrev cX5_notesAlone : ByteArray := prog_1_method_41_code
def yX5_notesAlone : MethodName := ⟨RX5, "notesAlone", "()I"⟩
def RX6 : String := "NoteThemesModel"
def TX6 : u_T := fun k => match k with
  | 0 => ("NoteThemesModel", "s", "[I", true)
  | 1 => ("NoteThemesModel", "past", "[I", true)
  | 2 => ("NoteThemesModel", "known", "I", false)
  | 3 => ("NoteThemesModel", "kept", "[I", true)
  | 4 => ("NoteThemesModel", "isKept", "Z", false)
  | 5 => ("NoteThemesModel", "text", "[C", true)
  | 6 => ("NoteThemesModel", "length", "I", false)
  | 7 => ("NoteThemesModel", "heapOf", "[I", true)
  | 8 => ("NoteThemesModel", "row", "[I", true)
  | 9 => ("NoteThemesModel", "heaps", "I", false)
  | 10 => ("NoteThemesModel", "spot", "I", false)
  | 11 => ("NoteThemesModel", "tells", "I", false)
  | 12 => ("NoteThemesModel", "read", "[I", true)
  | 13 => ("NoteThemesModel", "dotsRead", "I", false)
  | _ => ("NoteThemesModel", "heapHad", "[I", true)
def tyX6 : Nat → FieldType := fun k => match k with
  | 0 => .array .int
  | 1 => .array .int
  | 2 => .int
  | 3 => .array .int
  | 4 => .boolean
  | 5 => .array .char
  | 6 => .int
  | 7 => .array .int
  | 8 => .array .int
  | 9 => .int
  | 10 => .int
  | 11 => .int
  | 12 => .array .int
  | 13 => .int
  | _ => .array .int
abbrev wsX60 : List Cond := u_ws RX6 TX6 15
theorem nmX6 : ∀ a, a < 15 → ∀ b, b < 15 → a ≠ b → (TX6 a).2.1 ≠ (TX6 b).2.1 := by decide +kernel
theorem tyX6_ok : ∀ k, k < 15 → parseFieldDescriptor (TX6 k).2.2.1 = some (tyX6 k) := by decide +kernel
abbrev cX6_init : ByteArray := prog_8_method_1_code
def yX6_init : MethodName := ⟨RX6, "<init>", "()V"⟩
abbrev cX6_in : ByteArray := prog_8_method_3_code
def yX6_in : MethodName := ⟨RX6, "in", "(III)Z"⟩
abbrev cX6_copies : ByteArray := prog_8_method_4_code
def yX6_copies : MethodName := ⟨RX6, "copies", "([II[II)V"⟩
abbrev cX6_records : ByteArray := prog_8_method_5_code
def yX6_records : MethodName := ⟨RX6, "records", "()V"⟩
abbrev cX6_isNote : ByteArray := prog_8_method_6_code
def yX6_isNote : MethodName := ⟨RX6, "isNote", "(I)Z"⟩
abbrev cX6_isTheme : ByteArray := prog_8_method_7_code
def yX6_isTheme : MethodName := ⟨RX6, "isTheme", "(I)Z"⟩
abbrev cX6_isPerson : ByteArray := prog_8_method_8_code
def yX6_isPerson : MethodName := ⟨RX6, "isPerson", "(I)Z"⟩
abbrev cX6_isPlace : ByteArray := prog_8_method_9_code
def yX6_isPlace : MethodName := ⟨RX6, "isPlace", "(II)Z"⟩
abbrev cX6_of : ByteArray := prog_8_method_10_code
def yX6_of : MethodName := ⟨RX6, "of", "(II)I"⟩
abbrev cX6_lays : ByteArray := prog_8_method_11_code
def yX6_lays : MethodName := ⟨RX6, "lays", "(III)V"⟩
abbrev cX6_themeOf : ByteArray := prog_8_method_12_code
def yX6_themeOf : MethodName := ⟨RX6, "themeOf", "(I)I"⟩
abbrev cX6_size : ByteArray := prog_8_method_13_code
def yX6_size : MethodName := ⟨RX6, "size", "(I)I"⟩
abbrev cX6_distance : ByteArray := prog_8_method_14_code
def yX6_distance : MethodName := ⟨RX6, "distance", "(II)I"⟩
abbrev cX6_spreads : ByteArray := prog_8_method_15_code
def yX6_spreads : MethodName := ⟨RX6, "spreads", "(III)I"⟩
abbrev cX6_laysHeaps : ByteArray := prog_8_method_16_code
def yX6_laysHeaps : MethodName := ⟨RX6, "laysHeaps", "(II)I"⟩
abbrev cX6_laysNow : ByteArray := prog_8_method_17_code
def yX6_laysNow : MethodName := ⟨RX6, "laysNow", "()I"⟩
abbrev cX6_notesIn : ByteArray := prog_8_method_18_code
def yX6_notesIn : MethodName := ⟨RX6, "notesIn", "(I)I"⟩
abbrev cX6_dotsOf : ByteArray := prog_8_method_19_code
def yX6_dotsOf : MethodName := ⟨RX6, "dotsOf", "(I)I"⟩
abbrev cX6_stuckBy : ByteArray := prog_8_method_20_code
def yX6_stuckBy : MethodName := ⟨RX6, "stuckBy", "(I)I"⟩
abbrev cX6_voteOf : ByteArray := prog_8_method_21_code
def yX6_voteOf : MethodName := ⟨RX6, "voteOf", "(II)I"⟩
abbrev cX6_notesOf : ByteArray := prog_8_method_22_code
def yX6_notesOf : MethodName := ⟨RX6, "notesOf", "(I)I"⟩
abbrev cX6_dropsTheme : ByteArray := prog_8_method_23_code
def yX6_dropsTheme : MethodName := ⟨RX6, "dropsTheme", "(I)V"⟩
abbrev cX6_dropsEmpty : ByteArray := prog_8_method_24_code
def yX6_dropsEmpty : MethodName := ⟨RX6, "dropsEmpty", "(I)V"⟩
abbrev cX6_votesFor : ByteArray := prog_8_method_25_code
def yX6_votesFor : MethodName := ⟨RX6, "votesFor", "(II)I"⟩
abbrev cX6_nameOf : ByteArray := prog_8_method_26_code
def yX6_nameOf : MethodName := ⟨RX6, "nameOf", "(I)I"⟩
abbrev cX6_adds : ByteArray := prog_8_method_27_code
def yX6_adds : MethodName := ⟨RX6, "adds", "(II)I"⟩
abbrev cX6_put : ByteArray := prog_8_method_28_code
def yX6_put : MethodName := ⟨RX6, "put", "(II)I"⟩
abbrev cX6_takeOff : ByteArray := prog_8_method_29_code
def yX6_takeOff : MethodName := ⟨RX6, "takeOff", "(I)I"⟩
abbrev cX6_comes : ByteArray := prog_8_method_30_code
def yX6_comes : MethodName := ⟨RX6, "comes", "(III)V"⟩
abbrev cX6_drag : ByteArray := prog_8_method_31_code
def yX6_drag : MethodName := ⟨RX6, "drag", "(III)I"⟩
abbrev cX6_canDrag : ByteArray := prog_8_method_32_code
def yX6_canDrag : MethodName := ⟨RX6, "canDrag", "(III)Z"⟩
abbrev cX6_dragHeap : ByteArray := prog_8_method_33_code
def yX6_dragHeap : MethodName := ⟨RX6, "dragHeap", "(III)I"⟩
abbrev cX6_stick : ByteArray := prog_8_method_34_code
def yX6_stick : MethodName := ⟨RX6, "stick", "(II)I"⟩
abbrev cX6_unstick : ByteArray := prog_8_method_35_code
def yX6_unstick : MethodName := ⟨RX6, "unstick", "(II)I"⟩
abbrev cX6_without : ByteArray := prog_8_method_36_code
def yX6_without : MethodName := ⟨RX6, "without", "(I)I"⟩
abbrev cX6_make : ByteArray := prog_8_method_37_code
def yX6_make : MethodName := ⟨RX6, "make", "(I)I"⟩
abbrev cX6_merge : ByteArray := prog_8_method_38_code
def yX6_merge : MethodName := ⟨RX6, "merge", "(II)I"⟩
abbrev cX6_belong : ByteArray := prog_8_method_39_code
def yX6_belong : MethodName := ⟨RX6, "belong", "(II)I"⟩
abbrev cX6_vote : ByteArray := prog_8_method_40_code
def yX6_vote : MethodName := ⟨RX6, "vote", "(III)I"⟩
abbrev cX6_set : ByteArray := prog_8_method_41_code
def yX6_set : MethodName := ⟨RX6, "set", "(II)I"⟩
abbrev cX6_type : ByteArray := prog_8_method_42_code
def yX6_type : MethodName := ⟨RX6, "type", "(C)I"⟩
abbrev cX6_clearText : ByteArray := prog_8_method_43_code
def yX6_clearText : MethodName := ⟨RX6, "clearText", "()I"⟩
abbrev cX6_here : ByteArray := prog_8_method_44_code
def yX6_here : MethodName := ⟨RX6, "here", "()I"⟩
abbrev cX6_number : ByteArray := prog_8_method_45_code
def yX6_number : MethodName := ⟨RX6, "number", "(I)I"⟩
abbrev cX6_takes : ByteArray := prog_8_method_46_code
def yX6_takes : MethodName := ⟨RX6, "takes", "(I)Z"⟩
abbrev cX6_takesNote : ByteArray := prog_8_method_47_code
def yX6_takesNote : MethodName := ⟨RX6, "takesNote", "()Z"⟩
abbrev cX6_isBoard : ByteArray := prog_8_method_48_code
def yX6_isBoard : MethodName := ⟨RX6, "isBoard", "()Z"⟩
abbrev cX6_load : ByteArray := prog_8_method_49_code
def yX6_load : MethodName := ⟨RX6, "load", "()I"⟩
abbrev cX6_undo : ByteArray := prog_8_method_50_code
def yX6_undo : MethodName := ⟨RX6, "undo", "()I"⟩
abbrev cX6_keep : ByteArray := prog_8_method_51_code
def yX6_keep : MethodName := ⟨RX6, "keep", "()I"⟩
abbrev cX6_restore : ByteArray := prog_8_method_52_code
def yX6_restore : MethodName := ⟨RX6, "restore", "()I"⟩
abbrev cX6_near : ByteArray := prog_8_method_53_code
def yX6_near : MethodName := ⟨RX6, "near", "(I)I"⟩
abbrev cX6_holdsTogether : ByteArray := prog_8_method_54_code
def yX6_holdsTogether : MethodName := ⟨RX6, "holdsTogether", "(I)I"⟩
abbrev cX6_heapNow : ByteArray := prog_8_method_55_code
def yX6_heapNow : MethodName := ⟨RX6, "heapNow", "(I)I"⟩
abbrev cX6_note : ByteArray := prog_8_method_56_code
def yX6_note : MethodName := ⟨RX6, "note", "(II)I"⟩
abbrev cX6_dots : ByteArray := prog_8_method_57_code
def yX6_dots : MethodName := ⟨RX6, "dots", "(II)I"⟩
abbrev cX6_lowestOf : ByteArray := prog_8_method_58_code
def yX6_lowestOf : MethodName := ⟨RX6, "lowestOf", "(I)I"⟩
abbrev cX6_dotsIn : ByteArray := prog_8_method_59_code
def yX6_dotsIn : MethodName := ⟨RX6, "dotsIn", "(I)I"⟩
abbrev cX6_themesIn : ByteArray := prog_8_method_60_code
def yX6_themesIn : MethodName := ⟨RX6, "themesIn", "(I)I"⟩
abbrev cX6_middleOf : ByteArray := prog_8_method_61_code
def yX6_middleOf : MethodName := ⟨RX6, "middleOf", "(I)I"⟩
abbrev cX6_widthOf : ByteArray := prog_8_method_62_code
def yX6_widthOf : MethodName := ⟨RX6, "widthOf", "(I)I"⟩
abbrev cX6_heap : ByteArray := prog_8_method_63_code
def yX6_heap : MethodName := ⟨RX6, "heap", "(II)I"⟩
abbrev cX6_dotsOfTheme : ByteArray := prog_8_method_64_code
def yX6_dotsOfTheme : MethodName := ⟨RX6, "dotsOfTheme", "(I)I"⟩
abbrev cX6_rankOf : ByteArray := prog_8_method_65_code
def yX6_rankOf : MethodName := ⟨RX6, "rankOf", "(I)I"⟩
abbrev cX6_heapsOfTheme : ByteArray := prog_8_method_66_code
def yX6_heapsOfTheme : MethodName := ⟨RX6, "heapsOfTheme", "(I)I"⟩
abbrev cX6_voted : ByteArray := prog_8_method_67_code
def yX6_voted : MethodName := ⟨RX6, "voted", "(I)I"⟩
abbrev cX6_theme : ByteArray := prog_8_method_68_code
def yX6_theme : MethodName := ⟨RX6, "theme", "(II)I"⟩
abbrev cX6_votes : ByteArray := prog_8_method_69_code
def yX6_votes : MethodName := ⟨RX6, "votes", "(II)I"⟩
abbrev cX6_ifDragged : ByteArray := prog_8_method_70_code
def yX6_ifDragged : MethodName := ⟨RX6, "ifDragged", "(IIII)I"⟩
abbrev cX6_reachFor : ByteArray := prog_8_method_71_code
def yX6_reachFor : MethodName := ⟨RX6, "reachFor", "(I)I"⟩
abbrev cX6_nearest : ByteArray := prog_8_method_72_code
def yX6_nearest : MethodName := ⟨RX6, "nearest", "(I)I"⟩
abbrev cX6_stuck : ByteArray := prog_8_method_73_code
def yX6_stuck : MethodName := ⟨RX6, "stuck", "()I"⟩
abbrev cX6_left : ByteArray := prog_8_method_74_code
def yX6_left : MethodName := ⟨RX6, "left", "()I"⟩
abbrev cX6_named : ByteArray := prog_8_method_75_code
def yX6_named : MethodName := ⟨RX6, "named", "()I"⟩
abbrev cX6_alone : ByteArray := prog_8_method_76_code
def yX6_alone : MethodName := ⟨RX6, "alone", "()I"⟩
abbrev cX6_count : ByteArray := prog_8_method_77_code
def yX6_count : MethodName := ⟨RX6, "count", "(I)I"⟩
def RJ9 : String := "java/lang/Math"
def TJ9 : u_T := fun k => match k with
  | _ => ("", "", "", false)
def tyJ9 : Nat → FieldType := fun k => match k with
  | _ => .int
abbrev wsJ90 : List Cond := u_ws RJ9 TJ9 0
theorem nmJ9 : ∀ a, a < 0 → ∀ b, b < 0 → a ≠ b → (TJ9 a).2.1 ≠ (TJ9 b).2.1 := by decide +kernel
theorem tyJ9_ok : ∀ k, k < 0 → parseFieldDescriptor (TJ9 k).2.2.1 = some (tyJ9 k) := by decide +kernel
abbrev cJ9_abs_0f7a4 : ByteArray := prog_9_method_59_code
def yJ9_abs_0f7a4 : MethodName := ⟨RJ9, "abs", "(I)I"⟩
abbrev cJ9_max_7cf53 : ByteArray := prog_9_method_65_code
def yJ9_max_7cf53 : MethodName := ⟨RJ9, "max", "(II)I"⟩
abbrev cJ9_min_7cf53 : ByteArray := prog_9_method_69_code
def yJ9_min_7cf53 : MethodName := ⟨RJ9, "min", "(II)I"⟩
def RJ10 : String := "java/lang/System"
def TJ10 : u_T := fun k => match k with
  | _ => ("", "", "", false)
def tyJ10 : Nat → FieldType := fun k => match k with
  | _ => .int
abbrev wsJ100 : List Cond := u_ws RJ10 TJ10 0
theorem nmJ10 : ∀ a, a < 0 → ∀ b, b < 0 → a ≠ b → (TJ10 a).2.1 ≠ (TJ10 b).2.1 := by decide +kernel
theorem tyJ10_ok : ∀ k, k < 0 → parseFieldDescriptor (TJ10 k).2.2.1 = some (tyJ10 k) := by decide +kernel
def RL : String := "NoteThemesLaw"
abbrev cL_law : ByteArray := code
def yL_law : MethodName := ⟨RL, "law", "([I)Z"⟩
def wsX0_init : List Cond := .code yX0_init cX0_init 1 none :: ([.methodLink RX0 3 objectInit, .instanceMethod objectInit, .code objectInit ⟨#[0xb1]⟩ 1 none, .fieldLink RX0 9 "NoteThemes$Board" "notes" "I", .arrayClass .int, .fieldLink RX0 15 "NoteThemes$Board" "columnOf" "[I", .fieldLink RX0 19 "NoteThemes$Board" "rowOf" "[I", .fieldLink RX0 22 "NoteThemes$Board" "themeOf" "[I", .fieldLink RX0 25 "NoteThemes$Board" "dotsAt" "[I", .fieldLink RX0 28 "NoteThemes$Board" "themes" "I", .fieldLink RX0 31 "NoteThemes$Board" "votedAt" "[I", .fieldLink RX0 34 "NoteThemes$Board" "settings" "[I", .methodLink RX0 40 arraycopyName, .native arraycopyName, .static arraycopyName, .initialized "java/lang/System"] ++ wsX00)
def wsX0_copyFrom : List Cond := .code yX0_copyFrom cX0_copyFrom 2 none :: ([.fieldLink RX0 9 "NoteThemes$Board" "notes" "I", .fieldLink RX0 15 "NoteThemes$Board" "columnOf" "[I", .methodLink RX0 40 arraycopyName, .native arraycopyName, .static arraycopyName, .initialized "java/lang/System", .fieldLink RX0 19 "NoteThemes$Board" "rowOf" "[I", .fieldLink RX0 22 "NoteThemes$Board" "themeOf" "[I", .fieldLink RX0 25 "NoteThemes$Board" "dotsAt" "[I", .fieldLink RX0 28 "NoteThemes$Board" "themes" "I", .fieldLink RX0 31 "NoteThemes$Board" "votedAt" "[I", .fieldLink RX0 34 "NoteThemes$Board" "settings" "[I"] ++ wsX00)
def wsX0_removeAll : List Cond := .code yX0_removeAll cX0_removeAll 1 none :: ([.fieldLink RX0 9 "NoteThemes$Board" "notes" "I", .fieldLink RX0 28 "NoteThemes$Board" "themes" "I"] ++ wsX00)
def wsX0_hasNote : List Cond := .code yX0_hasNote cX0_hasNote 2 (some .boolean) :: ([.fieldLink RX0 9 "NoteThemes$Board" "notes" "I"] ++ wsX00)
def wsX0_hasTheme : List Cond := .code yX0_hasTheme cX0_hasTheme 2 (some .boolean) :: ([.fieldLink RX0 28 "NoteThemes$Board" "themes" "I"] ++ wsX00)
def wsX0_moveNote : List Cond := .code yX0_moveNote cX0_moveNote 4 none :: ([.fieldLink RX0 15 "NoteThemes$Board" "columnOf" "[I", .fieldLink RX0 19 "NoteThemes$Board" "rowOf" "[I"] ++ wsX00)
def wsX0_addNote : List Cond := .code yX0_addNote cX0_addNote 5 none :: ([.fieldLink RX0 9 "NoteThemes$Board" "notes" "I", .fieldLink RX0 22 "NoteThemes$Board" "themeOf" "[I", .fieldLink RX0 25 "NoteThemes$Board" "dotsAt" "[I", .methodLink RX0 46 yX0_moveNote, .instanceMethod yX0_moveNote, .selects RX0 yX0_moveNote yX0_moveNote, .initialized RX0, .code yX0_moveNote cX0_moveNote 4 none, .fieldLink RX0 15 "NoteThemes$Board" "columnOf" "[I", .fieldLink RX0 19 "NoteThemes$Board" "rowOf" "[I"] ++ wsX00)
def wsX0_copyNote : List Cond := .code yX0_copyNote cX0_copyNote 4 none :: ([.fieldLink RX0 15 "NoteThemes$Board" "columnOf" "[I", .fieldLink RX0 19 "NoteThemes$Board" "rowOf" "[I", .fieldLink RX0 22 "NoteThemes$Board" "themeOf" "[I", .fieldLink RX0 25 "NoteThemes$Board" "dotsAt" "[I", .methodLink RX0 46 yX0_moveNote, .instanceMethod yX0_moveNote, .selects RX0 yX0_moveNote yX0_moveNote, .initialized RX0, .code yX0_moveNote cX0_moveNote 4 none] ++ wsX00)
def wsX0_notesOfTheme : List Cond := .code yX0_notesOfTheme cX0_notesOfTheme 4 (some .int) :: ([.fieldLink RX0 9 "NoteThemes$Board" "notes" "I", .fieldLink RX0 22 "NoteThemes$Board" "themeOf" "[I"] ++ wsX00)
def wsX0_voteOf : List Cond := .code yX0_voteOf cX0_voteOf 3 (some .int) :: ([.fieldLink RX0 31 "NoteThemes$Board" "votedAt" "[I"] ++ wsX00)
def wsX0_setVote : List Cond := .code yX0_setVote cX0_setVote 4 none :: ([.fieldLink RX0 31 "NoteThemes$Board" "votedAt" "[I"] ++ wsX00)
def wsX0_removeThemeIfEmpty : List Cond := .code yX0_removeThemeIfEmpty cX0_removeThemeIfEmpty 4 none :: ([.fieldLink RX0 9 "NoteThemes$Board" "notes" "I", .fieldLink RX0 22 "NoteThemes$Board" "themeOf" "[I", .fieldLink RX0 28 "NoteThemes$Board" "themes" "I", .methodLink RX0 86 yX0_notesOfTheme, .instanceMethod yX0_notesOfTheme, .selects RX0 yX0_notesOfTheme yX0_notesOfTheme, .initialized RX0, .code yX0_notesOfTheme cX0_notesOfTheme 4 (some .int), .methodLink RX0 83 yX0_voteOf, .instanceMethod yX0_voteOf, .selects RX0 yX0_voteOf yX0_voteOf, .code yX0_voteOf cX0_voteOf 3 (some .int), .fieldLink RX0 31 "NoteThemes$Board" "votedAt" "[I", .methodLink RX0 80 yX0_setVote, .instanceMethod yX0_setVote, .selects RX0 yX0_setVote yX0_setVote, .code yX0_setVote cX0_setVote 4 none] ++ wsX00)
def wsX0_removeNote_r1 : List Cond := [Cond.fieldLink RX0 22 "NoteThemes$Board" "themeOf" "[I", Cond.fieldLink RX0 9 "NoteThemes$Board" "notes" "I", Cond.methodLink RX0 50 yX0_copyNote, Cond.instanceMethod yX0_copyNote, Cond.selects RX0 yX0_copyNote yX0_copyNote, Cond.initialized RX0, Cond.code yX0_copyNote cX0_copyNote 4 none, Cond.fieldLink RX0 15 "NoteThemes$Board" "columnOf" "[I", Cond.fieldLink RX0 19 "NoteThemes$Board" "rowOf" "[I", Cond.fieldLink RX0 25 "NoteThemes$Board" "dotsAt" "[I", Cond.methodLink RX0 46 yX0_moveNote, Cond.instanceMethod yX0_moveNote, Cond.selects RX0 yX0_moveNote yX0_moveNote, Cond.code yX0_moveNote cX0_moveNote 4 none, Cond.methodLink RX0 54 yX0_removeThemeIfEmpty, Cond.instanceMethod yX0_removeThemeIfEmpty, Cond.selects RX0 yX0_removeThemeIfEmpty yX0_removeThemeIfEmpty, Cond.code yX0_removeThemeIfEmpty cX0_removeThemeIfEmpty 4 none, Cond.fieldLink RX0 28 "NoteThemes$Board" "themes" "I", Cond.methodLink RX0 86 yX0_notesOfTheme, Cond.instanceMethod yX0_notesOfTheme, Cond.selects RX0 yX0_notesOfTheme yX0_notesOfTheme, Cond.code yX0_notesOfTheme cX0_notesOfTheme 4 (some .int), Cond.methodLink RX0 83 yX0_voteOf]
def wsX0_removeNote_r2 : List Cond := [Cond.instanceMethod yX0_voteOf, Cond.selects RX0 yX0_voteOf yX0_voteOf, Cond.code yX0_voteOf cX0_voteOf 3 (some .int), Cond.fieldLink RX0 31 "NoteThemes$Board" "votedAt" "[I", Cond.methodLink RX0 80 yX0_setVote, Cond.instanceMethod yX0_setVote, Cond.selects RX0 yX0_setVote yX0_setVote, Cond.code yX0_setVote cX0_setVote 4 none]
def wsX0_removeNote : List Cond := .code yX0_removeNote cX0_removeNote 4 none :: ((wsX0_removeNote_r1 ++ wsX0_removeNote_r2) ++ wsX00)
def wsX0_distance : List Cond := .code yX0_distance cX0_distance 3 (some .int) :: ([.fieldLink RX0 15 "NoteThemes$Board" "columnOf" "[I", .methodLink RX0 58 Lib.Math.abs.name, .static Lib.Math.abs.name, .initialized "java/lang/Math", .code Lib.Math.abs.name Lib.Math.abs.code 1 (some .int), .fieldLink RX0 19 "NoteThemes$Board" "rowOf" "[I"] ++ wsX00)
def wsX0_notesNear : List Cond := .code yX0_notesNear cX0_notesNear 4 (some .int) :: ([.fieldLink RX0 9 "NoteThemes$Board" "notes" "I", .fieldLink RX0 34 "NoteThemes$Board" "settings" "[I", .methodLink RX0 64 yX0_distance, .instanceMethod yX0_distance, .selects RX0 yX0_distance yX0_distance, .initialized RX0, .code yX0_distance cX0_distance 3 (some .int), .fieldLink RX0 15 "NoteThemes$Board" "columnOf" "[I", .methodLink RX0 58 Lib.Math.abs.name, .static Lib.Math.abs.name, .initialized "java/lang/Math", .code Lib.Math.abs.name Lib.Math.abs.code 1 (some .int), .fieldLink RX0 19 "NoteThemes$Board" "rowOf" "[I"] ++ wsX00)
def wsX0_dotsOfPerson : List Cond := .code yX0_dotsOfPerson cX0_dotsOfPerson 3 (some .int) :: ([.fieldLink RX0 25 "NoteThemes$Board" "dotsAt" "[I"] ++ wsX00)
def wsX0_addDots : List Cond := .code yX0_addDots cX0_addDots 4 none :: ([.fieldLink RX0 25 "NoteThemes$Board" "dotsAt" "[I"] ++ wsX00)
def wsX0_dotsOn : List Cond := .code yX0_dotsOn cX0_dotsOn 4 (some .int) :: ([.methodLink RX0 68 yX0_dotsOfPerson, .instanceMethod yX0_dotsOfPerson, .selects RX0 yX0_dotsOfPerson yX0_dotsOfPerson, .initialized RX0, .code yX0_dotsOfPerson cX0_dotsOfPerson 3 (some .int), .fieldLink RX0 25 "NoteThemes$Board" "dotsAt" "[I"] ++ wsX00)
def wsX0_dotsLeft : List Cond := .code yX0_dotsLeft cX0_dotsLeft 4 (some .int) :: ([.fieldLink RX0 34 "NoteThemes$Board" "settings" "[I", .fieldLink RX0 9 "NoteThemes$Board" "notes" "I", .methodLink RX0 71 Lib.Math.max.name, .static Lib.Math.max.name, .initialized "java/lang/Math", .code Lib.Math.max.name Lib.Math.max.code 2 (some .int), .methodLink RX0 68 yX0_dotsOfPerson, .instanceMethod yX0_dotsOfPerson, .selects RX0 yX0_dotsOfPerson yX0_dotsOfPerson, .initialized RX0, .code yX0_dotsOfPerson cX0_dotsOfPerson 3 (some .int), .fieldLink RX0 25 "NoteThemes$Board" "dotsAt" "[I"] ++ wsX00)
def wsX0_hasMostDots : List Cond := .code yX0_hasMostDots cX0_hasMostDots 3 (some .boolean) :: ([.fieldLink RX0 34 "NoteThemes$Board" "settings" "[I", .methodLink RX0 68 yX0_dotsOfPerson, .instanceMethod yX0_dotsOfPerson, .selects RX0 yX0_dotsOfPerson yX0_dotsOfPerson, .initialized RX0, .code yX0_dotsOfPerson cX0_dotsOfPerson 3 (some .int), .fieldLink RX0 25 "NoteThemes$Board" "dotsAt" "[I"] ++ wsX00)
def wsX0_allDotsStuck : List Cond := .code yX0_allDotsStuck cX0_allDotsStuck 3 (some .int) :: ([.fieldLink RX0 9 "NoteThemes$Board" "notes" "I", .methodLink RX0 74 yX0_dotsOn, .instanceMethod yX0_dotsOn, .selects RX0 yX0_dotsOn yX0_dotsOn, .initialized RX0, .code yX0_dotsOn cX0_dotsOn 4 (some .int), .methodLink RX0 68 yX0_dotsOfPerson, .instanceMethod yX0_dotsOfPerson, .selects RX0 yX0_dotsOfPerson yX0_dotsOfPerson, .code yX0_dotsOfPerson cX0_dotsOfPerson 3 (some .int), .fieldLink RX0 25 "NoteThemes$Board" "dotsAt" "[I"] ++ wsX00)
def wsX0_allDotsLeft : List Cond := .code yX0_allDotsLeft cX0_allDotsLeft 3 (some .int) :: ([.methodLink RX0 77 yX0_dotsLeft, .instanceMethod yX0_dotsLeft, .selects RX0 yX0_dotsLeft yX0_dotsLeft, .initialized RX0, .code yX0_dotsLeft cX0_dotsLeft 4 (some .int), .fieldLink RX0 34 "NoteThemes$Board" "settings" "[I", .fieldLink RX0 9 "NoteThemes$Board" "notes" "I", .methodLink RX0 71 Lib.Math.max.name, .static Lib.Math.max.name, .initialized "java/lang/Math", .code Lib.Math.max.name Lib.Math.max.code 2 (some .int), .methodLink RX0 68 yX0_dotsOfPerson, .instanceMethod yX0_dotsOfPerson, .selects RX0 yX0_dotsOfPerson yX0_dotsOfPerson, .code yX0_dotsOfPerson cX0_dotsOfPerson 3 (some .int), .fieldLink RX0 25 "NoteThemes$Board" "dotsAt" "[I"] ++ wsX00)
def wsX0_addTheme : List Cond := .code yX0_addTheme cX0_addTheme 3 (some .int) :: ([.fieldLink RX0 28 "NoteThemes$Board" "themes" "I", .methodLink RX0 80 yX0_setVote, .instanceMethod yX0_setVote, .selects RX0 yX0_setVote yX0_setVote, .initialized RX0, .code yX0_setVote cX0_setVote 4 none, .fieldLink RX0 31 "NoteThemes$Board" "votedAt" "[I"] ++ wsX00)
def wsX0_mergeThemes : List Cond := .code yX0_mergeThemes cX0_mergeThemes 4 none :: ([.fieldLink RX0 9 "NoteThemes$Board" "notes" "I", .fieldLink RX0 22 "NoteThemes$Board" "themeOf" "[I", .methodLink RX0 83 yX0_voteOf, .instanceMethod yX0_voteOf, .selects RX0 yX0_voteOf yX0_voteOf, .initialized RX0, .code yX0_voteOf cX0_voteOf 3 (some .int), .fieldLink RX0 31 "NoteThemes$Board" "votedAt" "[I", .methodLink RX0 80 yX0_setVote, .instanceMethod yX0_setVote, .selects RX0 yX0_setVote yX0_setVote, .code yX0_setVote cX0_setVote 4 none, .methodLink RX0 54 yX0_removeThemeIfEmpty, .instanceMethod yX0_removeThemeIfEmpty, .selects RX0 yX0_removeThemeIfEmpty yX0_removeThemeIfEmpty, .code yX0_removeThemeIfEmpty cX0_removeThemeIfEmpty 4 none, .fieldLink RX0 28 "NoteThemes$Board" "themes" "I", .methodLink RX0 86 yX0_notesOfTheme, .instanceMethod yX0_notesOfTheme, .selects RX0 yX0_notesOfTheme yX0_notesOfTheme, .code yX0_notesOfTheme cX0_notesOfTheme 4 (some .int)] ++ wsX00)
def wsX0_dotsOfTheme : List Cond := .code yX0_dotsOfTheme cX0_dotsOfTheme 4 (some .int) :: ([.fieldLink RX0 9 "NoteThemes$Board" "notes" "I", .fieldLink RX0 22 "NoteThemes$Board" "themeOf" "[I", .methodLink RX0 74 yX0_dotsOn, .instanceMethod yX0_dotsOn, .selects RX0 yX0_dotsOn yX0_dotsOn, .initialized RX0, .code yX0_dotsOn cX0_dotsOn 4 (some .int), .methodLink RX0 68 yX0_dotsOfPerson, .instanceMethod yX0_dotsOfPerson, .selects RX0 yX0_dotsOfPerson yX0_dotsOfPerson, .code yX0_dotsOfPerson cX0_dotsOfPerson 3 (some .int), .fieldLink RX0 25 "NoteThemes$Board" "dotsAt" "[I"] ++ wsX00)
def wsX0_votesFor : List Cond := .code yX0_votesFor cX0_votesFor 5 (some .int) :: ([.methodLink RX0 83 yX0_voteOf, .instanceMethod yX0_voteOf, .selects RX0 yX0_voteOf yX0_voteOf, .initialized RX0, .code yX0_voteOf cX0_voteOf 3 (some .int), .fieldLink RX0 31 "NoteThemes$Board" "votedAt" "[I"] ++ wsX00)
def wsX0_votersOf : List Cond := .code yX0_votersOf cX0_votersOf 2 (some .int) :: ([.methodLink RX0 89 yX0_votesFor, .instanceMethod yX0_votesFor, .selects RX0 yX0_votesFor yX0_votesFor, .initialized RX0, .code yX0_votesFor cX0_votesFor 5 (some .int), .methodLink RX0 83 yX0_voteOf, .instanceMethod yX0_voteOf, .selects RX0 yX0_voteOf yX0_voteOf, .code yX0_voteOf cX0_voteOf 3 (some .int), .fieldLink RX0 31 "NoteThemes$Board" "votedAt" "[I"] ++ wsX00)
def wsX1_init : List Cond := .code yX1_init cX1_init 2 none :: ([.methodLink RX1 3 objectInit, .instanceMethod objectInit, .code objectInit ⟨#[0xb1]⟩ 1 none, .fieldLink RX1 9 "NoteThemes$BoardText" "board" "LNoteThemes$Board;", .fieldLink RX1 15 "NoteThemes$BoardText" "notesRead" "I", .fieldLink RX1 19 "NoteThemes$BoardText" "part" "I", .fieldLink RX1 22 "NoteThemes$BoardText" "number" "I", .fieldLink RX1 25 "NoteThemes$BoardText" "column" "I"] ++ wsX10)
def wsX1_beginNumber : List Cond := .code yX1_beginNumber cX1_beginNumber 2 none :: ([.fieldLink RX1 19 "NoteThemes$BoardText" "part" "I", .fieldLink RX1 22 "NoteThemes$BoardText" "number" "I"] ++ wsX10)
def wsX1_takesComma : List Cond := .code yX1_takesComma cX1_takesComma 1 (some .boolean) :: ([.fieldLink RX1 19 "NoteThemes$BoardText" "part" "I", .fieldLink RX1 22 "NoteThemes$BoardText" "number" "I", .fieldLink RX1 25 "NoteThemes$BoardText" "column" "I", .methodLink RX1 28 yX1_beginNumber, .instanceMethod yX1_beginNumber, .selects RX1 yX1_beginNumber yX1_beginNumber, .initialized RX1, .code yX1_beginNumber cX1_beginNumber 2 none] ++ wsX10)
def wsX1_endsNote : List Cond := .code yX1_endsNote cX1_endsNote 1 (some .boolean) :: ([.fieldLink RX1 19 "NoteThemes$BoardText" "part" "I", .fieldLink RX1 22 "NoteThemes$BoardText" "number" "I", .fieldLink RX1 15 "NoteThemes$BoardText" "notesRead" "I", .fieldLink RX1 9 "NoteThemes$BoardText" "board" "LNoteThemes$Board;", .fieldLink RX1 53 "NoteThemes$Board" "notes" "I", .fieldLink RX1 25 "NoteThemes$BoardText" "column" "I", .methodLink RX1 58 yX0_addNote, .instanceMethod yX0_addNote, .selects RX0 yX0_addNote yX0_addNote, .initialized RX0, .code yX0_addNote cX0_addNote 5 none, .fieldLink RX0 9 "NoteThemes$Board" "notes" "I", .fieldLink RX0 22 "NoteThemes$Board" "themeOf" "[I", .fieldLink RX0 25 "NoteThemes$Board" "dotsAt" "[I", .methodLink RX0 46 yX0_moveNote, .instanceMethod yX0_moveNote, .selects RX0 yX0_moveNote yX0_moveNote, .code yX0_moveNote cX0_moveNote 4 none, .fieldLink RX0 15 "NoteThemes$Board" "columnOf" "[I", .fieldLink RX0 19 "NoteThemes$Board" "rowOf" "[I"] ++ wsX10 ++ wsX00)
def wsX1_takesStar_r1 : List Cond := [Cond.fieldLink RX1 9 "NoteThemes$BoardText" "board" "LNoteThemes$Board;", Cond.fieldLink RX1 53 "NoteThemes$Board" "notes" "I", Cond.methodLink RX1 62 yX0_dotsLeft, Cond.instanceMethod yX0_dotsLeft, Cond.selects RX0 yX0_dotsLeft yX0_dotsLeft, Cond.initialized RX0, Cond.code yX0_dotsLeft cX0_dotsLeft 4 (some .int), Cond.fieldLink RX0 34 "NoteThemes$Board" "settings" "[I", Cond.fieldLink RX0 9 "NoteThemes$Board" "notes" "I", Cond.methodLink RX0 71 Lib.Math.max.name, Cond.static Lib.Math.max.name, Cond.initialized "java/lang/Math", Cond.code Lib.Math.max.name Lib.Math.max.code 2 (some .int), Cond.methodLink RX0 68 yX0_dotsOfPerson, Cond.instanceMethod yX0_dotsOfPerson, Cond.selects RX0 yX0_dotsOfPerson yX0_dotsOfPerson, Cond.code yX0_dotsOfPerson cX0_dotsOfPerson 3 (some .int), Cond.fieldLink RX0 25 "NoteThemes$Board" "dotsAt" "[I", Cond.methodLink RX1 66 yX0_hasMostDots, Cond.instanceMethod yX0_hasMostDots, Cond.selects RX0 yX0_hasMostDots yX0_hasMostDots, Cond.code yX0_hasMostDots cX0_hasMostDots 3 (some .boolean), Cond.methodLink RX1 70 yX0_addDots, Cond.instanceMethod yX0_addDots]
def wsX1_takesStar_r2 : List Cond := [Cond.selects RX0 yX0_addDots yX0_addDots, Cond.code yX0_addDots cX0_addDots 4 none]
def wsX1_takesStar : List Cond := .code yX1_takesStar cX1_takesStar 2 (some .boolean) :: ((wsX1_takesStar_r1 ++ wsX1_takesStar_r2) ++ wsX10 ++ wsX00)
def wsX1_takesSemicolon_r1 : List Cond := [Cond.methodLink RX1 36 yX1_endsNote, Cond.instanceMethod yX1_endsNote, Cond.selects RX1 yX1_endsNote yX1_endsNote, Cond.initialized RX1, Cond.code yX1_endsNote cX1_endsNote 1 (some .boolean), Cond.fieldLink RX1 19 "NoteThemes$BoardText" "part" "I", Cond.fieldLink RX1 22 "NoteThemes$BoardText" "number" "I", Cond.fieldLink RX1 15 "NoteThemes$BoardText" "notesRead" "I", Cond.fieldLink RX1 9 "NoteThemes$BoardText" "board" "LNoteThemes$Board;", Cond.fieldLink RX1 53 "NoteThemes$Board" "notes" "I", Cond.fieldLink RX1 25 "NoteThemes$BoardText" "column" "I", Cond.methodLink RX1 58 yX0_addNote, Cond.instanceMethod yX0_addNote, Cond.selects RX0 yX0_addNote yX0_addNote, Cond.initialized RX0, Cond.code yX0_addNote cX0_addNote 5 none, Cond.fieldLink RX0 9 "NoteThemes$Board" "notes" "I", Cond.fieldLink RX0 22 "NoteThemes$Board" "themeOf" "[I", Cond.fieldLink RX0 25 "NoteThemes$Board" "dotsAt" "[I", Cond.methodLink RX0 46 yX0_moveNote, Cond.instanceMethod yX0_moveNote, Cond.selects RX0 yX0_moveNote yX0_moveNote, Cond.code yX0_moveNote cX0_moveNote 4 none, Cond.fieldLink RX0 15 "NoteThemes$Board" "columnOf" "[I"]
def wsX1_takesSemicolon_r2 : List Cond := [Cond.fieldLink RX0 19 "NoteThemes$Board" "rowOf" "[I", Cond.methodLink RX1 28 yX1_beginNumber, Cond.instanceMethod yX1_beginNumber, Cond.selects RX1 yX1_beginNumber yX1_beginNumber, Cond.code yX1_beginNumber cX1_beginNumber 2 none]
def wsX1_takesSemicolon : List Cond := .code yX1_takesSemicolon cX1_takesSemicolon 1 (some .boolean) :: ((wsX1_takesSemicolon_r1 ++ wsX1_takesSemicolon_r2) ++ wsX10 ++ wsX00)
def wsX1_takesDigit : List Cond := .code yX1_takesDigit cX1_takesDigit 3 (some .boolean) :: ([.fieldLink RX1 19 "NoteThemes$BoardText" "part" "I", .fieldLink RX1 22 "NoteThemes$BoardText" "number" "I"] ++ wsX10)
def wsX1_takes_r1 : List Cond := [Cond.methodLink RX1 40 yX1_takesComma, Cond.instanceMethod yX1_takesComma, Cond.selects RX1 yX1_takesComma yX1_takesComma, Cond.initialized RX1, Cond.code yX1_takesComma cX1_takesComma 1 (some .boolean), Cond.fieldLink RX1 19 "NoteThemes$BoardText" "part" "I", Cond.fieldLink RX1 22 "NoteThemes$BoardText" "number" "I", Cond.fieldLink RX1 25 "NoteThemes$BoardText" "column" "I", Cond.methodLink RX1 28 yX1_beginNumber, Cond.instanceMethod yX1_beginNumber, Cond.selects RX1 yX1_beginNumber yX1_beginNumber, Cond.code yX1_beginNumber cX1_beginNumber 2 none, Cond.methodLink RX1 36 yX1_endsNote, Cond.instanceMethod yX1_endsNote, Cond.selects RX1 yX1_endsNote yX1_endsNote, Cond.code yX1_endsNote cX1_endsNote 1 (some .boolean), Cond.fieldLink RX1 15 "NoteThemes$BoardText" "notesRead" "I", Cond.fieldLink RX1 9 "NoteThemes$BoardText" "board" "LNoteThemes$Board;", Cond.fieldLink RX1 53 "NoteThemes$Board" "notes" "I", Cond.methodLink RX1 58 yX0_addNote, Cond.instanceMethod yX0_addNote, Cond.selects RX0 yX0_addNote yX0_addNote, Cond.initialized RX0, Cond.code yX0_addNote cX0_addNote 5 none]
def wsX1_takes_r2 : List Cond := [Cond.fieldLink RX0 9 "NoteThemes$Board" "notes" "I", Cond.fieldLink RX0 22 "NoteThemes$Board" "themeOf" "[I", Cond.fieldLink RX0 25 "NoteThemes$Board" "dotsAt" "[I", Cond.methodLink RX0 46 yX0_moveNote, Cond.instanceMethod yX0_moveNote, Cond.selects RX0 yX0_moveNote yX0_moveNote, Cond.code yX0_moveNote cX0_moveNote 4 none, Cond.fieldLink RX0 15 "NoteThemes$Board" "columnOf" "[I", Cond.fieldLink RX0 19 "NoteThemes$Board" "rowOf" "[I", Cond.methodLink RX1 43 yX1_takesStar, Cond.instanceMethod yX1_takesStar, Cond.selects RX1 yX1_takesStar yX1_takesStar, Cond.code yX1_takesStar cX1_takesStar 2 (some .boolean), Cond.methodLink RX1 62 yX0_dotsLeft, Cond.instanceMethod yX0_dotsLeft, Cond.selects RX0 yX0_dotsLeft yX0_dotsLeft, Cond.code yX0_dotsLeft cX0_dotsLeft 4 (some .int), Cond.fieldLink RX0 34 "NoteThemes$Board" "settings" "[I", Cond.methodLink RX0 71 Lib.Math.max.name, Cond.static Lib.Math.max.name, Cond.initialized "java/lang/Math", Cond.code Lib.Math.max.name Lib.Math.max.code 2 (some .int), Cond.methodLink RX0 68 yX0_dotsOfPerson, Cond.instanceMethod yX0_dotsOfPerson]
def wsX1_takes_r3 : List Cond := [Cond.selects RX0 yX0_dotsOfPerson yX0_dotsOfPerson, Cond.code yX0_dotsOfPerson cX0_dotsOfPerson 3 (some .int), Cond.methodLink RX1 66 yX0_hasMostDots, Cond.instanceMethod yX0_hasMostDots, Cond.selects RX0 yX0_hasMostDots yX0_hasMostDots, Cond.code yX0_hasMostDots cX0_hasMostDots 3 (some .boolean), Cond.methodLink RX1 70 yX0_addDots, Cond.instanceMethod yX0_addDots, Cond.selects RX0 yX0_addDots yX0_addDots, Cond.code yX0_addDots cX0_addDots 4 none, Cond.methodLink RX1 46 yX1_takesSemicolon, Cond.instanceMethod yX1_takesSemicolon, Cond.selects RX1 yX1_takesSemicolon yX1_takesSemicolon, Cond.code yX1_takesSemicolon cX1_takesSemicolon 1 (some .boolean), Cond.methodLink RX1 49 yX1_takesDigit, Cond.instanceMethod yX1_takesDigit, Cond.selects RX1 yX1_takesDigit yX1_takesDigit, Cond.code yX1_takesDigit cX1_takesDigit 3 (some .boolean)]
def wsX1_takes : List Cond := .code yX1_takes cX1_takes 2 (some .boolean) :: ((wsX1_takes_r1 ++ (wsX1_takes_r2 ++ wsX1_takes_r3)) ++ wsX10 ++ wsX00)
def wsX1_findFault_r1 : List Cond := [Cond.fieldLink RX1 15 "NoteThemes$BoardText" "notesRead" "I", Cond.methodLink RX1 28 yX1_beginNumber, Cond.instanceMethod yX1_beginNumber, Cond.selects RX1 yX1_beginNumber yX1_beginNumber, Cond.initialized RX1, Cond.code yX1_beginNumber cX1_beginNumber 2 none, Cond.fieldLink RX1 19 "NoteThemes$BoardText" "part" "I", Cond.fieldLink RX1 22 "NoteThemes$BoardText" "number" "I", Cond.methodLink RX1 32 yX1_takes, Cond.instanceMethod yX1_takes, Cond.selects RX1 yX1_takes yX1_takes, Cond.code yX1_takes cX1_takes 2 (some .boolean), Cond.methodLink RX1 40 yX1_takesComma, Cond.instanceMethod yX1_takesComma, Cond.selects RX1 yX1_takesComma yX1_takesComma, Cond.code yX1_takesComma cX1_takesComma 1 (some .boolean), Cond.fieldLink RX1 25 "NoteThemes$BoardText" "column" "I", Cond.methodLink RX1 36 yX1_endsNote, Cond.instanceMethod yX1_endsNote, Cond.selects RX1 yX1_endsNote yX1_endsNote, Cond.code yX1_endsNote cX1_endsNote 1 (some .boolean), Cond.fieldLink RX1 9 "NoteThemes$BoardText" "board" "LNoteThemes$Board;", Cond.fieldLink RX1 53 "NoteThemes$Board" "notes" "I", Cond.methodLink RX1 58 yX0_addNote]
def wsX1_findFault_r2 : List Cond := [Cond.instanceMethod yX0_addNote, Cond.selects RX0 yX0_addNote yX0_addNote, Cond.initialized RX0, Cond.code yX0_addNote cX0_addNote 5 none, Cond.fieldLink RX0 9 "NoteThemes$Board" "notes" "I", Cond.fieldLink RX0 22 "NoteThemes$Board" "themeOf" "[I", Cond.fieldLink RX0 25 "NoteThemes$Board" "dotsAt" "[I", Cond.methodLink RX0 46 yX0_moveNote, Cond.instanceMethod yX0_moveNote, Cond.selects RX0 yX0_moveNote yX0_moveNote, Cond.code yX0_moveNote cX0_moveNote 4 none, Cond.fieldLink RX0 15 "NoteThemes$Board" "columnOf" "[I", Cond.fieldLink RX0 19 "NoteThemes$Board" "rowOf" "[I", Cond.methodLink RX1 43 yX1_takesStar, Cond.instanceMethod yX1_takesStar, Cond.selects RX1 yX1_takesStar yX1_takesStar, Cond.code yX1_takesStar cX1_takesStar 2 (some .boolean), Cond.methodLink RX1 62 yX0_dotsLeft, Cond.instanceMethod yX0_dotsLeft, Cond.selects RX0 yX0_dotsLeft yX0_dotsLeft, Cond.code yX0_dotsLeft cX0_dotsLeft 4 (some .int), Cond.fieldLink RX0 34 "NoteThemes$Board" "settings" "[I", Cond.methodLink RX0 71 Lib.Math.max.name, Cond.static Lib.Math.max.name]
def wsX1_findFault_r3 : List Cond := [Cond.initialized "java/lang/Math", Cond.code Lib.Math.max.name Lib.Math.max.code 2 (some .int), Cond.methodLink RX0 68 yX0_dotsOfPerson, Cond.instanceMethod yX0_dotsOfPerson, Cond.selects RX0 yX0_dotsOfPerson yX0_dotsOfPerson, Cond.code yX0_dotsOfPerson cX0_dotsOfPerson 3 (some .int), Cond.methodLink RX1 66 yX0_hasMostDots, Cond.instanceMethod yX0_hasMostDots, Cond.selects RX0 yX0_hasMostDots yX0_hasMostDots, Cond.code yX0_hasMostDots cX0_hasMostDots 3 (some .boolean), Cond.methodLink RX1 70 yX0_addDots, Cond.instanceMethod yX0_addDots, Cond.selects RX0 yX0_addDots yX0_addDots, Cond.code yX0_addDots cX0_addDots 4 none, Cond.methodLink RX1 46 yX1_takesSemicolon, Cond.instanceMethod yX1_takesSemicolon, Cond.selects RX1 yX1_takesSemicolon yX1_takesSemicolon, Cond.code yX1_takesSemicolon cX1_takesSemicolon 1 (some .boolean), Cond.methodLink RX1 49 yX1_takesDigit, Cond.instanceMethod yX1_takesDigit, Cond.selects RX1 yX1_takesDigit yX1_takesDigit, Cond.code yX1_takesDigit cX1_takesDigit 3 (some .boolean)]
def wsX1_findFault : List Cond := .code yX1_findFault cX1_findFault 4 (some .int) :: ((wsX1_findFault_r1 ++ (wsX1_findFault_r2 ++ wsX1_findFault_r3)) ++ wsX10 ++ wsX00)
def wsX2_init : List Cond := .code yX2_init cX2_init 1 none :: ([.methodLink RX2 3 objectInit, .instanceMethod objectInit, .code objectInit ⟨#[0xb1]⟩ 1 none, .fieldLink RX2 9 "NoteThemes$Heaps" "number" "I", .fieldLink RX2 15 "NoteThemes$Heaps" "notes" "I", .arrayClass .int, .fieldLink RX2 18 "NoteThemes$Heaps" "heapOf" "[I", .fieldLink RX2 22 "NoteThemes$Heaps" "lowestOf" "[I"] ++ wsX20)
def wsX2_join : List Cond := .code yX2_join cX2_join 6 none :: ([.methodLink RX2 39 Lib.Math.min.name, .static Lib.Math.min.name, .initialized "java/lang/Math", .code Lib.Math.min.name Lib.Math.min.code 2 (some .int), .methodLink RX2 44 Lib.Math.max.name, .static Lib.Math.max.name, .code Lib.Math.max.name Lib.Math.max.code 2 (some .int), .fieldLink RX2 15 "NoteThemes$Heaps" "notes" "I", .fieldLink RX2 22 "NoteThemes$Heaps" "lowestOf" "[I"] ++ wsX20)
def wsX2_numberThem : List Cond := .code yX2_numberThem cX2_numberThem 2 none :: ([.fieldLink RX2 9 "NoteThemes$Heaps" "number" "I", .fieldLink RX2 15 "NoteThemes$Heaps" "notes" "I", .fieldLink RX2 22 "NoteThemes$Heaps" "lowestOf" "[I", .fieldLink RX2 18 "NoteThemes$Heaps" "heapOf" "[I"] ++ wsX20)
def wsX2_find_r1 : List Cond := [Cond.fieldLink RX2 25 "NoteThemes$Board" "notes" "I", Cond.fieldLink RX2 15 "NoteThemes$Heaps" "notes" "I", Cond.fieldLink RX2 22 "NoteThemes$Heaps" "lowestOf" "[I", Cond.fieldLink RX2 9 "NoteThemes$Heaps" "number" "I", Cond.methodLink RX2 28 yX0_distance, Cond.instanceMethod yX0_distance, Cond.selects RX0 yX0_distance yX0_distance, Cond.initialized RX0, Cond.code yX0_distance cX0_distance 3 (some .int), Cond.fieldLink RX0 15 "NoteThemes$Board" "columnOf" "[I", Cond.methodLink RX0 58 Lib.Math.abs.name, Cond.static Lib.Math.abs.name, Cond.initialized "java/lang/Math", Cond.code Lib.Math.abs.name Lib.Math.abs.code 1 (some .int), Cond.fieldLink RX0 19 "NoteThemes$Board" "rowOf" "[I", Cond.methodLink RX2 32 yX2_join, Cond.instanceMethod yX2_join, Cond.selects RX2 yX2_join yX2_join, Cond.initialized RX2, Cond.code yX2_join cX2_join 6 none, Cond.methodLink RX2 39 Lib.Math.min.name, Cond.static Lib.Math.min.name, Cond.code Lib.Math.min.name Lib.Math.min.code 2 (some .int), Cond.methodLink RX2 44 Lib.Math.max.name]
def wsX2_find_r2 : List Cond := [Cond.static Lib.Math.max.name, Cond.code Lib.Math.max.name Lib.Math.max.code 2 (some .int), Cond.methodLink RX2 36 yX2_numberThem, Cond.instanceMethod yX2_numberThem, Cond.selects RX2 yX2_numberThem yX2_numberThem, Cond.code yX2_numberThem cX2_numberThem 2 none, Cond.fieldLink RX2 18 "NoteThemes$Heaps" "heapOf" "[I"]
def wsX2_find : List Cond := .code yX2_find cX2_find 5 (some .int) :: ((wsX2_find_r1 ++ wsX2_find_r2) ++ wsX00 ++ wsX20)
def wsX2_has : List Cond := .code yX2_has cX2_has 2 (some .boolean) :: ([.fieldLink RX2 9 "NoteThemes$Heaps" "number" "I"] ++ wsX20)
def wsX2_notesIn : List Cond := .code yX2_notesIn cX2_notesIn 4 (some .int) :: ([.fieldLink RX2 15 "NoteThemes$Heaps" "notes" "I", .fieldLink RX2 18 "NoteThemes$Heaps" "heapOf" "[I"] ++ wsX20)
def wsX2_lowestNoteIn : List Cond := .code yX2_lowestNoteIn cX2_lowestNoteIn 3 (some .int) :: ([.fieldLink RX2 15 "NoteThemes$Heaps" "notes" "I", .fieldLink RX2 18 "NoteThemes$Heaps" "heapOf" "[I"] ++ wsX20)
def wsX2_dotsIn : List Cond := .code yX2_dotsIn cX2_dotsIn 5 (some .int) :: ([.fieldLink RX2 15 "NoteThemes$Heaps" "notes" "I", .fieldLink RX2 18 "NoteThemes$Heaps" "heapOf" "[I", .methodLink RX2 47 yX0_dotsOn, .instanceMethod yX0_dotsOn, .selects RX0 yX0_dotsOn yX0_dotsOn, .initialized RX0, .code yX0_dotsOn cX0_dotsOn 4 (some .int), .methodLink RX0 68 yX0_dotsOfPerson, .instanceMethod yX0_dotsOfPerson, .selects RX0 yX0_dotsOfPerson yX0_dotsOfPerson, .code yX0_dotsOfPerson cX0_dotsOfPerson 3 (some .int), .fieldLink RX0 25 "NoteThemes$Board" "dotsAt" "[I"] ++ wsX20 ++ wsX00)
def wsX2_freeNotesIn : List Cond := .code yX2_freeNotesIn cX2_freeNotesIn 5 (some .int) :: ([.fieldLink RX2 15 "NoteThemes$Heaps" "notes" "I", .fieldLink RX2 18 "NoteThemes$Heaps" "heapOf" "[I", .fieldLink RX2 51 "NoteThemes$Board" "themeOf" "[I"] ++ wsX20 ++ wsX00)
def wsX2_distancesTo : List Cond := .code yX2_distancesTo cX2_distancesTo 5 (some .int) :: ([.fieldLink RX2 15 "NoteThemes$Heaps" "notes" "I", .fieldLink RX2 18 "NoteThemes$Heaps" "heapOf" "[I", .methodLink RX2 28 yX0_distance, .instanceMethod yX0_distance, .selects RX0 yX0_distance yX0_distance, .initialized RX0, .code yX0_distance cX0_distance 3 (some .int), .fieldLink RX0 15 "NoteThemes$Board" "columnOf" "[I", .methodLink RX0 58 Lib.Math.abs.name, .static Lib.Math.abs.name, .initialized "java/lang/Math", .code Lib.Math.abs.name Lib.Math.abs.code 1 (some .int), .fieldLink RX0 19 "NoteThemes$Board" "rowOf" "[I"] ++ wsX20 ++ wsX00)
def wsX2_middleOf : List Cond := .code yX2_middleOf cX2_middleOf 7 (some .int) :: ([.fieldLink RX2 15 "NoteThemes$Heaps" "notes" "I", .fieldLink RX2 18 "NoteThemes$Heaps" "heapOf" "[I", .methodLink RX2 54 yX2_distancesTo, .instanceMethod yX2_distancesTo, .selects RX2 yX2_distancesTo yX2_distancesTo, .initialized RX2, .code yX2_distancesTo cX2_distancesTo 5 (some .int), .methodLink RX2 28 yX0_distance, .instanceMethod yX0_distance, .selects RX0 yX0_distance yX0_distance, .initialized RX0, .code yX0_distance cX0_distance 3 (some .int), .fieldLink RX0 15 "NoteThemes$Board" "columnOf" "[I", .methodLink RX0 58 Lib.Math.abs.name, .static Lib.Math.abs.name, .initialized "java/lang/Math", .code Lib.Math.abs.name Lib.Math.abs.code 1 (some .int), .fieldLink RX0 19 "NoteThemes$Board" "rowOf" "[I"] ++ wsX20 ++ wsX00)
def wsX2_widthOf : List Cond := .code yX2_widthOf cX2_widthOf 6 (some .int) :: ([.fieldLink RX2 15 "NoteThemes$Heaps" "notes" "I", .fieldLink RX2 18 "NoteThemes$Heaps" "heapOf" "[I", .methodLink RX2 44 Lib.Math.max.name, .static Lib.Math.max.name, .initialized "java/lang/Math", .code Lib.Math.max.name Lib.Math.max.code 2 (some .int), .methodLink RX2 28 yX0_distance, .instanceMethod yX0_distance, .selects RX0 yX0_distance yX0_distance, .initialized RX0, .code yX0_distance cX0_distance 3 (some .int), .fieldLink RX0 15 "NoteThemes$Board" "columnOf" "[I", .methodLink RX0 58 Lib.Math.abs.name, .static Lib.Math.abs.name, .code Lib.Math.abs.name Lib.Math.abs.code 1 (some .int), .fieldLink RX0 19 "NoteThemes$Board" "rowOf" "[I"] ++ wsX20 ++ wsX00)
def wsX3_init_r1 : List Cond := [Cond.methodLink RX3 3 objectInit, Cond.instanceMethod objectInit, Cond.code objectInit ⟨#[0xb1]⟩ 1 none, Cond.fieldLink RX3 9 "NoteThemes$History" "states" "I", Cond.classLink RX3 15 RX0, Cond.fieldLink RX3 17 "NoteThemes$History" "kept" "[LNoteThemes$Board;", Cond.instantiable RX0 8, Cond.initialized RX0, Cond.methodLink RX3 21 yX0_init, Cond.instanceMethod yX0_init, Cond.code yX0_init cX0_init 1 none, Cond.methodLink RX0 3 objectInit, Cond.fieldLink RX0 9 "NoteThemes$Board" "notes" "I", Cond.arrayClass .int, Cond.fieldLink RX0 15 "NoteThemes$Board" "columnOf" "[I", Cond.fieldLink RX0 19 "NoteThemes$Board" "rowOf" "[I", Cond.fieldLink RX0 22 "NoteThemes$Board" "themeOf" "[I", Cond.fieldLink RX0 25 "NoteThemes$Board" "dotsAt" "[I", Cond.fieldLink RX0 28 "NoteThemes$Board" "themes" "I", Cond.fieldLink RX0 31 "NoteThemes$Board" "votedAt" "[I", Cond.fieldLink RX0 34 "NoteThemes$Board" "settings" "[I", Cond.methodLink RX0 40 arraycopyName, Cond.native arraycopyName, Cond.static arraycopyName]
def wsX3_init_r2 : List Cond := [Cond.initialized "java/lang/System"]
def wsX3_init : List Cond := .code yX3_init cX3_init 2 none :: ((wsX3_init_r1 ++ wsX3_init_r2) ++ wsX30 ++ wsX00)
def wsX3_dropOldest : List Cond := .code yX3_dropOldest cX3_dropOldest 3 none :: ([.fieldLink RX3 17 "NoteThemes$History" "kept" "[LNoteThemes$Board;", .fieldLink RX3 9 "NoteThemes$History" "states" "I"] ++ wsX30)
def wsX3_remember : List Cond := .code yX3_remember cX3_remember 2 none :: ([.fieldLink RX3 9 "NoteThemes$History" "states" "I", .fieldLink RX3 17 "NoteThemes$History" "kept" "[LNoteThemes$Board;", .methodLink RX3 22 yX3_dropOldest, .instanceMethod yX3_dropOldest, .selects RX3 yX3_dropOldest yX3_dropOldest, .initialized RX3, .code yX3_dropOldest cX3_dropOldest 3 none, .methodLink RX3 25 yX0_copyFrom, .instanceMethod yX0_copyFrom, .selects RX0 yX0_copyFrom yX0_copyFrom, .initialized RX0, .code yX0_copyFrom cX0_copyFrom 2 none, .fieldLink RX0 9 "NoteThemes$Board" "notes" "I", .fieldLink RX0 15 "NoteThemes$Board" "columnOf" "[I", .methodLink RX0 40 arraycopyName, .native arraycopyName, .static arraycopyName, .initialized "java/lang/System", .fieldLink RX0 19 "NoteThemes$Board" "rowOf" "[I", .fieldLink RX0 22 "NoteThemes$Board" "themeOf" "[I", .fieldLink RX0 25 "NoteThemes$Board" "dotsAt" "[I", .fieldLink RX0 28 "NoteThemes$Board" "themes" "I", .fieldLink RX0 31 "NoteThemes$Board" "votedAt" "[I", .fieldLink RX0 34 "NoteThemes$Board" "settings" "[I"] ++ wsX30 ++ wsX00)
def wsX3_takeBack : List Cond := .code yX3_takeBack cX3_takeBack 2 none :: ([.fieldLink RX3 9 "NoteThemes$History" "states" "I", .fieldLink RX3 17 "NoteThemes$History" "kept" "[LNoteThemes$Board;", .methodLink RX3 25 yX0_copyFrom, .instanceMethod yX0_copyFrom, .selects RX0 yX0_copyFrom yX0_copyFrom, .initialized RX0, .code yX0_copyFrom cX0_copyFrom 2 none, .fieldLink RX0 9 "NoteThemes$Board" "notes" "I", .fieldLink RX0 15 "NoteThemes$Board" "columnOf" "[I", .methodLink RX0 40 arraycopyName, .native arraycopyName, .static arraycopyName, .initialized "java/lang/System", .fieldLink RX0 19 "NoteThemes$Board" "rowOf" "[I", .fieldLink RX0 22 "NoteThemes$Board" "themeOf" "[I", .fieldLink RX0 25 "NoteThemes$Board" "dotsAt" "[I", .fieldLink RX0 28 "NoteThemes$Board" "themes" "I", .fieldLink RX0 31 "NoteThemes$Board" "votedAt" "[I", .fieldLink RX0 34 "NoteThemes$Board" "settings" "[I"] ++ wsX30 ++ wsX00)
def wsX4_init : List Cond := .code yX4_init cX4_init 1 none :: ([.methodLink RX4 3 objectInit, .instanceMethod objectInit, .code objectInit ⟨#[0xb1]⟩ 1 none, .arrayClass .int, .fieldLink RX4 9 "NoteThemes$Names" "nameOf" "[I"] ++ wsX40)
def wsX4_isTaken : List Cond := .code yX4_isTaken cX4_isTaken 4 (some .boolean) :: ([.fieldLink RX4 9 "NoteThemes$Names" "nameOf" "[I"] ++ wsX40)
def wsX4_bestName : List Cond := .code yX4_bestName cX4_bestName 7 (some .int) :: ([.methodLink RX4 25 yX0_votesFor, .instanceMethod yX0_votesFor, .selects RX0 yX0_votesFor yX0_votesFor, .initialized RX0, .code yX0_votesFor cX0_votesFor 5 (some .int), .methodLink RX0 83 yX0_voteOf, .instanceMethod yX0_voteOf, .selects RX0 yX0_voteOf yX0_voteOf, .code yX0_voteOf cX0_voteOf 3 (some .int), .fieldLink RX0 31 "NoteThemes$Board" "votedAt" "[I", .methodLink RX4 29 yX4_isTaken, .instanceMethod yX4_isTaken, .selects RX4 yX4_isTaken yX4_isTaken, .initialized RX4, .code yX4_isTaken cX4_isTaken 4 (some .boolean), .fieldLink RX4 9 "NoteThemes$Names" "nameOf" "[I"] ++ wsX00 ++ wsX40)
def wsX4_choose : List Cond := .code yX4_choose cX4_choose 4 (some .int) :: ([.fieldLink RX4 15 "NoteThemes$Board" "themes" "I", .fieldLink RX4 9 "NoteThemes$Names" "nameOf" "[I", .methodLink RX4 21 yX4_bestName, .instanceMethod yX4_bestName, .selects RX4 yX4_bestName yX4_bestName, .initialized RX4, .code yX4_bestName cX4_bestName 7 (some .int), .methodLink RX4 25 yX0_votesFor, .instanceMethod yX0_votesFor, .selects RX0 yX0_votesFor yX0_votesFor, .initialized RX0, .code yX0_votesFor cX0_votesFor 5 (some .int), .methodLink RX0 83 yX0_voteOf, .instanceMethod yX0_voteOf, .selects RX0 yX0_voteOf yX0_voteOf, .code yX0_voteOf cX0_voteOf 3 (some .int), .fieldLink RX0 31 "NoteThemes$Board" "votedAt" "[I", .methodLink RX4 29 yX4_isTaken, .instanceMethod yX4_isTaken, .selects RX4 yX4_isTaken yX4_isTaken, .code yX4_isTaken cX4_isTaken 4 (some .boolean)] ++ wsX00 ++ wsX40)
def wsX5_init_r1 : List Cond := [Cond.methodLink RX5 1 objectInit, Cond.instanceMethod objectInit, Cond.code objectInit ⟨#[0xb1]⟩ 1 none, Cond.classLink RX5 7 RX0, Cond.instantiable RX0 8, Cond.initialized RX0, Cond.fieldLink RX5 10 "NoteThemes" "board" "LNoteThemes$Board;", Cond.classLink RX5 16 RX3, Cond.instantiable RX3 2, Cond.initialized RX3, Cond.fieldLink RX5 19 "NoteThemes" "history" "LNoteThemes$History;", Cond.fieldLink RX5 23 "NoteThemes" "snapshot" "LNoteThemes$Board;", Cond.fieldLink RX5 26 "NoteThemes" "hasSnapshot" "Z", Cond.arrayClass .char, Cond.fieldLink RX5 30 "NoteThemes" "text" "[C", Cond.fieldLink RX5 34 "NoteThemes" "textLength" "I", Cond.fieldLink RX5 38 "NoteThemes" "trial" "LNoteThemes$Board;", Cond.classLink RX5 41 RX2, Cond.instantiable RX2 4, Cond.initialized RX2, Cond.fieldLink RX5 44 "NoteThemes" "heapsNow" "LNoteThemes$Heaps;", Cond.fieldLink RX5 48 "NoteThemes" "heapsThen" "LNoteThemes$Heaps;", Cond.classLink RX5 51 RX4, Cond.instantiable RX4 1]
def wsX5_init_r2 : List Cond := [Cond.initialized RX4, Cond.fieldLink RX5 54 "NoteThemes" "names" "LNoteThemes$Names;", Cond.classLink RX5 58 RX1, Cond.instantiable RX1 5, Cond.initialized RX1, Cond.fieldLink RX5 63 "NoteThemes" "boardText" "LNoteThemes$BoardText;", Cond.methodLink RX5 9 yX0_init, Cond.instanceMethod yX0_init, Cond.code yX0_init cX0_init 1 none, Cond.methodLink RX0 3 objectInit, Cond.fieldLink RX0 9 "NoteThemes$Board" "notes" "I", Cond.arrayClass .int, Cond.fieldLink RX0 15 "NoteThemes$Board" "columnOf" "[I", Cond.fieldLink RX0 19 "NoteThemes$Board" "rowOf" "[I", Cond.fieldLink RX0 22 "NoteThemes$Board" "themeOf" "[I", Cond.fieldLink RX0 25 "NoteThemes$Board" "dotsAt" "[I", Cond.fieldLink RX0 28 "NoteThemes$Board" "themes" "I", Cond.fieldLink RX0 31 "NoteThemes$Board" "votedAt" "[I", Cond.fieldLink RX0 34 "NoteThemes$Board" "settings" "[I", Cond.methodLink RX0 40 arraycopyName, Cond.native arraycopyName, Cond.static arraycopyName, Cond.initialized "java/lang/System", Cond.methodLink RX5 18 yX3_init]
def wsX5_init_r3 : List Cond := [Cond.instanceMethod yX3_init, Cond.code yX3_init cX3_init 2 none, Cond.methodLink RX3 3 objectInit, Cond.fieldLink RX3 9 "NoteThemes$History" "states" "I", Cond.classLink RX3 15 RX0, Cond.fieldLink RX3 17 "NoteThemes$History" "kept" "[LNoteThemes$Board;", Cond.methodLink RX3 21 yX0_init, Cond.methodLink RX5 43 yX2_init, Cond.instanceMethod yX2_init, Cond.code yX2_init cX2_init 1 none, Cond.methodLink RX2 3 objectInit, Cond.fieldLink RX2 9 "NoteThemes$Heaps" "number" "I", Cond.fieldLink RX2 15 "NoteThemes$Heaps" "notes" "I", Cond.fieldLink RX2 18 "NoteThemes$Heaps" "heapOf" "[I", Cond.fieldLink RX2 22 "NoteThemes$Heaps" "lowestOf" "[I", Cond.methodLink RX5 53 yX4_init, Cond.instanceMethod yX4_init, Cond.code yX4_init cX4_init 1 none, Cond.methodLink RX4 3 objectInit, Cond.fieldLink RX4 9 "NoteThemes$Names" "nameOf" "[I", Cond.methodLink RX5 60 yX1_init, Cond.instanceMethod yX1_init, Cond.code yX1_init cX1_init 2 none, Cond.methodLink RX1 3 objectInit]
def wsX5_init_r4 : List Cond := [Cond.fieldLink RX1 9 "NoteThemes$BoardText" "board" "LNoteThemes$Board;", Cond.fieldLink RX1 15 "NoteThemes$BoardText" "notesRead" "I", Cond.fieldLink RX1 19 "NoteThemes$BoardText" "part" "I", Cond.fieldLink RX1 22 "NoteThemes$BoardText" "number" "I", Cond.fieldLink RX1 25 "NoteThemes$BoardText" "column" "I"]
def wsX5_init : List Cond := .code yX5_init cX5_init 1 none :: ((wsX5_init_r1 ++ (wsX5_init_r2 ++ (wsX5_init_r3 ++ wsX5_init_r4))) ++ wsX00 ++ wsX50 ++ wsX30 ++ wsX20 ++ wsX40 ++ wsX10)
def wsX5_isWithin : List Cond := .code yX5_isWithin cX5_isWithin 3 (some .boolean) :: ([])
def wsX5_isPlace : List Cond := .code yX5_isPlace cX5_isPlace 2 (some .boolean) :: ([.methodLink RX5 124 yX5_isWithin, .static yX5_isWithin, .initialized RX5, .code yX5_isWithin cX5_isWithin 3 (some .boolean)])
def wsX5_put_r1 : List Cond := [Cond.fieldLink RX5 10 "NoteThemes" "board" "LNoteThemes$Board;", Cond.fieldLink RX5 71 "NoteThemes$Board" "notes" "I", Cond.fieldLink RX5 19 "NoteThemes" "history" "LNoteThemes$History;", Cond.methodLink RX5 67 yX5_isPlace, Cond.static yX5_isPlace, Cond.initialized RX5, Cond.code yX5_isPlace cX5_isPlace 2 (some .boolean), Cond.methodLink RX5 124 yX5_isWithin, Cond.static yX5_isWithin, Cond.code yX5_isWithin cX5_isWithin 3 (some .boolean), Cond.methodLink RX5 74 yX3_remember, Cond.instanceMethod yX3_remember, Cond.selects RX3 yX3_remember yX3_remember, Cond.initialized RX3, Cond.code yX3_remember cX3_remember 2 none, Cond.fieldLink RX3 9 "NoteThemes$History" "states" "I", Cond.fieldLink RX3 17 "NoteThemes$History" "kept" "[LNoteThemes$Board;", Cond.methodLink RX3 22 yX3_dropOldest, Cond.instanceMethod yX3_dropOldest, Cond.selects RX3 yX3_dropOldest yX3_dropOldest, Cond.code yX3_dropOldest cX3_dropOldest 3 none, Cond.methodLink RX3 25 yX0_copyFrom, Cond.instanceMethod yX0_copyFrom, Cond.selects RX0 yX0_copyFrom yX0_copyFrom]
def wsX5_put_r2 : List Cond := [Cond.initialized RX0, Cond.code yX0_copyFrom cX0_copyFrom 2 none, Cond.fieldLink RX0 9 "NoteThemes$Board" "notes" "I", Cond.fieldLink RX0 15 "NoteThemes$Board" "columnOf" "[I", Cond.methodLink RX0 40 arraycopyName, Cond.native arraycopyName, Cond.static arraycopyName, Cond.initialized "java/lang/System", Cond.fieldLink RX0 19 "NoteThemes$Board" "rowOf" "[I", Cond.fieldLink RX0 22 "NoteThemes$Board" "themeOf" "[I", Cond.fieldLink RX0 25 "NoteThemes$Board" "dotsAt" "[I", Cond.fieldLink RX0 28 "NoteThemes$Board" "themes" "I", Cond.fieldLink RX0 31 "NoteThemes$Board" "votedAt" "[I", Cond.fieldLink RX0 34 "NoteThemes$Board" "settings" "[I", Cond.methodLink RX5 77 yX0_addNote, Cond.instanceMethod yX0_addNote, Cond.selects RX0 yX0_addNote yX0_addNote, Cond.code yX0_addNote cX0_addNote 5 none, Cond.methodLink RX0 46 yX0_moveNote, Cond.instanceMethod yX0_moveNote, Cond.selects RX0 yX0_moveNote yX0_moveNote, Cond.code yX0_moveNote cX0_moveNote 4 none]
def wsX5_put : List Cond := .code yX5_put cX5_put 3 (some .int) :: ((wsX5_put_r1 ++ wsX5_put_r2) ++ wsX50 ++ wsX00 ++ wsX30)
def wsX5_load_r1 : List Cond := [Cond.fieldLink RX5 38 "NoteThemes" "trial" "LNoteThemes$Board;", Cond.fieldLink RX5 10 "NoteThemes" "board" "LNoteThemes$Board;", Cond.fieldLink RX5 63 "NoteThemes" "boardText" "LNoteThemes$BoardText;", Cond.fieldLink RX5 30 "NoteThemes" "text" "[C", Cond.fieldLink RX5 34 "NoteThemes" "textLength" "I", Cond.fieldLink RX5 91 "NoteThemes$BoardText" "notesRead" "I", Cond.fieldLink RX5 19 "NoteThemes" "history" "LNoteThemes$History;", Cond.fieldLink RX5 71 "NoteThemes$Board" "notes" "I", Cond.methodLink RX5 81 yX0_copyFrom, Cond.instanceMethod yX0_copyFrom, Cond.selects RX0 yX0_copyFrom yX0_copyFrom, Cond.initialized RX0, Cond.code yX0_copyFrom cX0_copyFrom 2 none, Cond.fieldLink RX0 9 "NoteThemes$Board" "notes" "I", Cond.fieldLink RX0 15 "NoteThemes$Board" "columnOf" "[I", Cond.methodLink RX0 40 arraycopyName, Cond.native arraycopyName, Cond.static arraycopyName, Cond.initialized "java/lang/System", Cond.fieldLink RX0 19 "NoteThemes$Board" "rowOf" "[I", Cond.fieldLink RX0 22 "NoteThemes$Board" "themeOf" "[I", Cond.fieldLink RX0 25 "NoteThemes$Board" "dotsAt" "[I", Cond.fieldLink RX0 28 "NoteThemes$Board" "themes" "I", Cond.fieldLink RX0 31 "NoteThemes$Board" "votedAt" "[I"]
def wsX5_load_r2 : List Cond := [Cond.fieldLink RX0 34 "NoteThemes$Board" "settings" "[I", Cond.methodLink RX5 84 yX0_removeAll, Cond.instanceMethod yX0_removeAll, Cond.selects RX0 yX0_removeAll yX0_removeAll, Cond.code yX0_removeAll cX0_removeAll 1 none, Cond.methodLink RX5 87 yX1_findFault, Cond.instanceMethod yX1_findFault, Cond.selects RX1 yX1_findFault yX1_findFault, Cond.initialized RX1, Cond.code yX1_findFault cX1_findFault 4 (some .int), Cond.fieldLink RX1 15 "NoteThemes$BoardText" "notesRead" "I", Cond.methodLink RX1 28 yX1_beginNumber, Cond.instanceMethod yX1_beginNumber, Cond.selects RX1 yX1_beginNumber yX1_beginNumber, Cond.code yX1_beginNumber cX1_beginNumber 2 none, Cond.fieldLink RX1 19 "NoteThemes$BoardText" "part" "I", Cond.fieldLink RX1 22 "NoteThemes$BoardText" "number" "I", Cond.methodLink RX1 32 yX1_takes, Cond.instanceMethod yX1_takes, Cond.selects RX1 yX1_takes yX1_takes, Cond.code yX1_takes cX1_takes 2 (some .boolean), Cond.methodLink RX1 40 yX1_takesComma, Cond.instanceMethod yX1_takesComma, Cond.selects RX1 yX1_takesComma yX1_takesComma]
def wsX5_load_r3 : List Cond := [Cond.code yX1_takesComma cX1_takesComma 1 (some .boolean), Cond.fieldLink RX1 25 "NoteThemes$BoardText" "column" "I", Cond.methodLink RX1 36 yX1_endsNote, Cond.instanceMethod yX1_endsNote, Cond.selects RX1 yX1_endsNote yX1_endsNote, Cond.code yX1_endsNote cX1_endsNote 1 (some .boolean), Cond.fieldLink RX1 9 "NoteThemes$BoardText" "board" "LNoteThemes$Board;", Cond.fieldLink RX1 53 "NoteThemes$Board" "notes" "I", Cond.methodLink RX1 58 yX0_addNote, Cond.instanceMethod yX0_addNote, Cond.selects RX0 yX0_addNote yX0_addNote, Cond.code yX0_addNote cX0_addNote 5 none, Cond.methodLink RX0 46 yX0_moveNote, Cond.instanceMethod yX0_moveNote, Cond.selects RX0 yX0_moveNote yX0_moveNote, Cond.code yX0_moveNote cX0_moveNote 4 none, Cond.methodLink RX1 43 yX1_takesStar, Cond.instanceMethod yX1_takesStar, Cond.selects RX1 yX1_takesStar yX1_takesStar, Cond.code yX1_takesStar cX1_takesStar 2 (some .boolean), Cond.methodLink RX1 62 yX0_dotsLeft, Cond.instanceMethod yX0_dotsLeft, Cond.selects RX0 yX0_dotsLeft yX0_dotsLeft, Cond.code yX0_dotsLeft cX0_dotsLeft 4 (some .int)]
def wsX5_load_r4 : List Cond := [Cond.methodLink RX0 71 Lib.Math.max.name, Cond.static Lib.Math.max.name, Cond.initialized "java/lang/Math", Cond.code Lib.Math.max.name Lib.Math.max.code 2 (some .int), Cond.methodLink RX0 68 yX0_dotsOfPerson, Cond.instanceMethod yX0_dotsOfPerson, Cond.selects RX0 yX0_dotsOfPerson yX0_dotsOfPerson, Cond.code yX0_dotsOfPerson cX0_dotsOfPerson 3 (some .int), Cond.methodLink RX1 66 yX0_hasMostDots, Cond.instanceMethod yX0_hasMostDots, Cond.selects RX0 yX0_hasMostDots yX0_hasMostDots, Cond.code yX0_hasMostDots cX0_hasMostDots 3 (some .boolean), Cond.methodLink RX1 70 yX0_addDots, Cond.instanceMethod yX0_addDots, Cond.selects RX0 yX0_addDots yX0_addDots, Cond.code yX0_addDots cX0_addDots 4 none, Cond.methodLink RX1 46 yX1_takesSemicolon, Cond.instanceMethod yX1_takesSemicolon, Cond.selects RX1 yX1_takesSemicolon yX1_takesSemicolon, Cond.code yX1_takesSemicolon cX1_takesSemicolon 1 (some .boolean), Cond.methodLink RX1 49 yX1_takesDigit, Cond.instanceMethod yX1_takesDigit, Cond.selects RX1 yX1_takesDigit yX1_takesDigit, Cond.code yX1_takesDigit cX1_takesDigit 3 (some .boolean)]
def wsX5_load_r5 : List Cond := [Cond.methodLink RX5 74 yX3_remember, Cond.instanceMethod yX3_remember, Cond.selects RX3 yX3_remember yX3_remember, Cond.initialized RX3, Cond.code yX3_remember cX3_remember 2 none, Cond.fieldLink RX3 9 "NoteThemes$History" "states" "I", Cond.fieldLink RX3 17 "NoteThemes$History" "kept" "[LNoteThemes$Board;", Cond.methodLink RX3 22 yX3_dropOldest, Cond.instanceMethod yX3_dropOldest, Cond.selects RX3 yX3_dropOldest yX3_dropOldest, Cond.code yX3_dropOldest cX3_dropOldest 3 none, Cond.methodLink RX3 25 yX0_copyFrom]
def wsX5_load : List Cond := .code yX5_load cX5_load 2 (some .int) :: ((wsX5_load_r1 ++ (wsX5_load_r2 ++ (wsX5_load_r3 ++ (wsX5_load_r4 ++ wsX5_load_r5)))) ++ wsX50 ++ wsX10 ++ wsX00 ++ wsX30)
def wsX5_takeOff_r1 : List Cond := [Cond.fieldLink RX5 10 "NoteThemes" "board" "LNoteThemes$Board;", Cond.fieldLink RX5 19 "NoteThemes" "history" "LNoteThemes$History;", Cond.methodLink RX5 94 yX0_hasNote, Cond.instanceMethod yX0_hasNote, Cond.selects RX0 yX0_hasNote yX0_hasNote, Cond.initialized RX0, Cond.code yX0_hasNote cX0_hasNote 2 (some .boolean), Cond.fieldLink RX0 9 "NoteThemes$Board" "notes" "I", Cond.methodLink RX5 74 yX3_remember, Cond.instanceMethod yX3_remember, Cond.selects RX3 yX3_remember yX3_remember, Cond.initialized RX3, Cond.code yX3_remember cX3_remember 2 none, Cond.fieldLink RX3 9 "NoteThemes$History" "states" "I", Cond.fieldLink RX3 17 "NoteThemes$History" "kept" "[LNoteThemes$Board;", Cond.methodLink RX3 22 yX3_dropOldest, Cond.instanceMethod yX3_dropOldest, Cond.selects RX3 yX3_dropOldest yX3_dropOldest, Cond.code yX3_dropOldest cX3_dropOldest 3 none, Cond.methodLink RX3 25 yX0_copyFrom, Cond.instanceMethod yX0_copyFrom, Cond.selects RX0 yX0_copyFrom yX0_copyFrom, Cond.code yX0_copyFrom cX0_copyFrom 2 none, Cond.fieldLink RX0 15 "NoteThemes$Board" "columnOf" "[I"]
def wsX5_takeOff_r2 : List Cond := [Cond.methodLink RX0 40 arraycopyName, Cond.native arraycopyName, Cond.static arraycopyName, Cond.initialized "java/lang/System", Cond.fieldLink RX0 19 "NoteThemes$Board" "rowOf" "[I", Cond.fieldLink RX0 22 "NoteThemes$Board" "themeOf" "[I", Cond.fieldLink RX0 25 "NoteThemes$Board" "dotsAt" "[I", Cond.fieldLink RX0 28 "NoteThemes$Board" "themes" "I", Cond.fieldLink RX0 31 "NoteThemes$Board" "votedAt" "[I", Cond.fieldLink RX0 34 "NoteThemes$Board" "settings" "[I", Cond.methodLink RX5 98 yX0_dotsOn, Cond.instanceMethod yX0_dotsOn, Cond.selects RX0 yX0_dotsOn yX0_dotsOn, Cond.code yX0_dotsOn cX0_dotsOn 4 (some .int), Cond.methodLink RX0 68 yX0_dotsOfPerson, Cond.instanceMethod yX0_dotsOfPerson, Cond.selects RX0 yX0_dotsOfPerson yX0_dotsOfPerson, Cond.code yX0_dotsOfPerson cX0_dotsOfPerson 3 (some .int), Cond.methodLink RX5 102 yX0_removeNote, Cond.instanceMethod yX0_removeNote, Cond.selects RX0 yX0_removeNote yX0_removeNote, Cond.code yX0_removeNote cX0_removeNote 4 none, Cond.methodLink RX0 50 yX0_copyNote, Cond.instanceMethod yX0_copyNote]
def wsX5_takeOff_r3 : List Cond := [Cond.selects RX0 yX0_copyNote yX0_copyNote, Cond.code yX0_copyNote cX0_copyNote 4 none, Cond.methodLink RX0 46 yX0_moveNote, Cond.instanceMethod yX0_moveNote, Cond.selects RX0 yX0_moveNote yX0_moveNote, Cond.code yX0_moveNote cX0_moveNote 4 none, Cond.methodLink RX0 54 yX0_removeThemeIfEmpty, Cond.instanceMethod yX0_removeThemeIfEmpty, Cond.selects RX0 yX0_removeThemeIfEmpty yX0_removeThemeIfEmpty, Cond.code yX0_removeThemeIfEmpty cX0_removeThemeIfEmpty 4 none, Cond.methodLink RX0 86 yX0_notesOfTheme, Cond.instanceMethod yX0_notesOfTheme, Cond.selects RX0 yX0_notesOfTheme yX0_notesOfTheme, Cond.code yX0_notesOfTheme cX0_notesOfTheme 4 (some .int), Cond.methodLink RX0 83 yX0_voteOf, Cond.instanceMethod yX0_voteOf, Cond.selects RX0 yX0_voteOf yX0_voteOf, Cond.code yX0_voteOf cX0_voteOf 3 (some .int), Cond.methodLink RX0 80 yX0_setVote, Cond.instanceMethod yX0_setVote, Cond.selects RX0 yX0_setVote yX0_setVote, Cond.code yX0_setVote cX0_setVote 4 none]
def wsX5_takeOff : List Cond := .code yX5_takeOff cX5_takeOff 3 (some .int) :: ((wsX5_takeOff_r1 ++ (wsX5_takeOff_r2 ++ wsX5_takeOff_r3)) ++ wsX50 ++ wsX00 ++ wsX30)
def wsX5_findHeaps_r1 : List Cond := [Cond.fieldLink RX5 44 "NoteThemes" "heapsNow" "LNoteThemes$Heaps;", Cond.fieldLink RX5 10 "NoteThemes" "board" "LNoteThemes$Board;", Cond.fieldLink RX5 200 "NoteThemes$Board" "settings" "[I", Cond.methodLink RX5 248 yX2_find, Cond.instanceMethod yX2_find, Cond.selects RX2 yX2_find yX2_find, Cond.initialized RX2, Cond.code yX2_find cX2_find 5 (some .int), Cond.fieldLink RX2 25 "NoteThemes$Board" "notes" "I", Cond.fieldLink RX2 15 "NoteThemes$Heaps" "notes" "I", Cond.fieldLink RX2 22 "NoteThemes$Heaps" "lowestOf" "[I", Cond.fieldLink RX2 9 "NoteThemes$Heaps" "number" "I", Cond.methodLink RX2 28 yX0_distance, Cond.instanceMethod yX0_distance, Cond.selects RX0 yX0_distance yX0_distance, Cond.initialized RX0, Cond.code yX0_distance cX0_distance 3 (some .int), Cond.fieldLink RX0 15 "NoteThemes$Board" "columnOf" "[I", Cond.methodLink RX0 58 Lib.Math.abs.name, Cond.static Lib.Math.abs.name, Cond.initialized "java/lang/Math", Cond.code Lib.Math.abs.name Lib.Math.abs.code 1 (some .int), Cond.fieldLink RX0 19 "NoteThemes$Board" "rowOf" "[I", Cond.methodLink RX2 32 yX2_join]
def wsX5_findHeaps_r2 : List Cond := [Cond.instanceMethod yX2_join, Cond.selects RX2 yX2_join yX2_join, Cond.code yX2_join cX2_join 6 none, Cond.methodLink RX2 39 Lib.Math.min.name, Cond.static Lib.Math.min.name, Cond.code Lib.Math.min.name Lib.Math.min.code 2 (some .int), Cond.methodLink RX2 44 Lib.Math.max.name, Cond.static Lib.Math.max.name, Cond.code Lib.Math.max.name Lib.Math.max.code 2 (some .int), Cond.methodLink RX2 36 yX2_numberThem, Cond.instanceMethod yX2_numberThem, Cond.selects RX2 yX2_numberThem yX2_numberThem, Cond.code yX2_numberThem cX2_numberThem 2 none, Cond.fieldLink RX2 18 "NoteThemes$Heaps" "heapOf" "[I"]
def wsX5_findHeaps : List Cond := .code yX5_findHeaps cX5_findHeaps 1 (some .int) :: ((wsX5_findHeaps_r1 ++ wsX5_findHeaps_r2) ++ wsX50 ++ wsX00 ++ wsX20)
def wsX5_drag_r1 : List Cond := [Cond.fieldLink RX5 10 "NoteThemes" "board" "LNoteThemes$Board;", Cond.fieldLink RX5 106 "NoteThemes$Board" "columnOf" "[I", Cond.fieldLink RX5 110 "NoteThemes$Board" "rowOf" "[I", Cond.fieldLink RX5 19 "NoteThemes" "history" "LNoteThemes$History;", Cond.methodLink RX5 94 yX0_hasNote, Cond.instanceMethod yX0_hasNote, Cond.selects RX0 yX0_hasNote yX0_hasNote, Cond.initialized RX0, Cond.code yX0_hasNote cX0_hasNote 2 (some .boolean), Cond.fieldLink RX0 9 "NoteThemes$Board" "notes" "I", Cond.methodLink RX5 67 yX5_isPlace, Cond.static yX5_isPlace, Cond.initialized RX5, Cond.code yX5_isPlace cX5_isPlace 2 (some .boolean), Cond.methodLink RX5 124 yX5_isWithin, Cond.static yX5_isWithin, Cond.code yX5_isWithin cX5_isWithin 3 (some .boolean), Cond.methodLink RX5 74 yX3_remember, Cond.instanceMethod yX3_remember, Cond.selects RX3 yX3_remember yX3_remember, Cond.initialized RX3, Cond.code yX3_remember cX3_remember 2 none, Cond.fieldLink RX3 9 "NoteThemes$History" "states" "I", Cond.fieldLink RX3 17 "NoteThemes$History" "kept" "[LNoteThemes$Board;"]
def wsX5_drag_r2 : List Cond := [Cond.methodLink RX3 22 yX3_dropOldest, Cond.instanceMethod yX3_dropOldest, Cond.selects RX3 yX3_dropOldest yX3_dropOldest, Cond.code yX3_dropOldest cX3_dropOldest 3 none, Cond.methodLink RX3 25 yX0_copyFrom, Cond.instanceMethod yX0_copyFrom, Cond.selects RX0 yX0_copyFrom yX0_copyFrom, Cond.code yX0_copyFrom cX0_copyFrom 2 none, Cond.fieldLink RX0 15 "NoteThemes$Board" "columnOf" "[I", Cond.methodLink RX0 40 arraycopyName, Cond.native arraycopyName, Cond.static arraycopyName, Cond.initialized "java/lang/System", Cond.fieldLink RX0 19 "NoteThemes$Board" "rowOf" "[I", Cond.fieldLink RX0 22 "NoteThemes$Board" "themeOf" "[I", Cond.fieldLink RX0 25 "NoteThemes$Board" "dotsAt" "[I", Cond.fieldLink RX0 28 "NoteThemes$Board" "themes" "I", Cond.fieldLink RX0 31 "NoteThemes$Board" "votedAt" "[I", Cond.fieldLink RX0 34 "NoteThemes$Board" "settings" "[I", Cond.methodLink RX5 113 yX0_moveNote, Cond.instanceMethod yX0_moveNote, Cond.selects RX0 yX0_moveNote yX0_moveNote, Cond.code yX0_moveNote cX0_moveNote 4 none, Cond.methodLink RX5 117 yX5_findHeaps]
def wsX5_drag_r3 : List Cond := [Cond.instanceMethod yX5_findHeaps, Cond.selects RX5 yX5_findHeaps yX5_findHeaps, Cond.code yX5_findHeaps cX5_findHeaps 1 (some .int), Cond.fieldLink RX5 44 "NoteThemes" "heapsNow" "LNoteThemes$Heaps;", Cond.fieldLink RX5 200 "NoteThemes$Board" "settings" "[I", Cond.methodLink RX5 248 yX2_find, Cond.instanceMethod yX2_find, Cond.selects RX2 yX2_find yX2_find, Cond.initialized RX2, Cond.code yX2_find cX2_find 5 (some .int), Cond.fieldLink RX2 25 "NoteThemes$Board" "notes" "I", Cond.fieldLink RX2 15 "NoteThemes$Heaps" "notes" "I", Cond.fieldLink RX2 22 "NoteThemes$Heaps" "lowestOf" "[I", Cond.fieldLink RX2 9 "NoteThemes$Heaps" "number" "I", Cond.methodLink RX2 28 yX0_distance, Cond.instanceMethod yX0_distance, Cond.selects RX0 yX0_distance yX0_distance, Cond.code yX0_distance cX0_distance 3 (some .int), Cond.methodLink RX0 58 Lib.Math.abs.name, Cond.static Lib.Math.abs.name, Cond.initialized "java/lang/Math", Cond.code Lib.Math.abs.name Lib.Math.abs.code 1 (some .int), Cond.methodLink RX2 32 yX2_join, Cond.instanceMethod yX2_join]
def wsX5_drag_r4 : List Cond := [Cond.selects RX2 yX2_join yX2_join, Cond.code yX2_join cX2_join 6 none, Cond.methodLink RX2 39 Lib.Math.min.name, Cond.static Lib.Math.min.name, Cond.code Lib.Math.min.name Lib.Math.min.code 2 (some .int), Cond.methodLink RX2 44 Lib.Math.max.name, Cond.static Lib.Math.max.name, Cond.code Lib.Math.max.name Lib.Math.max.code 2 (some .int), Cond.methodLink RX2 36 yX2_numberThem, Cond.instanceMethod yX2_numberThem, Cond.selects RX2 yX2_numberThem yX2_numberThem, Cond.code yX2_numberThem cX2_numberThem 2 none, Cond.fieldLink RX2 18 "NoteThemes$Heaps" "heapOf" "[I"]
def wsX5_drag : List Cond := .code yX5_drag cX5_drag 4 (some .int) :: ((wsX5_drag_r1 ++ (wsX5_drag_r2 ++ (wsX5_drag_r3 ++ wsX5_drag_r4))) ++ wsX50 ++ wsX00 ++ wsX30 ++ wsX20)
def wsX5_staysOnBoard : List Cond := .code yX5_staysOnBoard cX5_staysOnBoard 5 (some .boolean) :: ([.fieldLink RX5 10 "NoteThemes" "board" "LNoteThemes$Board;", .fieldLink RX5 71 "NoteThemes$Board" "notes" "I", .fieldLink RX5 44 "NoteThemes" "heapsNow" "LNoteThemes$Heaps;", .fieldLink RX5 160 "NoteThemes$Heaps" "heapOf" "[I", .fieldLink RX5 106 "NoteThemes$Board" "columnOf" "[I", .fieldLink RX5 110 "NoteThemes$Board" "rowOf" "[I", .methodLink RX5 67 yX5_isPlace, .static yX5_isPlace, .initialized RX5, .code yX5_isPlace cX5_isPlace 2 (some .boolean), .methodLink RX5 124 yX5_isWithin, .static yX5_isWithin, .code yX5_isWithin cX5_isWithin 3 (some .boolean)] ++ wsX50 ++ wsX00 ++ wsX20)
def wsX5_moveHeap : List Cond := .code yX5_moveHeap cX5_moveHeap 5 none :: ([.fieldLink RX5 10 "NoteThemes" "board" "LNoteThemes$Board;", .fieldLink RX5 71 "NoteThemes$Board" "notes" "I", .fieldLink RX5 44 "NoteThemes" "heapsNow" "LNoteThemes$Heaps;", .fieldLink RX5 160 "NoteThemes$Heaps" "heapOf" "[I", .fieldLink RX5 106 "NoteThemes$Board" "columnOf" "[I", .fieldLink RX5 110 "NoteThemes$Board" "rowOf" "[I", .methodLink RX5 113 yX0_moveNote, .instanceMethod yX0_moveNote, .selects RX0 yX0_moveNote yX0_moveNote, .initialized RX0, .code yX0_moveNote cX0_moveNote 4 none, .fieldLink RX0 15 "NoteThemes$Board" "columnOf" "[I", .fieldLink RX0 19 "NoteThemes$Board" "rowOf" "[I"] ++ wsX50 ++ wsX00 ++ wsX20)
def wsX5_dragHeap_r1 : List Cond := [Cond.fieldLink RX5 44 "NoteThemes" "heapsNow" "LNoteThemes$Heaps;", Cond.fieldLink RX5 19 "NoteThemes" "history" "LNoteThemes$History;", Cond.fieldLink RX5 10 "NoteThemes" "board" "LNoteThemes$Board;", Cond.methodLink RX5 117 yX5_findHeaps, Cond.instanceMethod yX5_findHeaps, Cond.selects RX5 yX5_findHeaps yX5_findHeaps, Cond.initialized RX5, Cond.code yX5_findHeaps cX5_findHeaps 1 (some .int), Cond.fieldLink RX5 200 "NoteThemes$Board" "settings" "[I", Cond.methodLink RX5 248 yX2_find, Cond.instanceMethod yX2_find, Cond.selects RX2 yX2_find yX2_find, Cond.initialized RX2, Cond.code yX2_find cX2_find 5 (some .int), Cond.fieldLink RX2 25 "NoteThemes$Board" "notes" "I", Cond.fieldLink RX2 15 "NoteThemes$Heaps" "notes" "I", Cond.fieldLink RX2 22 "NoteThemes$Heaps" "lowestOf" "[I", Cond.fieldLink RX2 9 "NoteThemes$Heaps" "number" "I", Cond.methodLink RX2 28 yX0_distance, Cond.instanceMethod yX0_distance, Cond.selects RX0 yX0_distance yX0_distance, Cond.initialized RX0, Cond.code yX0_distance cX0_distance 3 (some .int), Cond.fieldLink RX0 15 "NoteThemes$Board" "columnOf" "[I"]
def wsX5_dragHeap_r2 : List Cond := [Cond.methodLink RX0 58 Lib.Math.abs.name, Cond.static Lib.Math.abs.name, Cond.initialized "java/lang/Math", Cond.code Lib.Math.abs.name Lib.Math.abs.code 1 (some .int), Cond.fieldLink RX0 19 "NoteThemes$Board" "rowOf" "[I", Cond.methodLink RX2 32 yX2_join, Cond.instanceMethod yX2_join, Cond.selects RX2 yX2_join yX2_join, Cond.code yX2_join cX2_join 6 none, Cond.methodLink RX2 39 Lib.Math.min.name, Cond.static Lib.Math.min.name, Cond.code Lib.Math.min.name Lib.Math.min.code 2 (some .int), Cond.methodLink RX2 44 Lib.Math.max.name, Cond.static Lib.Math.max.name, Cond.code Lib.Math.max.name Lib.Math.max.code 2 (some .int), Cond.methodLink RX2 36 yX2_numberThem, Cond.instanceMethod yX2_numberThem, Cond.selects RX2 yX2_numberThem yX2_numberThem, Cond.code yX2_numberThem cX2_numberThem 2 none, Cond.fieldLink RX2 18 "NoteThemes$Heaps" "heapOf" "[I", Cond.methodLink RX5 121 yX2_has, Cond.instanceMethod yX2_has, Cond.selects RX2 yX2_has yX2_has, Cond.code yX2_has cX2_has 2 (some .boolean)]
def wsX5_dragHeap_r3 : List Cond := [Cond.methodLink RX5 124 yX5_isWithin, Cond.static yX5_isWithin, Cond.code yX5_isWithin cX5_isWithin 3 (some .boolean), Cond.methodLink RX5 128 yX5_staysOnBoard, Cond.instanceMethod yX5_staysOnBoard, Cond.selects RX5 yX5_staysOnBoard yX5_staysOnBoard, Cond.code yX5_staysOnBoard cX5_staysOnBoard 5 (some .boolean), Cond.fieldLink RX5 71 "NoteThemes$Board" "notes" "I", Cond.fieldLink RX5 160 "NoteThemes$Heaps" "heapOf" "[I", Cond.fieldLink RX5 106 "NoteThemes$Board" "columnOf" "[I", Cond.fieldLink RX5 110 "NoteThemes$Board" "rowOf" "[I", Cond.methodLink RX5 67 yX5_isPlace, Cond.static yX5_isPlace, Cond.code yX5_isPlace cX5_isPlace 2 (some .boolean), Cond.methodLink RX5 74 yX3_remember, Cond.instanceMethod yX3_remember, Cond.selects RX3 yX3_remember yX3_remember, Cond.initialized RX3, Cond.code yX3_remember cX3_remember 2 none, Cond.fieldLink RX3 9 "NoteThemes$History" "states" "I", Cond.fieldLink RX3 17 "NoteThemes$History" "kept" "[LNoteThemes$Board;", Cond.methodLink RX3 22 yX3_dropOldest, Cond.instanceMethod yX3_dropOldest, Cond.selects RX3 yX3_dropOldest yX3_dropOldest]
def wsX5_dragHeap_r4 : List Cond := [Cond.code yX3_dropOldest cX3_dropOldest 3 none, Cond.methodLink RX3 25 yX0_copyFrom, Cond.instanceMethod yX0_copyFrom, Cond.selects RX0 yX0_copyFrom yX0_copyFrom, Cond.code yX0_copyFrom cX0_copyFrom 2 none, Cond.fieldLink RX0 9 "NoteThemes$Board" "notes" "I", Cond.methodLink RX0 40 arraycopyName, Cond.native arraycopyName, Cond.static arraycopyName, Cond.initialized "java/lang/System", Cond.fieldLink RX0 22 "NoteThemes$Board" "themeOf" "[I", Cond.fieldLink RX0 25 "NoteThemes$Board" "dotsAt" "[I", Cond.fieldLink RX0 28 "NoteThemes$Board" "themes" "I", Cond.fieldLink RX0 31 "NoteThemes$Board" "votedAt" "[I", Cond.fieldLink RX0 34 "NoteThemes$Board" "settings" "[I", Cond.methodLink RX5 131 yX5_moveHeap, Cond.instanceMethod yX5_moveHeap, Cond.selects RX5 yX5_moveHeap yX5_moveHeap, Cond.code yX5_moveHeap cX5_moveHeap 5 none, Cond.methodLink RX5 113 yX0_moveNote, Cond.instanceMethod yX0_moveNote, Cond.selects RX0 yX0_moveNote yX0_moveNote, Cond.code yX0_moveNote cX0_moveNote 4 none]
def wsX5_dragHeap : List Cond := .code yX5_dragHeap cX5_dragHeap 4 (some .int) :: ((wsX5_dragHeap_r1 ++ (wsX5_dragHeap_r2 ++ (wsX5_dragHeap_r3 ++ wsX5_dragHeap_r4))) ++ wsX50 ++ wsX00 ++ wsX20 ++ wsX30)
def wsX5_isPerson : List Cond := .code yX5_isPerson cX5_isPerson 1 (some .boolean) :: ([.methodLink RX5 124 yX5_isWithin, .static yX5_isWithin, .initialized RX5, .code yX5_isWithin cX5_isWithin 3 (some .boolean)])
def wsX5_stick_r1 : List Cond := [Cond.fieldLink RX5 10 "NoteThemes" "board" "LNoteThemes$Board;", Cond.fieldLink RX5 19 "NoteThemes" "history" "LNoteThemes$History;", Cond.methodLink RX5 134 yX5_isPerson, Cond.static yX5_isPerson, Cond.initialized RX5, Cond.code yX5_isPerson cX5_isPerson 1 (some .boolean), Cond.methodLink RX5 124 yX5_isWithin, Cond.static yX5_isWithin, Cond.code yX5_isWithin cX5_isWithin 3 (some .boolean), Cond.methodLink RX5 94 yX0_hasNote, Cond.instanceMethod yX0_hasNote, Cond.selects RX0 yX0_hasNote yX0_hasNote, Cond.initialized RX0, Cond.code yX0_hasNote cX0_hasNote 2 (some .boolean), Cond.fieldLink RX0 9 "NoteThemes$Board" "notes" "I", Cond.methodLink RX5 137 yX0_dotsLeft, Cond.instanceMethod yX0_dotsLeft, Cond.selects RX0 yX0_dotsLeft yX0_dotsLeft, Cond.code yX0_dotsLeft cX0_dotsLeft 4 (some .int), Cond.fieldLink RX0 34 "NoteThemes$Board" "settings" "[I", Cond.methodLink RX0 71 Lib.Math.max.name, Cond.static Lib.Math.max.name, Cond.initialized "java/lang/Math", Cond.code Lib.Math.max.name Lib.Math.max.code 2 (some .int)]
def wsX5_stick_r2 : List Cond := [Cond.methodLink RX0 68 yX0_dotsOfPerson, Cond.instanceMethod yX0_dotsOfPerson, Cond.selects RX0 yX0_dotsOfPerson yX0_dotsOfPerson, Cond.code yX0_dotsOfPerson cX0_dotsOfPerson 3 (some .int), Cond.fieldLink RX0 25 "NoteThemes$Board" "dotsAt" "[I", Cond.methodLink RX5 140 yX0_hasMostDots, Cond.instanceMethod yX0_hasMostDots, Cond.selects RX0 yX0_hasMostDots yX0_hasMostDots, Cond.code yX0_hasMostDots cX0_hasMostDots 3 (some .boolean), Cond.methodLink RX5 74 yX3_remember, Cond.instanceMethod yX3_remember, Cond.selects RX3 yX3_remember yX3_remember, Cond.initialized RX3, Cond.code yX3_remember cX3_remember 2 none, Cond.fieldLink RX3 9 "NoteThemes$History" "states" "I", Cond.fieldLink RX3 17 "NoteThemes$History" "kept" "[LNoteThemes$Board;", Cond.methodLink RX3 22 yX3_dropOldest, Cond.instanceMethod yX3_dropOldest, Cond.selects RX3 yX3_dropOldest yX3_dropOldest, Cond.code yX3_dropOldest cX3_dropOldest 3 none, Cond.methodLink RX3 25 yX0_copyFrom, Cond.instanceMethod yX0_copyFrom, Cond.selects RX0 yX0_copyFrom yX0_copyFrom, Cond.code yX0_copyFrom cX0_copyFrom 2 none]
def wsX5_stick_r3 : List Cond := [Cond.fieldLink RX0 15 "NoteThemes$Board" "columnOf" "[I", Cond.methodLink RX0 40 arraycopyName, Cond.native arraycopyName, Cond.static arraycopyName, Cond.initialized "java/lang/System", Cond.fieldLink RX0 19 "NoteThemes$Board" "rowOf" "[I", Cond.fieldLink RX0 22 "NoteThemes$Board" "themeOf" "[I", Cond.fieldLink RX0 28 "NoteThemes$Board" "themes" "I", Cond.fieldLink RX0 31 "NoteThemes$Board" "votedAt" "[I", Cond.methodLink RX5 143 yX0_addDots, Cond.instanceMethod yX0_addDots, Cond.selects RX0 yX0_addDots yX0_addDots, Cond.code yX0_addDots cX0_addDots 4 none, Cond.methodLink RX5 98 yX0_dotsOn, Cond.instanceMethod yX0_dotsOn, Cond.selects RX0 yX0_dotsOn yX0_dotsOn, Cond.code yX0_dotsOn cX0_dotsOn 4 (some .int)]
def wsX5_stick : List Cond := .code yX5_stick cX5_stick 3 (some .int) :: ((wsX5_stick_r1 ++ (wsX5_stick_r2 ++ wsX5_stick_r3)) ++ wsX50 ++ wsX00 ++ wsX30)
def wsX5_unstick_r1 : List Cond := [Cond.fieldLink RX5 10 "NoteThemes" "board" "LNoteThemes$Board;", Cond.fieldLink RX5 19 "NoteThemes" "history" "LNoteThemes$History;", Cond.methodLink RX5 134 yX5_isPerson, Cond.static yX5_isPerson, Cond.initialized RX5, Cond.code yX5_isPerson cX5_isPerson 1 (some .boolean), Cond.methodLink RX5 124 yX5_isWithin, Cond.static yX5_isWithin, Cond.code yX5_isWithin cX5_isWithin 3 (some .boolean), Cond.methodLink RX5 94 yX0_hasNote, Cond.instanceMethod yX0_hasNote, Cond.selects RX0 yX0_hasNote yX0_hasNote, Cond.initialized RX0, Cond.code yX0_hasNote cX0_hasNote 2 (some .boolean), Cond.fieldLink RX0 9 "NoteThemes$Board" "notes" "I", Cond.methodLink RX5 146 yX0_dotsOfPerson, Cond.instanceMethod yX0_dotsOfPerson, Cond.selects RX0 yX0_dotsOfPerson yX0_dotsOfPerson, Cond.code yX0_dotsOfPerson cX0_dotsOfPerson 3 (some .int), Cond.fieldLink RX0 25 "NoteThemes$Board" "dotsAt" "[I", Cond.methodLink RX5 74 yX3_remember, Cond.instanceMethod yX3_remember, Cond.selects RX3 yX3_remember yX3_remember, Cond.initialized RX3]
def wsX5_unstick_r2 : List Cond := [Cond.code yX3_remember cX3_remember 2 none, Cond.fieldLink RX3 9 "NoteThemes$History" "states" "I", Cond.fieldLink RX3 17 "NoteThemes$History" "kept" "[LNoteThemes$Board;", Cond.methodLink RX3 22 yX3_dropOldest, Cond.instanceMethod yX3_dropOldest, Cond.selects RX3 yX3_dropOldest yX3_dropOldest, Cond.code yX3_dropOldest cX3_dropOldest 3 none, Cond.methodLink RX3 25 yX0_copyFrom, Cond.instanceMethod yX0_copyFrom, Cond.selects RX0 yX0_copyFrom yX0_copyFrom, Cond.code yX0_copyFrom cX0_copyFrom 2 none, Cond.fieldLink RX0 15 "NoteThemes$Board" "columnOf" "[I", Cond.methodLink RX0 40 arraycopyName, Cond.native arraycopyName, Cond.static arraycopyName, Cond.initialized "java/lang/System", Cond.fieldLink RX0 19 "NoteThemes$Board" "rowOf" "[I", Cond.fieldLink RX0 22 "NoteThemes$Board" "themeOf" "[I", Cond.fieldLink RX0 28 "NoteThemes$Board" "themes" "I", Cond.fieldLink RX0 31 "NoteThemes$Board" "votedAt" "[I", Cond.fieldLink RX0 34 "NoteThemes$Board" "settings" "[I", Cond.methodLink RX5 143 yX0_addDots, Cond.instanceMethod yX0_addDots, Cond.selects RX0 yX0_addDots yX0_addDots]
def wsX5_unstick_r3 : List Cond := [Cond.code yX0_addDots cX0_addDots 4 none, Cond.methodLink RX5 98 yX0_dotsOn, Cond.instanceMethod yX0_dotsOn, Cond.selects RX0 yX0_dotsOn yX0_dotsOn, Cond.code yX0_dotsOn cX0_dotsOn 4 (some .int), Cond.methodLink RX0 68 yX0_dotsOfPerson]
def wsX5_unstick : List Cond := .code yX5_unstick cX5_unstick 3 (some .int) :: ((wsX5_unstick_r1 ++ (wsX5_unstick_r2 ++ wsX5_unstick_r3)) ++ wsX50 ++ wsX00 ++ wsX30)
def wsX5_make_r1 : List Cond := [Cond.fieldLink RX5 44 "NoteThemes" "heapsNow" "LNoteThemes$Heaps;", Cond.fieldLink RX5 10 "NoteThemes" "board" "LNoteThemes$Board;", Cond.fieldLink RX5 154 "NoteThemes$Board" "themes" "I", Cond.fieldLink RX5 19 "NoteThemes" "history" "LNoteThemes$History;", Cond.fieldLink RX5 71 "NoteThemes$Board" "notes" "I", Cond.fieldLink RX5 160 "NoteThemes$Heaps" "heapOf" "[I", Cond.fieldLink RX5 163 "NoteThemes$Board" "themeOf" "[I", Cond.methodLink RX5 117 yX5_findHeaps, Cond.instanceMethod yX5_findHeaps, Cond.selects RX5 yX5_findHeaps yX5_findHeaps, Cond.initialized RX5, Cond.code yX5_findHeaps cX5_findHeaps 1 (some .int), Cond.fieldLink RX5 200 "NoteThemes$Board" "settings" "[I", Cond.methodLink RX5 248 yX2_find, Cond.instanceMethod yX2_find, Cond.selects RX2 yX2_find yX2_find, Cond.initialized RX2, Cond.code yX2_find cX2_find 5 (some .int), Cond.fieldLink RX2 25 "NoteThemes$Board" "notes" "I", Cond.fieldLink RX2 15 "NoteThemes$Heaps" "notes" "I", Cond.fieldLink RX2 22 "NoteThemes$Heaps" "lowestOf" "[I", Cond.fieldLink RX2 9 "NoteThemes$Heaps" "number" "I", Cond.methodLink RX2 28 yX0_distance, Cond.instanceMethod yX0_distance]
def wsX5_make_r2 : List Cond := [Cond.selects RX0 yX0_distance yX0_distance, Cond.initialized RX0, Cond.code yX0_distance cX0_distance 3 (some .int), Cond.fieldLink RX0 15 "NoteThemes$Board" "columnOf" "[I", Cond.methodLink RX0 58 Lib.Math.abs.name, Cond.static Lib.Math.abs.name, Cond.initialized "java/lang/Math", Cond.code Lib.Math.abs.name Lib.Math.abs.code 1 (some .int), Cond.fieldLink RX0 19 "NoteThemes$Board" "rowOf" "[I", Cond.methodLink RX2 32 yX2_join, Cond.instanceMethod yX2_join, Cond.selects RX2 yX2_join yX2_join, Cond.code yX2_join cX2_join 6 none, Cond.methodLink RX2 39 Lib.Math.min.name, Cond.static Lib.Math.min.name, Cond.code Lib.Math.min.name Lib.Math.min.code 2 (some .int), Cond.methodLink RX2 44 Lib.Math.max.name, Cond.static Lib.Math.max.name, Cond.code Lib.Math.max.name Lib.Math.max.code 2 (some .int), Cond.methodLink RX2 36 yX2_numberThem, Cond.instanceMethod yX2_numberThem, Cond.selects RX2 yX2_numberThem yX2_numberThem, Cond.code yX2_numberThem cX2_numberThem 2 none, Cond.fieldLink RX2 18 "NoteThemes$Heaps" "heapOf" "[I"]
def wsX5_make_r3 : List Cond := [Cond.methodLink RX5 121 yX2_has, Cond.instanceMethod yX2_has, Cond.selects RX2 yX2_has yX2_has, Cond.code yX2_has cX2_has 2 (some .boolean), Cond.methodLink RX5 150 yX2_freeNotesIn, Cond.instanceMethod yX2_freeNotesIn, Cond.selects RX2 yX2_freeNotesIn yX2_freeNotesIn, Cond.code yX2_freeNotesIn cX2_freeNotesIn 5 (some .int), Cond.fieldLink RX2 51 "NoteThemes$Board" "themeOf" "[I", Cond.methodLink RX5 74 yX3_remember, Cond.instanceMethod yX3_remember, Cond.selects RX3 yX3_remember yX3_remember, Cond.initialized RX3, Cond.code yX3_remember cX3_remember 2 none, Cond.fieldLink RX3 9 "NoteThemes$History" "states" "I", Cond.fieldLink RX3 17 "NoteThemes$History" "kept" "[LNoteThemes$Board;", Cond.methodLink RX3 22 yX3_dropOldest, Cond.instanceMethod yX3_dropOldest, Cond.selects RX3 yX3_dropOldest yX3_dropOldest, Cond.code yX3_dropOldest cX3_dropOldest 3 none, Cond.methodLink RX3 25 yX0_copyFrom, Cond.instanceMethod yX0_copyFrom, Cond.selects RX0 yX0_copyFrom yX0_copyFrom, Cond.code yX0_copyFrom cX0_copyFrom 2 none]
def wsX5_make_r4 : List Cond := [Cond.fieldLink RX0 9 "NoteThemes$Board" "notes" "I", Cond.methodLink RX0 40 arraycopyName, Cond.native arraycopyName, Cond.static arraycopyName, Cond.initialized "java/lang/System", Cond.fieldLink RX0 22 "NoteThemes$Board" "themeOf" "[I", Cond.fieldLink RX0 25 "NoteThemes$Board" "dotsAt" "[I", Cond.fieldLink RX0 28 "NoteThemes$Board" "themes" "I", Cond.fieldLink RX0 31 "NoteThemes$Board" "votedAt" "[I", Cond.fieldLink RX0 34 "NoteThemes$Board" "settings" "[I", Cond.methodLink RX5 157 yX0_addTheme, Cond.instanceMethod yX0_addTheme, Cond.selects RX0 yX0_addTheme yX0_addTheme, Cond.code yX0_addTheme cX0_addTheme 3 (some .int), Cond.methodLink RX0 80 yX0_setVote, Cond.instanceMethod yX0_setVote, Cond.selects RX0 yX0_setVote yX0_setVote, Cond.code yX0_setVote cX0_setVote 4 none]
def wsX5_make : List Cond := .code yX5_make cX5_make 4 (some .int) :: ((wsX5_make_r1 ++ (wsX5_make_r2 ++ (wsX5_make_r3 ++ wsX5_make_r4))) ++ wsX50 ++ wsX00 ++ wsX20 ++ wsX30)
def wsX5_merge_r1 : List Cond := [Cond.fieldLink RX5 10 "NoteThemes" "board" "LNoteThemes$Board;", Cond.fieldLink RX5 19 "NoteThemes" "history" "LNoteThemes$History;", Cond.methodLink RX5 166 yX0_hasTheme, Cond.instanceMethod yX0_hasTheme, Cond.selects RX0 yX0_hasTheme yX0_hasTheme, Cond.initialized RX0, Cond.code yX0_hasTheme cX0_hasTheme 2 (some .boolean), Cond.fieldLink RX0 28 "NoteThemes$Board" "themes" "I", Cond.methodLink RX5 74 yX3_remember, Cond.instanceMethod yX3_remember, Cond.selects RX3 yX3_remember yX3_remember, Cond.initialized RX3, Cond.code yX3_remember cX3_remember 2 none, Cond.fieldLink RX3 9 "NoteThemes$History" "states" "I", Cond.fieldLink RX3 17 "NoteThemes$History" "kept" "[LNoteThemes$Board;", Cond.methodLink RX3 22 yX3_dropOldest, Cond.instanceMethod yX3_dropOldest, Cond.selects RX3 yX3_dropOldest yX3_dropOldest, Cond.code yX3_dropOldest cX3_dropOldest 3 none, Cond.methodLink RX3 25 yX0_copyFrom, Cond.instanceMethod yX0_copyFrom, Cond.selects RX0 yX0_copyFrom yX0_copyFrom, Cond.code yX0_copyFrom cX0_copyFrom 2 none, Cond.fieldLink RX0 9 "NoteThemes$Board" "notes" "I"]
def wsX5_merge_r2 : List Cond := [Cond.fieldLink RX0 15 "NoteThemes$Board" "columnOf" "[I", Cond.methodLink RX0 40 arraycopyName, Cond.native arraycopyName, Cond.static arraycopyName, Cond.initialized "java/lang/System", Cond.fieldLink RX0 19 "NoteThemes$Board" "rowOf" "[I", Cond.fieldLink RX0 22 "NoteThemes$Board" "themeOf" "[I", Cond.fieldLink RX0 25 "NoteThemes$Board" "dotsAt" "[I", Cond.fieldLink RX0 31 "NoteThemes$Board" "votedAt" "[I", Cond.fieldLink RX0 34 "NoteThemes$Board" "settings" "[I", Cond.methodLink RX5 169 yX0_mergeThemes, Cond.instanceMethod yX0_mergeThemes, Cond.selects RX0 yX0_mergeThemes yX0_mergeThemes, Cond.code yX0_mergeThemes cX0_mergeThemes 4 none, Cond.methodLink RX0 83 yX0_voteOf, Cond.instanceMethod yX0_voteOf, Cond.selects RX0 yX0_voteOf yX0_voteOf, Cond.code yX0_voteOf cX0_voteOf 3 (some .int), Cond.methodLink RX0 80 yX0_setVote, Cond.instanceMethod yX0_setVote, Cond.selects RX0 yX0_setVote yX0_setVote, Cond.code yX0_setVote cX0_setVote 4 none, Cond.methodLink RX0 54 yX0_removeThemeIfEmpty, Cond.instanceMethod yX0_removeThemeIfEmpty]
def wsX5_merge_r3 : List Cond := [Cond.selects RX0 yX0_removeThemeIfEmpty yX0_removeThemeIfEmpty, Cond.code yX0_removeThemeIfEmpty cX0_removeThemeIfEmpty 4 none, Cond.methodLink RX0 86 yX0_notesOfTheme, Cond.instanceMethod yX0_notesOfTheme, Cond.selects RX0 yX0_notesOfTheme yX0_notesOfTheme, Cond.code yX0_notesOfTheme cX0_notesOfTheme 4 (some .int), Cond.methodLink RX5 172 yX0_notesOfTheme]
def wsX5_merge : List Cond := .code yX5_merge cX5_merge 3 (some .int) :: ((wsX5_merge_r1 ++ (wsX5_merge_r2 ++ wsX5_merge_r3)) ++ wsX50 ++ wsX00 ++ wsX30)
def wsX5_belong_r1 : List Cond := [Cond.fieldLink RX5 10 "NoteThemes" "board" "LNoteThemes$Board;", Cond.fieldLink RX5 163 "NoteThemes$Board" "themeOf" "[I", Cond.fieldLink RX5 19 "NoteThemes" "history" "LNoteThemes$History;", Cond.fieldLink RX5 154 "NoteThemes$Board" "themes" "I", Cond.methodLink RX5 94 yX0_hasNote, Cond.instanceMethod yX0_hasNote, Cond.selects RX0 yX0_hasNote yX0_hasNote, Cond.initialized RX0, Cond.code yX0_hasNote cX0_hasNote 2 (some .boolean), Cond.fieldLink RX0 9 "NoteThemes$Board" "notes" "I", Cond.methodLink RX5 166 yX0_hasTheme, Cond.instanceMethod yX0_hasTheme, Cond.selects RX0 yX0_hasTheme yX0_hasTheme, Cond.code yX0_hasTheme cX0_hasTheme 2 (some .boolean), Cond.fieldLink RX0 28 "NoteThemes$Board" "themes" "I", Cond.methodLink RX5 74 yX3_remember, Cond.instanceMethod yX3_remember, Cond.selects RX3 yX3_remember yX3_remember, Cond.initialized RX3, Cond.code yX3_remember cX3_remember 2 none, Cond.fieldLink RX3 9 "NoteThemes$History" "states" "I", Cond.fieldLink RX3 17 "NoteThemes$History" "kept" "[LNoteThemes$Board;", Cond.methodLink RX3 22 yX3_dropOldest, Cond.instanceMethod yX3_dropOldest]
def wsX5_belong_r2 : List Cond := [Cond.selects RX3 yX3_dropOldest yX3_dropOldest, Cond.code yX3_dropOldest cX3_dropOldest 3 none, Cond.methodLink RX3 25 yX0_copyFrom, Cond.instanceMethod yX0_copyFrom, Cond.selects RX0 yX0_copyFrom yX0_copyFrom, Cond.code yX0_copyFrom cX0_copyFrom 2 none, Cond.fieldLink RX0 15 "NoteThemes$Board" "columnOf" "[I", Cond.methodLink RX0 40 arraycopyName, Cond.native arraycopyName, Cond.static arraycopyName, Cond.initialized "java/lang/System", Cond.fieldLink RX0 19 "NoteThemes$Board" "rowOf" "[I", Cond.fieldLink RX0 22 "NoteThemes$Board" "themeOf" "[I", Cond.fieldLink RX0 25 "NoteThemes$Board" "dotsAt" "[I", Cond.fieldLink RX0 31 "NoteThemes$Board" "votedAt" "[I", Cond.fieldLink RX0 34 "NoteThemes$Board" "settings" "[I", Cond.methodLink RX5 175 yX0_removeThemeIfEmpty, Cond.instanceMethod yX0_removeThemeIfEmpty, Cond.selects RX0 yX0_removeThemeIfEmpty yX0_removeThemeIfEmpty, Cond.code yX0_removeThemeIfEmpty cX0_removeThemeIfEmpty 4 none, Cond.methodLink RX0 86 yX0_notesOfTheme, Cond.instanceMethod yX0_notesOfTheme, Cond.selects RX0 yX0_notesOfTheme yX0_notesOfTheme, Cond.code yX0_notesOfTheme cX0_notesOfTheme 4 (some .int)]
def wsX5_belong_r3 : List Cond := [Cond.methodLink RX0 83 yX0_voteOf, Cond.instanceMethod yX0_voteOf, Cond.selects RX0 yX0_voteOf yX0_voteOf, Cond.code yX0_voteOf cX0_voteOf 3 (some .int), Cond.methodLink RX0 80 yX0_setVote, Cond.instanceMethod yX0_setVote, Cond.selects RX0 yX0_setVote yX0_setVote, Cond.code yX0_setVote cX0_setVote 4 none]
def wsX5_belong : List Cond := .code yX5_belong cX5_belong 4 (some .int) :: ((wsX5_belong_r1 ++ (wsX5_belong_r2 ++ wsX5_belong_r3)) ++ wsX50 ++ wsX00 ++ wsX30)
def wsX5_isName : List Cond := .code yX5_isName cX5_isName 1 (some .boolean) :: ([.methodLink RX5 124 yX5_isWithin, .static yX5_isWithin, .initialized RX5, .code yX5_isWithin cX5_isWithin 3 (some .boolean)])
def wsX5_vote_r1 : List Cond := [Cond.fieldLink RX5 10 "NoteThemes" "board" "LNoteThemes$Board;", Cond.fieldLink RX5 19 "NoteThemes" "history" "LNoteThemes$History;", Cond.fieldLink RX5 54 "NoteThemes" "names" "LNoteThemes$Names;", Cond.fieldLink RX5 191 "NoteThemes$Names" "nameOf" "[I", Cond.methodLink RX5 134 yX5_isPerson, Cond.static yX5_isPerson, Cond.initialized RX5, Cond.code yX5_isPerson cX5_isPerson 1 (some .boolean), Cond.methodLink RX5 124 yX5_isWithin, Cond.static yX5_isWithin, Cond.code yX5_isWithin cX5_isWithin 3 (some .boolean), Cond.methodLink RX5 166 yX0_hasTheme, Cond.instanceMethod yX0_hasTheme, Cond.selects RX0 yX0_hasTheme yX0_hasTheme, Cond.initialized RX0, Cond.code yX0_hasTheme cX0_hasTheme 2 (some .boolean), Cond.fieldLink RX0 28 "NoteThemes$Board" "themes" "I", Cond.methodLink RX5 178 yX5_isName, Cond.static yX5_isName, Cond.code yX5_isName cX5_isName 1 (some .boolean), Cond.methodLink RX5 181 yX0_voteOf, Cond.instanceMethod yX0_voteOf, Cond.selects RX0 yX0_voteOf yX0_voteOf, Cond.code yX0_voteOf cX0_voteOf 3 (some .int)]
def wsX5_vote_r2 : List Cond := [Cond.fieldLink RX0 31 "NoteThemes$Board" "votedAt" "[I", Cond.methodLink RX5 74 yX3_remember, Cond.instanceMethod yX3_remember, Cond.selects RX3 yX3_remember yX3_remember, Cond.initialized RX3, Cond.code yX3_remember cX3_remember 2 none, Cond.fieldLink RX3 9 "NoteThemes$History" "states" "I", Cond.fieldLink RX3 17 "NoteThemes$History" "kept" "[LNoteThemes$Board;", Cond.methodLink RX3 22 yX3_dropOldest, Cond.instanceMethod yX3_dropOldest, Cond.selects RX3 yX3_dropOldest yX3_dropOldest, Cond.code yX3_dropOldest cX3_dropOldest 3 none, Cond.methodLink RX3 25 yX0_copyFrom, Cond.instanceMethod yX0_copyFrom, Cond.selects RX0 yX0_copyFrom yX0_copyFrom, Cond.code yX0_copyFrom cX0_copyFrom 2 none, Cond.fieldLink RX0 9 "NoteThemes$Board" "notes" "I", Cond.fieldLink RX0 15 "NoteThemes$Board" "columnOf" "[I", Cond.methodLink RX0 40 arraycopyName, Cond.native arraycopyName, Cond.static arraycopyName, Cond.initialized "java/lang/System", Cond.fieldLink RX0 19 "NoteThemes$Board" "rowOf" "[I", Cond.fieldLink RX0 22 "NoteThemes$Board" "themeOf" "[I"]
def wsX5_vote_r3 : List Cond := [Cond.fieldLink RX0 25 "NoteThemes$Board" "dotsAt" "[I", Cond.fieldLink RX0 34 "NoteThemes$Board" "settings" "[I", Cond.methodLink RX5 184 yX0_setVote, Cond.instanceMethod yX0_setVote, Cond.selects RX0 yX0_setVote yX0_setVote, Cond.code yX0_setVote cX0_setVote 4 none, Cond.methodLink RX5 187 yX4_choose, Cond.instanceMethod yX4_choose, Cond.selects RX4 yX4_choose yX4_choose, Cond.initialized RX4, Cond.code yX4_choose cX4_choose 4 (some .int), Cond.fieldLink RX4 15 "NoteThemes$Board" "themes" "I", Cond.fieldLink RX4 9 "NoteThemes$Names" "nameOf" "[I", Cond.methodLink RX4 21 yX4_bestName, Cond.instanceMethod yX4_bestName, Cond.selects RX4 yX4_bestName yX4_bestName, Cond.code yX4_bestName cX4_bestName 7 (some .int), Cond.methodLink RX4 25 yX0_votesFor, Cond.instanceMethod yX0_votesFor, Cond.selects RX0 yX0_votesFor yX0_votesFor, Cond.code yX0_votesFor cX0_votesFor 5 (some .int), Cond.methodLink RX0 83 yX0_voteOf, Cond.methodLink RX4 29 yX4_isTaken, Cond.instanceMethod yX4_isTaken]
def wsX5_vote_r4 : List Cond := [Cond.selects RX4 yX4_isTaken yX4_isTaken, Cond.code yX4_isTaken cX4_isTaken 4 (some .boolean)]
def wsX5_vote : List Cond := .code yX5_vote cX5_vote 4 (some .int) :: ((wsX5_vote_r1 ++ (wsX5_vote_r2 ++ (wsX5_vote_r3 ++ wsX5_vote_r4))) ++ wsX50 ++ wsX40 ++ wsX00 ++ wsX30)
def wsX5_set_r1 : List Cond := [Cond.fieldLink RX5 194 "NoteThemes" "LEAST_SETTING" "[I", Cond.fieldLink RX5 197 "NoteThemes" "MOST_SETTING" "[I", Cond.fieldLink RX5 10 "NoteThemes" "board" "LNoteThemes$Board;", Cond.fieldLink RX5 200 "NoteThemes$Board" "settings" "[I", Cond.fieldLink RX5 19 "NoteThemes" "history" "LNoteThemes$History;", Cond.methodLink RX5 124 yX5_isWithin, Cond.static yX5_isWithin, Cond.initialized RX5, Cond.code yX5_isWithin cX5_isWithin 3 (some .boolean), Cond.methodLink RX5 74 yX3_remember, Cond.instanceMethod yX3_remember, Cond.selects RX3 yX3_remember yX3_remember, Cond.initialized RX3, Cond.code yX3_remember cX3_remember 2 none, Cond.fieldLink RX3 9 "NoteThemes$History" "states" "I", Cond.fieldLink RX3 17 "NoteThemes$History" "kept" "[LNoteThemes$Board;", Cond.methodLink RX3 22 yX3_dropOldest, Cond.instanceMethod yX3_dropOldest, Cond.selects RX3 yX3_dropOldest yX3_dropOldest, Cond.code yX3_dropOldest cX3_dropOldest 3 none, Cond.methodLink RX3 25 yX0_copyFrom, Cond.instanceMethod yX0_copyFrom, Cond.selects RX0 yX0_copyFrom yX0_copyFrom, Cond.initialized RX0]
def wsX5_set_r2 : List Cond := [Cond.code yX0_copyFrom cX0_copyFrom 2 none, Cond.fieldLink RX0 9 "NoteThemes$Board" "notes" "I", Cond.fieldLink RX0 15 "NoteThemes$Board" "columnOf" "[I", Cond.methodLink RX0 40 arraycopyName, Cond.native arraycopyName, Cond.static arraycopyName, Cond.initialized "java/lang/System", Cond.fieldLink RX0 19 "NoteThemes$Board" "rowOf" "[I", Cond.fieldLink RX0 22 "NoteThemes$Board" "themeOf" "[I", Cond.fieldLink RX0 25 "NoteThemes$Board" "dotsAt" "[I", Cond.fieldLink RX0 28 "NoteThemes$Board" "themes" "I", Cond.fieldLink RX0 31 "NoteThemes$Board" "votedAt" "[I", Cond.fieldLink RX0 34 "NoteThemes$Board" "settings" "[I"]
def wsX5_set : List Cond := .code yX5_set cX5_set 4 (some .int) :: ((wsX5_set_r1 ++ wsX5_set_r2) ++ wsX50 ++ wsX00 ++ wsX30)
def wsX5_type : List Cond := .code yX5_type cX5_type 2 (some .int) :: ([.fieldLink RX5 34 "NoteThemes" "textLength" "I", .fieldLink RX5 30 "NoteThemes" "text" "[C"] ++ wsX50)
def wsX5_clearText : List Cond := .code yX5_clearText cX5_clearText 2 (some .int) :: ([.fieldLink RX5 34 "NoteThemes" "textLength" "I"] ++ wsX50)
def wsX5_undo_r1 : List Cond := [Cond.fieldLink RX5 19 "NoteThemes" "history" "LNoteThemes$History;", Cond.fieldLink RX5 203 "NoteThemes$History" "states" "I", Cond.fieldLink RX5 10 "NoteThemes" "board" "LNoteThemes$Board;", Cond.methodLink RX5 206 yX3_takeBack, Cond.instanceMethod yX3_takeBack, Cond.selects RX3 yX3_takeBack yX3_takeBack, Cond.initialized RX3, Cond.code yX3_takeBack cX3_takeBack 2 none, Cond.fieldLink RX3 9 "NoteThemes$History" "states" "I", Cond.fieldLink RX3 17 "NoteThemes$History" "kept" "[LNoteThemes$Board;", Cond.methodLink RX3 25 yX0_copyFrom, Cond.instanceMethod yX0_copyFrom, Cond.selects RX0 yX0_copyFrom yX0_copyFrom, Cond.initialized RX0, Cond.code yX0_copyFrom cX0_copyFrom 2 none, Cond.fieldLink RX0 9 "NoteThemes$Board" "notes" "I", Cond.fieldLink RX0 15 "NoteThemes$Board" "columnOf" "[I", Cond.methodLink RX0 40 arraycopyName, Cond.native arraycopyName, Cond.static arraycopyName, Cond.initialized "java/lang/System", Cond.fieldLink RX0 19 "NoteThemes$Board" "rowOf" "[I", Cond.fieldLink RX0 22 "NoteThemes$Board" "themeOf" "[I", Cond.fieldLink RX0 25 "NoteThemes$Board" "dotsAt" "[I"]
def wsX5_undo_r2 : List Cond := [Cond.fieldLink RX0 28 "NoteThemes$Board" "themes" "I", Cond.fieldLink RX0 31 "NoteThemes$Board" "votedAt" "[I", Cond.fieldLink RX0 34 "NoteThemes$Board" "settings" "[I"]
def wsX5_undo : List Cond := .code yX5_undo cX5_undo 1 (some .int) :: ((wsX5_undo_r1 ++ wsX5_undo_r2) ++ wsX50 ++ wsX30 ++ wsX00)
def wsX5_keep : List Cond := .code yX5_keep cX5_keep 1 (some .int) :: ([.fieldLink RX5 23 "NoteThemes" "snapshot" "LNoteThemes$Board;", .fieldLink RX5 10 "NoteThemes" "board" "LNoteThemes$Board;", .fieldLink RX5 26 "NoteThemes" "hasSnapshot" "Z", .fieldLink RX5 71 "NoteThemes$Board" "notes" "I", .methodLink RX5 81 yX0_copyFrom, .instanceMethod yX0_copyFrom, .selects RX0 yX0_copyFrom yX0_copyFrom, .initialized RX0, .code yX0_copyFrom cX0_copyFrom 2 none, .fieldLink RX0 9 "NoteThemes$Board" "notes" "I", .fieldLink RX0 15 "NoteThemes$Board" "columnOf" "[I", .methodLink RX0 40 arraycopyName, .native arraycopyName, .static arraycopyName, .initialized "java/lang/System", .fieldLink RX0 19 "NoteThemes$Board" "rowOf" "[I", .fieldLink RX0 22 "NoteThemes$Board" "themeOf" "[I", .fieldLink RX0 25 "NoteThemes$Board" "dotsAt" "[I", .fieldLink RX0 28 "NoteThemes$Board" "themes" "I", .fieldLink RX0 31 "NoteThemes$Board" "votedAt" "[I", .fieldLink RX0 34 "NoteThemes$Board" "settings" "[I"] ++ wsX50 ++ wsX00)
def wsX5_restore_r1 : List Cond := [Cond.fieldLink RX5 26 "NoteThemes" "hasSnapshot" "Z", Cond.fieldLink RX5 19 "NoteThemes" "history" "LNoteThemes$History;", Cond.fieldLink RX5 10 "NoteThemes" "board" "LNoteThemes$Board;", Cond.fieldLink RX5 23 "NoteThemes" "snapshot" "LNoteThemes$Board;", Cond.fieldLink RX5 71 "NoteThemes$Board" "notes" "I", Cond.methodLink RX5 74 yX3_remember, Cond.instanceMethod yX3_remember, Cond.selects RX3 yX3_remember yX3_remember, Cond.initialized RX3, Cond.code yX3_remember cX3_remember 2 none, Cond.fieldLink RX3 9 "NoteThemes$History" "states" "I", Cond.fieldLink RX3 17 "NoteThemes$History" "kept" "[LNoteThemes$Board;", Cond.methodLink RX3 22 yX3_dropOldest, Cond.instanceMethod yX3_dropOldest, Cond.selects RX3 yX3_dropOldest yX3_dropOldest, Cond.code yX3_dropOldest cX3_dropOldest 3 none, Cond.methodLink RX3 25 yX0_copyFrom, Cond.instanceMethod yX0_copyFrom, Cond.selects RX0 yX0_copyFrom yX0_copyFrom, Cond.initialized RX0, Cond.code yX0_copyFrom cX0_copyFrom 2 none, Cond.fieldLink RX0 9 "NoteThemes$Board" "notes" "I", Cond.fieldLink RX0 15 "NoteThemes$Board" "columnOf" "[I", Cond.methodLink RX0 40 arraycopyName]
def wsX5_restore_r2 : List Cond := [Cond.native arraycopyName, Cond.static arraycopyName, Cond.initialized "java/lang/System", Cond.fieldLink RX0 19 "NoteThemes$Board" "rowOf" "[I", Cond.fieldLink RX0 22 "NoteThemes$Board" "themeOf" "[I", Cond.fieldLink RX0 25 "NoteThemes$Board" "dotsAt" "[I", Cond.fieldLink RX0 28 "NoteThemes$Board" "themes" "I", Cond.fieldLink RX0 31 "NoteThemes$Board" "votedAt" "[I", Cond.fieldLink RX0 34 "NoteThemes$Board" "settings" "[I", Cond.methodLink RX5 81 yX0_copyFrom]
def wsX5_restore : List Cond := .code yX5_restore cX5_restore 1 (some .int) :: ((wsX5_restore_r1 ++ wsX5_restore_r2) ++ wsX50 ++ wsX00 ++ wsX30)
def wsX5_holdsItsHeap_r1 : List Cond := [Cond.fieldLink RX5 38 "NoteThemes" "trial" "LNoteThemes$Board;", Cond.fieldLink RX5 10 "NoteThemes" "board" "LNoteThemes$Board;", Cond.fieldLink RX5 48 "NoteThemes" "heapsThen" "LNoteThemes$Heaps;", Cond.fieldLink RX5 200 "NoteThemes$Board" "settings" "[I", Cond.methodLink RX5 117 yX5_findHeaps, Cond.instanceMethod yX5_findHeaps, Cond.selects RX5 yX5_findHeaps yX5_findHeaps, Cond.initialized RX5, Cond.code yX5_findHeaps cX5_findHeaps 1 (some .int), Cond.fieldLink RX5 44 "NoteThemes" "heapsNow" "LNoteThemes$Heaps;", Cond.methodLink RX5 248 yX2_find, Cond.instanceMethod yX2_find, Cond.selects RX2 yX2_find yX2_find, Cond.initialized RX2, Cond.code yX2_find cX2_find 5 (some .int), Cond.fieldLink RX2 25 "NoteThemes$Board" "notes" "I", Cond.fieldLink RX2 15 "NoteThemes$Heaps" "notes" "I", Cond.fieldLink RX2 22 "NoteThemes$Heaps" "lowestOf" "[I", Cond.fieldLink RX2 9 "NoteThemes$Heaps" "number" "I", Cond.methodLink RX2 28 yX0_distance, Cond.instanceMethod yX0_distance, Cond.selects RX0 yX0_distance yX0_distance, Cond.initialized RX0, Cond.code yX0_distance cX0_distance 3 (some .int)]
def wsX5_holdsItsHeap_r2 : List Cond := [Cond.fieldLink RX0 15 "NoteThemes$Board" "columnOf" "[I", Cond.methodLink RX0 58 Lib.Math.abs.name, Cond.static Lib.Math.abs.name, Cond.initialized "java/lang/Math", Cond.code Lib.Math.abs.name Lib.Math.abs.code 1 (some .int), Cond.fieldLink RX0 19 "NoteThemes$Board" "rowOf" "[I", Cond.methodLink RX2 32 yX2_join, Cond.instanceMethod yX2_join, Cond.selects RX2 yX2_join yX2_join, Cond.code yX2_join cX2_join 6 none, Cond.methodLink RX2 39 Lib.Math.min.name, Cond.static Lib.Math.min.name, Cond.code Lib.Math.min.name Lib.Math.min.code 2 (some .int), Cond.methodLink RX2 44 Lib.Math.max.name, Cond.static Lib.Math.max.name, Cond.code Lib.Math.max.name Lib.Math.max.code 2 (some .int), Cond.methodLink RX2 36 yX2_numberThem, Cond.instanceMethod yX2_numberThem, Cond.selects RX2 yX2_numberThem yX2_numberThem, Cond.code yX2_numberThem cX2_numberThem 2 none, Cond.fieldLink RX2 18 "NoteThemes$Heaps" "heapOf" "[I", Cond.methodLink RX5 81 yX0_copyFrom, Cond.instanceMethod yX0_copyFrom, Cond.selects RX0 yX0_copyFrom yX0_copyFrom]
def wsX5_holdsItsHeap_r3 : List Cond := [Cond.code yX0_copyFrom cX0_copyFrom 2 none, Cond.fieldLink RX0 9 "NoteThemes$Board" "notes" "I", Cond.methodLink RX0 40 arraycopyName, Cond.native arraycopyName, Cond.static arraycopyName, Cond.initialized "java/lang/System", Cond.fieldLink RX0 22 "NoteThemes$Board" "themeOf" "[I", Cond.fieldLink RX0 25 "NoteThemes$Board" "dotsAt" "[I", Cond.fieldLink RX0 28 "NoteThemes$Board" "themes" "I", Cond.fieldLink RX0 31 "NoteThemes$Board" "votedAt" "[I", Cond.fieldLink RX0 34 "NoteThemes$Board" "settings" "[I", Cond.methodLink RX5 102 yX0_removeNote, Cond.instanceMethod yX0_removeNote, Cond.selects RX0 yX0_removeNote yX0_removeNote, Cond.code yX0_removeNote cX0_removeNote 4 none, Cond.methodLink RX0 50 yX0_copyNote, Cond.instanceMethod yX0_copyNote, Cond.selects RX0 yX0_copyNote yX0_copyNote, Cond.code yX0_copyNote cX0_copyNote 4 none, Cond.methodLink RX0 46 yX0_moveNote, Cond.instanceMethod yX0_moveNote, Cond.selects RX0 yX0_moveNote yX0_moveNote, Cond.code yX0_moveNote cX0_moveNote 4 none, Cond.methodLink RX0 54 yX0_removeThemeIfEmpty]
def wsX5_holdsItsHeap_r4 : List Cond := [Cond.instanceMethod yX0_removeThemeIfEmpty, Cond.selects RX0 yX0_removeThemeIfEmpty yX0_removeThemeIfEmpty, Cond.code yX0_removeThemeIfEmpty cX0_removeThemeIfEmpty 4 none, Cond.methodLink RX0 86 yX0_notesOfTheme, Cond.instanceMethod yX0_notesOfTheme, Cond.selects RX0 yX0_notesOfTheme yX0_notesOfTheme, Cond.code yX0_notesOfTheme cX0_notesOfTheme 4 (some .int), Cond.methodLink RX0 83 yX0_voteOf, Cond.instanceMethod yX0_voteOf, Cond.selects RX0 yX0_voteOf yX0_voteOf, Cond.code yX0_voteOf cX0_voteOf 3 (some .int), Cond.methodLink RX0 80 yX0_setVote, Cond.instanceMethod yX0_setVote, Cond.selects RX0 yX0_setVote yX0_setVote, Cond.code yX0_setVote cX0_setVote 4 none]
def wsX5_holdsItsHeap : List Cond := .code yX5_holdsItsHeap cX5_holdsItsHeap 3 (some .boolean) :: ((wsX5_holdsItsHeap_r1 ++ (wsX5_holdsItsHeap_r2 ++ (wsX5_holdsItsHeap_r3 ++ wsX5_holdsItsHeap_r4))) ++ wsX50 ++ wsX00 ++ wsX20)
def wsX5_note_r1 : List Cond := [Cond.fieldLink RX5 10 "NoteThemes" "board" "LNoteThemes$Board;", Cond.fieldLink RX5 106 "NoteThemes$Board" "columnOf" "[I", Cond.fieldLink RX5 110 "NoteThemes$Board" "rowOf" "[I", Cond.fieldLink RX5 44 "NoteThemes" "heapsNow" "LNoteThemes$Heaps;", Cond.fieldLink RX5 160 "NoteThemes$Heaps" "heapOf" "[I", Cond.fieldLink RX5 163 "NoteThemes$Board" "themeOf" "[I", Cond.methodLink RX5 94 yX0_hasNote, Cond.instanceMethod yX0_hasNote, Cond.selects RX0 yX0_hasNote yX0_hasNote, Cond.initialized RX0, Cond.code yX0_hasNote cX0_hasNote 2 (some .boolean), Cond.fieldLink RX0 9 "NoteThemes$Board" "notes" "I", Cond.methodLink RX5 98 yX0_dotsOn, Cond.instanceMethod yX0_dotsOn, Cond.selects RX0 yX0_dotsOn yX0_dotsOn, Cond.code yX0_dotsOn cX0_dotsOn 4 (some .int), Cond.methodLink RX0 68 yX0_dotsOfPerson, Cond.instanceMethod yX0_dotsOfPerson, Cond.selects RX0 yX0_dotsOfPerson yX0_dotsOfPerson, Cond.code yX0_dotsOfPerson cX0_dotsOfPerson 3 (some .int), Cond.fieldLink RX0 25 "NoteThemes$Board" "dotsAt" "[I", Cond.methodLink RX5 117 yX5_findHeaps, Cond.instanceMethod yX5_findHeaps, Cond.selects RX5 yX5_findHeaps yX5_findHeaps]
def wsX5_note_r2 : List Cond := [Cond.initialized RX5, Cond.code yX5_findHeaps cX5_findHeaps 1 (some .int), Cond.fieldLink RX5 200 "NoteThemes$Board" "settings" "[I", Cond.methodLink RX5 248 yX2_find, Cond.instanceMethod yX2_find, Cond.selects RX2 yX2_find yX2_find, Cond.initialized RX2, Cond.code yX2_find cX2_find 5 (some .int), Cond.fieldLink RX2 25 "NoteThemes$Board" "notes" "I", Cond.fieldLink RX2 15 "NoteThemes$Heaps" "notes" "I", Cond.fieldLink RX2 22 "NoteThemes$Heaps" "lowestOf" "[I", Cond.fieldLink RX2 9 "NoteThemes$Heaps" "number" "I", Cond.methodLink RX2 28 yX0_distance, Cond.instanceMethod yX0_distance, Cond.selects RX0 yX0_distance yX0_distance, Cond.code yX0_distance cX0_distance 3 (some .int), Cond.fieldLink RX0 15 "NoteThemes$Board" "columnOf" "[I", Cond.methodLink RX0 58 Lib.Math.abs.name, Cond.static Lib.Math.abs.name, Cond.initialized "java/lang/Math", Cond.code Lib.Math.abs.name Lib.Math.abs.code 1 (some .int), Cond.fieldLink RX0 19 "NoteThemes$Board" "rowOf" "[I", Cond.methodLink RX2 32 yX2_join, Cond.instanceMethod yX2_join]
def wsX5_note_r3 : List Cond := [Cond.selects RX2 yX2_join yX2_join, Cond.code yX2_join cX2_join 6 none, Cond.methodLink RX2 39 Lib.Math.min.name, Cond.static Lib.Math.min.name, Cond.code Lib.Math.min.name Lib.Math.min.code 2 (some .int), Cond.methodLink RX2 44 Lib.Math.max.name, Cond.static Lib.Math.max.name, Cond.code Lib.Math.max.name Lib.Math.max.code 2 (some .int), Cond.methodLink RX2 36 yX2_numberThem, Cond.instanceMethod yX2_numberThem, Cond.selects RX2 yX2_numberThem yX2_numberThem, Cond.code yX2_numberThem cX2_numberThem 2 none, Cond.fieldLink RX2 18 "NoteThemes$Heaps" "heapOf" "[I", Cond.methodLink RX5 209 yX0_notesNear, Cond.instanceMethod yX0_notesNear, Cond.selects RX0 yX0_notesNear yX0_notesNear, Cond.code yX0_notesNear cX0_notesNear 4 (some .int), Cond.fieldLink RX0 34 "NoteThemes$Board" "settings" "[I", Cond.methodLink RX0 64 yX0_distance, Cond.methodLink RX5 212 yX5_holdsItsHeap, Cond.instanceMethod yX5_holdsItsHeap, Cond.selects RX5 yX5_holdsItsHeap yX5_holdsItsHeap, Cond.code yX5_holdsItsHeap cX5_holdsItsHeap 3 (some .boolean), Cond.fieldLink RX5 38 "NoteThemes" "trial" "LNoteThemes$Board;"]
def wsX5_note_r4 : List Cond := [Cond.fieldLink RX5 48 "NoteThemes" "heapsThen" "LNoteThemes$Heaps;", Cond.methodLink RX5 81 yX0_copyFrom, Cond.instanceMethod yX0_copyFrom, Cond.selects RX0 yX0_copyFrom yX0_copyFrom, Cond.code yX0_copyFrom cX0_copyFrom 2 none, Cond.methodLink RX0 40 arraycopyName, Cond.native arraycopyName, Cond.static arraycopyName, Cond.initialized "java/lang/System", Cond.fieldLink RX0 22 "NoteThemes$Board" "themeOf" "[I", Cond.fieldLink RX0 28 "NoteThemes$Board" "themes" "I", Cond.fieldLink RX0 31 "NoteThemes$Board" "votedAt" "[I", Cond.methodLink RX5 102 yX0_removeNote, Cond.instanceMethod yX0_removeNote, Cond.selects RX0 yX0_removeNote yX0_removeNote, Cond.code yX0_removeNote cX0_removeNote 4 none, Cond.methodLink RX0 50 yX0_copyNote, Cond.instanceMethod yX0_copyNote, Cond.selects RX0 yX0_copyNote yX0_copyNote, Cond.code yX0_copyNote cX0_copyNote 4 none, Cond.methodLink RX0 46 yX0_moveNote, Cond.instanceMethod yX0_moveNote, Cond.selects RX0 yX0_moveNote yX0_moveNote, Cond.code yX0_moveNote cX0_moveNote 4 none]
def wsX5_note_r5 : List Cond := [Cond.methodLink RX0 54 yX0_removeThemeIfEmpty, Cond.instanceMethod yX0_removeThemeIfEmpty, Cond.selects RX0 yX0_removeThemeIfEmpty yX0_removeThemeIfEmpty, Cond.code yX0_removeThemeIfEmpty cX0_removeThemeIfEmpty 4 none, Cond.methodLink RX0 86 yX0_notesOfTheme, Cond.instanceMethod yX0_notesOfTheme, Cond.selects RX0 yX0_notesOfTheme yX0_notesOfTheme, Cond.code yX0_notesOfTheme cX0_notesOfTheme 4 (some .int), Cond.methodLink RX0 83 yX0_voteOf, Cond.instanceMethod yX0_voteOf, Cond.selects RX0 yX0_voteOf yX0_voteOf, Cond.code yX0_voteOf cX0_voteOf 3 (some .int), Cond.methodLink RX0 80 yX0_setVote, Cond.instanceMethod yX0_setVote, Cond.selects RX0 yX0_setVote yX0_setVote, Cond.code yX0_setVote cX0_setVote 4 none]
def wsX5_note : List Cond := .code yX5_note cX5_note 3 (some .int) :: ((wsX5_note_r1 ++ (wsX5_note_r2 ++ (wsX5_note_r3 ++ (wsX5_note_r4 ++ wsX5_note_r5)))) ++ wsX50 ++ wsX00 ++ wsX20)
def wsX5_dots : List Cond := .code yX5_dots cX5_dots 3 (some .int) :: ([.fieldLink RX5 10 "NoteThemes" "board" "LNoteThemes$Board;", .methodLink RX5 134 yX5_isPerson, .static yX5_isPerson, .initialized RX5, .code yX5_isPerson cX5_isPerson 1 (some .boolean), .methodLink RX5 124 yX5_isWithin, .static yX5_isWithin, .code yX5_isWithin cX5_isWithin 3 (some .boolean), .methodLink RX5 94 yX0_hasNote, .instanceMethod yX0_hasNote, .selects RX0 yX0_hasNote yX0_hasNote, .initialized RX0, .code yX0_hasNote cX0_hasNote 2 (some .boolean), .fieldLink RX0 9 "NoteThemes$Board" "notes" "I", .methodLink RX5 146 yX0_dotsOfPerson, .instanceMethod yX0_dotsOfPerson, .selects RX0 yX0_dotsOfPerson yX0_dotsOfPerson, .code yX0_dotsOfPerson cX0_dotsOfPerson 3 (some .int), .fieldLink RX0 25 "NoteThemes$Board" "dotsAt" "[I"] ++ wsX50 ++ wsX00)
def wsX5_meet : List Cond := .code yX5_meet cX5_meet 4 (some .boolean) :: ([.fieldLink RX5 10 "NoteThemes" "board" "LNoteThemes$Board;", .fieldLink RX5 71 "NoteThemes$Board" "notes" "I", .fieldLink RX5 44 "NoteThemes" "heapsNow" "LNoteThemes$Heaps;", .fieldLink RX5 160 "NoteThemes$Heaps" "heapOf" "[I", .fieldLink RX5 163 "NoteThemes$Board" "themeOf" "[I"] ++ wsX50 ++ wsX00 ++ wsX20)
def wsX5_themesInHeap : List Cond := .code yX5_themesInHeap cX5_themesInHeap 4 (some .int) :: ([.fieldLink RX5 10 "NoteThemes" "board" "LNoteThemes$Board;", .fieldLink RX5 154 "NoteThemes$Board" "themes" "I", .methodLink RX5 270 yX5_meet, .instanceMethod yX5_meet, .selects RX5 yX5_meet yX5_meet, .initialized RX5, .code yX5_meet cX5_meet 4 (some .boolean), .fieldLink RX5 71 "NoteThemes$Board" "notes" "I", .fieldLink RX5 44 "NoteThemes" "heapsNow" "LNoteThemes$Heaps;", .fieldLink RX5 160 "NoteThemes$Heaps" "heapOf" "[I", .fieldLink RX5 163 "NoteThemes$Board" "themeOf" "[I"] ++ wsX50 ++ wsX00 ++ wsX20)
def wsX5_heap_r1 : List Cond := [Cond.fieldLink RX5 44 "NoteThemes" "heapsNow" "LNoteThemes$Heaps;", Cond.fieldLink RX5 10 "NoteThemes" "board" "LNoteThemes$Board;", Cond.methodLink RX5 117 yX5_findHeaps, Cond.instanceMethod yX5_findHeaps, Cond.selects RX5 yX5_findHeaps yX5_findHeaps, Cond.initialized RX5, Cond.code yX5_findHeaps cX5_findHeaps 1 (some .int), Cond.fieldLink RX5 200 "NoteThemes$Board" "settings" "[I", Cond.methodLink RX5 248 yX2_find, Cond.instanceMethod yX2_find, Cond.selects RX2 yX2_find yX2_find, Cond.initialized RX2, Cond.code yX2_find cX2_find 5 (some .int), Cond.fieldLink RX2 25 "NoteThemes$Board" "notes" "I", Cond.fieldLink RX2 15 "NoteThemes$Heaps" "notes" "I", Cond.fieldLink RX2 22 "NoteThemes$Heaps" "lowestOf" "[I", Cond.fieldLink RX2 9 "NoteThemes$Heaps" "number" "I", Cond.methodLink RX2 28 yX0_distance, Cond.instanceMethod yX0_distance, Cond.selects RX0 yX0_distance yX0_distance, Cond.initialized RX0, Cond.code yX0_distance cX0_distance 3 (some .int), Cond.fieldLink RX0 15 "NoteThemes$Board" "columnOf" "[I", Cond.methodLink RX0 58 Lib.Math.abs.name]
def wsX5_heap_r2 : List Cond := [Cond.static Lib.Math.abs.name, Cond.initialized "java/lang/Math", Cond.code Lib.Math.abs.name Lib.Math.abs.code 1 (some .int), Cond.fieldLink RX0 19 "NoteThemes$Board" "rowOf" "[I", Cond.methodLink RX2 32 yX2_join, Cond.instanceMethod yX2_join, Cond.selects RX2 yX2_join yX2_join, Cond.code yX2_join cX2_join 6 none, Cond.methodLink RX2 39 Lib.Math.min.name, Cond.static Lib.Math.min.name, Cond.code Lib.Math.min.name Lib.Math.min.code 2 (some .int), Cond.methodLink RX2 44 Lib.Math.max.name, Cond.static Lib.Math.max.name, Cond.code Lib.Math.max.name Lib.Math.max.code 2 (some .int), Cond.methodLink RX2 36 yX2_numberThem, Cond.instanceMethod yX2_numberThem, Cond.selects RX2 yX2_numberThem yX2_numberThem, Cond.code yX2_numberThem cX2_numberThem 2 none, Cond.fieldLink RX2 18 "NoteThemes$Heaps" "heapOf" "[I", Cond.methodLink RX5 121 yX2_has, Cond.instanceMethod yX2_has, Cond.selects RX2 yX2_has yX2_has, Cond.code yX2_has cX2_has 2 (some .boolean), Cond.methodLink RX5 215 yX2_notesIn]
def wsX5_heap_r3 : List Cond := [Cond.instanceMethod yX2_notesIn, Cond.selects RX2 yX2_notesIn yX2_notesIn, Cond.code yX2_notesIn cX2_notesIn 4 (some .int), Cond.methodLink RX5 218 yX2_lowestNoteIn, Cond.instanceMethod yX2_lowestNoteIn, Cond.selects RX2 yX2_lowestNoteIn yX2_lowestNoteIn, Cond.code yX2_lowestNoteIn cX2_lowestNoteIn 3 (some .int), Cond.methodLink RX5 221 yX2_dotsIn, Cond.instanceMethod yX2_dotsIn, Cond.selects RX2 yX2_dotsIn yX2_dotsIn, Cond.code yX2_dotsIn cX2_dotsIn 5 (some .int), Cond.methodLink RX2 47 yX0_dotsOn, Cond.instanceMethod yX0_dotsOn, Cond.selects RX0 yX0_dotsOn yX0_dotsOn, Cond.code yX0_dotsOn cX0_dotsOn 4 (some .int), Cond.methodLink RX0 68 yX0_dotsOfPerson, Cond.instanceMethod yX0_dotsOfPerson, Cond.selects RX0 yX0_dotsOfPerson yX0_dotsOfPerson, Cond.code yX0_dotsOfPerson cX0_dotsOfPerson 3 (some .int), Cond.fieldLink RX0 25 "NoteThemes$Board" "dotsAt" "[I", Cond.methodLink RX5 224 yX5_themesInHeap, Cond.instanceMethod yX5_themesInHeap, Cond.selects RX5 yX5_themesInHeap yX5_themesInHeap, Cond.code yX5_themesInHeap cX5_themesInHeap 4 (some .int)]
def wsX5_heap_r4 : List Cond := [Cond.fieldLink RX5 154 "NoteThemes$Board" "themes" "I", Cond.methodLink RX5 270 yX5_meet, Cond.instanceMethod yX5_meet, Cond.selects RX5 yX5_meet yX5_meet, Cond.code yX5_meet cX5_meet 4 (some .boolean), Cond.fieldLink RX5 71 "NoteThemes$Board" "notes" "I", Cond.fieldLink RX5 160 "NoteThemes$Heaps" "heapOf" "[I", Cond.fieldLink RX5 163 "NoteThemes$Board" "themeOf" "[I", Cond.methodLink RX5 150 yX2_freeNotesIn, Cond.instanceMethod yX2_freeNotesIn, Cond.selects RX2 yX2_freeNotesIn yX2_freeNotesIn, Cond.code yX2_freeNotesIn cX2_freeNotesIn 5 (some .int), Cond.fieldLink RX2 51 "NoteThemes$Board" "themeOf" "[I", Cond.methodLink RX5 227 yX2_middleOf, Cond.instanceMethod yX2_middleOf, Cond.selects RX2 yX2_middleOf yX2_middleOf, Cond.code yX2_middleOf cX2_middleOf 7 (some .int), Cond.methodLink RX2 54 yX2_distancesTo, Cond.instanceMethod yX2_distancesTo, Cond.selects RX2 yX2_distancesTo yX2_distancesTo, Cond.code yX2_distancesTo cX2_distancesTo 5 (some .int), Cond.methodLink RX5 230 yX2_widthOf, Cond.instanceMethod yX2_widthOf, Cond.selects RX2 yX2_widthOf yX2_widthOf]
def wsX5_heap_r5 : List Cond := [Cond.code yX2_widthOf cX2_widthOf 6 (some .int)]
def wsX5_heap : List Cond := .code yX5_heap cX5_heap 3 (some .int) :: ((wsX5_heap_r1 ++ (wsX5_heap_r2 ++ (wsX5_heap_r3 ++ (wsX5_heap_r4 ++ wsX5_heap_r5)))) ++ wsX50 ++ wsX00 ++ wsX20)
def wsX5_rankOf : List Cond := .code yX5_rankOf cX5_rankOf 6 (some .int) :: ([.fieldLink RX5 10 "NoteThemes" "board" "LNoteThemes$Board;", .fieldLink RX5 154 "NoteThemes$Board" "themes" "I", .methodLink RX5 233 yX0_dotsOfTheme, .instanceMethod yX0_dotsOfTheme, .selects RX0 yX0_dotsOfTheme yX0_dotsOfTheme, .initialized RX0, .code yX0_dotsOfTheme cX0_dotsOfTheme 4 (some .int), .fieldLink RX0 9 "NoteThemes$Board" "notes" "I", .fieldLink RX0 22 "NoteThemes$Board" "themeOf" "[I", .methodLink RX0 74 yX0_dotsOn, .instanceMethod yX0_dotsOn, .selects RX0 yX0_dotsOn yX0_dotsOn, .code yX0_dotsOn cX0_dotsOn 4 (some .int), .methodLink RX0 68 yX0_dotsOfPerson, .instanceMethod yX0_dotsOfPerson, .selects RX0 yX0_dotsOfPerson yX0_dotsOfPerson, .code yX0_dotsOfPerson cX0_dotsOfPerson 3 (some .int), .fieldLink RX0 25 "NoteThemes$Board" "dotsAt" "[I"] ++ wsX50 ++ wsX00)
def wsX5_heapsOfTheme_r1 : List Cond := [Cond.methodLink RX5 117 yX5_findHeaps, Cond.instanceMethod yX5_findHeaps, Cond.selects RX5 yX5_findHeaps yX5_findHeaps, Cond.initialized RX5, Cond.code yX5_findHeaps cX5_findHeaps 1 (some .int), Cond.fieldLink RX5 44 "NoteThemes" "heapsNow" "LNoteThemes$Heaps;", Cond.fieldLink RX5 10 "NoteThemes" "board" "LNoteThemes$Board;", Cond.fieldLink RX5 200 "NoteThemes$Board" "settings" "[I", Cond.methodLink RX5 248 yX2_find, Cond.instanceMethod yX2_find, Cond.selects RX2 yX2_find yX2_find, Cond.initialized RX2, Cond.code yX2_find cX2_find 5 (some .int), Cond.fieldLink RX2 25 "NoteThemes$Board" "notes" "I", Cond.fieldLink RX2 15 "NoteThemes$Heaps" "notes" "I", Cond.fieldLink RX2 22 "NoteThemes$Heaps" "lowestOf" "[I", Cond.fieldLink RX2 9 "NoteThemes$Heaps" "number" "I", Cond.methodLink RX2 28 yX0_distance, Cond.instanceMethod yX0_distance, Cond.selects RX0 yX0_distance yX0_distance, Cond.initialized RX0, Cond.code yX0_distance cX0_distance 3 (some .int), Cond.fieldLink RX0 15 "NoteThemes$Board" "columnOf" "[I", Cond.methodLink RX0 58 Lib.Math.abs.name]
def wsX5_heapsOfTheme_r2 : List Cond := [Cond.static Lib.Math.abs.name, Cond.initialized "java/lang/Math", Cond.code Lib.Math.abs.name Lib.Math.abs.code 1 (some .int), Cond.fieldLink RX0 19 "NoteThemes$Board" "rowOf" "[I", Cond.methodLink RX2 32 yX2_join, Cond.instanceMethod yX2_join, Cond.selects RX2 yX2_join yX2_join, Cond.code yX2_join cX2_join 6 none, Cond.methodLink RX2 39 Lib.Math.min.name, Cond.static Lib.Math.min.name, Cond.code Lib.Math.min.name Lib.Math.min.code 2 (some .int), Cond.methodLink RX2 44 Lib.Math.max.name, Cond.static Lib.Math.max.name, Cond.code Lib.Math.max.name Lib.Math.max.code 2 (some .int), Cond.methodLink RX2 36 yX2_numberThem, Cond.instanceMethod yX2_numberThem, Cond.selects RX2 yX2_numberThem yX2_numberThem, Cond.code yX2_numberThem cX2_numberThem 2 none, Cond.fieldLink RX2 18 "NoteThemes$Heaps" "heapOf" "[I", Cond.methodLink RX5 270 yX5_meet, Cond.instanceMethod yX5_meet, Cond.selects RX5 yX5_meet yX5_meet, Cond.code yX5_meet cX5_meet 4 (some .boolean), Cond.fieldLink RX5 71 "NoteThemes$Board" "notes" "I"]
def wsX5_heapsOfTheme_r3 : List Cond := [Cond.fieldLink RX5 160 "NoteThemes$Heaps" "heapOf" "[I", Cond.fieldLink RX5 163 "NoteThemes$Board" "themeOf" "[I"]
def wsX5_heapsOfTheme : List Cond := .code yX5_heapsOfTheme cX5_heapsOfTheme 5 (some .int) :: ((wsX5_heapsOfTheme_r1 ++ (wsX5_heapsOfTheme_r2 ++ wsX5_heapsOfTheme_r3)) ++ wsX50 ++ wsX00 ++ wsX20)
def wsX5_theme_r1 : List Cond := [Cond.fieldLink RX5 10 "NoteThemes" "board" "LNoteThemes$Board;", Cond.fieldLink RX5 54 "NoteThemes" "names" "LNoteThemes$Names;", Cond.fieldLink RX5 191 "NoteThemes$Names" "nameOf" "[I", Cond.methodLink RX5 166 yX0_hasTheme, Cond.instanceMethod yX0_hasTheme, Cond.selects RX0 yX0_hasTheme yX0_hasTheme, Cond.initialized RX0, Cond.code yX0_hasTheme cX0_hasTheme 2 (some .boolean), Cond.fieldLink RX0 28 "NoteThemes$Board" "themes" "I", Cond.methodLink RX5 172 yX0_notesOfTheme, Cond.instanceMethod yX0_notesOfTheme, Cond.selects RX0 yX0_notesOfTheme yX0_notesOfTheme, Cond.code yX0_notesOfTheme cX0_notesOfTheme 4 (some .int), Cond.fieldLink RX0 9 "NoteThemes$Board" "notes" "I", Cond.fieldLink RX0 22 "NoteThemes$Board" "themeOf" "[I", Cond.methodLink RX5 233 yX0_dotsOfTheme, Cond.instanceMethod yX0_dotsOfTheme, Cond.selects RX0 yX0_dotsOfTheme yX0_dotsOfTheme, Cond.code yX0_dotsOfTheme cX0_dotsOfTheme 4 (some .int), Cond.methodLink RX0 74 yX0_dotsOn, Cond.instanceMethod yX0_dotsOn, Cond.selects RX0 yX0_dotsOn yX0_dotsOn, Cond.code yX0_dotsOn cX0_dotsOn 4 (some .int), Cond.methodLink RX0 68 yX0_dotsOfPerson]
def wsX5_theme_r2 : List Cond := [Cond.instanceMethod yX0_dotsOfPerson, Cond.selects RX0 yX0_dotsOfPerson yX0_dotsOfPerson, Cond.code yX0_dotsOfPerson cX0_dotsOfPerson 3 (some .int), Cond.fieldLink RX0 25 "NoteThemes$Board" "dotsAt" "[I", Cond.methodLink RX5 187 yX4_choose, Cond.instanceMethod yX4_choose, Cond.selects RX4 yX4_choose yX4_choose, Cond.initialized RX4, Cond.code yX4_choose cX4_choose 4 (some .int), Cond.fieldLink RX4 15 "NoteThemes$Board" "themes" "I", Cond.fieldLink RX4 9 "NoteThemes$Names" "nameOf" "[I", Cond.methodLink RX4 21 yX4_bestName, Cond.instanceMethod yX4_bestName, Cond.selects RX4 yX4_bestName yX4_bestName, Cond.code yX4_bestName cX4_bestName 7 (some .int), Cond.methodLink RX4 25 yX0_votesFor, Cond.instanceMethod yX0_votesFor, Cond.selects RX0 yX0_votesFor yX0_votesFor, Cond.code yX0_votesFor cX0_votesFor 5 (some .int), Cond.methodLink RX0 83 yX0_voteOf, Cond.instanceMethod yX0_voteOf, Cond.selects RX0 yX0_voteOf yX0_voteOf, Cond.code yX0_voteOf cX0_voteOf 3 (some .int), Cond.fieldLink RX0 31 "NoteThemes$Board" "votedAt" "[I"]
def wsX5_theme_r3 : List Cond := [Cond.methodLink RX4 29 yX4_isTaken, Cond.instanceMethod yX4_isTaken, Cond.selects RX4 yX4_isTaken yX4_isTaken, Cond.code yX4_isTaken cX4_isTaken 4 (some .boolean), Cond.methodLink RX5 236 yX5_rankOf, Cond.instanceMethod yX5_rankOf, Cond.selects RX5 yX5_rankOf yX5_rankOf, Cond.initialized RX5, Cond.code yX5_rankOf cX5_rankOf 6 (some .int), Cond.fieldLink RX5 154 "NoteThemes$Board" "themes" "I", Cond.methodLink RX5 239 yX5_heapsOfTheme, Cond.instanceMethod yX5_heapsOfTheme, Cond.selects RX5 yX5_heapsOfTheme yX5_heapsOfTheme, Cond.code yX5_heapsOfTheme cX5_heapsOfTheme 5 (some .int), Cond.methodLink RX5 117 yX5_findHeaps, Cond.instanceMethod yX5_findHeaps, Cond.selects RX5 yX5_findHeaps yX5_findHeaps, Cond.code yX5_findHeaps cX5_findHeaps 1 (some .int), Cond.fieldLink RX5 44 "NoteThemes" "heapsNow" "LNoteThemes$Heaps;", Cond.fieldLink RX5 200 "NoteThemes$Board" "settings" "[I", Cond.methodLink RX5 248 yX2_find, Cond.instanceMethod yX2_find, Cond.selects RX2 yX2_find yX2_find, Cond.initialized RX2]
def wsX5_theme_r4 : List Cond := [Cond.code yX2_find cX2_find 5 (some .int), Cond.fieldLink RX2 25 "NoteThemes$Board" "notes" "I", Cond.fieldLink RX2 15 "NoteThemes$Heaps" "notes" "I", Cond.fieldLink RX2 22 "NoteThemes$Heaps" "lowestOf" "[I", Cond.fieldLink RX2 9 "NoteThemes$Heaps" "number" "I", Cond.methodLink RX2 28 yX0_distance, Cond.instanceMethod yX0_distance, Cond.selects RX0 yX0_distance yX0_distance, Cond.code yX0_distance cX0_distance 3 (some .int), Cond.fieldLink RX0 15 "NoteThemes$Board" "columnOf" "[I", Cond.methodLink RX0 58 Lib.Math.abs.name, Cond.static Lib.Math.abs.name, Cond.initialized "java/lang/Math", Cond.code Lib.Math.abs.name Lib.Math.abs.code 1 (some .int), Cond.fieldLink RX0 19 "NoteThemes$Board" "rowOf" "[I", Cond.methodLink RX2 32 yX2_join, Cond.instanceMethod yX2_join, Cond.selects RX2 yX2_join yX2_join, Cond.code yX2_join cX2_join 6 none, Cond.methodLink RX2 39 Lib.Math.min.name, Cond.static Lib.Math.min.name, Cond.code Lib.Math.min.name Lib.Math.min.code 2 (some .int), Cond.methodLink RX2 44 Lib.Math.max.name, Cond.static Lib.Math.max.name]
def wsX5_theme_r5 : List Cond := [Cond.code Lib.Math.max.name Lib.Math.max.code 2 (some .int), Cond.methodLink RX2 36 yX2_numberThem, Cond.instanceMethod yX2_numberThem, Cond.selects RX2 yX2_numberThem yX2_numberThem, Cond.code yX2_numberThem cX2_numberThem 2 none, Cond.fieldLink RX2 18 "NoteThemes$Heaps" "heapOf" "[I", Cond.methodLink RX5 270 yX5_meet, Cond.instanceMethod yX5_meet, Cond.selects RX5 yX5_meet yX5_meet, Cond.code yX5_meet cX5_meet 4 (some .boolean), Cond.fieldLink RX5 71 "NoteThemes$Board" "notes" "I", Cond.fieldLink RX5 160 "NoteThemes$Heaps" "heapOf" "[I", Cond.fieldLink RX5 163 "NoteThemes$Board" "themeOf" "[I", Cond.methodLink RX5 242 yX0_votersOf, Cond.instanceMethod yX0_votersOf, Cond.selects RX0 yX0_votersOf yX0_votersOf, Cond.code yX0_votersOf cX0_votersOf 2 (some .int), Cond.methodLink RX0 89 yX0_votesFor]
def wsX5_theme : List Cond := .code yX5_theme cX5_theme 3 (some .int) :: ((wsX5_theme_r1 ++ (wsX5_theme_r2 ++ (wsX5_theme_r3 ++ (wsX5_theme_r4 ++ wsX5_theme_r5)))) ++ wsX50 ++ wsX40 ++ wsX00 ++ wsX20)
def wsX5_votes : List Cond := .code yX5_votes cX5_votes 3 (some .int) :: ([.fieldLink RX5 10 "NoteThemes" "board" "LNoteThemes$Board;", .methodLink RX5 166 yX0_hasTheme, .instanceMethod yX0_hasTheme, .selects RX0 yX0_hasTheme yX0_hasTheme, .initialized RX0, .code yX0_hasTheme cX0_hasTheme 2 (some .boolean), .fieldLink RX0 28 "NoteThemes$Board" "themes" "I", .methodLink RX5 178 yX5_isName, .static yX5_isName, .initialized RX5, .code yX5_isName cX5_isName 1 (some .boolean), .methodLink RX5 124 yX5_isWithin, .static yX5_isWithin, .code yX5_isWithin cX5_isWithin 3 (some .boolean), .methodLink RX5 245 yX0_votesFor, .instanceMethod yX0_votesFor, .selects RX0 yX0_votesFor yX0_votesFor, .code yX0_votesFor cX0_votesFor 5 (some .int), .methodLink RX0 83 yX0_voteOf, .instanceMethod yX0_voteOf, .selects RX0 yX0_voteOf yX0_voteOf, .code yX0_voteOf cX0_voteOf 3 (some .int), .fieldLink RX0 31 "NoteThemes$Board" "votedAt" "[I"] ++ wsX50 ++ wsX00)
def wsX5_notesParted : List Cond := .code yX5_notesParted cX5_notesParted 4 (some .int) :: ([.fieldLink RX5 10 "NoteThemes" "board" "LNoteThemes$Board;", .fieldLink RX5 71 "NoteThemes$Board" "notes" "I", .fieldLink RX5 44 "NoteThemes" "heapsNow" "LNoteThemes$Heaps;", .fieldLink RX5 160 "NoteThemes$Heaps" "heapOf" "[I", .fieldLink RX5 48 "NoteThemes" "heapsThen" "LNoteThemes$Heaps;"] ++ wsX50 ++ wsX00 ++ wsX20)
def wsX5_ifDragged_r1 : List Cond := [Cond.fieldLink RX5 10 "NoteThemes" "board" "LNoteThemes$Board;", Cond.fieldLink RX5 38 "NoteThemes" "trial" "LNoteThemes$Board;", Cond.fieldLink RX5 48 "NoteThemes" "heapsThen" "LNoteThemes$Heaps;", Cond.fieldLink RX5 200 "NoteThemes$Board" "settings" "[I", Cond.fieldLink RX5 252 "NoteThemes$Heaps" "number" "I", Cond.fieldLink RX5 160 "NoteThemes$Heaps" "heapOf" "[I", Cond.methodLink RX5 94 yX0_hasNote, Cond.instanceMethod yX0_hasNote, Cond.selects RX0 yX0_hasNote yX0_hasNote, Cond.initialized RX0, Cond.code yX0_hasNote cX0_hasNote 2 (some .boolean), Cond.fieldLink RX0 9 "NoteThemes$Board" "notes" "I", Cond.methodLink RX5 67 yX5_isPlace, Cond.static yX5_isPlace, Cond.initialized RX5, Cond.code yX5_isPlace cX5_isPlace 2 (some .boolean), Cond.methodLink RX5 124 yX5_isWithin, Cond.static yX5_isWithin, Cond.code yX5_isWithin cX5_isWithin 3 (some .boolean), Cond.methodLink RX5 117 yX5_findHeaps, Cond.instanceMethod yX5_findHeaps, Cond.selects RX5 yX5_findHeaps yX5_findHeaps, Cond.code yX5_findHeaps cX5_findHeaps 1 (some .int), Cond.fieldLink RX5 44 "NoteThemes" "heapsNow" "LNoteThemes$Heaps;"]
def wsX5_ifDragged_r2 : List Cond := [Cond.methodLink RX5 248 yX2_find, Cond.instanceMethod yX2_find, Cond.selects RX2 yX2_find yX2_find, Cond.initialized RX2, Cond.code yX2_find cX2_find 5 (some .int), Cond.fieldLink RX2 25 "NoteThemes$Board" "notes" "I", Cond.fieldLink RX2 15 "NoteThemes$Heaps" "notes" "I", Cond.fieldLink RX2 22 "NoteThemes$Heaps" "lowestOf" "[I", Cond.fieldLink RX2 9 "NoteThemes$Heaps" "number" "I", Cond.methodLink RX2 28 yX0_distance, Cond.instanceMethod yX0_distance, Cond.selects RX0 yX0_distance yX0_distance, Cond.code yX0_distance cX0_distance 3 (some .int), Cond.fieldLink RX0 15 "NoteThemes$Board" "columnOf" "[I", Cond.methodLink RX0 58 Lib.Math.abs.name, Cond.static Lib.Math.abs.name, Cond.initialized "java/lang/Math", Cond.code Lib.Math.abs.name Lib.Math.abs.code 1 (some .int), Cond.fieldLink RX0 19 "NoteThemes$Board" "rowOf" "[I", Cond.methodLink RX2 32 yX2_join, Cond.instanceMethod yX2_join, Cond.selects RX2 yX2_join yX2_join, Cond.code yX2_join cX2_join 6 none, Cond.methodLink RX2 39 Lib.Math.min.name]
def wsX5_ifDragged_r3 : List Cond := [Cond.static Lib.Math.min.name, Cond.code Lib.Math.min.name Lib.Math.min.code 2 (some .int), Cond.methodLink RX2 44 Lib.Math.max.name, Cond.static Lib.Math.max.name, Cond.code Lib.Math.max.name Lib.Math.max.code 2 (some .int), Cond.methodLink RX2 36 yX2_numberThem, Cond.instanceMethod yX2_numberThem, Cond.selects RX2 yX2_numberThem yX2_numberThem, Cond.code yX2_numberThem cX2_numberThem 2 none, Cond.fieldLink RX2 18 "NoteThemes$Heaps" "heapOf" "[I", Cond.methodLink RX5 81 yX0_copyFrom, Cond.instanceMethod yX0_copyFrom, Cond.selects RX0 yX0_copyFrom yX0_copyFrom, Cond.code yX0_copyFrom cX0_copyFrom 2 none, Cond.methodLink RX0 40 arraycopyName, Cond.native arraycopyName, Cond.static arraycopyName, Cond.initialized "java/lang/System", Cond.fieldLink RX0 22 "NoteThemes$Board" "themeOf" "[I", Cond.fieldLink RX0 25 "NoteThemes$Board" "dotsAt" "[I", Cond.fieldLink RX0 28 "NoteThemes$Board" "themes" "I", Cond.fieldLink RX0 31 "NoteThemes$Board" "votedAt" "[I", Cond.fieldLink RX0 34 "NoteThemes$Board" "settings" "[I", Cond.methodLink RX5 113 yX0_moveNote]
def wsX5_ifDragged_r4 : List Cond := [Cond.instanceMethod yX0_moveNote, Cond.selects RX0 yX0_moveNote yX0_moveNote, Cond.code yX0_moveNote cX0_moveNote 4 none, Cond.methodLink RX5 215 yX2_notesIn, Cond.instanceMethod yX2_notesIn, Cond.selects RX2 yX2_notesIn yX2_notesIn, Cond.code yX2_notesIn cX2_notesIn 4 (some .int), Cond.methodLink RX5 255 yX5_notesParted, Cond.instanceMethod yX5_notesParted, Cond.selects RX5 yX5_notesParted yX5_notesParted, Cond.code yX5_notesParted cX5_notesParted 4 (some .int), Cond.fieldLink RX5 71 "NoteThemes$Board" "notes" "I"]
def wsX5_ifDragged : List Cond := .code yX5_ifDragged cX5_ifDragged 5 (some .int) :: ((wsX5_ifDragged_r1 ++ (wsX5_ifDragged_r2 ++ (wsX5_ifDragged_r3 ++ wsX5_ifDragged_r4))) ++ wsX50 ++ wsX00 ++ wsX20)
def wsX5_reachFor_r1 : List Cond := [Cond.fieldLink RX5 48 "NoteThemes" "heapsThen" "LNoteThemes$Heaps;", Cond.fieldLink RX5 10 "NoteThemes" "board" "LNoteThemes$Board;", Cond.methodLink RX5 124 yX5_isWithin, Cond.static yX5_isWithin, Cond.initialized RX5, Cond.code yX5_isWithin cX5_isWithin 3 (some .boolean), Cond.methodLink RX5 248 yX2_find, Cond.instanceMethod yX2_find, Cond.selects RX2 yX2_find yX2_find, Cond.initialized RX2, Cond.code yX2_find cX2_find 5 (some .int), Cond.fieldLink RX2 25 "NoteThemes$Board" "notes" "I", Cond.fieldLink RX2 15 "NoteThemes$Heaps" "notes" "I", Cond.fieldLink RX2 22 "NoteThemes$Heaps" "lowestOf" "[I", Cond.fieldLink RX2 9 "NoteThemes$Heaps" "number" "I", Cond.methodLink RX2 28 yX0_distance, Cond.instanceMethod yX0_distance, Cond.selects RX0 yX0_distance yX0_distance, Cond.initialized RX0, Cond.code yX0_distance cX0_distance 3 (some .int), Cond.fieldLink RX0 15 "NoteThemes$Board" "columnOf" "[I", Cond.methodLink RX0 58 Lib.Math.abs.name, Cond.static Lib.Math.abs.name, Cond.initialized "java/lang/Math"]
def wsX5_reachFor_r2 : List Cond := [Cond.code Lib.Math.abs.name Lib.Math.abs.code 1 (some .int), Cond.fieldLink RX0 19 "NoteThemes$Board" "rowOf" "[I", Cond.methodLink RX2 32 yX2_join, Cond.instanceMethod yX2_join, Cond.selects RX2 yX2_join yX2_join, Cond.code yX2_join cX2_join 6 none, Cond.methodLink RX2 39 Lib.Math.min.name, Cond.static Lib.Math.min.name, Cond.code Lib.Math.min.name Lib.Math.min.code 2 (some .int), Cond.methodLink RX2 44 Lib.Math.max.name, Cond.static Lib.Math.max.name, Cond.code Lib.Math.max.name Lib.Math.max.code 2 (some .int), Cond.methodLink RX2 36 yX2_numberThem, Cond.instanceMethod yX2_numberThem, Cond.selects RX2 yX2_numberThem yX2_numberThem, Cond.code yX2_numberThem cX2_numberThem 2 none, Cond.fieldLink RX2 18 "NoteThemes$Heaps" "heapOf" "[I"]
def wsX5_reachFor : List Cond := .code yX5_reachFor cX5_reachFor 4 (some .int) :: ((wsX5_reachFor_r1 ++ wsX5_reachFor_r2) ++ wsX50 ++ wsX00 ++ wsX20)
def wsX5_nearest : List Cond := .code yX5_nearest cX5_nearest 7 (some .int) :: ([.fieldLink RX5 10 "NoteThemes" "board" "LNoteThemes$Board;", .fieldLink RX5 71 "NoteThemes$Board" "notes" "I", .fieldLink RX5 163 "NoteThemes$Board" "themeOf" "[I", .methodLink RX5 94 yX0_hasNote, .instanceMethod yX0_hasNote, .selects RX0 yX0_hasNote yX0_hasNote, .initialized RX0, .code yX0_hasNote cX0_hasNote 2 (some .boolean), .fieldLink RX0 9 "NoteThemes$Board" "notes" "I", .methodLink RX5 258 yX0_distance, .instanceMethod yX0_distance, .selects RX0 yX0_distance yX0_distance, .code yX0_distance cX0_distance 3 (some .int), .fieldLink RX0 15 "NoteThemes$Board" "columnOf" "[I", .methodLink RX0 58 Lib.Math.abs.name, .static Lib.Math.abs.name, .initialized "java/lang/Math", .code Lib.Math.abs.name Lib.Math.abs.code 1 (some .int), .fieldLink RX0 19 "NoteThemes$Board" "rowOf" "[I"] ++ wsX50 ++ wsX00)
def wsX5_notesAlone_r1 : List Cond := [Cond.fieldLink RX5 44 "NoteThemes" "heapsNow" "LNoteThemes$Heaps;", Cond.methodLink RX5 117 yX5_findHeaps, Cond.instanceMethod yX5_findHeaps, Cond.selects RX5 yX5_findHeaps yX5_findHeaps, Cond.initialized RX5, Cond.code yX5_findHeaps cX5_findHeaps 1 (some .int), Cond.fieldLink RX5 10 "NoteThemes" "board" "LNoteThemes$Board;", Cond.fieldLink RX5 200 "NoteThemes$Board" "settings" "[I", Cond.methodLink RX5 248 yX2_find, Cond.instanceMethod yX2_find, Cond.selects RX2 yX2_find yX2_find, Cond.initialized RX2, Cond.code yX2_find cX2_find 5 (some .int), Cond.fieldLink RX2 25 "NoteThemes$Board" "notes" "I", Cond.fieldLink RX2 15 "NoteThemes$Heaps" "notes" "I", Cond.fieldLink RX2 22 "NoteThemes$Heaps" "lowestOf" "[I", Cond.fieldLink RX2 9 "NoteThemes$Heaps" "number" "I", Cond.methodLink RX2 28 yX0_distance, Cond.instanceMethod yX0_distance, Cond.selects RX0 yX0_distance yX0_distance, Cond.initialized RX0, Cond.code yX0_distance cX0_distance 3 (some .int), Cond.fieldLink RX0 15 "NoteThemes$Board" "columnOf" "[I", Cond.methodLink RX0 58 Lib.Math.abs.name]
def wsX5_notesAlone_r2 : List Cond := [Cond.static Lib.Math.abs.name, Cond.initialized "java/lang/Math", Cond.code Lib.Math.abs.name Lib.Math.abs.code 1 (some .int), Cond.fieldLink RX0 19 "NoteThemes$Board" "rowOf" "[I", Cond.methodLink RX2 32 yX2_join, Cond.instanceMethod yX2_join, Cond.selects RX2 yX2_join yX2_join, Cond.code yX2_join cX2_join 6 none, Cond.methodLink RX2 39 Lib.Math.min.name, Cond.static Lib.Math.min.name, Cond.code Lib.Math.min.name Lib.Math.min.code 2 (some .int), Cond.methodLink RX2 44 Lib.Math.max.name, Cond.static Lib.Math.max.name, Cond.code Lib.Math.max.name Lib.Math.max.code 2 (some .int), Cond.methodLink RX2 36 yX2_numberThem, Cond.instanceMethod yX2_numberThem, Cond.selects RX2 yX2_numberThem yX2_numberThem, Cond.code yX2_numberThem cX2_numberThem 2 none, Cond.fieldLink RX2 18 "NoteThemes$Heaps" "heapOf" "[I", Cond.methodLink RX5 215 yX2_notesIn, Cond.instanceMethod yX2_notesIn, Cond.selects RX2 yX2_notesIn yX2_notesIn, Cond.code yX2_notesIn cX2_notesIn 4 (some .int)]
def wsX5_notesAlone : List Cond := .code yX5_notesAlone cX5_notesAlone 4 (some .int) :: ((wsX5_notesAlone_r1 ++ wsX5_notesAlone_r2) ++ wsX50 ++ wsX00 ++ wsX20)
def wsX5_count_r1 : List Cond := [Cond.fieldLink RX5 10 "NoteThemes" "board" "LNoteThemes$Board;", Cond.fieldLink RX5 71 "NoteThemes$Board" "notes" "I", Cond.fieldLink RX5 154 "NoteThemes$Board" "themes" "I", Cond.fieldLink RX5 54 "NoteThemes" "names" "LNoteThemes$Names;", Cond.fieldLink RX5 200 "NoteThemes$Board" "settings" "[I", Cond.fieldLink RX5 19 "NoteThemes" "history" "LNoteThemes$History;", Cond.fieldLink RX5 203 "NoteThemes$History" "states" "I", Cond.fieldLink RX5 34 "NoteThemes" "textLength" "I", Cond.methodLink RX5 117 yX5_findHeaps, Cond.instanceMethod yX5_findHeaps, Cond.selects RX5 yX5_findHeaps yX5_findHeaps, Cond.initialized RX5, Cond.code yX5_findHeaps cX5_findHeaps 1 (some .int), Cond.fieldLink RX5 44 "NoteThemes" "heapsNow" "LNoteThemes$Heaps;", Cond.methodLink RX5 248 yX2_find, Cond.instanceMethod yX2_find, Cond.selects RX2 yX2_find yX2_find, Cond.initialized RX2, Cond.code yX2_find cX2_find 5 (some .int), Cond.fieldLink RX2 25 "NoteThemes$Board" "notes" "I", Cond.fieldLink RX2 15 "NoteThemes$Heaps" "notes" "I", Cond.fieldLink RX2 22 "NoteThemes$Heaps" "lowestOf" "[I", Cond.fieldLink RX2 9 "NoteThemes$Heaps" "number" "I", Cond.methodLink RX2 28 yX0_distance]
def wsX5_count_r2 : List Cond := [Cond.instanceMethod yX0_distance, Cond.selects RX0 yX0_distance yX0_distance, Cond.initialized RX0, Cond.code yX0_distance cX0_distance 3 (some .int), Cond.fieldLink RX0 15 "NoteThemes$Board" "columnOf" "[I", Cond.methodLink RX0 58 Lib.Math.abs.name, Cond.static Lib.Math.abs.name, Cond.initialized "java/lang/Math", Cond.code Lib.Math.abs.name Lib.Math.abs.code 1 (some .int), Cond.fieldLink RX0 19 "NoteThemes$Board" "rowOf" "[I", Cond.methodLink RX2 32 yX2_join, Cond.instanceMethod yX2_join, Cond.selects RX2 yX2_join yX2_join, Cond.code yX2_join cX2_join 6 none, Cond.methodLink RX2 39 Lib.Math.min.name, Cond.static Lib.Math.min.name, Cond.code Lib.Math.min.name Lib.Math.min.code 2 (some .int), Cond.methodLink RX2 44 Lib.Math.max.name, Cond.static Lib.Math.max.name, Cond.code Lib.Math.max.name Lib.Math.max.code 2 (some .int), Cond.methodLink RX2 36 yX2_numberThem, Cond.instanceMethod yX2_numberThem, Cond.selects RX2 yX2_numberThem yX2_numberThem, Cond.code yX2_numberThem cX2_numberThem 2 none]
def wsX5_count_r3 : List Cond := [Cond.fieldLink RX2 18 "NoteThemes$Heaps" "heapOf" "[I", Cond.methodLink RX5 261 yX0_allDotsStuck, Cond.instanceMethod yX0_allDotsStuck, Cond.selects RX0 yX0_allDotsStuck yX0_allDotsStuck, Cond.code yX0_allDotsStuck cX0_allDotsStuck 3 (some .int), Cond.fieldLink RX0 9 "NoteThemes$Board" "notes" "I", Cond.methodLink RX0 74 yX0_dotsOn, Cond.instanceMethod yX0_dotsOn, Cond.selects RX0 yX0_dotsOn yX0_dotsOn, Cond.code yX0_dotsOn cX0_dotsOn 4 (some .int), Cond.methodLink RX0 68 yX0_dotsOfPerson, Cond.instanceMethod yX0_dotsOfPerson, Cond.selects RX0 yX0_dotsOfPerson yX0_dotsOfPerson, Cond.code yX0_dotsOfPerson cX0_dotsOfPerson 3 (some .int), Cond.fieldLink RX0 25 "NoteThemes$Board" "dotsAt" "[I", Cond.methodLink RX5 264 yX0_allDotsLeft, Cond.instanceMethod yX0_allDotsLeft, Cond.selects RX0 yX0_allDotsLeft yX0_allDotsLeft, Cond.code yX0_allDotsLeft cX0_allDotsLeft 3 (some .int), Cond.methodLink RX0 77 yX0_dotsLeft, Cond.instanceMethod yX0_dotsLeft, Cond.selects RX0 yX0_dotsLeft yX0_dotsLeft, Cond.code yX0_dotsLeft cX0_dotsLeft 4 (some .int), Cond.fieldLink RX0 34 "NoteThemes$Board" "settings" "[I"]
def wsX5_count_r4 : List Cond := [Cond.methodLink RX0 71 Lib.Math.max.name, Cond.methodLink RX5 172 yX0_notesOfTheme, Cond.instanceMethod yX0_notesOfTheme, Cond.selects RX0 yX0_notesOfTheme yX0_notesOfTheme, Cond.code yX0_notesOfTheme cX0_notesOfTheme 4 (some .int), Cond.fieldLink RX0 22 "NoteThemes$Board" "themeOf" "[I", Cond.methodLink RX5 187 yX4_choose, Cond.instanceMethod yX4_choose, Cond.selects RX4 yX4_choose yX4_choose, Cond.initialized RX4, Cond.code yX4_choose cX4_choose 4 (some .int), Cond.fieldLink RX4 15 "NoteThemes$Board" "themes" "I", Cond.fieldLink RX4 9 "NoteThemes$Names" "nameOf" "[I", Cond.methodLink RX4 21 yX4_bestName, Cond.instanceMethod yX4_bestName, Cond.selects RX4 yX4_bestName yX4_bestName, Cond.code yX4_bestName cX4_bestName 7 (some .int), Cond.methodLink RX4 25 yX0_votesFor, Cond.instanceMethod yX0_votesFor, Cond.selects RX0 yX0_votesFor yX0_votesFor, Cond.code yX0_votesFor cX0_votesFor 5 (some .int), Cond.methodLink RX0 83 yX0_voteOf, Cond.instanceMethod yX0_voteOf, Cond.selects RX0 yX0_voteOf yX0_voteOf]
def wsX5_count_r5 : List Cond := [Cond.code yX0_voteOf cX0_voteOf 3 (some .int), Cond.fieldLink RX0 31 "NoteThemes$Board" "votedAt" "[I", Cond.methodLink RX4 29 yX4_isTaken, Cond.instanceMethod yX4_isTaken, Cond.selects RX4 yX4_isTaken yX4_isTaken, Cond.code yX4_isTaken cX4_isTaken 4 (some .boolean), Cond.methodLink RX5 267 yX5_notesAlone, Cond.instanceMethod yX5_notesAlone, Cond.selects RX5 yX5_notesAlone yX5_notesAlone, Cond.code yX5_notesAlone cX5_notesAlone 4 (some .int), Cond.methodLink RX5 215 yX2_notesIn, Cond.instanceMethod yX2_notesIn, Cond.selects RX2 yX2_notesIn yX2_notesIn, Cond.code yX2_notesIn cX2_notesIn 4 (some .int)]
def wsX5_count : List Cond := .code yX5_count cX5_count 2 (some .int) :: ((wsX5_count_r1 ++ (wsX5_count_r2 ++ (wsX5_count_r3 ++ (wsX5_count_r4 ++ wsX5_count_r5)))) ++ wsX50 ++ wsX00 ++ wsX30 ++ wsX20 ++ wsX40)
def wsX6_init : List Cond := .code yX6_init cX6_init 1 none :: ([.methodLink RX6 1 objectInit, .instanceMethod objectInit, .code objectInit ⟨#[0xb1]⟩ 1 none, .arrayClass .int, .fieldLink RX6 7 "NoteThemesModel" "s" "[I", .fieldLink RX6 13 "NoteThemesModel" "past" "[I", .fieldLink RX6 16 "NoteThemesModel" "kept" "[I", .arrayClass .char, .fieldLink RX6 19 "NoteThemesModel" "text" "[C", .fieldLink RX6 23 "NoteThemesModel" "heapOf" "[I", .fieldLink RX6 26 "NoteThemesModel" "row" "[I", .fieldLink RX6 29 "NoteThemesModel" "read" "[I", .fieldLink RX6 32 "NoteThemesModel" "heapHad" "[I"] ++ wsX60)
def wsX6_in : List Cond := .code yX6_in cX6_in 3 (some .boolean) :: ([])
def wsX6_copies : List Cond := .code yX6_copies cX6_copies 5 none :: ([])
def wsX6_records : List Cond := .code yX6_records cX6_records 2 none :: ([.fieldLink RX6 35 "NoteThemesModel" "known" "I", .fieldLink RX6 13 "NoteThemesModel" "past" "[I", .fieldLink RX6 7 "NoteThemesModel" "s" "[I", .methodLink RX6 39 yX6_copies, .static yX6_copies, .initialized RX6, .code yX6_copies cX6_copies 5 none] ++ wsX60)
def wsX6_isNote : List Cond := .code yX6_isNote cX6_isNote 2 (some .boolean) :: ([.fieldLink RX6 7 "NoteThemesModel" "s" "[I", .methodLink RX6 43 yX6_in, .static yX6_in, .initialized RX6, .code yX6_in cX6_in 3 (some .boolean)] ++ wsX60)
def wsX6_isTheme : List Cond := .code yX6_isTheme cX6_isTheme 2 (some .boolean) :: ([.fieldLink RX6 7 "NoteThemesModel" "s" "[I", .methodLink RX6 43 yX6_in, .static yX6_in, .initialized RX6, .code yX6_in cX6_in 3 (some .boolean)] ++ wsX60)
def wsX6_isPerson : List Cond := .code yX6_isPerson cX6_isPerson 1 (some .boolean) :: ([.methodLink RX6 43 yX6_in, .static yX6_in, .initialized RX6, .code yX6_in cX6_in 3 (some .boolean)])
def wsX6_isPlace : List Cond := .code yX6_isPlace cX6_isPlace 2 (some .boolean) :: ([.methodLink RX6 43 yX6_in, .static yX6_in, .initialized RX6, .code yX6_in cX6_in 3 (some .boolean)])
def wsX6_of : List Cond := .code yX6_of cX6_of 3 (some .int) :: ([.fieldLink RX6 7 "NoteThemesModel" "s" "[I"] ++ wsX60)
def wsX6_lays : List Cond := .code yX6_lays cX6_lays 4 none :: ([.fieldLink RX6 7 "NoteThemesModel" "s" "[I"] ++ wsX60)
def wsX6_themeOf : List Cond := .code yX6_themeOf cX6_themeOf 2 (some .int) :: ([.methodLink RX6 47 yX6_of, .instanceMethod yX6_of, .selects RX6 yX6_of yX6_of, .initialized RX6, .code yX6_of cX6_of 3 (some .int), .fieldLink RX6 7 "NoteThemesModel" "s" "[I"] ++ wsX60)
def wsX6_size : List Cond := .code yX6_size cX6_size 1 (some .int) :: ([])
def wsX6_distance : List Cond := .code yX6_distance cX6_distance 3 (some .int) :: ([.methodLink RX6 47 yX6_of, .instanceMethod yX6_of, .selects RX6 yX6_of yX6_of, .initialized RX6, .code yX6_of cX6_of 3 (some .int), .fieldLink RX6 7 "NoteThemesModel" "s" "[I", .methodLink RX6 51 yX6_size, .static yX6_size, .code yX6_size cX6_size 1 (some .int)] ++ wsX60)
def wsX6_spreads : List Cond := .code yX6_spreads cX6_spreads 7 (some .int) :: ([.fieldLink RX6 26 "NoteThemesModel" "row" "[I", .fieldLink RX6 23 "NoteThemesModel" "heapOf" "[I", .fieldLink RX6 55 "NoteThemesModel" "heaps" "I", .fieldLink RX6 7 "NoteThemesModel" "s" "[I", .methodLink RX6 58 yX6_distance, .instanceMethod yX6_distance, .selects RX6 yX6_distance yX6_distance, .initialized RX6, .code yX6_distance cX6_distance 3 (some .int), .methodLink RX6 47 yX6_of, .instanceMethod yX6_of, .selects RX6 yX6_of yX6_of, .code yX6_of cX6_of 3 (some .int), .methodLink RX6 51 yX6_size, .static yX6_size, .code yX6_size cX6_size 1 (some .int)] ++ wsX60)
def wsX6_laysHeaps : List Cond := .code yX6_laysHeaps cX6_laysHeaps 5 (some .int) :: ([.fieldLink RX6 55 "NoteThemesModel" "heaps" "I", .fieldLink RX6 23 "NoteThemesModel" "heapOf" "[I", .fieldLink RX6 7 "NoteThemesModel" "s" "[I", .methodLink RX6 61 yX6_spreads, .instanceMethod yX6_spreads, .selects RX6 yX6_spreads yX6_spreads, .initialized RX6, .code yX6_spreads cX6_spreads 7 (some .int), .fieldLink RX6 26 "NoteThemesModel" "row" "[I", .methodLink RX6 58 yX6_distance, .instanceMethod yX6_distance, .selects RX6 yX6_distance yX6_distance, .code yX6_distance cX6_distance 3 (some .int), .methodLink RX6 47 yX6_of, .instanceMethod yX6_of, .selects RX6 yX6_of yX6_of, .code yX6_of cX6_of 3 (some .int), .methodLink RX6 51 yX6_size, .static yX6_size, .code yX6_size cX6_size 1 (some .int)] ++ wsX60)
def wsX6_laysNow : List Cond := .code yX6_laysNow cX6_laysNow 1 (some .int) :: ([.fieldLink RX6 7 "NoteThemesModel" "s" "[I", .methodLink RX6 65 yX6_laysHeaps, .instanceMethod yX6_laysHeaps, .selects RX6 yX6_laysHeaps yX6_laysHeaps, .initialized RX6, .code yX6_laysHeaps cX6_laysHeaps 5 (some .int), .fieldLink RX6 55 "NoteThemesModel" "heaps" "I", .fieldLink RX6 23 "NoteThemesModel" "heapOf" "[I", .methodLink RX6 61 yX6_spreads, .instanceMethod yX6_spreads, .selects RX6 yX6_spreads yX6_spreads, .code yX6_spreads cX6_spreads 7 (some .int), .fieldLink RX6 26 "NoteThemesModel" "row" "[I", .methodLink RX6 58 yX6_distance, .instanceMethod yX6_distance, .selects RX6 yX6_distance yX6_distance, .code yX6_distance cX6_distance 3 (some .int), .methodLink RX6 47 yX6_of, .instanceMethod yX6_of, .selects RX6 yX6_of yX6_of, .code yX6_of cX6_of 3 (some .int), .methodLink RX6 51 yX6_size, .static yX6_size, .code yX6_size cX6_size 1 (some .int)] ++ wsX60)
def wsX6_notesIn : List Cond := .code yX6_notesIn cX6_notesIn 4 (some .int) :: ([.fieldLink RX6 7 "NoteThemesModel" "s" "[I", .fieldLink RX6 23 "NoteThemesModel" "heapOf" "[I"] ++ wsX60)
def wsX6_dotsOf : List Cond := .code yX6_dotsOf cX6_dotsOf 4 (some .int) :: ([.methodLink RX6 47 yX6_of, .instanceMethod yX6_of, .selects RX6 yX6_of yX6_of, .initialized RX6, .code yX6_of cX6_of 3 (some .int), .fieldLink RX6 7 "NoteThemesModel" "s" "[I"] ++ wsX60)
def wsX6_stuckBy : List Cond := .code yX6_stuckBy cX6_stuckBy 4 (some .int) :: ([.fieldLink RX6 7 "NoteThemesModel" "s" "[I", .methodLink RX6 47 yX6_of, .instanceMethod yX6_of, .selects RX6 yX6_of yX6_of, .initialized RX6, .code yX6_of cX6_of 3 (some .int)] ++ wsX60)
def wsX6_voteOf : List Cond := .code yX6_voteOf cX6_voteOf 3 (some .int) :: ([.fieldLink RX6 7 "NoteThemesModel" "s" "[I"] ++ wsX60)
def wsX6_notesOf : List Cond := .code yX6_notesOf cX6_notesOf 4 (some .int) :: ([.fieldLink RX6 7 "NoteThemesModel" "s" "[I", .methodLink RX6 68 yX6_themeOf, .instanceMethod yX6_themeOf, .selects RX6 yX6_themeOf yX6_themeOf, .initialized RX6, .code yX6_themeOf cX6_themeOf 2 (some .int), .methodLink RX6 47 yX6_of, .instanceMethod yX6_of, .selects RX6 yX6_of yX6_of, .code yX6_of cX6_of 3 (some .int)] ++ wsX60)
def wsX6_dropsTheme : List Cond := .code yX6_dropsTheme cX6_dropsTheme 3 none :: ([.fieldLink RX6 7 "NoteThemesModel" "s" "[I", .methodLink RX6 47 yX6_of, .instanceMethod yX6_of, .selects RX6 yX6_of yX6_of, .initialized RX6, .code yX6_of cX6_of 3 (some .int), .methodLink RX6 68 yX6_themeOf, .instanceMethod yX6_themeOf, .selects RX6 yX6_themeOf yX6_themeOf, .code yX6_themeOf cX6_themeOf 2 (some .int), .methodLink RX6 71 yX6_lays, .instanceMethod yX6_lays, .selects RX6 yX6_lays yX6_lays, .code yX6_lays cX6_lays 4 none] ++ wsX60)
def wsX6_dropsEmpty : List Cond := .code yX6_dropsEmpty cX6_dropsEmpty 2 none :: ([.methodLink RX6 75 yX6_notesOf, .instanceMethod yX6_notesOf, .selects RX6 yX6_notesOf yX6_notesOf, .initialized RX6, .code yX6_notesOf cX6_notesOf 4 (some .int), .fieldLink RX6 7 "NoteThemesModel" "s" "[I", .methodLink RX6 68 yX6_themeOf, .instanceMethod yX6_themeOf, .selects RX6 yX6_themeOf yX6_themeOf, .code yX6_themeOf cX6_themeOf 2 (some .int), .methodLink RX6 47 yX6_of, .instanceMethod yX6_of, .selects RX6 yX6_of yX6_of, .code yX6_of cX6_of 3 (some .int), .methodLink RX6 78 yX6_dropsTheme, .instanceMethod yX6_dropsTheme, .selects RX6 yX6_dropsTheme yX6_dropsTheme, .code yX6_dropsTheme cX6_dropsTheme 3 none, .methodLink RX6 71 yX6_lays, .instanceMethod yX6_lays, .selects RX6 yX6_lays yX6_lays, .code yX6_lays cX6_lays 4 none] ++ wsX60)
def wsX6_votesFor : List Cond := .code yX6_votesFor cX6_votesFor 5 (some .int) :: ([.methodLink RX6 82 yX6_voteOf, .instanceMethod yX6_voteOf, .selects RX6 yX6_voteOf yX6_voteOf, .initialized RX6, .code yX6_voteOf cX6_voteOf 3 (some .int), .fieldLink RX6 7 "NoteThemesModel" "s" "[I"] ++ wsX60)
def wsX6_nameOf : List Cond := .code yX6_nameOf cX6_nameOf 8 (some .int) :: ([.methodLink RX6 85 yX6_votesFor, .instanceMethod yX6_votesFor, .selects RX6 yX6_votesFor yX6_votesFor, .initialized RX6, .code yX6_votesFor cX6_votesFor 5 (some .int), .methodLink RX6 82 yX6_voteOf, .instanceMethod yX6_voteOf, .selects RX6 yX6_voteOf yX6_voteOf, .code yX6_voteOf cX6_voteOf 3 (some .int), .fieldLink RX6 7 "NoteThemesModel" "s" "[I"] ++ wsX60)
def wsX6_adds : List Cond := .code yX6_adds cX6_adds 5 (some .int) :: ([.fieldLink RX6 7 "NoteThemesModel" "s" "[I", .methodLink RX6 71 yX6_lays, .instanceMethod yX6_lays, .selects RX6 yX6_lays yX6_lays, .initialized RX6, .code yX6_lays cX6_lays 4 none] ++ wsX60)
def wsX6_put_r1 : List Cond := [Cond.fieldLink RX6 7 "NoteThemesModel" "s" "[I", Cond.methodLink RX6 88 yX6_isPlace, Cond.static yX6_isPlace, Cond.initialized RX6, Cond.code yX6_isPlace cX6_isPlace 2 (some .boolean), Cond.methodLink RX6 43 yX6_in, Cond.static yX6_in, Cond.code yX6_in cX6_in 3 (some .boolean), Cond.methodLink RX6 92 yX6_records, Cond.instanceMethod yX6_records, Cond.selects RX6 yX6_records yX6_records, Cond.code yX6_records cX6_records 2 none, Cond.fieldLink RX6 35 "NoteThemesModel" "known" "I", Cond.fieldLink RX6 13 "NoteThemesModel" "past" "[I", Cond.methodLink RX6 39 yX6_copies, Cond.static yX6_copies, Cond.code yX6_copies cX6_copies 5 none, Cond.methodLink RX6 95 yX6_adds, Cond.instanceMethod yX6_adds, Cond.selects RX6 yX6_adds yX6_adds, Cond.code yX6_adds cX6_adds 5 (some .int), Cond.methodLink RX6 71 yX6_lays, Cond.instanceMethod yX6_lays, Cond.selects RX6 yX6_lays yX6_lays]
def wsX6_put_r2 : List Cond := [Cond.code yX6_lays cX6_lays 4 none]
def wsX6_put : List Cond := .code yX6_put cX6_put 3 (some .int) :: ((wsX6_put_r1 ++ wsX6_put_r2) ++ wsX60)
def wsX6_takeOff_r1 : List Cond := [Cond.fieldLink RX6 7 "NoteThemesModel" "s" "[I", Cond.methodLink RX6 98 yX6_isNote, Cond.instanceMethod yX6_isNote, Cond.selects RX6 yX6_isNote yX6_isNote, Cond.initialized RX6, Cond.code yX6_isNote cX6_isNote 2 (some .boolean), Cond.methodLink RX6 43 yX6_in, Cond.static yX6_in, Cond.code yX6_in cX6_in 3 (some .boolean), Cond.methodLink RX6 92 yX6_records, Cond.instanceMethod yX6_records, Cond.selects RX6 yX6_records yX6_records, Cond.code yX6_records cX6_records 2 none, Cond.fieldLink RX6 35 "NoteThemesModel" "known" "I", Cond.fieldLink RX6 13 "NoteThemesModel" "past" "[I", Cond.methodLink RX6 39 yX6_copies, Cond.static yX6_copies, Cond.code yX6_copies cX6_copies 5 none, Cond.methodLink RX6 102 yX6_dotsOf, Cond.instanceMethod yX6_dotsOf, Cond.selects RX6 yX6_dotsOf yX6_dotsOf, Cond.code yX6_dotsOf cX6_dotsOf 4 (some .int), Cond.methodLink RX6 47 yX6_of, Cond.instanceMethod yX6_of]
def wsX6_takeOff_r2 : List Cond := [Cond.selects RX6 yX6_of yX6_of, Cond.code yX6_of cX6_of 3 (some .int), Cond.methodLink RX6 68 yX6_themeOf, Cond.instanceMethod yX6_themeOf, Cond.selects RX6 yX6_themeOf yX6_themeOf, Cond.code yX6_themeOf cX6_themeOf 2 (some .int), Cond.methodLink RX6 105 yX6_dropsEmpty, Cond.instanceMethod yX6_dropsEmpty, Cond.selects RX6 yX6_dropsEmpty yX6_dropsEmpty, Cond.code yX6_dropsEmpty cX6_dropsEmpty 2 none, Cond.methodLink RX6 75 yX6_notesOf, Cond.instanceMethod yX6_notesOf, Cond.selects RX6 yX6_notesOf yX6_notesOf, Cond.code yX6_notesOf cX6_notesOf 4 (some .int), Cond.methodLink RX6 78 yX6_dropsTheme, Cond.instanceMethod yX6_dropsTheme, Cond.selects RX6 yX6_dropsTheme yX6_dropsTheme, Cond.code yX6_dropsTheme cX6_dropsTheme 3 none, Cond.methodLink RX6 71 yX6_lays, Cond.instanceMethod yX6_lays, Cond.selects RX6 yX6_lays yX6_lays, Cond.code yX6_lays cX6_lays 4 none]
def wsX6_takeOff : List Cond := .code yX6_takeOff cX6_takeOff 5 (some .int) :: ((wsX6_takeOff_r1 ++ wsX6_takeOff_r2) ++ wsX60)
def wsX6_comes : List Cond := .code yX6_comes cX6_comes 4 none :: ([.methodLink RX6 71 yX6_lays, .instanceMethod yX6_lays, .selects RX6 yX6_lays yX6_lays, .initialized RX6, .code yX6_lays cX6_lays 4 none, .fieldLink RX6 7 "NoteThemesModel" "s" "[I"] ++ wsX60)
def wsX6_drag_r1 : List Cond := [Cond.methodLink RX6 98 yX6_isNote, Cond.instanceMethod yX6_isNote, Cond.selects RX6 yX6_isNote yX6_isNote, Cond.initialized RX6, Cond.code yX6_isNote cX6_isNote 2 (some .boolean), Cond.fieldLink RX6 7 "NoteThemesModel" "s" "[I", Cond.methodLink RX6 43 yX6_in, Cond.static yX6_in, Cond.code yX6_in cX6_in 3 (some .boolean), Cond.methodLink RX6 88 yX6_isPlace, Cond.static yX6_isPlace, Cond.code yX6_isPlace cX6_isPlace 2 (some .boolean), Cond.methodLink RX6 47 yX6_of, Cond.instanceMethod yX6_of, Cond.selects RX6 yX6_of yX6_of, Cond.code yX6_of cX6_of 3 (some .int), Cond.methodLink RX6 92 yX6_records, Cond.instanceMethod yX6_records, Cond.selects RX6 yX6_records yX6_records, Cond.code yX6_records cX6_records 2 none, Cond.fieldLink RX6 35 "NoteThemesModel" "known" "I", Cond.fieldLink RX6 13 "NoteThemesModel" "past" "[I", Cond.methodLink RX6 39 yX6_copies, Cond.static yX6_copies]
def wsX6_drag_r2 : List Cond := [Cond.code yX6_copies cX6_copies 5 none, Cond.methodLink RX6 108 yX6_comes, Cond.instanceMethod yX6_comes, Cond.selects RX6 yX6_comes yX6_comes, Cond.code yX6_comes cX6_comes 4 none, Cond.methodLink RX6 71 yX6_lays, Cond.instanceMethod yX6_lays, Cond.selects RX6 yX6_lays yX6_lays, Cond.code yX6_lays cX6_lays 4 none, Cond.methodLink RX6 111 yX6_laysNow, Cond.instanceMethod yX6_laysNow, Cond.selects RX6 yX6_laysNow yX6_laysNow, Cond.code yX6_laysNow cX6_laysNow 1 (some .int), Cond.methodLink RX6 65 yX6_laysHeaps, Cond.instanceMethod yX6_laysHeaps, Cond.selects RX6 yX6_laysHeaps yX6_laysHeaps, Cond.code yX6_laysHeaps cX6_laysHeaps 5 (some .int), Cond.fieldLink RX6 55 "NoteThemesModel" "heaps" "I", Cond.fieldLink RX6 23 "NoteThemesModel" "heapOf" "[I", Cond.methodLink RX6 61 yX6_spreads, Cond.instanceMethod yX6_spreads, Cond.selects RX6 yX6_spreads yX6_spreads, Cond.code yX6_spreads cX6_spreads 7 (some .int), Cond.fieldLink RX6 26 "NoteThemesModel" "row" "[I"]
def wsX6_drag_r3 : List Cond := [Cond.methodLink RX6 58 yX6_distance, Cond.instanceMethod yX6_distance, Cond.selects RX6 yX6_distance yX6_distance, Cond.code yX6_distance cX6_distance 3 (some .int), Cond.methodLink RX6 51 yX6_size, Cond.static yX6_size, Cond.code yX6_size cX6_size 1 (some .int)]
def wsX6_drag : List Cond := .code yX6_drag cX6_drag 4 (some .int) :: ((wsX6_drag_r1 ++ (wsX6_drag_r2 ++ wsX6_drag_r3)) ++ wsX60)
def wsX6_canDrag : List Cond := .code yX6_canDrag cX6_canDrag 6 (some .boolean) :: ([.fieldLink RX6 7 "NoteThemesModel" "s" "[I", .fieldLink RX6 23 "NoteThemesModel" "heapOf" "[I", .methodLink RX6 47 yX6_of, .instanceMethod yX6_of, .selects RX6 yX6_of yX6_of, .initialized RX6, .code yX6_of cX6_of 3 (some .int), .methodLink RX6 88 yX6_isPlace, .static yX6_isPlace, .code yX6_isPlace cX6_isPlace 2 (some .boolean), .methodLink RX6 43 yX6_in, .static yX6_in, .code yX6_in cX6_in 3 (some .boolean)] ++ wsX60)
def wsX6_dragHeap_r1 : List Cond := [Cond.fieldLink RX6 7 "NoteThemesModel" "s" "[I", Cond.fieldLink RX6 23 "NoteThemesModel" "heapOf" "[I", Cond.methodLink RX6 111 yX6_laysNow, Cond.instanceMethod yX6_laysNow, Cond.selects RX6 yX6_laysNow yX6_laysNow, Cond.initialized RX6, Cond.code yX6_laysNow cX6_laysNow 1 (some .int), Cond.methodLink RX6 65 yX6_laysHeaps, Cond.instanceMethod yX6_laysHeaps, Cond.selects RX6 yX6_laysHeaps yX6_laysHeaps, Cond.code yX6_laysHeaps cX6_laysHeaps 5 (some .int), Cond.fieldLink RX6 55 "NoteThemesModel" "heaps" "I", Cond.methodLink RX6 61 yX6_spreads, Cond.instanceMethod yX6_spreads, Cond.selects RX6 yX6_spreads yX6_spreads, Cond.code yX6_spreads cX6_spreads 7 (some .int), Cond.fieldLink RX6 26 "NoteThemesModel" "row" "[I", Cond.methodLink RX6 58 yX6_distance, Cond.instanceMethod yX6_distance, Cond.selects RX6 yX6_distance yX6_distance, Cond.code yX6_distance cX6_distance 3 (some .int), Cond.methodLink RX6 47 yX6_of, Cond.instanceMethod yX6_of, Cond.selects RX6 yX6_of yX6_of]
def wsX6_dragHeap_r2 : List Cond := [Cond.code yX6_of cX6_of 3 (some .int), Cond.methodLink RX6 51 yX6_size, Cond.static yX6_size, Cond.code yX6_size cX6_size 1 (some .int), Cond.methodLink RX6 43 yX6_in, Cond.static yX6_in, Cond.code yX6_in cX6_in 3 (some .boolean), Cond.methodLink RX6 115 yX6_canDrag, Cond.instanceMethod yX6_canDrag, Cond.selects RX6 yX6_canDrag yX6_canDrag, Cond.code yX6_canDrag cX6_canDrag 6 (some .boolean), Cond.methodLink RX6 88 yX6_isPlace, Cond.static yX6_isPlace, Cond.code yX6_isPlace cX6_isPlace 2 (some .boolean), Cond.methodLink RX6 92 yX6_records, Cond.instanceMethod yX6_records, Cond.selects RX6 yX6_records yX6_records, Cond.code yX6_records cX6_records 2 none, Cond.fieldLink RX6 35 "NoteThemesModel" "known" "I", Cond.fieldLink RX6 13 "NoteThemesModel" "past" "[I", Cond.methodLink RX6 39 yX6_copies, Cond.static yX6_copies, Cond.code yX6_copies cX6_copies 5 none, Cond.methodLink RX6 108 yX6_comes]
def wsX6_dragHeap_r3 : List Cond := [Cond.instanceMethod yX6_comes, Cond.selects RX6 yX6_comes yX6_comes, Cond.code yX6_comes cX6_comes 4 none, Cond.methodLink RX6 71 yX6_lays, Cond.instanceMethod yX6_lays, Cond.selects RX6 yX6_lays yX6_lays, Cond.code yX6_lays cX6_lays 4 none]
def wsX6_dragHeap : List Cond := .code yX6_dragHeap cX6_dragHeap 5 (some .int) :: ((wsX6_dragHeap_r1 ++ (wsX6_dragHeap_r2 ++ wsX6_dragHeap_r3)) ++ wsX60)
def wsX6_stick_r1 : List Cond := [Cond.fieldLink RX6 7 "NoteThemesModel" "s" "[I", Cond.methodLink RX6 118 yX6_isPerson, Cond.static yX6_isPerson, Cond.initialized RX6, Cond.code yX6_isPerson cX6_isPerson 1 (some .boolean), Cond.methodLink RX6 43 yX6_in, Cond.static yX6_in, Cond.code yX6_in cX6_in 3 (some .boolean), Cond.methodLink RX6 98 yX6_isNote, Cond.instanceMethod yX6_isNote, Cond.selects RX6 yX6_isNote yX6_isNote, Cond.code yX6_isNote cX6_isNote 2 (some .boolean), Cond.methodLink RX6 121 yX6_stuckBy, Cond.instanceMethod yX6_stuckBy, Cond.selects RX6 yX6_stuckBy yX6_stuckBy, Cond.code yX6_stuckBy cX6_stuckBy 4 (some .int), Cond.methodLink RX6 47 yX6_of, Cond.instanceMethod yX6_of, Cond.selects RX6 yX6_of yX6_of, Cond.code yX6_of cX6_of 3 (some .int), Cond.methodLink RX6 92 yX6_records, Cond.instanceMethod yX6_records, Cond.selects RX6 yX6_records yX6_records, Cond.code yX6_records cX6_records 2 none]
def wsX6_stick_r2 : List Cond := [Cond.fieldLink RX6 35 "NoteThemesModel" "known" "I", Cond.fieldLink RX6 13 "NoteThemesModel" "past" "[I", Cond.methodLink RX6 39 yX6_copies, Cond.static yX6_copies, Cond.code yX6_copies cX6_copies 5 none, Cond.methodLink RX6 71 yX6_lays, Cond.instanceMethod yX6_lays, Cond.selects RX6 yX6_lays yX6_lays, Cond.code yX6_lays cX6_lays 4 none, Cond.methodLink RX6 102 yX6_dotsOf, Cond.instanceMethod yX6_dotsOf, Cond.selects RX6 yX6_dotsOf yX6_dotsOf, Cond.code yX6_dotsOf cX6_dotsOf 4 (some .int)]
def wsX6_stick : List Cond := .code yX6_stick cX6_stick 3 (some .int) :: ((wsX6_stick_r1 ++ wsX6_stick_r2) ++ wsX60)
def wsX6_unstick_r1 : List Cond := [Cond.methodLink RX6 118 yX6_isPerson, Cond.static yX6_isPerson, Cond.initialized RX6, Cond.code yX6_isPerson cX6_isPerson 1 (some .boolean), Cond.methodLink RX6 43 yX6_in, Cond.static yX6_in, Cond.code yX6_in cX6_in 3 (some .boolean), Cond.methodLink RX6 98 yX6_isNote, Cond.instanceMethod yX6_isNote, Cond.selects RX6 yX6_isNote yX6_isNote, Cond.code yX6_isNote cX6_isNote 2 (some .boolean), Cond.fieldLink RX6 7 "NoteThemesModel" "s" "[I", Cond.methodLink RX6 47 yX6_of, Cond.instanceMethod yX6_of, Cond.selects RX6 yX6_of yX6_of, Cond.code yX6_of cX6_of 3 (some .int), Cond.methodLink RX6 92 yX6_records, Cond.instanceMethod yX6_records, Cond.selects RX6 yX6_records yX6_records, Cond.code yX6_records cX6_records 2 none, Cond.fieldLink RX6 35 "NoteThemesModel" "known" "I", Cond.fieldLink RX6 13 "NoteThemesModel" "past" "[I", Cond.methodLink RX6 39 yX6_copies, Cond.static yX6_copies]
def wsX6_unstick_r2 : List Cond := [Cond.code yX6_copies cX6_copies 5 none, Cond.methodLink RX6 71 yX6_lays, Cond.instanceMethod yX6_lays, Cond.selects RX6 yX6_lays yX6_lays, Cond.code yX6_lays cX6_lays 4 none, Cond.methodLink RX6 102 yX6_dotsOf, Cond.instanceMethod yX6_dotsOf, Cond.selects RX6 yX6_dotsOf yX6_dotsOf, Cond.code yX6_dotsOf cX6_dotsOf 4 (some .int)]
def wsX6_unstick : List Cond := .code yX6_unstick cX6_unstick 3 (some .int) :: ((wsX6_unstick_r1 ++ wsX6_unstick_r2) ++ wsX60)
def wsX6_without : List Cond := .code yX6_without cX6_without 4 (some .int) :: ([.fieldLink RX6 7 "NoteThemesModel" "s" "[I", .fieldLink RX6 23 "NoteThemesModel" "heapOf" "[I", .methodLink RX6 68 yX6_themeOf, .instanceMethod yX6_themeOf, .selects RX6 yX6_themeOf yX6_themeOf, .initialized RX6, .code yX6_themeOf cX6_themeOf 2 (some .int), .methodLink RX6 47 yX6_of, .instanceMethod yX6_of, .selects RX6 yX6_of yX6_of, .code yX6_of cX6_of 3 (some .int)] ++ wsX60)
def wsX6_make_r1 : List Cond := [Cond.fieldLink RX6 7 "NoteThemesModel" "s" "[I", Cond.fieldLink RX6 23 "NoteThemesModel" "heapOf" "[I", Cond.methodLink RX6 111 yX6_laysNow, Cond.instanceMethod yX6_laysNow, Cond.selects RX6 yX6_laysNow yX6_laysNow, Cond.initialized RX6, Cond.code yX6_laysNow cX6_laysNow 1 (some .int), Cond.methodLink RX6 65 yX6_laysHeaps, Cond.instanceMethod yX6_laysHeaps, Cond.selects RX6 yX6_laysHeaps yX6_laysHeaps, Cond.code yX6_laysHeaps cX6_laysHeaps 5 (some .int), Cond.fieldLink RX6 55 "NoteThemesModel" "heaps" "I", Cond.methodLink RX6 61 yX6_spreads, Cond.instanceMethod yX6_spreads, Cond.selects RX6 yX6_spreads yX6_spreads, Cond.code yX6_spreads cX6_spreads 7 (some .int), Cond.fieldLink RX6 26 "NoteThemesModel" "row" "[I", Cond.methodLink RX6 58 yX6_distance, Cond.instanceMethod yX6_distance, Cond.selects RX6 yX6_distance yX6_distance, Cond.code yX6_distance cX6_distance 3 (some .int), Cond.methodLink RX6 47 yX6_of, Cond.instanceMethod yX6_of, Cond.selects RX6 yX6_of yX6_of]
def wsX6_make_r2 : List Cond := [Cond.code yX6_of cX6_of 3 (some .int), Cond.methodLink RX6 51 yX6_size, Cond.static yX6_size, Cond.code yX6_size cX6_size 1 (some .int), Cond.methodLink RX6 43 yX6_in, Cond.static yX6_in, Cond.code yX6_in cX6_in 3 (some .boolean), Cond.methodLink RX6 124 yX6_without, Cond.instanceMethod yX6_without, Cond.selects RX6 yX6_without yX6_without, Cond.code yX6_without cX6_without 4 (some .int), Cond.methodLink RX6 68 yX6_themeOf, Cond.instanceMethod yX6_themeOf, Cond.selects RX6 yX6_themeOf yX6_themeOf, Cond.code yX6_themeOf cX6_themeOf 2 (some .int), Cond.methodLink RX6 92 yX6_records, Cond.instanceMethod yX6_records, Cond.selects RX6 yX6_records yX6_records, Cond.code yX6_records cX6_records 2 none, Cond.fieldLink RX6 35 "NoteThemesModel" "known" "I", Cond.fieldLink RX6 13 "NoteThemesModel" "past" "[I", Cond.methodLink RX6 39 yX6_copies, Cond.static yX6_copies, Cond.code yX6_copies cX6_copies 5 none]
def wsX6_make_r3 : List Cond := [Cond.methodLink RX6 71 yX6_lays, Cond.instanceMethod yX6_lays, Cond.selects RX6 yX6_lays yX6_lays, Cond.code yX6_lays cX6_lays 4 none]
def wsX6_make : List Cond := .code yX6_make cX6_make 3 (some .int) :: ((wsX6_make_r1 ++ (wsX6_make_r2 ++ wsX6_make_r3)) ++ wsX60)
def wsX6_merge_r1 : List Cond := [Cond.fieldLink RX6 7 "NoteThemesModel" "s" "[I", Cond.methodLink RX6 127 yX6_isTheme, Cond.instanceMethod yX6_isTheme, Cond.selects RX6 yX6_isTheme yX6_isTheme, Cond.initialized RX6, Cond.code yX6_isTheme cX6_isTheme 2 (some .boolean), Cond.methodLink RX6 43 yX6_in, Cond.static yX6_in, Cond.code yX6_in cX6_in 3 (some .boolean), Cond.methodLink RX6 92 yX6_records, Cond.instanceMethod yX6_records, Cond.selects RX6 yX6_records yX6_records, Cond.code yX6_records cX6_records 2 none, Cond.fieldLink RX6 35 "NoteThemesModel" "known" "I", Cond.fieldLink RX6 13 "NoteThemesModel" "past" "[I", Cond.methodLink RX6 39 yX6_copies, Cond.static yX6_copies, Cond.code yX6_copies cX6_copies 5 none, Cond.methodLink RX6 68 yX6_themeOf, Cond.instanceMethod yX6_themeOf, Cond.selects RX6 yX6_themeOf yX6_themeOf, Cond.code yX6_themeOf cX6_themeOf 2 (some .int), Cond.methodLink RX6 47 yX6_of, Cond.instanceMethod yX6_of]
def wsX6_merge_r2 : List Cond := [Cond.selects RX6 yX6_of yX6_of, Cond.code yX6_of cX6_of 3 (some .int), Cond.methodLink RX6 71 yX6_lays, Cond.instanceMethod yX6_lays, Cond.selects RX6 yX6_lays yX6_lays, Cond.code yX6_lays cX6_lays 4 none, Cond.methodLink RX6 78 yX6_dropsTheme, Cond.instanceMethod yX6_dropsTheme, Cond.selects RX6 yX6_dropsTheme yX6_dropsTheme, Cond.code yX6_dropsTheme cX6_dropsTheme 3 none, Cond.methodLink RX6 75 yX6_notesOf, Cond.instanceMethod yX6_notesOf, Cond.selects RX6 yX6_notesOf yX6_notesOf, Cond.code yX6_notesOf cX6_notesOf 4 (some .int)]
def wsX6_merge : List Cond := .code yX6_merge cX6_merge 5 (some .int) :: ((wsX6_merge_r1 ++ wsX6_merge_r2) ++ wsX60)
def wsX6_belong_r1 : List Cond := [Cond.fieldLink RX6 7 "NoteThemesModel" "s" "[I", Cond.methodLink RX6 98 yX6_isNote, Cond.instanceMethod yX6_isNote, Cond.selects RX6 yX6_isNote yX6_isNote, Cond.initialized RX6, Cond.code yX6_isNote cX6_isNote 2 (some .boolean), Cond.methodLink RX6 43 yX6_in, Cond.static yX6_in, Cond.code yX6_in cX6_in 3 (some .boolean), Cond.methodLink RX6 127 yX6_isTheme, Cond.instanceMethod yX6_isTheme, Cond.selects RX6 yX6_isTheme yX6_isTheme, Cond.code yX6_isTheme cX6_isTheme 2 (some .boolean), Cond.methodLink RX6 68 yX6_themeOf, Cond.instanceMethod yX6_themeOf, Cond.selects RX6 yX6_themeOf yX6_themeOf, Cond.code yX6_themeOf cX6_themeOf 2 (some .int), Cond.methodLink RX6 47 yX6_of, Cond.instanceMethod yX6_of, Cond.selects RX6 yX6_of yX6_of, Cond.code yX6_of cX6_of 3 (some .int), Cond.methodLink RX6 92 yX6_records, Cond.instanceMethod yX6_records, Cond.selects RX6 yX6_records yX6_records]
def wsX6_belong_r2 : List Cond := [Cond.code yX6_records cX6_records 2 none, Cond.fieldLink RX6 35 "NoteThemesModel" "known" "I", Cond.fieldLink RX6 13 "NoteThemesModel" "past" "[I", Cond.methodLink RX6 39 yX6_copies, Cond.static yX6_copies, Cond.code yX6_copies cX6_copies 5 none, Cond.methodLink RX6 71 yX6_lays, Cond.instanceMethod yX6_lays, Cond.selects RX6 yX6_lays yX6_lays, Cond.code yX6_lays cX6_lays 4 none, Cond.methodLink RX6 105 yX6_dropsEmpty, Cond.instanceMethod yX6_dropsEmpty, Cond.selects RX6 yX6_dropsEmpty yX6_dropsEmpty, Cond.code yX6_dropsEmpty cX6_dropsEmpty 2 none, Cond.methodLink RX6 75 yX6_notesOf, Cond.instanceMethod yX6_notesOf, Cond.selects RX6 yX6_notesOf yX6_notesOf, Cond.code yX6_notesOf cX6_notesOf 4 (some .int), Cond.methodLink RX6 78 yX6_dropsTheme, Cond.instanceMethod yX6_dropsTheme, Cond.selects RX6 yX6_dropsTheme yX6_dropsTheme, Cond.code yX6_dropsTheme cX6_dropsTheme 3 none]
def wsX6_belong : List Cond := .code yX6_belong cX6_belong 5 (some .int) :: ((wsX6_belong_r1 ++ wsX6_belong_r2) ++ wsX60)
def wsX6_vote_r1 : List Cond := [Cond.fieldLink RX6 7 "NoteThemesModel" "s" "[I", Cond.methodLink RX6 118 yX6_isPerson, Cond.static yX6_isPerson, Cond.initialized RX6, Cond.code yX6_isPerson cX6_isPerson 1 (some .boolean), Cond.methodLink RX6 43 yX6_in, Cond.static yX6_in, Cond.code yX6_in cX6_in 3 (some .boolean), Cond.methodLink RX6 127 yX6_isTheme, Cond.instanceMethod yX6_isTheme, Cond.selects RX6 yX6_isTheme yX6_isTheme, Cond.code yX6_isTheme cX6_isTheme 2 (some .boolean), Cond.methodLink RX6 82 yX6_voteOf, Cond.instanceMethod yX6_voteOf, Cond.selects RX6 yX6_voteOf yX6_voteOf, Cond.code yX6_voteOf cX6_voteOf 3 (some .int), Cond.methodLink RX6 92 yX6_records, Cond.instanceMethod yX6_records, Cond.selects RX6 yX6_records yX6_records, Cond.code yX6_records cX6_records 2 none, Cond.fieldLink RX6 35 "NoteThemesModel" "known" "I", Cond.fieldLink RX6 13 "NoteThemesModel" "past" "[I", Cond.methodLink RX6 39 yX6_copies, Cond.static yX6_copies]
def wsX6_vote_r2 : List Cond := [Cond.code yX6_copies cX6_copies 5 none, Cond.methodLink RX6 130 yX6_nameOf, Cond.instanceMethod yX6_nameOf, Cond.selects RX6 yX6_nameOf yX6_nameOf, Cond.code yX6_nameOf cX6_nameOf 8 (some .int), Cond.methodLink RX6 85 yX6_votesFor, Cond.instanceMethod yX6_votesFor, Cond.selects RX6 yX6_votesFor yX6_votesFor, Cond.code yX6_votesFor cX6_votesFor 5 (some .int)]
def wsX6_vote : List Cond := .code yX6_vote cX6_vote 6 (some .int) :: ((wsX6_vote_r1 ++ wsX6_vote_r2) ++ wsX60)
def wsX6_set : List Cond := .code yX6_set cX6_set 4 (some .int) :: ([.fieldLink RX6 7 "NoteThemesModel" "s" "[I", .methodLink RX6 43 yX6_in, .static yX6_in, .initialized RX6, .code yX6_in cX6_in 3 (some .boolean), .methodLink RX6 92 yX6_records, .instanceMethod yX6_records, .selects RX6 yX6_records yX6_records, .code yX6_records cX6_records 2 none, .fieldLink RX6 35 "NoteThemesModel" "known" "I", .fieldLink RX6 13 "NoteThemesModel" "past" "[I", .methodLink RX6 39 yX6_copies, .static yX6_copies, .code yX6_copies cX6_copies 5 none] ++ wsX60)
def wsX6_type : List Cond := .code yX6_type cX6_type 2 (some .int) :: ([.fieldLink RX6 133 "NoteThemesModel" "length" "I", .fieldLink RX6 19 "NoteThemesModel" "text" "[C"] ++ wsX60)
def wsX6_clearText : List Cond := .code yX6_clearText cX6_clearText 2 (some .int) :: ([.fieldLink RX6 133 "NoteThemesModel" "length" "I"] ++ wsX60)
def wsX6_here : List Cond := .code yX6_here cX6_here 1 (some .int) :: ([.fieldLink RX6 136 "NoteThemesModel" "spot" "I", .fieldLink RX6 133 "NoteThemesModel" "length" "I", .fieldLink RX6 19 "NoteThemesModel" "text" "[C"] ++ wsX60)
def wsX6_number : List Cond := .code yX6_number cX6_number 3 (some .int) :: ([.fieldLink RX6 136 "NoteThemesModel" "spot" "I", .methodLink RX6 139 yX6_here, .instanceMethod yX6_here, .selects RX6 yX6_here yX6_here, .initialized RX6, .code yX6_here cX6_here 1 (some .int), .fieldLink RX6 133 "NoteThemesModel" "length" "I", .fieldLink RX6 19 "NoteThemesModel" "text" "[C", .methodLink RX6 43 yX6_in, .static yX6_in, .code yX6_in cX6_in 3 (some .boolean)] ++ wsX60)
def wsX6_takes : List Cond := .code yX6_takes cX6_takes 3 (some .boolean) :: ([.fieldLink RX6 136 "NoteThemesModel" "spot" "I", .methodLink RX6 139 yX6_here, .instanceMethod yX6_here, .selects RX6 yX6_here yX6_here, .initialized RX6, .code yX6_here cX6_here 1 (some .int), .fieldLink RX6 133 "NoteThemesModel" "length" "I", .fieldLink RX6 19 "NoteThemesModel" "text" "[C"] ++ wsX60)
def wsX6_takesNote : List Cond := .code yX6_takesNote cX6_takesNote 4 (some .boolean) :: ([.fieldLink RX6 7 "NoteThemesModel" "s" "[I", .fieldLink RX6 148 "NoteThemesModel" "dotsRead" "I", .fieldLink RX6 29 "NoteThemesModel" "read" "[I", .fieldLink RX6 151 "NoteThemesModel" "tells" "I", .methodLink RX6 142 yX6_number, .instanceMethod yX6_number, .selects RX6 yX6_number yX6_number, .initialized RX6, .code yX6_number cX6_number 3 (some .int), .fieldLink RX6 136 "NoteThemesModel" "spot" "I", .methodLink RX6 139 yX6_here, .instanceMethod yX6_here, .selects RX6 yX6_here yX6_here, .code yX6_here cX6_here 1 (some .int), .fieldLink RX6 133 "NoteThemesModel" "length" "I", .fieldLink RX6 19 "NoteThemesModel" "text" "[C", .methodLink RX6 43 yX6_in, .static yX6_in, .code yX6_in cX6_in 3 (some .boolean), .methodLink RX6 145 yX6_takes, .instanceMethod yX6_takes, .selects RX6 yX6_takes yX6_takes, .code yX6_takes cX6_takes 3 (some .boolean)] ++ wsX60)
def wsX6_isBoard_r1 : List Cond := [Cond.fieldLink RX6 136 "NoteThemesModel" "spot" "I", Cond.fieldLink RX6 151 "NoteThemesModel" "tells" "I", Cond.fieldLink RX6 148 "NoteThemesModel" "dotsRead" "I", Cond.fieldLink RX6 133 "NoteThemesModel" "length" "I", Cond.methodLink RX6 154 yX6_takesNote, Cond.instanceMethod yX6_takesNote, Cond.selects RX6 yX6_takesNote yX6_takesNote, Cond.initialized RX6, Cond.code yX6_takesNote cX6_takesNote 4 (some .boolean), Cond.fieldLink RX6 7 "NoteThemesModel" "s" "[I", Cond.fieldLink RX6 29 "NoteThemesModel" "read" "[I", Cond.methodLink RX6 142 yX6_number, Cond.instanceMethod yX6_number, Cond.selects RX6 yX6_number yX6_number, Cond.code yX6_number cX6_number 3 (some .int), Cond.methodLink RX6 139 yX6_here, Cond.instanceMethod yX6_here, Cond.selects RX6 yX6_here yX6_here, Cond.code yX6_here cX6_here 1 (some .int), Cond.fieldLink RX6 19 "NoteThemesModel" "text" "[C", Cond.methodLink RX6 43 yX6_in, Cond.static yX6_in, Cond.code yX6_in cX6_in 3 (some .boolean), Cond.methodLink RX6 145 yX6_takes]
def wsX6_isBoard_r2 : List Cond := [Cond.instanceMethod yX6_takes, Cond.selects RX6 yX6_takes yX6_takes, Cond.code yX6_takes cX6_takes 3 (some .boolean)]
def wsX6_isBoard : List Cond := .code yX6_isBoard cX6_isBoard 2 (some .boolean) :: ((wsX6_isBoard_r1 ++ wsX6_isBoard_r2) ++ wsX60)
def wsX6_load_r1 : List Cond := [Cond.fieldLink RX6 136 "NoteThemesModel" "spot" "I", Cond.fieldLink RX6 151 "NoteThemesModel" "tells" "I", Cond.fieldLink RX6 7 "NoteThemesModel" "s" "[I", Cond.fieldLink RX6 29 "NoteThemesModel" "read" "[I", Cond.methodLink RX6 158 yX6_isBoard, Cond.instanceMethod yX6_isBoard, Cond.selects RX6 yX6_isBoard yX6_isBoard, Cond.initialized RX6, Cond.code yX6_isBoard cX6_isBoard 2 (some .boolean), Cond.fieldLink RX6 148 "NoteThemesModel" "dotsRead" "I", Cond.fieldLink RX6 133 "NoteThemesModel" "length" "I", Cond.methodLink RX6 154 yX6_takesNote, Cond.instanceMethod yX6_takesNote, Cond.selects RX6 yX6_takesNote yX6_takesNote, Cond.code yX6_takesNote cX6_takesNote 4 (some .boolean), Cond.methodLink RX6 142 yX6_number, Cond.instanceMethod yX6_number, Cond.selects RX6 yX6_number yX6_number, Cond.code yX6_number cX6_number 3 (some .int), Cond.methodLink RX6 139 yX6_here, Cond.instanceMethod yX6_here, Cond.selects RX6 yX6_here yX6_here, Cond.code yX6_here cX6_here 1 (some .int), Cond.fieldLink RX6 19 "NoteThemesModel" "text" "[C"]
def wsX6_load_r2 : List Cond := [Cond.methodLink RX6 43 yX6_in, Cond.static yX6_in, Cond.code yX6_in cX6_in 3 (some .boolean), Cond.methodLink RX6 145 yX6_takes, Cond.instanceMethod yX6_takes, Cond.selects RX6 yX6_takes yX6_takes, Cond.code yX6_takes cX6_takes 3 (some .boolean), Cond.methodLink RX6 92 yX6_records, Cond.instanceMethod yX6_records, Cond.selects RX6 yX6_records yX6_records, Cond.code yX6_records cX6_records 2 none, Cond.fieldLink RX6 35 "NoteThemesModel" "known" "I", Cond.fieldLink RX6 13 "NoteThemesModel" "past" "[I", Cond.methodLink RX6 39 yX6_copies, Cond.static yX6_copies, Cond.code yX6_copies cX6_copies 5 none, Cond.methodLink RX6 95 yX6_adds, Cond.instanceMethod yX6_adds, Cond.selects RX6 yX6_adds yX6_adds, Cond.code yX6_adds cX6_adds 5 (some .int), Cond.methodLink RX6 71 yX6_lays, Cond.instanceMethod yX6_lays, Cond.selects RX6 yX6_lays yX6_lays, Cond.code yX6_lays cX6_lays 4 none]
def wsX6_load : List Cond := .code yX6_load cX6_load 3 (some .int) :: ((wsX6_load_r1 ++ wsX6_load_r2) ++ wsX60)
def wsX6_undo : List Cond := .code yX6_undo cX6_undo 1 (some .int) :: ([.fieldLink RX6 35 "NoteThemesModel" "known" "I", .fieldLink RX6 13 "NoteThemesModel" "past" "[I", .fieldLink RX6 7 "NoteThemesModel" "s" "[I", .methodLink RX6 39 yX6_copies, .static yX6_copies, .initialized RX6, .code yX6_copies cX6_copies 5 none] ++ wsX60)
def wsX6_keep : List Cond := .code yX6_keep cX6_keep 1 (some .int) :: ([.fieldLink RX6 7 "NoteThemesModel" "s" "[I", .fieldLink RX6 16 "NoteThemesModel" "kept" "[I", .fieldLink RX6 161 "NoteThemesModel" "isKept" "Z", .methodLink RX6 39 yX6_copies, .static yX6_copies, .initialized RX6, .code yX6_copies cX6_copies 5 none] ++ wsX60)
def wsX6_restore : List Cond := .code yX6_restore cX6_restore 1 (some .int) :: ([.fieldLink RX6 161 "NoteThemesModel" "isKept" "Z", .fieldLink RX6 16 "NoteThemesModel" "kept" "[I", .fieldLink RX6 7 "NoteThemesModel" "s" "[I", .methodLink RX6 92 yX6_records, .instanceMethod yX6_records, .selects RX6 yX6_records yX6_records, .initialized RX6, .code yX6_records cX6_records 2 none, .fieldLink RX6 35 "NoteThemesModel" "known" "I", .fieldLink RX6 13 "NoteThemesModel" "past" "[I", .methodLink RX6 39 yX6_copies, .static yX6_copies, .code yX6_copies cX6_copies 5 none] ++ wsX60)
def wsX6_near : List Cond := .code yX6_near cX6_near 4 (some .int) :: ([.fieldLink RX6 7 "NoteThemesModel" "s" "[I", .methodLink RX6 58 yX6_distance, .instanceMethod yX6_distance, .selects RX6 yX6_distance yX6_distance, .initialized RX6, .code yX6_distance cX6_distance 3 (some .int), .methodLink RX6 47 yX6_of, .instanceMethod yX6_of, .selects RX6 yX6_of yX6_of, .code yX6_of cX6_of 3 (some .int), .methodLink RX6 51 yX6_size, .static yX6_size, .code yX6_size cX6_size 1 (some .int)] ++ wsX60)
def wsX6_holdsTogether_r1 : List Cond := [Cond.fieldLink RX6 23 "NoteThemesModel" "heapOf" "[I", Cond.fieldLink RX6 7 "NoteThemesModel" "s" "[I", Cond.methodLink RX6 111 yX6_laysNow, Cond.instanceMethod yX6_laysNow, Cond.selects RX6 yX6_laysNow yX6_laysNow, Cond.initialized RX6, Cond.code yX6_laysNow cX6_laysNow 1 (some .int), Cond.methodLink RX6 65 yX6_laysHeaps, Cond.instanceMethod yX6_laysHeaps, Cond.selects RX6 yX6_laysHeaps yX6_laysHeaps, Cond.code yX6_laysHeaps cX6_laysHeaps 5 (some .int), Cond.fieldLink RX6 55 "NoteThemesModel" "heaps" "I", Cond.methodLink RX6 61 yX6_spreads, Cond.instanceMethod yX6_spreads, Cond.selects RX6 yX6_spreads yX6_spreads, Cond.code yX6_spreads cX6_spreads 7 (some .int), Cond.fieldLink RX6 26 "NoteThemesModel" "row" "[I", Cond.methodLink RX6 58 yX6_distance, Cond.instanceMethod yX6_distance, Cond.selects RX6 yX6_distance yX6_distance, Cond.code yX6_distance cX6_distance 3 (some .int), Cond.methodLink RX6 47 yX6_of, Cond.instanceMethod yX6_of, Cond.selects RX6 yX6_of yX6_of]
def wsX6_holdsTogether_r2 : List Cond := [Cond.code yX6_of cX6_of 3 (some .int), Cond.methodLink RX6 51 yX6_size, Cond.static yX6_size, Cond.code yX6_size cX6_size 1 (some .int), Cond.methodLink RX6 165 yX6_notesIn, Cond.instanceMethod yX6_notesIn, Cond.selects RX6 yX6_notesIn yX6_notesIn, Cond.code yX6_notesIn cX6_notesIn 4 (some .int)]
def wsX6_holdsTogether : List Cond := .code yX6_holdsTogether cX6_holdsTogether 5 (some .int) :: ((wsX6_holdsTogether_r1 ++ wsX6_holdsTogether_r2) ++ wsX60)
def wsX6_heapNow_r1 : List Cond := [Cond.fieldLink RX6 23 "NoteThemesModel" "heapOf" "[I", Cond.methodLink RX6 111 yX6_laysNow, Cond.instanceMethod yX6_laysNow, Cond.selects RX6 yX6_laysNow yX6_laysNow, Cond.initialized RX6, Cond.code yX6_laysNow cX6_laysNow 1 (some .int), Cond.fieldLink RX6 7 "NoteThemesModel" "s" "[I", Cond.methodLink RX6 65 yX6_laysHeaps, Cond.instanceMethod yX6_laysHeaps, Cond.selects RX6 yX6_laysHeaps yX6_laysHeaps, Cond.code yX6_laysHeaps cX6_laysHeaps 5 (some .int), Cond.fieldLink RX6 55 "NoteThemesModel" "heaps" "I", Cond.methodLink RX6 61 yX6_spreads, Cond.instanceMethod yX6_spreads, Cond.selects RX6 yX6_spreads yX6_spreads, Cond.code yX6_spreads cX6_spreads 7 (some .int), Cond.fieldLink RX6 26 "NoteThemesModel" "row" "[I", Cond.methodLink RX6 58 yX6_distance, Cond.instanceMethod yX6_distance, Cond.selects RX6 yX6_distance yX6_distance, Cond.code yX6_distance cX6_distance 3 (some .int), Cond.methodLink RX6 47 yX6_of, Cond.instanceMethod yX6_of, Cond.selects RX6 yX6_of yX6_of]
def wsX6_heapNow_r2 : List Cond := [Cond.code yX6_of cX6_of 3 (some .int), Cond.methodLink RX6 51 yX6_size, Cond.static yX6_size, Cond.code yX6_size cX6_size 1 (some .int)]
def wsX6_heapNow : List Cond := .code yX6_heapNow cX6_heapNow 3 (some .int) :: ((wsX6_heapNow_r1 ++ wsX6_heapNow_r2) ++ wsX60)
def wsX6_note_r1 : List Cond := [Cond.methodLink RX6 98 yX6_isNote, Cond.instanceMethod yX6_isNote, Cond.selects RX6 yX6_isNote yX6_isNote, Cond.initialized RX6, Cond.code yX6_isNote cX6_isNote 2 (some .boolean), Cond.fieldLink RX6 7 "NoteThemesModel" "s" "[I", Cond.methodLink RX6 43 yX6_in, Cond.static yX6_in, Cond.code yX6_in cX6_in 3 (some .boolean), Cond.methodLink RX6 47 yX6_of, Cond.instanceMethod yX6_of, Cond.selects RX6 yX6_of yX6_of, Cond.code yX6_of cX6_of 3 (some .int), Cond.methodLink RX6 102 yX6_dotsOf, Cond.instanceMethod yX6_dotsOf, Cond.selects RX6 yX6_dotsOf yX6_dotsOf, Cond.code yX6_dotsOf cX6_dotsOf 4 (some .int), Cond.methodLink RX6 168 yX6_heapNow, Cond.instanceMethod yX6_heapNow, Cond.selects RX6 yX6_heapNow yX6_heapNow, Cond.code yX6_heapNow cX6_heapNow 3 (some .int), Cond.fieldLink RX6 23 "NoteThemesModel" "heapOf" "[I", Cond.methodLink RX6 111 yX6_laysNow, Cond.instanceMethod yX6_laysNow]
def wsX6_note_r2 : List Cond := [Cond.selects RX6 yX6_laysNow yX6_laysNow, Cond.code yX6_laysNow cX6_laysNow 1 (some .int), Cond.methodLink RX6 65 yX6_laysHeaps, Cond.instanceMethod yX6_laysHeaps, Cond.selects RX6 yX6_laysHeaps yX6_laysHeaps, Cond.code yX6_laysHeaps cX6_laysHeaps 5 (some .int), Cond.fieldLink RX6 55 "NoteThemesModel" "heaps" "I", Cond.methodLink RX6 61 yX6_spreads, Cond.instanceMethod yX6_spreads, Cond.selects RX6 yX6_spreads yX6_spreads, Cond.code yX6_spreads cX6_spreads 7 (some .int), Cond.fieldLink RX6 26 "NoteThemesModel" "row" "[I", Cond.methodLink RX6 58 yX6_distance, Cond.instanceMethod yX6_distance, Cond.selects RX6 yX6_distance yX6_distance, Cond.code yX6_distance cX6_distance 3 (some .int), Cond.methodLink RX6 51 yX6_size, Cond.static yX6_size, Cond.code yX6_size cX6_size 1 (some .int), Cond.methodLink RX6 68 yX6_themeOf, Cond.instanceMethod yX6_themeOf, Cond.selects RX6 yX6_themeOf yX6_themeOf, Cond.code yX6_themeOf cX6_themeOf 2 (some .int), Cond.methodLink RX6 171 yX6_near]
def wsX6_note_r3 : List Cond := [Cond.instanceMethod yX6_near, Cond.selects RX6 yX6_near yX6_near, Cond.code yX6_near cX6_near 4 (some .int), Cond.methodLink RX6 174 yX6_holdsTogether, Cond.instanceMethod yX6_holdsTogether, Cond.selects RX6 yX6_holdsTogether yX6_holdsTogether, Cond.code yX6_holdsTogether cX6_holdsTogether 5 (some .int), Cond.methodLink RX6 165 yX6_notesIn, Cond.instanceMethod yX6_notesIn, Cond.selects RX6 yX6_notesIn yX6_notesIn, Cond.code yX6_notesIn cX6_notesIn 4 (some .int)]
def wsX6_note : List Cond := .code yX6_note cX6_note 3 (some .int) :: ((wsX6_note_r1 ++ (wsX6_note_r2 ++ wsX6_note_r3)) ++ wsX60)
def wsX6_dots : List Cond := .code yX6_dots cX6_dots 3 (some .int) :: ([.methodLink RX6 118 yX6_isPerson, .static yX6_isPerson, .initialized RX6, .code yX6_isPerson cX6_isPerson 1 (some .boolean), .methodLink RX6 43 yX6_in, .static yX6_in, .code yX6_in cX6_in 3 (some .boolean), .methodLink RX6 98 yX6_isNote, .instanceMethod yX6_isNote, .selects RX6 yX6_isNote yX6_isNote, .code yX6_isNote cX6_isNote 2 (some .boolean), .fieldLink RX6 7 "NoteThemesModel" "s" "[I", .methodLink RX6 47 yX6_of, .instanceMethod yX6_of, .selects RX6 yX6_of yX6_of, .code yX6_of cX6_of 3 (some .int)] ++ wsX60)
def wsX6_lowestOf : List Cond := .code yX6_lowestOf cX6_lowestOf 4 (some .int) :: ([.fieldLink RX6 7 "NoteThemesModel" "s" "[I", .fieldLink RX6 23 "NoteThemesModel" "heapOf" "[I"] ++ wsX60)
def wsX6_dotsIn : List Cond := .code yX6_dotsIn cX6_dotsIn 4 (some .int) :: ([.fieldLink RX6 7 "NoteThemesModel" "s" "[I", .fieldLink RX6 23 "NoteThemesModel" "heapOf" "[I", .methodLink RX6 102 yX6_dotsOf, .instanceMethod yX6_dotsOf, .selects RX6 yX6_dotsOf yX6_dotsOf, .initialized RX6, .code yX6_dotsOf cX6_dotsOf 4 (some .int), .methodLink RX6 47 yX6_of, .instanceMethod yX6_of, .selects RX6 yX6_of yX6_of, .code yX6_of cX6_of 3 (some .int)] ++ wsX60)
def wsX6_themesIn : List Cond := .code yX6_themesIn cX6_themesIn 6 (some .int) :: ([.fieldLink RX6 7 "NoteThemesModel" "s" "[I", .fieldLink RX6 23 "NoteThemesModel" "heapOf" "[I", .methodLink RX6 68 yX6_themeOf, .instanceMethod yX6_themeOf, .selects RX6 yX6_themeOf yX6_themeOf, .initialized RX6, .code yX6_themeOf cX6_themeOf 2 (some .int), .methodLink RX6 47 yX6_of, .instanceMethod yX6_of, .selects RX6 yX6_of yX6_of, .code yX6_of cX6_of 3 (some .int)] ++ wsX60)
def wsX6_middleOf : List Cond := .code yX6_middleOf cX6_middleOf 7 (some .int) :: ([.fieldLink RX6 7 "NoteThemesModel" "s" "[I", .fieldLink RX6 23 "NoteThemesModel" "heapOf" "[I", .methodLink RX6 58 yX6_distance, .instanceMethod yX6_distance, .selects RX6 yX6_distance yX6_distance, .initialized RX6, .code yX6_distance cX6_distance 3 (some .int), .methodLink RX6 47 yX6_of, .instanceMethod yX6_of, .selects RX6 yX6_of yX6_of, .code yX6_of cX6_of 3 (some .int), .methodLink RX6 51 yX6_size, .static yX6_size, .code yX6_size cX6_size 1 (some .int)] ++ wsX60)
def wsX6_widthOf : List Cond := .code yX6_widthOf cX6_widthOf 7 (some .int) :: ([.fieldLink RX6 7 "NoteThemesModel" "s" "[I", .fieldLink RX6 23 "NoteThemesModel" "heapOf" "[I", .methodLink RX6 58 yX6_distance, .instanceMethod yX6_distance, .selects RX6 yX6_distance yX6_distance, .initialized RX6, .code yX6_distance cX6_distance 3 (some .int), .methodLink RX6 47 yX6_of, .instanceMethod yX6_of, .selects RX6 yX6_of yX6_of, .code yX6_of cX6_of 3 (some .int), .methodLink RX6 51 yX6_size, .static yX6_size, .code yX6_size cX6_size 1 (some .int)] ++ wsX60)
def wsX6_heap_r1 : List Cond := [Cond.methodLink RX6 111 yX6_laysNow, Cond.instanceMethod yX6_laysNow, Cond.selects RX6 yX6_laysNow yX6_laysNow, Cond.initialized RX6, Cond.code yX6_laysNow cX6_laysNow 1 (some .int), Cond.fieldLink RX6 7 "NoteThemesModel" "s" "[I", Cond.methodLink RX6 65 yX6_laysHeaps, Cond.instanceMethod yX6_laysHeaps, Cond.selects RX6 yX6_laysHeaps yX6_laysHeaps, Cond.code yX6_laysHeaps cX6_laysHeaps 5 (some .int), Cond.fieldLink RX6 55 "NoteThemesModel" "heaps" "I", Cond.fieldLink RX6 23 "NoteThemesModel" "heapOf" "[I", Cond.methodLink RX6 61 yX6_spreads, Cond.instanceMethod yX6_spreads, Cond.selects RX6 yX6_spreads yX6_spreads, Cond.code yX6_spreads cX6_spreads 7 (some .int), Cond.fieldLink RX6 26 "NoteThemesModel" "row" "[I", Cond.methodLink RX6 58 yX6_distance, Cond.instanceMethod yX6_distance, Cond.selects RX6 yX6_distance yX6_distance, Cond.code yX6_distance cX6_distance 3 (some .int), Cond.methodLink RX6 47 yX6_of, Cond.instanceMethod yX6_of, Cond.selects RX6 yX6_of yX6_of]
def wsX6_heap_r2 : List Cond := [Cond.code yX6_of cX6_of 3 (some .int), Cond.methodLink RX6 51 yX6_size, Cond.static yX6_size, Cond.code yX6_size cX6_size 1 (some .int), Cond.methodLink RX6 43 yX6_in, Cond.static yX6_in, Cond.code yX6_in cX6_in 3 (some .boolean), Cond.methodLink RX6 165 yX6_notesIn, Cond.instanceMethod yX6_notesIn, Cond.selects RX6 yX6_notesIn yX6_notesIn, Cond.code yX6_notesIn cX6_notesIn 4 (some .int), Cond.methodLink RX6 177 yX6_lowestOf, Cond.instanceMethod yX6_lowestOf, Cond.selects RX6 yX6_lowestOf yX6_lowestOf, Cond.code yX6_lowestOf cX6_lowestOf 4 (some .int), Cond.methodLink RX6 180 yX6_dotsIn, Cond.instanceMethod yX6_dotsIn, Cond.selects RX6 yX6_dotsIn yX6_dotsIn, Cond.code yX6_dotsIn cX6_dotsIn 4 (some .int), Cond.methodLink RX6 102 yX6_dotsOf, Cond.instanceMethod yX6_dotsOf, Cond.selects RX6 yX6_dotsOf yX6_dotsOf, Cond.code yX6_dotsOf cX6_dotsOf 4 (some .int), Cond.methodLink RX6 183 yX6_themesIn]
def wsX6_heap_r3 : List Cond := [Cond.instanceMethod yX6_themesIn, Cond.selects RX6 yX6_themesIn yX6_themesIn, Cond.code yX6_themesIn cX6_themesIn 6 (some .int), Cond.methodLink RX6 68 yX6_themeOf, Cond.instanceMethod yX6_themeOf, Cond.selects RX6 yX6_themeOf yX6_themeOf, Cond.code yX6_themeOf cX6_themeOf 2 (some .int), Cond.methodLink RX6 124 yX6_without, Cond.instanceMethod yX6_without, Cond.selects RX6 yX6_without yX6_without, Cond.code yX6_without cX6_without 4 (some .int), Cond.methodLink RX6 186 yX6_middleOf, Cond.instanceMethod yX6_middleOf, Cond.selects RX6 yX6_middleOf yX6_middleOf, Cond.code yX6_middleOf cX6_middleOf 7 (some .int), Cond.methodLink RX6 189 yX6_widthOf, Cond.instanceMethod yX6_widthOf, Cond.selects RX6 yX6_widthOf yX6_widthOf, Cond.code yX6_widthOf cX6_widthOf 7 (some .int)]
def wsX6_heap : List Cond := .code yX6_heap cX6_heap 3 (some .int) :: ((wsX6_heap_r1 ++ (wsX6_heap_r2 ++ wsX6_heap_r3)) ++ wsX60)
def wsX6_dotsOfTheme : List Cond := .code yX6_dotsOfTheme cX6_dotsOfTheme 4 (some .int) :: ([.fieldLink RX6 7 "NoteThemesModel" "s" "[I", .methodLink RX6 68 yX6_themeOf, .instanceMethod yX6_themeOf, .selects RX6 yX6_themeOf yX6_themeOf, .initialized RX6, .code yX6_themeOf cX6_themeOf 2 (some .int), .methodLink RX6 47 yX6_of, .instanceMethod yX6_of, .selects RX6 yX6_of yX6_of, .code yX6_of cX6_of 3 (some .int), .methodLink RX6 102 yX6_dotsOf, .instanceMethod yX6_dotsOf, .selects RX6 yX6_dotsOf yX6_dotsOf, .code yX6_dotsOf cX6_dotsOf 4 (some .int)] ++ wsX60)
def wsX6_rankOf : List Cond := .code yX6_rankOf cX6_rankOf 5 (some .int) :: ([.fieldLink RX6 7 "NoteThemesModel" "s" "[I", .methodLink RX6 192 yX6_dotsOfTheme, .instanceMethod yX6_dotsOfTheme, .selects RX6 yX6_dotsOfTheme yX6_dotsOfTheme, .initialized RX6, .code yX6_dotsOfTheme cX6_dotsOfTheme 4 (some .int), .methodLink RX6 68 yX6_themeOf, .instanceMethod yX6_themeOf, .selects RX6 yX6_themeOf yX6_themeOf, .code yX6_themeOf cX6_themeOf 2 (some .int), .methodLink RX6 47 yX6_of, .instanceMethod yX6_of, .selects RX6 yX6_of yX6_of, .code yX6_of cX6_of 3 (some .int), .methodLink RX6 102 yX6_dotsOf, .instanceMethod yX6_dotsOf, .selects RX6 yX6_dotsOf yX6_dotsOf, .code yX6_dotsOf cX6_dotsOf 4 (some .int)] ++ wsX60)
def wsX6_heapsOfTheme_r1 : List Cond := [Cond.fieldLink RX6 7 "NoteThemesModel" "s" "[I", Cond.fieldLink RX6 23 "NoteThemesModel" "heapOf" "[I", Cond.methodLink RX6 111 yX6_laysNow, Cond.instanceMethod yX6_laysNow, Cond.selects RX6 yX6_laysNow yX6_laysNow, Cond.initialized RX6, Cond.code yX6_laysNow cX6_laysNow 1 (some .int), Cond.methodLink RX6 65 yX6_laysHeaps, Cond.instanceMethod yX6_laysHeaps, Cond.selects RX6 yX6_laysHeaps yX6_laysHeaps, Cond.code yX6_laysHeaps cX6_laysHeaps 5 (some .int), Cond.fieldLink RX6 55 "NoteThemesModel" "heaps" "I", Cond.methodLink RX6 61 yX6_spreads, Cond.instanceMethod yX6_spreads, Cond.selects RX6 yX6_spreads yX6_spreads, Cond.code yX6_spreads cX6_spreads 7 (some .int), Cond.fieldLink RX6 26 "NoteThemesModel" "row" "[I", Cond.methodLink RX6 58 yX6_distance, Cond.instanceMethod yX6_distance, Cond.selects RX6 yX6_distance yX6_distance, Cond.code yX6_distance cX6_distance 3 (some .int), Cond.methodLink RX6 47 yX6_of, Cond.instanceMethod yX6_of, Cond.selects RX6 yX6_of yX6_of]
def wsX6_heapsOfTheme_r2 : List Cond := [Cond.code yX6_of cX6_of 3 (some .int), Cond.methodLink RX6 51 yX6_size, Cond.static yX6_size, Cond.code yX6_size cX6_size 1 (some .int), Cond.methodLink RX6 68 yX6_themeOf, Cond.instanceMethod yX6_themeOf, Cond.selects RX6 yX6_themeOf yX6_themeOf, Cond.code yX6_themeOf cX6_themeOf 2 (some .int)]
def wsX6_heapsOfTheme : List Cond := .code yX6_heapsOfTheme cX6_heapsOfTheme 6 (some .int) :: ((wsX6_heapsOfTheme_r1 ++ wsX6_heapsOfTheme_r2) ++ wsX60)
def wsX6_voted : List Cond := .code yX6_voted cX6_voted 4 (some .int) :: ([.methodLink RX6 82 yX6_voteOf, .instanceMethod yX6_voteOf, .selects RX6 yX6_voteOf yX6_voteOf, .initialized RX6, .code yX6_voteOf cX6_voteOf 3 (some .int), .fieldLink RX6 7 "NoteThemesModel" "s" "[I"] ++ wsX60)
def wsX6_theme_r1 : List Cond := [Cond.methodLink RX6 127 yX6_isTheme, Cond.instanceMethod yX6_isTheme, Cond.selects RX6 yX6_isTheme yX6_isTheme, Cond.initialized RX6, Cond.code yX6_isTheme cX6_isTheme 2 (some .boolean), Cond.fieldLink RX6 7 "NoteThemesModel" "s" "[I", Cond.methodLink RX6 43 yX6_in, Cond.static yX6_in, Cond.code yX6_in cX6_in 3 (some .boolean), Cond.methodLink RX6 75 yX6_notesOf, Cond.instanceMethod yX6_notesOf, Cond.selects RX6 yX6_notesOf yX6_notesOf, Cond.code yX6_notesOf cX6_notesOf 4 (some .int), Cond.methodLink RX6 68 yX6_themeOf, Cond.instanceMethod yX6_themeOf, Cond.selects RX6 yX6_themeOf yX6_themeOf, Cond.code yX6_themeOf cX6_themeOf 2 (some .int), Cond.methodLink RX6 47 yX6_of, Cond.instanceMethod yX6_of, Cond.selects RX6 yX6_of yX6_of, Cond.code yX6_of cX6_of 3 (some .int), Cond.methodLink RX6 192 yX6_dotsOfTheme, Cond.instanceMethod yX6_dotsOfTheme, Cond.selects RX6 yX6_dotsOfTheme yX6_dotsOfTheme]
def wsX6_theme_r2 : List Cond := [Cond.code yX6_dotsOfTheme cX6_dotsOfTheme 4 (some .int), Cond.methodLink RX6 102 yX6_dotsOf, Cond.instanceMethod yX6_dotsOf, Cond.selects RX6 yX6_dotsOf yX6_dotsOf, Cond.code yX6_dotsOf cX6_dotsOf 4 (some .int), Cond.methodLink RX6 130 yX6_nameOf, Cond.instanceMethod yX6_nameOf, Cond.selects RX6 yX6_nameOf yX6_nameOf, Cond.code yX6_nameOf cX6_nameOf 8 (some .int), Cond.methodLink RX6 85 yX6_votesFor, Cond.instanceMethod yX6_votesFor, Cond.selects RX6 yX6_votesFor yX6_votesFor, Cond.code yX6_votesFor cX6_votesFor 5 (some .int), Cond.methodLink RX6 82 yX6_voteOf, Cond.instanceMethod yX6_voteOf, Cond.selects RX6 yX6_voteOf yX6_voteOf, Cond.code yX6_voteOf cX6_voteOf 3 (some .int), Cond.methodLink RX6 195 yX6_rankOf, Cond.instanceMethod yX6_rankOf, Cond.selects RX6 yX6_rankOf yX6_rankOf, Cond.code yX6_rankOf cX6_rankOf 5 (some .int), Cond.methodLink RX6 198 yX6_heapsOfTheme, Cond.instanceMethod yX6_heapsOfTheme, Cond.selects RX6 yX6_heapsOfTheme yX6_heapsOfTheme]
def wsX6_theme_r3 : List Cond := [Cond.code yX6_heapsOfTheme cX6_heapsOfTheme 6 (some .int), Cond.fieldLink RX6 23 "NoteThemesModel" "heapOf" "[I", Cond.methodLink RX6 111 yX6_laysNow, Cond.instanceMethod yX6_laysNow, Cond.selects RX6 yX6_laysNow yX6_laysNow, Cond.code yX6_laysNow cX6_laysNow 1 (some .int), Cond.methodLink RX6 65 yX6_laysHeaps, Cond.instanceMethod yX6_laysHeaps, Cond.selects RX6 yX6_laysHeaps yX6_laysHeaps, Cond.code yX6_laysHeaps cX6_laysHeaps 5 (some .int), Cond.fieldLink RX6 55 "NoteThemesModel" "heaps" "I", Cond.methodLink RX6 61 yX6_spreads, Cond.instanceMethod yX6_spreads, Cond.selects RX6 yX6_spreads yX6_spreads, Cond.code yX6_spreads cX6_spreads 7 (some .int), Cond.fieldLink RX6 26 "NoteThemesModel" "row" "[I", Cond.methodLink RX6 58 yX6_distance, Cond.instanceMethod yX6_distance, Cond.selects RX6 yX6_distance yX6_distance, Cond.code yX6_distance cX6_distance 3 (some .int), Cond.methodLink RX6 51 yX6_size, Cond.static yX6_size, Cond.code yX6_size cX6_size 1 (some .int), Cond.methodLink RX6 201 yX6_voted]
def wsX6_theme_r4 : List Cond := [Cond.instanceMethod yX6_voted, Cond.selects RX6 yX6_voted yX6_voted, Cond.code yX6_voted cX6_voted 4 (some .int)]
def wsX6_theme : List Cond := .code yX6_theme cX6_theme 3 (some .int) :: ((wsX6_theme_r1 ++ (wsX6_theme_r2 ++ (wsX6_theme_r3 ++ wsX6_theme_r4))) ++ wsX60)
def wsX6_votes : List Cond := .code yX6_votes cX6_votes 3 (some .int) :: ([.methodLink RX6 127 yX6_isTheme, .instanceMethod yX6_isTheme, .selects RX6 yX6_isTheme yX6_isTheme, .initialized RX6, .code yX6_isTheme cX6_isTheme 2 (some .boolean), .fieldLink RX6 7 "NoteThemesModel" "s" "[I", .methodLink RX6 43 yX6_in, .static yX6_in, .code yX6_in cX6_in 3 (some .boolean), .methodLink RX6 85 yX6_votesFor, .instanceMethod yX6_votesFor, .selects RX6 yX6_votesFor yX6_votesFor, .code yX6_votesFor cX6_votesFor 5 (some .int), .methodLink RX6 82 yX6_voteOf, .instanceMethod yX6_voteOf, .selects RX6 yX6_voteOf yX6_voteOf, .code yX6_voteOf cX6_voteOf 3 (some .int)] ++ wsX60)
def wsX6_ifDragged_r1 : List Cond := [Cond.fieldLink RX6 32 "NoteThemesModel" "heapHad" "[I", Cond.fieldLink RX6 23 "NoteThemesModel" "heapOf" "[I", Cond.fieldLink RX6 7 "NoteThemesModel" "s" "[I", Cond.methodLink RX6 98 yX6_isNote, Cond.instanceMethod yX6_isNote, Cond.selects RX6 yX6_isNote yX6_isNote, Cond.initialized RX6, Cond.code yX6_isNote cX6_isNote 2 (some .boolean), Cond.methodLink RX6 43 yX6_in, Cond.static yX6_in, Cond.code yX6_in cX6_in 3 (some .boolean), Cond.methodLink RX6 88 yX6_isPlace, Cond.static yX6_isPlace, Cond.code yX6_isPlace cX6_isPlace 2 (some .boolean), Cond.methodLink RX6 111 yX6_laysNow, Cond.instanceMethod yX6_laysNow, Cond.selects RX6 yX6_laysNow yX6_laysNow, Cond.code yX6_laysNow cX6_laysNow 1 (some .int), Cond.methodLink RX6 65 yX6_laysHeaps, Cond.instanceMethod yX6_laysHeaps, Cond.selects RX6 yX6_laysHeaps yX6_laysHeaps, Cond.code yX6_laysHeaps cX6_laysHeaps 5 (some .int), Cond.fieldLink RX6 55 "NoteThemesModel" "heaps" "I", Cond.methodLink RX6 61 yX6_spreads]
def wsX6_ifDragged_r2 : List Cond := [Cond.instanceMethod yX6_spreads, Cond.selects RX6 yX6_spreads yX6_spreads, Cond.code yX6_spreads cX6_spreads 7 (some .int), Cond.fieldLink RX6 26 "NoteThemesModel" "row" "[I", Cond.methodLink RX6 58 yX6_distance, Cond.instanceMethod yX6_distance, Cond.selects RX6 yX6_distance yX6_distance, Cond.code yX6_distance cX6_distance 3 (some .int), Cond.methodLink RX6 47 yX6_of, Cond.instanceMethod yX6_of, Cond.selects RX6 yX6_of yX6_of, Cond.code yX6_of cX6_of 3 (some .int), Cond.methodLink RX6 51 yX6_size, Cond.static yX6_size, Cond.code yX6_size cX6_size 1 (some .int), Cond.methodLink RX6 108 yX6_comes, Cond.instanceMethod yX6_comes, Cond.selects RX6 yX6_comes yX6_comes, Cond.code yX6_comes cX6_comes 4 none, Cond.methodLink RX6 71 yX6_lays, Cond.instanceMethod yX6_lays, Cond.selects RX6 yX6_lays yX6_lays, Cond.code yX6_lays cX6_lays 4 none, Cond.methodLink RX6 165 yX6_notesIn]
def wsX6_ifDragged_r3 : List Cond := [Cond.instanceMethod yX6_notesIn, Cond.selects RX6 yX6_notesIn yX6_notesIn, Cond.code yX6_notesIn cX6_notesIn 4 (some .int)]
def wsX6_ifDragged : List Cond := .code yX6_ifDragged cX6_ifDragged 11 (some .int) :: ((wsX6_ifDragged_r1 ++ (wsX6_ifDragged_r2 ++ wsX6_ifDragged_r3)) ++ wsX60)
def wsX6_reachFor_r1 : List Cond := [Cond.methodLink RX6 43 yX6_in, Cond.static yX6_in, Cond.initialized RX6, Cond.code yX6_in cX6_in 3 (some .boolean), Cond.methodLink RX6 65 yX6_laysHeaps, Cond.instanceMethod yX6_laysHeaps, Cond.selects RX6 yX6_laysHeaps yX6_laysHeaps, Cond.code yX6_laysHeaps cX6_laysHeaps 5 (some .int), Cond.fieldLink RX6 55 "NoteThemesModel" "heaps" "I", Cond.fieldLink RX6 23 "NoteThemesModel" "heapOf" "[I", Cond.fieldLink RX6 7 "NoteThemesModel" "s" "[I", Cond.methodLink RX6 61 yX6_spreads, Cond.instanceMethod yX6_spreads, Cond.selects RX6 yX6_spreads yX6_spreads, Cond.code yX6_spreads cX6_spreads 7 (some .int), Cond.fieldLink RX6 26 "NoteThemesModel" "row" "[I", Cond.methodLink RX6 58 yX6_distance, Cond.instanceMethod yX6_distance, Cond.selects RX6 yX6_distance yX6_distance, Cond.code yX6_distance cX6_distance 3 (some .int), Cond.methodLink RX6 47 yX6_of, Cond.instanceMethod yX6_of, Cond.selects RX6 yX6_of yX6_of, Cond.code yX6_of cX6_of 3 (some .int)]
def wsX6_reachFor_r2 : List Cond := [Cond.methodLink RX6 51 yX6_size, Cond.static yX6_size, Cond.code yX6_size cX6_size 1 (some .int)]
def wsX6_reachFor : List Cond := .code yX6_reachFor cX6_reachFor 3 (some .int) :: ((wsX6_reachFor_r1 ++ wsX6_reachFor_r2) ++ wsX60)
def wsX6_nearest : List Cond := .code yX6_nearest cX6_nearest 7 (some .int) :: ([.fieldLink RX6 7 "NoteThemesModel" "s" "[I", .methodLink RX6 98 yX6_isNote, .instanceMethod yX6_isNote, .selects RX6 yX6_isNote yX6_isNote, .initialized RX6, .code yX6_isNote cX6_isNote 2 (some .boolean), .methodLink RX6 43 yX6_in, .static yX6_in, .code yX6_in cX6_in 3 (some .boolean), .methodLink RX6 68 yX6_themeOf, .instanceMethod yX6_themeOf, .selects RX6 yX6_themeOf yX6_themeOf, .code yX6_themeOf cX6_themeOf 2 (some .int), .methodLink RX6 47 yX6_of, .instanceMethod yX6_of, .selects RX6 yX6_of yX6_of, .code yX6_of cX6_of 3 (some .int), .methodLink RX6 58 yX6_distance, .instanceMethod yX6_distance, .selects RX6 yX6_distance yX6_distance, .code yX6_distance cX6_distance 3 (some .int), .methodLink RX6 51 yX6_size, .static yX6_size, .code yX6_size cX6_size 1 (some .int)] ++ wsX60)
def wsX6_stuck : List Cond := .code yX6_stuck cX6_stuck 3 (some .int) :: ([.fieldLink RX6 7 "NoteThemesModel" "s" "[I", .methodLink RX6 102 yX6_dotsOf, .instanceMethod yX6_dotsOf, .selects RX6 yX6_dotsOf yX6_dotsOf, .initialized RX6, .code yX6_dotsOf cX6_dotsOf 4 (some .int), .methodLink RX6 47 yX6_of, .instanceMethod yX6_of, .selects RX6 yX6_of yX6_of, .code yX6_of cX6_of 3 (some .int)] ++ wsX60)
def wsX6_left : List Cond := .code yX6_left cX6_left 4 (some .int) :: ([.fieldLink RX6 7 "NoteThemesModel" "s" "[I", .methodLink RX6 121 yX6_stuckBy, .instanceMethod yX6_stuckBy, .selects RX6 yX6_stuckBy yX6_stuckBy, .initialized RX6, .code yX6_stuckBy cX6_stuckBy 4 (some .int), .methodLink RX6 47 yX6_of, .instanceMethod yX6_of, .selects RX6 yX6_of yX6_of, .code yX6_of cX6_of 3 (some .int)] ++ wsX60)
def wsX6_named : List Cond := .code yX6_named cX6_named 3 (some .int) :: ([.fieldLink RX6 7 "NoteThemesModel" "s" "[I", .methodLink RX6 130 yX6_nameOf, .instanceMethod yX6_nameOf, .selects RX6 yX6_nameOf yX6_nameOf, .initialized RX6, .code yX6_nameOf cX6_nameOf 8 (some .int), .methodLink RX6 85 yX6_votesFor, .instanceMethod yX6_votesFor, .selects RX6 yX6_votesFor yX6_votesFor, .code yX6_votesFor cX6_votesFor 5 (some .int), .methodLink RX6 82 yX6_voteOf, .instanceMethod yX6_voteOf, .selects RX6 yX6_voteOf yX6_voteOf, .code yX6_voteOf cX6_voteOf 3 (some .int)] ++ wsX60)
def wsX6_alone : List Cond := .code yX6_alone cX6_alone 3 (some .int) :: ([.fieldLink RX6 7 "NoteThemesModel" "s" "[I", .methodLink RX6 171 yX6_near, .instanceMethod yX6_near, .selects RX6 yX6_near yX6_near, .initialized RX6, .code yX6_near cX6_near 4 (some .int), .methodLink RX6 58 yX6_distance, .instanceMethod yX6_distance, .selects RX6 yX6_distance yX6_distance, .code yX6_distance cX6_distance 3 (some .int), .methodLink RX6 47 yX6_of, .instanceMethod yX6_of, .selects RX6 yX6_of yX6_of, .code yX6_of cX6_of 3 (some .int), .methodLink RX6 51 yX6_size, .static yX6_size, .code yX6_size cX6_size 1 (some .int)] ++ wsX60)
def wsX6_count_r1 : List Cond := [Cond.fieldLink RX6 7 "NoteThemesModel" "s" "[I", Cond.fieldLink RX6 35 "NoteThemesModel" "known" "I", Cond.fieldLink RX6 133 "NoteThemesModel" "length" "I", Cond.methodLink RX6 43 yX6_in, Cond.static yX6_in, Cond.initialized RX6, Cond.code yX6_in cX6_in 3 (some .boolean), Cond.methodLink RX6 111 yX6_laysNow, Cond.instanceMethod yX6_laysNow, Cond.selects RX6 yX6_laysNow yX6_laysNow, Cond.code yX6_laysNow cX6_laysNow 1 (some .int), Cond.methodLink RX6 65 yX6_laysHeaps, Cond.instanceMethod yX6_laysHeaps, Cond.selects RX6 yX6_laysHeaps yX6_laysHeaps, Cond.code yX6_laysHeaps cX6_laysHeaps 5 (some .int), Cond.fieldLink RX6 55 "NoteThemesModel" "heaps" "I", Cond.fieldLink RX6 23 "NoteThemesModel" "heapOf" "[I", Cond.methodLink RX6 61 yX6_spreads, Cond.instanceMethod yX6_spreads, Cond.selects RX6 yX6_spreads yX6_spreads, Cond.code yX6_spreads cX6_spreads 7 (some .int), Cond.fieldLink RX6 26 "NoteThemesModel" "row" "[I", Cond.methodLink RX6 58 yX6_distance, Cond.instanceMethod yX6_distance]
def wsX6_count_r2 : List Cond := [Cond.selects RX6 yX6_distance yX6_distance, Cond.code yX6_distance cX6_distance 3 (some .int), Cond.methodLink RX6 47 yX6_of, Cond.instanceMethod yX6_of, Cond.selects RX6 yX6_of yX6_of, Cond.code yX6_of cX6_of 3 (some .int), Cond.methodLink RX6 51 yX6_size, Cond.static yX6_size, Cond.code yX6_size cX6_size 1 (some .int), Cond.methodLink RX6 204 yX6_stuck, Cond.instanceMethod yX6_stuck, Cond.selects RX6 yX6_stuck yX6_stuck, Cond.code yX6_stuck cX6_stuck 3 (some .int), Cond.methodLink RX6 102 yX6_dotsOf, Cond.instanceMethod yX6_dotsOf, Cond.selects RX6 yX6_dotsOf yX6_dotsOf, Cond.code yX6_dotsOf cX6_dotsOf 4 (some .int), Cond.methodLink RX6 207 yX6_left, Cond.instanceMethod yX6_left, Cond.selects RX6 yX6_left yX6_left, Cond.code yX6_left cX6_left 4 (some .int), Cond.methodLink RX6 121 yX6_stuckBy, Cond.instanceMethod yX6_stuckBy, Cond.selects RX6 yX6_stuckBy yX6_stuckBy]
def wsX6_count_r3 : List Cond := [Cond.code yX6_stuckBy cX6_stuckBy 4 (some .int), Cond.methodLink RX6 75 yX6_notesOf, Cond.instanceMethod yX6_notesOf, Cond.selects RX6 yX6_notesOf yX6_notesOf, Cond.code yX6_notesOf cX6_notesOf 4 (some .int), Cond.methodLink RX6 68 yX6_themeOf, Cond.instanceMethod yX6_themeOf, Cond.selects RX6 yX6_themeOf yX6_themeOf, Cond.code yX6_themeOf cX6_themeOf 2 (some .int), Cond.methodLink RX6 210 yX6_named, Cond.instanceMethod yX6_named, Cond.selects RX6 yX6_named yX6_named, Cond.code yX6_named cX6_named 3 (some .int), Cond.methodLink RX6 130 yX6_nameOf, Cond.instanceMethod yX6_nameOf, Cond.selects RX6 yX6_nameOf yX6_nameOf, Cond.code yX6_nameOf cX6_nameOf 8 (some .int), Cond.methodLink RX6 85 yX6_votesFor, Cond.instanceMethod yX6_votesFor, Cond.selects RX6 yX6_votesFor yX6_votesFor, Cond.code yX6_votesFor cX6_votesFor 5 (some .int), Cond.methodLink RX6 82 yX6_voteOf, Cond.instanceMethod yX6_voteOf, Cond.selects RX6 yX6_voteOf yX6_voteOf]
def wsX6_count_r4 : List Cond := [Cond.code yX6_voteOf cX6_voteOf 3 (some .int), Cond.methodLink RX6 213 yX6_alone, Cond.instanceMethod yX6_alone, Cond.selects RX6 yX6_alone yX6_alone, Cond.code yX6_alone cX6_alone 3 (some .int), Cond.methodLink RX6 171 yX6_near, Cond.instanceMethod yX6_near, Cond.selects RX6 yX6_near yX6_near, Cond.code yX6_near cX6_near 4 (some .int)]
def wsX6_count : List Cond := .code yX6_count cX6_count 2 (some .int) :: ((wsX6_count_r1 ++ (wsX6_count_r2 ++ (wsX6_count_r3 ++ wsX6_count_r4))) ++ wsX60)
def wsJ9_abs_0f7a4 : List Cond := .code yJ9_abs_0f7a4 cJ9_abs_0f7a4 1 (some .int) :: ([])
def wsJ9_max_7cf53 : List Cond := .code yJ9_max_7cf53 cJ9_max_7cf53 2 (some .int) :: ([])
def wsJ9_min_7cf53 : List Cond := .code yJ9_min_7cf53 cJ9_min_7cf53 2 (some .int) :: ([])
def wsL_law_r1 : List Cond := [Cond.classLink RL 7 RX5, Cond.instantiable RX5 11, Cond.initialized RX5, Cond.classLink RL 10 RX6, Cond.instantiable RX6 15, Cond.initialized RX6, Cond.methodLink RL 9 yX5_init, Cond.instanceMethod yX5_init, Cond.code yX5_init cX5_init 1 none, Cond.methodLink RX5 1 objectInit, Cond.instanceMethod objectInit, Cond.code objectInit ⟨#[0xb1]⟩ 1 none, Cond.classLink RX5 7 RX0, Cond.instantiable RX0 8, Cond.initialized RX0, Cond.fieldLink RX5 10 "NoteThemes" "board" "LNoteThemes$Board;", Cond.classLink RX5 16 RX3, Cond.instantiable RX3 2, Cond.initialized RX3, Cond.fieldLink RX5 19 "NoteThemes" "history" "LNoteThemes$History;", Cond.fieldLink RX5 23 "NoteThemes" "snapshot" "LNoteThemes$Board;", Cond.fieldLink RX5 26 "NoteThemes" "hasSnapshot" "Z", Cond.arrayClass .char, Cond.fieldLink RX5 30 "NoteThemes" "text" "[C"]
def wsL_law_r2 : List Cond := [Cond.fieldLink RX5 34 "NoteThemes" "textLength" "I", Cond.fieldLink RX5 38 "NoteThemes" "trial" "LNoteThemes$Board;", Cond.classLink RX5 41 RX2, Cond.instantiable RX2 4, Cond.initialized RX2, Cond.fieldLink RX5 44 "NoteThemes" "heapsNow" "LNoteThemes$Heaps;", Cond.fieldLink RX5 48 "NoteThemes" "heapsThen" "LNoteThemes$Heaps;", Cond.classLink RX5 51 RX4, Cond.instantiable RX4 1, Cond.initialized RX4, Cond.fieldLink RX5 54 "NoteThemes" "names" "LNoteThemes$Names;", Cond.classLink RX5 58 RX1, Cond.instantiable RX1 5, Cond.initialized RX1, Cond.fieldLink RX5 63 "NoteThemes" "boardText" "LNoteThemes$BoardText;", Cond.methodLink RX5 9 yX0_init, Cond.instanceMethod yX0_init, Cond.code yX0_init cX0_init 1 none, Cond.methodLink RX0 3 objectInit, Cond.fieldLink RX0 9 "NoteThemes$Board" "notes" "I", Cond.arrayClass .int, Cond.fieldLink RX0 15 "NoteThemes$Board" "columnOf" "[I", Cond.fieldLink RX0 19 "NoteThemes$Board" "rowOf" "[I", Cond.fieldLink RX0 22 "NoteThemes$Board" "themeOf" "[I"]
def wsL_law_r3 : List Cond := [Cond.fieldLink RX0 25 "NoteThemes$Board" "dotsAt" "[I", Cond.fieldLink RX0 28 "NoteThemes$Board" "themes" "I", Cond.fieldLink RX0 31 "NoteThemes$Board" "votedAt" "[I", Cond.fieldLink RX0 34 "NoteThemes$Board" "settings" "[I", Cond.methodLink RX0 40 arraycopyName, Cond.native arraycopyName, Cond.static arraycopyName, Cond.initialized "java/lang/System", Cond.methodLink RX5 18 yX3_init, Cond.instanceMethod yX3_init, Cond.code yX3_init cX3_init 2 none, Cond.methodLink RX3 3 objectInit, Cond.fieldLink RX3 9 "NoteThemes$History" "states" "I", Cond.classLink RX3 15 RX0, Cond.fieldLink RX3 17 "NoteThemes$History" "kept" "[LNoteThemes$Board;", Cond.methodLink RX3 21 yX0_init, Cond.methodLink RX5 43 yX2_init, Cond.instanceMethod yX2_init, Cond.code yX2_init cX2_init 1 none, Cond.methodLink RX2 3 objectInit, Cond.fieldLink RX2 9 "NoteThemes$Heaps" "number" "I", Cond.fieldLink RX2 15 "NoteThemes$Heaps" "notes" "I", Cond.fieldLink RX2 18 "NoteThemes$Heaps" "heapOf" "[I", Cond.fieldLink RX2 22 "NoteThemes$Heaps" "lowestOf" "[I"]
def wsL_law_r4 : List Cond := [Cond.methodLink RX5 53 yX4_init, Cond.instanceMethod yX4_init, Cond.code yX4_init cX4_init 1 none, Cond.methodLink RX4 3 objectInit, Cond.fieldLink RX4 9 "NoteThemes$Names" "nameOf" "[I", Cond.methodLink RX5 60 yX1_init, Cond.instanceMethod yX1_init, Cond.code yX1_init cX1_init 2 none, Cond.methodLink RX1 3 objectInit, Cond.fieldLink RX1 9 "NoteThemes$BoardText" "board" "LNoteThemes$Board;", Cond.fieldLink RX1 15 "NoteThemes$BoardText" "notesRead" "I", Cond.fieldLink RX1 19 "NoteThemes$BoardText" "part" "I", Cond.fieldLink RX1 22 "NoteThemes$BoardText" "number" "I", Cond.fieldLink RX1 25 "NoteThemes$BoardText" "column" "I", Cond.methodLink RL 12 yX6_init, Cond.instanceMethod yX6_init, Cond.code yX6_init cX6_init 1 none, Cond.methodLink RX6 1 objectInit, Cond.fieldLink RX6 7 "NoteThemesModel" "s" "[I", Cond.fieldLink RX6 13 "NoteThemesModel" "past" "[I", Cond.fieldLink RX6 16 "NoteThemesModel" "kept" "[I", Cond.fieldLink RX6 19 "NoteThemesModel" "text" "[C", Cond.fieldLink RX6 23 "NoteThemesModel" "heapOf" "[I", Cond.fieldLink RX6 26 "NoteThemesModel" "row" "[I"]
def wsL_law_r5 : List Cond := [Cond.fieldLink RX6 29 "NoteThemesModel" "read" "[I", Cond.fieldLink RX6 32 "NoteThemesModel" "heapHad" "[I", Cond.methodLink RL 13 yX5_put, Cond.instanceMethod yX5_put, Cond.selects RX5 yX5_put yX5_put, Cond.code yX5_put cX5_put 3 (some .int), Cond.fieldLink RX5 71 "NoteThemes$Board" "notes" "I", Cond.methodLink RX5 67 yX5_isPlace, Cond.static yX5_isPlace, Cond.code yX5_isPlace cX5_isPlace 2 (some .boolean), Cond.methodLink RX5 124 yX5_isWithin, Cond.static yX5_isWithin, Cond.code yX5_isWithin cX5_isWithin 3 (some .boolean), Cond.methodLink RX5 74 yX3_remember, Cond.instanceMethod yX3_remember, Cond.selects RX3 yX3_remember yX3_remember, Cond.code yX3_remember cX3_remember 2 none, Cond.methodLink RX3 22 yX3_dropOldest, Cond.instanceMethod yX3_dropOldest, Cond.selects RX3 yX3_dropOldest yX3_dropOldest, Cond.code yX3_dropOldest cX3_dropOldest 3 none, Cond.methodLink RX3 25 yX0_copyFrom, Cond.instanceMethod yX0_copyFrom, Cond.selects RX0 yX0_copyFrom yX0_copyFrom]
def wsL_law_r6 : List Cond := [Cond.code yX0_copyFrom cX0_copyFrom 2 none, Cond.methodLink RX5 77 yX0_addNote, Cond.instanceMethod yX0_addNote, Cond.selects RX0 yX0_addNote yX0_addNote, Cond.code yX0_addNote cX0_addNote 5 none, Cond.methodLink RX0 46 yX0_moveNote, Cond.instanceMethod yX0_moveNote, Cond.selects RX0 yX0_moveNote yX0_moveNote, Cond.code yX0_moveNote cX0_moveNote 4 none, Cond.methodLink RL 17 yX6_put, Cond.instanceMethod yX6_put, Cond.selects RX6 yX6_put yX6_put, Cond.code yX6_put cX6_put 3 (some .int), Cond.methodLink RX6 88 yX6_isPlace, Cond.static yX6_isPlace, Cond.code yX6_isPlace cX6_isPlace 2 (some .boolean), Cond.methodLink RX6 43 yX6_in, Cond.static yX6_in, Cond.code yX6_in cX6_in 3 (some .boolean), Cond.methodLink RX6 92 yX6_records, Cond.instanceMethod yX6_records, Cond.selects RX6 yX6_records yX6_records, Cond.code yX6_records cX6_records 2 none, Cond.fieldLink RX6 35 "NoteThemesModel" "known" "I"]
def wsL_law_r7 : List Cond := [Cond.methodLink RX6 39 yX6_copies, Cond.static yX6_copies, Cond.code yX6_copies cX6_copies 5 none, Cond.methodLink RX6 95 yX6_adds, Cond.instanceMethod yX6_adds, Cond.selects RX6 yX6_adds yX6_adds, Cond.code yX6_adds cX6_adds 5 (some .int), Cond.methodLink RX6 71 yX6_lays, Cond.instanceMethod yX6_lays, Cond.selects RX6 yX6_lays yX6_lays, Cond.code yX6_lays cX6_lays 4 none, Cond.methodLink RL 18 yX5_load, Cond.instanceMethod yX5_load, Cond.selects RX5 yX5_load yX5_load, Cond.code yX5_load cX5_load 2 (some .int), Cond.fieldLink RX5 91 "NoteThemes$BoardText" "notesRead" "I", Cond.methodLink RX5 81 yX0_copyFrom, Cond.methodLink RX5 84 yX0_removeAll, Cond.instanceMethod yX0_removeAll, Cond.selects RX0 yX0_removeAll yX0_removeAll, Cond.code yX0_removeAll cX0_removeAll 1 none, Cond.methodLink RX5 87 yX1_findFault, Cond.instanceMethod yX1_findFault, Cond.selects RX1 yX1_findFault yX1_findFault]
def wsL_law_r8 : List Cond := [Cond.code yX1_findFault cX1_findFault 4 (some .int), Cond.methodLink RX1 28 yX1_beginNumber, Cond.instanceMethod yX1_beginNumber, Cond.selects RX1 yX1_beginNumber yX1_beginNumber, Cond.code yX1_beginNumber cX1_beginNumber 2 none, Cond.methodLink RX1 32 yX1_takes, Cond.instanceMethod yX1_takes, Cond.selects RX1 yX1_takes yX1_takes, Cond.code yX1_takes cX1_takes 2 (some .boolean), Cond.methodLink RX1 40 yX1_takesComma, Cond.instanceMethod yX1_takesComma, Cond.selects RX1 yX1_takesComma yX1_takesComma, Cond.code yX1_takesComma cX1_takesComma 1 (some .boolean), Cond.methodLink RX1 36 yX1_endsNote, Cond.instanceMethod yX1_endsNote, Cond.selects RX1 yX1_endsNote yX1_endsNote, Cond.code yX1_endsNote cX1_endsNote 1 (some .boolean), Cond.fieldLink RX1 53 "NoteThemes$Board" "notes" "I", Cond.methodLink RX1 58 yX0_addNote, Cond.methodLink RX1 43 yX1_takesStar, Cond.instanceMethod yX1_takesStar, Cond.selects RX1 yX1_takesStar yX1_takesStar, Cond.code yX1_takesStar cX1_takesStar 2 (some .boolean), Cond.methodLink RX1 62 yX0_dotsLeft]
def wsL_law_r9 : List Cond := [Cond.instanceMethod yX0_dotsLeft, Cond.selects RX0 yX0_dotsLeft yX0_dotsLeft, Cond.code yX0_dotsLeft cX0_dotsLeft 4 (some .int), Cond.methodLink RX0 71 Lib.Math.max.name, Cond.static Lib.Math.max.name, Cond.initialized "java/lang/Math", Cond.code Lib.Math.max.name Lib.Math.max.code 2 (some .int), Cond.methodLink RX0 68 yX0_dotsOfPerson, Cond.instanceMethod yX0_dotsOfPerson, Cond.selects RX0 yX0_dotsOfPerson yX0_dotsOfPerson, Cond.code yX0_dotsOfPerson cX0_dotsOfPerson 3 (some .int), Cond.methodLink RX1 66 yX0_hasMostDots, Cond.instanceMethod yX0_hasMostDots, Cond.selects RX0 yX0_hasMostDots yX0_hasMostDots, Cond.code yX0_hasMostDots cX0_hasMostDots 3 (some .boolean), Cond.methodLink RX1 70 yX0_addDots, Cond.instanceMethod yX0_addDots, Cond.selects RX0 yX0_addDots yX0_addDots, Cond.code yX0_addDots cX0_addDots 4 none, Cond.methodLink RX1 46 yX1_takesSemicolon, Cond.instanceMethod yX1_takesSemicolon, Cond.selects RX1 yX1_takesSemicolon yX1_takesSemicolon, Cond.code yX1_takesSemicolon cX1_takesSemicolon 1 (some .boolean), Cond.methodLink RX1 49 yX1_takesDigit]
def wsL_law_r10 : List Cond := [Cond.instanceMethod yX1_takesDigit, Cond.selects RX1 yX1_takesDigit yX1_takesDigit, Cond.code yX1_takesDigit cX1_takesDigit 3 (some .boolean), Cond.methodLink RL 22 yX6_load, Cond.instanceMethod yX6_load, Cond.selects RX6 yX6_load yX6_load, Cond.code yX6_load cX6_load 3 (some .int), Cond.fieldLink RX6 136 "NoteThemesModel" "spot" "I", Cond.fieldLink RX6 151 "NoteThemesModel" "tells" "I", Cond.methodLink RX6 158 yX6_isBoard, Cond.instanceMethod yX6_isBoard, Cond.selects RX6 yX6_isBoard yX6_isBoard, Cond.code yX6_isBoard cX6_isBoard 2 (some .boolean), Cond.fieldLink RX6 148 "NoteThemesModel" "dotsRead" "I", Cond.fieldLink RX6 133 "NoteThemesModel" "length" "I", Cond.methodLink RX6 154 yX6_takesNote, Cond.instanceMethod yX6_takesNote, Cond.selects RX6 yX6_takesNote yX6_takesNote, Cond.code yX6_takesNote cX6_takesNote 4 (some .boolean), Cond.methodLink RX6 142 yX6_number, Cond.instanceMethod yX6_number, Cond.selects RX6 yX6_number yX6_number, Cond.code yX6_number cX6_number 3 (some .int), Cond.methodLink RX6 139 yX6_here]
def wsL_law_r11 : List Cond := [Cond.instanceMethod yX6_here, Cond.selects RX6 yX6_here yX6_here, Cond.code yX6_here cX6_here 1 (some .int), Cond.methodLink RX6 145 yX6_takes, Cond.instanceMethod yX6_takes, Cond.selects RX6 yX6_takes yX6_takes, Cond.code yX6_takes cX6_takes 3 (some .boolean), Cond.methodLink RL 23 yX5_takeOff, Cond.instanceMethod yX5_takeOff, Cond.selects RX5 yX5_takeOff yX5_takeOff, Cond.code yX5_takeOff cX5_takeOff 3 (some .int), Cond.methodLink RX5 94 yX0_hasNote, Cond.instanceMethod yX0_hasNote, Cond.selects RX0 yX0_hasNote yX0_hasNote, Cond.code yX0_hasNote cX0_hasNote 2 (some .boolean), Cond.methodLink RX5 98 yX0_dotsOn, Cond.instanceMethod yX0_dotsOn, Cond.selects RX0 yX0_dotsOn yX0_dotsOn, Cond.code yX0_dotsOn cX0_dotsOn 4 (some .int), Cond.methodLink RX5 102 yX0_removeNote, Cond.instanceMethod yX0_removeNote, Cond.selects RX0 yX0_removeNote yX0_removeNote, Cond.code yX0_removeNote cX0_removeNote 4 none, Cond.methodLink RX0 50 yX0_copyNote]
def wsL_law_r12 : List Cond := [Cond.instanceMethod yX0_copyNote, Cond.selects RX0 yX0_copyNote yX0_copyNote, Cond.code yX0_copyNote cX0_copyNote 4 none, Cond.methodLink RX0 54 yX0_removeThemeIfEmpty, Cond.instanceMethod yX0_removeThemeIfEmpty, Cond.selects RX0 yX0_removeThemeIfEmpty yX0_removeThemeIfEmpty, Cond.code yX0_removeThemeIfEmpty cX0_removeThemeIfEmpty 4 none, Cond.methodLink RX0 86 yX0_notesOfTheme, Cond.instanceMethod yX0_notesOfTheme, Cond.selects RX0 yX0_notesOfTheme yX0_notesOfTheme, Cond.code yX0_notesOfTheme cX0_notesOfTheme 4 (some .int), Cond.methodLink RX0 83 yX0_voteOf, Cond.instanceMethod yX0_voteOf, Cond.selects RX0 yX0_voteOf yX0_voteOf, Cond.code yX0_voteOf cX0_voteOf 3 (some .int), Cond.methodLink RX0 80 yX0_setVote, Cond.instanceMethod yX0_setVote, Cond.selects RX0 yX0_setVote yX0_setVote, Cond.code yX0_setVote cX0_setVote 4 none, Cond.methodLink RL 27 yX6_takeOff, Cond.instanceMethod yX6_takeOff, Cond.selects RX6 yX6_takeOff yX6_takeOff, Cond.code yX6_takeOff cX6_takeOff 5 (some .int), Cond.methodLink RX6 98 yX6_isNote]
def wsL_law_r13 : List Cond := [Cond.instanceMethod yX6_isNote, Cond.selects RX6 yX6_isNote yX6_isNote, Cond.code yX6_isNote cX6_isNote 2 (some .boolean), Cond.methodLink RX6 102 yX6_dotsOf, Cond.instanceMethod yX6_dotsOf, Cond.selects RX6 yX6_dotsOf yX6_dotsOf, Cond.code yX6_dotsOf cX6_dotsOf 4 (some .int), Cond.methodLink RX6 47 yX6_of, Cond.instanceMethod yX6_of, Cond.selects RX6 yX6_of yX6_of, Cond.code yX6_of cX6_of 3 (some .int), Cond.methodLink RX6 68 yX6_themeOf, Cond.instanceMethod yX6_themeOf, Cond.selects RX6 yX6_themeOf yX6_themeOf, Cond.code yX6_themeOf cX6_themeOf 2 (some .int), Cond.methodLink RX6 105 yX6_dropsEmpty, Cond.instanceMethod yX6_dropsEmpty, Cond.selects RX6 yX6_dropsEmpty yX6_dropsEmpty, Cond.code yX6_dropsEmpty cX6_dropsEmpty 2 none, Cond.methodLink RX6 75 yX6_notesOf, Cond.instanceMethod yX6_notesOf, Cond.selects RX6 yX6_notesOf yX6_notesOf, Cond.code yX6_notesOf cX6_notesOf 4 (some .int), Cond.methodLink RX6 78 yX6_dropsTheme]
def wsL_law_r14 : List Cond := [Cond.instanceMethod yX6_dropsTheme, Cond.selects RX6 yX6_dropsTheme yX6_dropsTheme, Cond.code yX6_dropsTheme cX6_dropsTheme 3 none, Cond.methodLink RL 28 yX5_drag, Cond.instanceMethod yX5_drag, Cond.selects RX5 yX5_drag yX5_drag, Cond.code yX5_drag cX5_drag 4 (some .int), Cond.fieldLink RX5 106 "NoteThemes$Board" "columnOf" "[I", Cond.fieldLink RX5 110 "NoteThemes$Board" "rowOf" "[I", Cond.methodLink RX5 113 yX0_moveNote, Cond.methodLink RX5 117 yX5_findHeaps, Cond.instanceMethod yX5_findHeaps, Cond.selects RX5 yX5_findHeaps yX5_findHeaps, Cond.code yX5_findHeaps cX5_findHeaps 1 (some .int), Cond.fieldLink RX5 200 "NoteThemes$Board" "settings" "[I", Cond.methodLink RX5 248 yX2_find, Cond.instanceMethod yX2_find, Cond.selects RX2 yX2_find yX2_find, Cond.code yX2_find cX2_find 5 (some .int), Cond.fieldLink RX2 25 "NoteThemes$Board" "notes" "I", Cond.methodLink RX2 28 yX0_distance, Cond.instanceMethod yX0_distance, Cond.selects RX0 yX0_distance yX0_distance, Cond.code yX0_distance cX0_distance 3 (some .int)]
def wsL_law_r15 : List Cond := [Cond.methodLink RX0 58 Lib.Math.abs.name, Cond.static Lib.Math.abs.name, Cond.code Lib.Math.abs.name Lib.Math.abs.code 1 (some .int), Cond.methodLink RX2 32 yX2_join, Cond.instanceMethod yX2_join, Cond.selects RX2 yX2_join yX2_join, Cond.code yX2_join cX2_join 6 none, Cond.methodLink RX2 39 Lib.Math.min.name, Cond.static Lib.Math.min.name, Cond.code Lib.Math.min.name Lib.Math.min.code 2 (some .int), Cond.methodLink RX2 44 Lib.Math.max.name, Cond.methodLink RX2 36 yX2_numberThem, Cond.instanceMethod yX2_numberThem, Cond.selects RX2 yX2_numberThem yX2_numberThem, Cond.code yX2_numberThem cX2_numberThem 2 none, Cond.methodLink RL 32 yX6_drag, Cond.instanceMethod yX6_drag, Cond.selects RX6 yX6_drag yX6_drag, Cond.code yX6_drag cX6_drag 4 (some .int), Cond.methodLink RX6 108 yX6_comes, Cond.instanceMethod yX6_comes, Cond.selects RX6 yX6_comes yX6_comes, Cond.code yX6_comes cX6_comes 4 none, Cond.methodLink RX6 111 yX6_laysNow]
def wsL_law_r16 : List Cond := [Cond.instanceMethod yX6_laysNow, Cond.selects RX6 yX6_laysNow yX6_laysNow, Cond.code yX6_laysNow cX6_laysNow 1 (some .int), Cond.methodLink RX6 65 yX6_laysHeaps, Cond.instanceMethod yX6_laysHeaps, Cond.selects RX6 yX6_laysHeaps yX6_laysHeaps, Cond.code yX6_laysHeaps cX6_laysHeaps 5 (some .int), Cond.fieldLink RX6 55 "NoteThemesModel" "heaps" "I", Cond.methodLink RX6 61 yX6_spreads, Cond.instanceMethod yX6_spreads, Cond.selects RX6 yX6_spreads yX6_spreads, Cond.code yX6_spreads cX6_spreads 7 (some .int), Cond.methodLink RX6 58 yX6_distance, Cond.instanceMethod yX6_distance, Cond.selects RX6 yX6_distance yX6_distance, Cond.code yX6_distance cX6_distance 3 (some .int), Cond.methodLink RX6 51 yX6_size, Cond.static yX6_size, Cond.code yX6_size cX6_size 1 (some .int), Cond.methodLink RL 33 yX5_dragHeap, Cond.instanceMethod yX5_dragHeap, Cond.selects RX5 yX5_dragHeap yX5_dragHeap, Cond.code yX5_dragHeap cX5_dragHeap 4 (some .int), Cond.methodLink RX5 121 yX2_has]
def wsL_law_r17 : List Cond := [Cond.instanceMethod yX2_has, Cond.selects RX2 yX2_has yX2_has, Cond.code yX2_has cX2_has 2 (some .boolean), Cond.methodLink RX5 128 yX5_staysOnBoard, Cond.instanceMethod yX5_staysOnBoard, Cond.selects RX5 yX5_staysOnBoard yX5_staysOnBoard, Cond.code yX5_staysOnBoard cX5_staysOnBoard 5 (some .boolean), Cond.fieldLink RX5 160 "NoteThemes$Heaps" "heapOf" "[I", Cond.methodLink RX5 131 yX5_moveHeap, Cond.instanceMethod yX5_moveHeap, Cond.selects RX5 yX5_moveHeap yX5_moveHeap, Cond.code yX5_moveHeap cX5_moveHeap 5 none, Cond.methodLink RL 36 yX6_dragHeap, Cond.instanceMethod yX6_dragHeap, Cond.selects RX6 yX6_dragHeap yX6_dragHeap, Cond.code yX6_dragHeap cX6_dragHeap 5 (some .int), Cond.methodLink RX6 115 yX6_canDrag, Cond.instanceMethod yX6_canDrag, Cond.selects RX6 yX6_canDrag yX6_canDrag, Cond.code yX6_canDrag cX6_canDrag 6 (some .boolean), Cond.methodLink RL 37 yX5_stick, Cond.instanceMethod yX5_stick, Cond.selects RX5 yX5_stick yX5_stick, Cond.code yX5_stick cX5_stick 3 (some .int)]
def wsL_law_r18 : List Cond := [Cond.methodLink RX5 134 yX5_isPerson, Cond.static yX5_isPerson, Cond.code yX5_isPerson cX5_isPerson 1 (some .boolean), Cond.methodLink RX5 137 yX0_dotsLeft, Cond.methodLink RX5 140 yX0_hasMostDots, Cond.methodLink RX5 143 yX0_addDots, Cond.methodLink RL 40 yX6_stick, Cond.instanceMethod yX6_stick, Cond.selects RX6 yX6_stick yX6_stick, Cond.code yX6_stick cX6_stick 3 (some .int), Cond.methodLink RX6 118 yX6_isPerson, Cond.static yX6_isPerson, Cond.code yX6_isPerson cX6_isPerson 1 (some .boolean), Cond.methodLink RX6 121 yX6_stuckBy, Cond.instanceMethod yX6_stuckBy, Cond.selects RX6 yX6_stuckBy yX6_stuckBy, Cond.code yX6_stuckBy cX6_stuckBy 4 (some .int), Cond.methodLink RL 41 yX5_unstick, Cond.instanceMethod yX5_unstick, Cond.selects RX5 yX5_unstick yX5_unstick, Cond.code yX5_unstick cX5_unstick 3 (some .int), Cond.methodLink RX5 146 yX0_dotsOfPerson, Cond.methodLink RL 44 yX6_unstick, Cond.instanceMethod yX6_unstick]
def wsL_law_r19 : List Cond := [Cond.selects RX6 yX6_unstick yX6_unstick, Cond.code yX6_unstick cX6_unstick 3 (some .int), Cond.methodLink RL 45 yX5_make, Cond.instanceMethod yX5_make, Cond.selects RX5 yX5_make yX5_make, Cond.code yX5_make cX5_make 4 (some .int), Cond.fieldLink RX5 154 "NoteThemes$Board" "themes" "I", Cond.fieldLink RX5 163 "NoteThemes$Board" "themeOf" "[I", Cond.methodLink RX5 150 yX2_freeNotesIn, Cond.instanceMethod yX2_freeNotesIn, Cond.selects RX2 yX2_freeNotesIn yX2_freeNotesIn, Cond.code yX2_freeNotesIn cX2_freeNotesIn 5 (some .int), Cond.fieldLink RX2 51 "NoteThemes$Board" "themeOf" "[I", Cond.methodLink RX5 157 yX0_addTheme, Cond.instanceMethod yX0_addTheme, Cond.selects RX0 yX0_addTheme yX0_addTheme, Cond.code yX0_addTheme cX0_addTheme 3 (some .int), Cond.methodLink RL 48 yX6_make, Cond.instanceMethod yX6_make, Cond.selects RX6 yX6_make yX6_make, Cond.code yX6_make cX6_make 3 (some .int), Cond.methodLink RX6 124 yX6_without, Cond.instanceMethod yX6_without, Cond.selects RX6 yX6_without yX6_without]
def wsL_law_r20 : List Cond := [Cond.code yX6_without cX6_without 4 (some .int), Cond.methodLink RL 49 yX5_merge, Cond.instanceMethod yX5_merge, Cond.selects RX5 yX5_merge yX5_merge, Cond.code yX5_merge cX5_merge 3 (some .int), Cond.methodLink RX5 166 yX0_hasTheme, Cond.instanceMethod yX0_hasTheme, Cond.selects RX0 yX0_hasTheme yX0_hasTheme, Cond.code yX0_hasTheme cX0_hasTheme 2 (some .boolean), Cond.methodLink RX5 169 yX0_mergeThemes, Cond.instanceMethod yX0_mergeThemes, Cond.selects RX0 yX0_mergeThemes yX0_mergeThemes, Cond.code yX0_mergeThemes cX0_mergeThemes 4 none, Cond.methodLink RX5 172 yX0_notesOfTheme, Cond.methodLink RL 52 yX6_merge, Cond.instanceMethod yX6_merge, Cond.selects RX6 yX6_merge yX6_merge, Cond.code yX6_merge cX6_merge 5 (some .int), Cond.methodLink RX6 127 yX6_isTheme, Cond.instanceMethod yX6_isTheme, Cond.selects RX6 yX6_isTheme yX6_isTheme, Cond.code yX6_isTheme cX6_isTheme 2 (some .boolean), Cond.methodLink RL 53 yX5_belong, Cond.instanceMethod yX5_belong]
def wsL_law_r21 : List Cond := [Cond.selects RX5 yX5_belong yX5_belong, Cond.code yX5_belong cX5_belong 4 (some .int), Cond.methodLink RX5 175 yX0_removeThemeIfEmpty, Cond.methodLink RL 56 yX6_belong, Cond.instanceMethod yX6_belong, Cond.selects RX6 yX6_belong yX6_belong, Cond.code yX6_belong cX6_belong 5 (some .int), Cond.methodLink RL 57 yX5_vote, Cond.instanceMethod yX5_vote, Cond.selects RX5 yX5_vote yX5_vote, Cond.code yX5_vote cX5_vote 4 (some .int), Cond.fieldLink RX5 191 "NoteThemes$Names" "nameOf" "[I", Cond.methodLink RX5 178 yX5_isName, Cond.static yX5_isName, Cond.code yX5_isName cX5_isName 1 (some .boolean), Cond.methodLink RX5 181 yX0_voteOf, Cond.methodLink RX5 184 yX0_setVote, Cond.methodLink RX5 187 yX4_choose, Cond.instanceMethod yX4_choose, Cond.selects RX4 yX4_choose yX4_choose, Cond.code yX4_choose cX4_choose 4 (some .int), Cond.fieldLink RX4 15 "NoteThemes$Board" "themes" "I", Cond.methodLink RX4 21 yX4_bestName, Cond.instanceMethod yX4_bestName]
def wsL_law_r22 : List Cond := [Cond.selects RX4 yX4_bestName yX4_bestName, Cond.code yX4_bestName cX4_bestName 7 (some .int), Cond.methodLink RX4 25 yX0_votesFor, Cond.instanceMethod yX0_votesFor, Cond.selects RX0 yX0_votesFor yX0_votesFor, Cond.code yX0_votesFor cX0_votesFor 5 (some .int), Cond.methodLink RX4 29 yX4_isTaken, Cond.instanceMethod yX4_isTaken, Cond.selects RX4 yX4_isTaken yX4_isTaken, Cond.code yX4_isTaken cX4_isTaken 4 (some .boolean), Cond.methodLink RL 60 yX6_vote, Cond.instanceMethod yX6_vote, Cond.selects RX6 yX6_vote yX6_vote, Cond.code yX6_vote cX6_vote 6 (some .int), Cond.methodLink RX6 82 yX6_voteOf, Cond.instanceMethod yX6_voteOf, Cond.selects RX6 yX6_voteOf yX6_voteOf, Cond.code yX6_voteOf cX6_voteOf 3 (some .int), Cond.methodLink RX6 130 yX6_nameOf, Cond.instanceMethod yX6_nameOf, Cond.selects RX6 yX6_nameOf yX6_nameOf, Cond.code yX6_nameOf cX6_nameOf 8 (some .int), Cond.methodLink RX6 85 yX6_votesFor, Cond.instanceMethod yX6_votesFor]
def wsL_law_r23 : List Cond := [Cond.selects RX6 yX6_votesFor yX6_votesFor, Cond.code yX6_votesFor cX6_votesFor 5 (some .int), Cond.methodLink RL 61 yX5_set, Cond.instanceMethod yX5_set, Cond.selects RX5 yX5_set yX5_set, Cond.code yX5_set cX5_set 4 (some .int), Cond.fieldLink RX5 194 "NoteThemes" "LEAST_SETTING" "[I", Cond.fieldLink RX5 197 "NoteThemes" "MOST_SETTING" "[I", Cond.methodLink RL 64 yX6_set, Cond.instanceMethod yX6_set, Cond.selects RX6 yX6_set yX6_set, Cond.code yX6_set cX6_set 4 (some .int), Cond.methodLink RL 65 yX5_type, Cond.instanceMethod yX5_type, Cond.selects RX5 yX5_type yX5_type, Cond.code yX5_type cX5_type 2 (some .int), Cond.methodLink RL 69 yX6_type, Cond.instanceMethod yX6_type, Cond.selects RX6 yX6_type yX6_type, Cond.code yX6_type cX6_type 2 (some .int), Cond.methodLink RL 70 yX5_clearText, Cond.instanceMethod yX5_clearText, Cond.selects RX5 yX5_clearText yX5_clearText, Cond.code yX5_clearText cX5_clearText 2 (some .int)]
def wsL_law_r24 : List Cond := [Cond.methodLink RL 73 yX6_clearText, Cond.instanceMethod yX6_clearText, Cond.selects RX6 yX6_clearText yX6_clearText, Cond.code yX6_clearText cX6_clearText 2 (some .int), Cond.methodLink RL 74 yX5_undo, Cond.instanceMethod yX5_undo, Cond.selects RX5 yX5_undo yX5_undo, Cond.code yX5_undo cX5_undo 1 (some .int), Cond.fieldLink RX5 203 "NoteThemes$History" "states" "I", Cond.methodLink RX5 206 yX3_takeBack, Cond.instanceMethod yX3_takeBack, Cond.selects RX3 yX3_takeBack yX3_takeBack, Cond.code yX3_takeBack cX3_takeBack 2 none, Cond.methodLink RL 77 yX6_undo, Cond.instanceMethod yX6_undo, Cond.selects RX6 yX6_undo yX6_undo, Cond.code yX6_undo cX6_undo 1 (some .int), Cond.methodLink RL 78 yX5_keep, Cond.instanceMethod yX5_keep, Cond.selects RX5 yX5_keep yX5_keep, Cond.code yX5_keep cX5_keep 1 (some .int), Cond.methodLink RL 81 yX6_keep, Cond.instanceMethod yX6_keep, Cond.selects RX6 yX6_keep yX6_keep]
def wsL_law_r25 : List Cond := [Cond.code yX6_keep cX6_keep 1 (some .int), Cond.fieldLink RX6 161 "NoteThemesModel" "isKept" "Z", Cond.methodLink RL 82 yX5_restore, Cond.instanceMethod yX5_restore, Cond.selects RX5 yX5_restore yX5_restore, Cond.code yX5_restore cX5_restore 1 (some .int), Cond.methodLink RL 85 yX6_restore, Cond.instanceMethod yX6_restore, Cond.selects RX6 yX6_restore yX6_restore, Cond.code yX6_restore cX6_restore 1 (some .int), Cond.methodLink RL 86 yX5_note, Cond.instanceMethod yX5_note, Cond.selects RX5 yX5_note yX5_note, Cond.code yX5_note cX5_note 3 (some .int), Cond.methodLink RX5 209 yX0_notesNear, Cond.instanceMethod yX0_notesNear, Cond.selects RX0 yX0_notesNear yX0_notesNear, Cond.code yX0_notesNear cX0_notesNear 4 (some .int), Cond.methodLink RX0 64 yX0_distance, Cond.methodLink RX5 212 yX5_holdsItsHeap, Cond.instanceMethod yX5_holdsItsHeap, Cond.selects RX5 yX5_holdsItsHeap yX5_holdsItsHeap, Cond.code yX5_holdsItsHeap cX5_holdsItsHeap 3 (some .boolean), Cond.methodLink RL 89 yX6_note]
def wsL_law_r26 : List Cond := [Cond.instanceMethod yX6_note, Cond.selects RX6 yX6_note yX6_note, Cond.code yX6_note cX6_note 3 (some .int), Cond.methodLink RX6 168 yX6_heapNow, Cond.instanceMethod yX6_heapNow, Cond.selects RX6 yX6_heapNow yX6_heapNow, Cond.code yX6_heapNow cX6_heapNow 3 (some .int), Cond.methodLink RX6 171 yX6_near, Cond.instanceMethod yX6_near, Cond.selects RX6 yX6_near yX6_near, Cond.code yX6_near cX6_near 4 (some .int), Cond.methodLink RX6 174 yX6_holdsTogether, Cond.instanceMethod yX6_holdsTogether, Cond.selects RX6 yX6_holdsTogether yX6_holdsTogether, Cond.code yX6_holdsTogether cX6_holdsTogether 5 (some .int), Cond.methodLink RX6 165 yX6_notesIn, Cond.instanceMethod yX6_notesIn, Cond.selects RX6 yX6_notesIn yX6_notesIn, Cond.code yX6_notesIn cX6_notesIn 4 (some .int), Cond.methodLink RL 90 yX5_dots, Cond.instanceMethod yX5_dots, Cond.selects RX5 yX5_dots yX5_dots, Cond.code yX5_dots cX5_dots 3 (some .int), Cond.methodLink RL 93 yX6_dots]
def wsL_law_r27 : List Cond := [Cond.instanceMethod yX6_dots, Cond.selects RX6 yX6_dots yX6_dots, Cond.code yX6_dots cX6_dots 3 (some .int), Cond.methodLink RL 94 yX5_heap, Cond.instanceMethod yX5_heap, Cond.selects RX5 yX5_heap yX5_heap, Cond.code yX5_heap cX5_heap 3 (some .int), Cond.methodLink RX5 215 yX2_notesIn, Cond.instanceMethod yX2_notesIn, Cond.selects RX2 yX2_notesIn yX2_notesIn, Cond.code yX2_notesIn cX2_notesIn 4 (some .int), Cond.methodLink RX5 218 yX2_lowestNoteIn, Cond.instanceMethod yX2_lowestNoteIn, Cond.selects RX2 yX2_lowestNoteIn yX2_lowestNoteIn, Cond.code yX2_lowestNoteIn cX2_lowestNoteIn 3 (some .int), Cond.methodLink RX5 221 yX2_dotsIn, Cond.instanceMethod yX2_dotsIn, Cond.selects RX2 yX2_dotsIn yX2_dotsIn, Cond.code yX2_dotsIn cX2_dotsIn 5 (some .int), Cond.methodLink RX2 47 yX0_dotsOn, Cond.methodLink RX5 224 yX5_themesInHeap, Cond.instanceMethod yX5_themesInHeap, Cond.selects RX5 yX5_themesInHeap yX5_themesInHeap, Cond.code yX5_themesInHeap cX5_themesInHeap 4 (some .int)]
def wsL_law_r28 : List Cond := [Cond.methodLink RX5 270 yX5_meet, Cond.instanceMethod yX5_meet, Cond.selects RX5 yX5_meet yX5_meet, Cond.code yX5_meet cX5_meet 4 (some .boolean), Cond.methodLink RX5 227 yX2_middleOf, Cond.instanceMethod yX2_middleOf, Cond.selects RX2 yX2_middleOf yX2_middleOf, Cond.code yX2_middleOf cX2_middleOf 7 (some .int), Cond.methodLink RX2 54 yX2_distancesTo, Cond.instanceMethod yX2_distancesTo, Cond.selects RX2 yX2_distancesTo yX2_distancesTo, Cond.code yX2_distancesTo cX2_distancesTo 5 (some .int), Cond.methodLink RX5 230 yX2_widthOf, Cond.instanceMethod yX2_widthOf, Cond.selects RX2 yX2_widthOf yX2_widthOf, Cond.code yX2_widthOf cX2_widthOf 6 (some .int), Cond.methodLink RL 97 yX6_heap, Cond.instanceMethod yX6_heap, Cond.selects RX6 yX6_heap yX6_heap, Cond.code yX6_heap cX6_heap 3 (some .int), Cond.methodLink RX6 177 yX6_lowestOf, Cond.instanceMethod yX6_lowestOf, Cond.selects RX6 yX6_lowestOf yX6_lowestOf, Cond.code yX6_lowestOf cX6_lowestOf 4 (some .int)]
def wsL_law_r29 : List Cond := [Cond.methodLink RX6 180 yX6_dotsIn, Cond.instanceMethod yX6_dotsIn, Cond.selects RX6 yX6_dotsIn yX6_dotsIn, Cond.code yX6_dotsIn cX6_dotsIn 4 (some .int), Cond.methodLink RX6 183 yX6_themesIn, Cond.instanceMethod yX6_themesIn, Cond.selects RX6 yX6_themesIn yX6_themesIn, Cond.code yX6_themesIn cX6_themesIn 6 (some .int), Cond.methodLink RX6 186 yX6_middleOf, Cond.instanceMethod yX6_middleOf, Cond.selects RX6 yX6_middleOf yX6_middleOf, Cond.code yX6_middleOf cX6_middleOf 7 (some .int), Cond.methodLink RX6 189 yX6_widthOf, Cond.instanceMethod yX6_widthOf, Cond.selects RX6 yX6_widthOf yX6_widthOf, Cond.code yX6_widthOf cX6_widthOf 7 (some .int), Cond.methodLink RL 98 yX5_theme, Cond.instanceMethod yX5_theme, Cond.selects RX5 yX5_theme yX5_theme, Cond.code yX5_theme cX5_theme 3 (some .int), Cond.methodLink RX5 233 yX0_dotsOfTheme, Cond.instanceMethod yX0_dotsOfTheme, Cond.selects RX0 yX0_dotsOfTheme yX0_dotsOfTheme, Cond.code yX0_dotsOfTheme cX0_dotsOfTheme 4 (some .int)]
def wsL_law_r30 : List Cond := [Cond.methodLink RX0 74 yX0_dotsOn, Cond.methodLink RX5 236 yX5_rankOf, Cond.instanceMethod yX5_rankOf, Cond.selects RX5 yX5_rankOf yX5_rankOf, Cond.code yX5_rankOf cX5_rankOf 6 (some .int), Cond.methodLink RX5 239 yX5_heapsOfTheme, Cond.instanceMethod yX5_heapsOfTheme, Cond.selects RX5 yX5_heapsOfTheme yX5_heapsOfTheme, Cond.code yX5_heapsOfTheme cX5_heapsOfTheme 5 (some .int), Cond.methodLink RX5 242 yX0_votersOf, Cond.instanceMethod yX0_votersOf, Cond.selects RX0 yX0_votersOf yX0_votersOf, Cond.code yX0_votersOf cX0_votersOf 2 (some .int), Cond.methodLink RX0 89 yX0_votesFor, Cond.methodLink RL 101 yX6_theme, Cond.instanceMethod yX6_theme, Cond.selects RX6 yX6_theme yX6_theme, Cond.code yX6_theme cX6_theme 3 (some .int), Cond.methodLink RX6 192 yX6_dotsOfTheme, Cond.instanceMethod yX6_dotsOfTheme, Cond.selects RX6 yX6_dotsOfTheme yX6_dotsOfTheme, Cond.code yX6_dotsOfTheme cX6_dotsOfTheme 4 (some .int), Cond.methodLink RX6 195 yX6_rankOf, Cond.instanceMethod yX6_rankOf]
def wsL_law_r31 : List Cond := [Cond.selects RX6 yX6_rankOf yX6_rankOf, Cond.code yX6_rankOf cX6_rankOf 5 (some .int), Cond.methodLink RX6 198 yX6_heapsOfTheme, Cond.instanceMethod yX6_heapsOfTheme, Cond.selects RX6 yX6_heapsOfTheme yX6_heapsOfTheme, Cond.code yX6_heapsOfTheme cX6_heapsOfTheme 6 (some .int), Cond.methodLink RX6 201 yX6_voted, Cond.instanceMethod yX6_voted, Cond.selects RX6 yX6_voted yX6_voted, Cond.code yX6_voted cX6_voted 4 (some .int), Cond.methodLink RL 102 yX5_votes, Cond.instanceMethod yX5_votes, Cond.selects RX5 yX5_votes yX5_votes, Cond.code yX5_votes cX5_votes 3 (some .int), Cond.methodLink RX5 245 yX0_votesFor, Cond.methodLink RL 105 yX6_votes, Cond.instanceMethod yX6_votes, Cond.selects RX6 yX6_votes yX6_votes, Cond.code yX6_votes cX6_votes 3 (some .int), Cond.methodLink RL 106 yX5_ifDragged, Cond.instanceMethod yX5_ifDragged, Cond.selects RX5 yX5_ifDragged yX5_ifDragged, Cond.code yX5_ifDragged cX5_ifDragged 5 (some .int), Cond.fieldLink RX5 252 "NoteThemes$Heaps" "number" "I"]
def wsL_law_r32 : List Cond := [Cond.methodLink RX5 255 yX5_notesParted, Cond.instanceMethod yX5_notesParted, Cond.selects RX5 yX5_notesParted yX5_notesParted, Cond.code yX5_notesParted cX5_notesParted 4 (some .int), Cond.methodLink RL 110 yX6_ifDragged, Cond.instanceMethod yX6_ifDragged, Cond.selects RX6 yX6_ifDragged yX6_ifDragged, Cond.code yX6_ifDragged cX6_ifDragged 11 (some .int), Cond.methodLink RL 111 yX5_reachFor, Cond.instanceMethod yX5_reachFor, Cond.selects RX5 yX5_reachFor yX5_reachFor, Cond.code yX5_reachFor cX5_reachFor 4 (some .int), Cond.methodLink RL 114 yX6_reachFor, Cond.instanceMethod yX6_reachFor, Cond.selects RX6 yX6_reachFor yX6_reachFor, Cond.code yX6_reachFor cX6_reachFor 3 (some .int), Cond.methodLink RL 115 yX5_nearest, Cond.instanceMethod yX5_nearest, Cond.selects RX5 yX5_nearest yX5_nearest, Cond.code yX5_nearest cX5_nearest 7 (some .int), Cond.methodLink RX5 258 yX0_distance, Cond.methodLink RL 118 yX6_nearest, Cond.instanceMethod yX6_nearest, Cond.selects RX6 yX6_nearest yX6_nearest]
def wsL_law_r33 : List Cond := [Cond.code yX6_nearest cX6_nearest 7 (some .int), Cond.methodLink RL 119 yX5_count, Cond.instanceMethod yX5_count, Cond.selects RX5 yX5_count yX5_count, Cond.code yX5_count cX5_count 2 (some .int), Cond.methodLink RX5 261 yX0_allDotsStuck, Cond.instanceMethod yX0_allDotsStuck, Cond.selects RX0 yX0_allDotsStuck yX0_allDotsStuck, Cond.code yX0_allDotsStuck cX0_allDotsStuck 3 (some .int), Cond.methodLink RX5 264 yX0_allDotsLeft, Cond.instanceMethod yX0_allDotsLeft, Cond.selects RX0 yX0_allDotsLeft yX0_allDotsLeft, Cond.code yX0_allDotsLeft cX0_allDotsLeft 3 (some .int), Cond.methodLink RX0 77 yX0_dotsLeft, Cond.methodLink RX5 267 yX5_notesAlone, Cond.instanceMethod yX5_notesAlone, Cond.selects RX5 yX5_notesAlone yX5_notesAlone, Cond.code yX5_notesAlone cX5_notesAlone 4 (some .int), Cond.methodLink RL 122 yX6_count, Cond.instanceMethod yX6_count, Cond.selects RX6 yX6_count yX6_count, Cond.code yX6_count cX6_count 2 (some .int), Cond.methodLink RX6 204 yX6_stuck, Cond.instanceMethod yX6_stuck]
def wsL_law_r34 : List Cond := [Cond.selects RX6 yX6_stuck yX6_stuck, Cond.code yX6_stuck cX6_stuck 3 (some .int), Cond.methodLink RX6 207 yX6_left, Cond.instanceMethod yX6_left, Cond.selects RX6 yX6_left yX6_left, Cond.code yX6_left cX6_left 4 (some .int), Cond.methodLink RX6 210 yX6_named, Cond.instanceMethod yX6_named, Cond.selects RX6 yX6_named yX6_named, Cond.code yX6_named cX6_named 3 (some .int), Cond.methodLink RX6 213 yX6_alone, Cond.instanceMethod yX6_alone, Cond.selects RX6 yX6_alone yX6_alone, Cond.code yX6_alone cX6_alone 3 (some .int)]
def wsL_law : List Cond := (wsL_law_r1 ++ (wsL_law_r2 ++ (wsL_law_r3 ++ (wsL_law_r4 ++ (wsL_law_r5 ++ (wsL_law_r6 ++ (wsL_law_r7 ++ (wsL_law_r8 ++ (wsL_law_r9 ++ (wsL_law_r10 ++ (wsL_law_r11 ++ (wsL_law_r12 ++ (wsL_law_r13 ++ (wsL_law_r14 ++ (wsL_law_r15 ++ (wsL_law_r16 ++ (wsL_law_r17 ++ (wsL_law_r18 ++ (wsL_law_r19 ++ (wsL_law_r20 ++ (wsL_law_r21 ++ (wsL_law_r22 ++ (wsL_law_r23 ++ (wsL_law_r24 ++ (wsL_law_r25 ++ (wsL_law_r26 ++ (wsL_law_r27 ++ (wsL_law_r28 ++ (wsL_law_r29 ++ (wsL_law_r30 ++ (wsL_law_r31 ++ (wsL_law_r32 ++ (wsL_law_r33 ++ wsL_law_r34))))))))))))))))))))))))))))))))) ++ wsX50 ++ wsX60 ++ wsX00 ++ wsX30 ++ wsX20 ++ wsX40 ++ wsX10 ++ ([] : List Cond)
abbrev vwCl : List vw_C := [(RX0, TX0, 8), (RX1, TX1, 5), (RX2, TX2, 4), (RX3, TX3, 2), (RX4, TX4, 1), (RX5, TX5, 11), (RX6, TX6, 15)]
end
section
/-! base: walks over a list of modules (each a list of cells); locals as a list of known values; no heap is named -/
abbrev tyl (cA : Nat → ClassId) : List (ClassId × FieldType) := [(cA 0, .int), (cA 1, .char), (cA 2, .object RX0)]
abbrev gX : Type := Program × Launch × Env × Room × State × MethodId × Array Value × List Frame × Method × Code × va_G × (Nat → ClassId) × (Nat → Prop) × Heap
def gl (X : gX) : Launch := X.2.1
def gD (X : gX) : va_G := X.2.2.2.2.2.2.2.2.2.2.1
def gcA (X : gX) : Nat → ClassId := X.2.2.2.2.2.2.2.2.2.2.2.1
def lo (L : List (Option Value)) : List (Nat × Value) := (List.range L.length).filterMap (fun i => (L.getD i none).map (fun v => (i, v)))
theorem lo_mem {L : List (Option Value)} {j : Nat} {v : Value} : (j, v) ∈ lo L ↔ L[j]? = some (some v) := by
  simp only [lo, List.mem_filterMap, List.mem_range]
  constructor
  · rintro ⟨i, hi, h⟩
    rw [List.getD_eq_getElem?_getD, List.getElem?_eq_getElem hi, Option.getD_some] at h
    cases hx : L[i] with
    | none => rw [hx] at h; cases h
    | some z =>
      rw [hx] at h
      cases h
      rw [List.getElem?_eq_getElem hi, hx]
  · intro h
    obtain ⟨hj, e⟩ := List.getElem?_eq_some_iff.mp h
    exact ⟨j, hj, by rw [List.getD_eq_getElem?_getD, h]; rfl⟩
def lh (ls : Array Slot) (L : List (Option Value)) : Prop := ls.size = L.length ∧ lv_wf ls ∧ ∀ (i : Nat) (v : Value), L[i]? = some (some v) → ls[i]? = some (.val v) ∧ v.category = 1
theorem lh.has {ls : Array Slot} {L : List (Option Value)} (h : lh ls L) : lv_has ls L.length (lo L) := ⟨h.1, h.2.1, fun q hq => (h.2.2 q.1 q.2 (lo_mem.mp hq)).1⟩
theorem lh.set {ls ls' : Array Slot} {L : List (Option Value)} (h : lh ls L) {i : Nat} {v : Value} (hc : v.category = 1) (hi : i < L.length) (h' : lv_has ls' L.length ((i, v) :: (lo L).filter (fun q => !(q.1 == i) && !(q.1 + 1 == i && q.2.category == 2)))) : lh ls' (L.set i (some v)) := by
  refine ⟨by rw [h'.1, List.length_set], h'.2.1, fun j w hj => ?_⟩
  by_cases e : j = i
  · subst e
    rw [List.getElem?_set_self hi] at hj
    cases hj
    exact ⟨h'.2.2 (j, v) List.mem_cons_self, hc⟩
  · rw [List.getElem?_set_ne (Ne.symm e)] at hj
    have c1 := (h.2.2 j w hj).2
    refine ⟨h'.2.2 (j, w) (List.mem_cons_of_mem _ (List.mem_filter.mpr ⟨lo_mem.mpr hj, ?_⟩)), c1⟩
    simp [e, c1]
def lle : List (Option Value) → List (Option Value) → Prop
  | [], [] => True
  | none :: a, _ :: b => lle a b
  | some v :: a, w :: b => w = some v ∧ lle a b
  | _, _ => False
theorem lle_0 : lle [] [] := trivial
theorem lle_n {a b : List (Option Value)} {x : Option Value} (h : lle a b) : lle (none :: a) (x :: b) := h
theorem lle_s {a b : List (Option Value)} {v : Value} (h : lle a b) : lle (some v :: a) (some v :: b) := ⟨rfl, h⟩
theorem lle_ok : ∀ {a b : List (Option Value)}, lle a b → a.length = b.length ∧ ∀ (i : Nat) (v : Value), a[i]? = some (some v) → b[i]? = some (some v)
  | [], [], _ => ⟨rfl, fun i v h => by simp at h⟩
  | none :: a, x :: b, h => by
    obtain ⟨h1, h2⟩ := lle_ok (a := a) (b := b) h
    refine ⟨by simp [h1], fun i v hi => ?_⟩
    cases i with
    | zero => simp at hi
    | succ i => simpa using h2 i v (by simpa using hi)
  | some z :: a, x :: b, h => by
    obtain ⟨h0, h⟩ := h
    obtain ⟨h1, h2⟩ := lle_ok (a := a) (b := b) h
    refine ⟨by simp [h1], fun i v hi => ?_⟩
    cases i with
    | zero => simpa [h0] using hi
    | succ i => simpa using h2 i v (by simpa using hi)
  | none :: _, [], h => by cases h
  | some _ :: _, [], h => by cases h
  | [], _ :: _, h => by cases h
theorem lh.le {ls : Array Slot} {L L' : List (Option Value)} (h : lh ls L) (hl : lle L' L) : lh ls L' := by
  obtain ⟨h1, h2⟩ := lle_ok hl
  exact ⟨h.1.trans h1.symm, h.2.1, fun i v hi => h.2.2 i v (h2 i v hi)⟩
/-! worlds -/
theorem fl_at : ∀ {ms : List va_W} {i j : Nat} {w : va_W} {x : Nat × va_E}, ms[i]? = some w → w[j]? = some x → ∃ q, ms.flatten[q]? = some x ∧ ∀ e, ms.flatten.set q e = (ms.set i (w.set j e)).flatten
  | [], i, j, w, x, h, _ => by simp at h
  | w0 :: ms, 0, j, w, x, h, hj => by
    rw [List.getElem?_cons_zero] at h
    cases h
    have hl := (List.getElem?_eq_some_iff.mp hj).1
    refine ⟨j, ?_, fun e => ?_⟩
    · rw [List.flatten_cons, List.getElem?_append_left hl]; exact hj
    · rw [List.flatten_cons, List.set_append_left _ _ hl]; rfl
  | w0 :: ms, i + 1, j, w, x, h, hj => by
    obtain ⟨q, h1, h2⟩ := fl_at (ms := ms) (i := i) (by simpa using h) hj
    refine ⟨w0.length + q, ?_, fun e => ?_⟩
    · rw [List.flatten_cons, List.getElem?_append_right (by omega), Nat.add_sub_cancel_left]; exact h1
    · rw [List.flatten_cons, List.set_append_right _ _ (by omega), Nat.add_sub_cancel_left, h2]; rfl
def G (X : gX) (Q : State → Prop) (ms : List va_W) (L : List (Option Value)) (st : List Value) (pc : Nat) : Prop :=
  match X with
  | (p, l, e, R, s, m, args, below, meth, c, D, _, A, H0) => ∀ (H : Heap) (locs : List Loc) (ls : Array Slot), va_P D vwCl ms.flatten H → va_D A ms.flatten → va_S A H0 H locs → lh ls L → W p l e R s m args below meth c H locs R.cells R.slots Q (F0 m pc ls st)
def cx (X : gX) (own : String) (cc : ByteArray) (nL : Nat) (ret : Option FieldType) (Ts : List Cond) (fr lo : Nat) : Prop :=
  match X with
  | (p, _, _, R, s, m, args, _, meth, c, D, cA, A, H0) => p.tables.exec = Jvm.exec ∧ c.code = cc ∧ c.maxLocals = nL ∧ meth.sig.returnType = ret ∧ s.vm.findClass own = some m.cls ∧ (∀ w ∈ Ts, w.before args s = true) ∧ meth.locks = false ∧ va_K D vwCl (tyl cA) s ∧ (∀ q, H0.size ≤ q → A q) ∧ R.frames = fr ∧ R.locals = lo ∧ H0 = s.heap
def QI (X : gX) (r : Int32) (ms : List va_W) : State → Prop :=
  match X with
  | (_, _, _, R, s, _, args, below, _, _, D, _, A, _) => MQ below (va_Qi (fun (r' : Int32) (_ : Unit) => r' = r) (fun _ t => va_P D vwCl ms.flatten t.heap) A) args s R.cells R.slots A
def QV (X : gX) (ms : List va_W) : State → Prop :=
  match X with
  | (_, _, _, R, s, _, args, below, _, _, D, _, A, _) => MQ below (va_Qv (fun (_ : Unit) => True) (fun _ t => va_P D vwCl ms.flatten t.heap) A) args s R.cells R.slots A
def MI (l : Launch) (D : va_G) (cA : Nat → ClassId) (y : MethodName) (ws : List Cond) (fr lo : Nat) (args : List Value) (ms : List va_W) (r : Int32) (ms' : List va_W) : Prop :=
  ∀ sz : Nat, Met l y ws ({ frames := fr, cells := 0, slots := 0, locals := lo } : Room) (va_Pc args (fun U => U.heap.size = sz ∧ va_P D vwCl ms.flatten U.heap ∧ va_K D vwCl (tyl cA) U ∧ va_D (fun _ => True) ms.flatten)) (va_Qi (fun (r' : Int32) (_ : Unit) => r' = r) (fun _ t => va_P D vwCl ms'.flatten t.heap) (va_A ms.flatten sz)) 0 0 (va_A ms.flatten sz)
def MV (l : Launch) (D : va_G) (cA : Nat → ClassId) (y : MethodName) (ws : List Cond) (fr lo : Nat) (args : List Value) (ms : List va_W) (ms' : List va_W) : Prop :=
  ∀ sz : Nat, Met l y ws ({ frames := fr, cells := 0, slots := 0, locals := lo } : Room) (va_Pc args (fun U => U.heap.size = sz ∧ va_P D vwCl ms.flatten U.heap ∧ va_K D vwCl (tyl cA) U ∧ va_D (fun _ => True) ms.flatten)) (va_Qv (fun (_ : Unit) => True) (fun _ t => va_P D vwCl ms'.flatten t.heap) (va_A ms.flatten sz)) 0 0 (va_A ms.flatten sz)
theorem lv_args1 : ∀ (n : Nat) (vs : List Value), (∀ v ∈ vs, v.category = 1) → ∀ (j : Nat) (v : Value), vs[j]? = some v → (n + j, v) ∈ lv_args n vs
  | n, [], _, j, v, h => by simp at h
  | n, z :: vs, hc, j, v, h => by
    have h1 : z.category = 1 := hc z List.mem_cons_self
    simp only [lv_args, h1, show ¬ ((1 : Nat) = 2) by decide, if_false]
    cases j with
    | zero => simp at h; subst h; exact List.mem_cons_self
    | succ j =>
      have := lv_args1 (n + 1) vs (fun v hv => hc v (List.mem_cons_of_mem _ hv)) j v (by simpa using h)
      refine List.mem_cons_of_mem _ ?_
      rw [show n + (j + 1) = n + 1 + j by omega]
      exact this
theorem lg_sl1 : ∀ (vs : List Value), (∀ v ∈ vs, v.category = 1) → (lg_sl vs).length = vs.length
  | [], _ => rfl
  | v :: vs, hc => by
    have h1 : v.category = 1 := hc v List.mem_cons_self
    have h2 := lg_sl1 vs (fun w hw => hc w (List.mem_cons_of_mem _ hw))
    simp only [lg_sl, List.flatMap_cons, List.length_append, List.length_cons] at h2 ⊢
    rw [h2]
    simp [h1]
    omega
theorem lh_entry (vs : List Value) (n : Nat) (hc : ∀ v ∈ vs, v.category = 1) (hn : vs.length ≤ n) : lh ((lg_sl vs ++ List.replicate (n - (lg_sl vs).length) Slot.unset).toArray) (vs.map some ++ List.replicate (n - vs.length) none) := by
  have e := lg_sl1 vs hc
  have h := lv_entry vs (n := n) (by omega)
  refine ⟨h.1.trans (by simp; omega), h.2.1, fun i v hi => ?_⟩
  by_cases hl : i < vs.length
  · rw [List.getElem?_append_left (by simpa using hl), List.getElem?_map] at hi
    cases hv : vs[i]? with
    | none => rw [hv] at hi; cases hi
    | some z =>
      rw [hv] at hi
      have e0 : z = v := by simpa using hi
      subst e0
      refine ⟨?_, hc z (List.mem_of_getElem? hv)⟩
      have := h.2.2 (0 + i, z) (lv_args1 0 vs hc i z hv)
      simpa using this
  · rw [List.getElem?_append_right (by simpa using hl), List.getElem?_replicate] at hi
    split at hi <;> simp at hi
theorem MI_of {l : Launch} {D : va_G} {cA : Nat → ClassId} {y : MethodName} {ws ws' : List Cond} {fr lo : Nat} {args : List Value} {ms ms' : List va_W} {r : Int32} {cc : ByteArray} {maxL : Nat} {rt : Option FieldType} (hy : plainName y.cls = true) (hw : ws = Cond.code y cc maxL rt :: ws') (hc : ∀ v ∈ args, v.category = 1) (hn : args.length ≤ maxL)
    (body : ∀ X : gX, gl X = l → gD X = D → gcA X = cA → cx X y.cls cc maxL rt ws fr lo → G X (QI X r ms') ms (args.map some ++ List.replicate (maxL - args.length) none) [] 0) : MI l D cA y ws fr lo args ms r ms' := by
  intro sz
  refine Met.ofW (cc := cc) (maxL := maxL) (ret := rt) hy hw ?_
  intro p e s m args0 below meth c s₁ B hml hv
  obtain ⟨rfl, hsz, hP, hK, hD0⟩ := hv
  subst hsz
  have hD := hD0.self (sz := s.heap.size)
  rw [lg_entry_eq]
  exact body (p, l, e, _, s, m, args.toArray, below, meth, c, D, cA, va_A ms.flatten s.heap.size, s.heap) rfl rfl rfl ⟨B.exec, B.bytes, hml, B.returns, findClass_of_methodNamed B.named, atoms_spec (ws := ws) B.pre, B.notSynchronized, hK, fun q h => Or.inr h, rfl, rfl, rfl⟩ s.heap [] _ hP hD va_S.rf (lh_entry args maxL hc hn)
theorem MV_of {l : Launch} {D : va_G} {cA : Nat → ClassId} {y : MethodName} {ws ws' : List Cond} {fr lo : Nat} {args : List Value} {ms ms' : List va_W} {cc : ByteArray} {maxL : Nat} (hy : plainName y.cls = true) (hw : ws = Cond.code y cc maxL none :: ws') (hc : ∀ v ∈ args, v.category = 1) (hn : args.length ≤ maxL)
    (body : ∀ X : gX, gl X = l → gD X = D → gcA X = cA → cx X y.cls cc maxL none ws fr lo → G X (QV X ms') ms (args.map some ++ List.replicate (maxL - args.length) none) [] 0) : MV l D cA y ws fr lo args ms ms' := by
  intro sz
  refine Met.ofW (cc := cc) (maxL := maxL) (ret := none) hy hw ?_
  intro p e s m args0 below meth c s₁ B hml hv
  obtain ⟨rfl, hsz, hP, hK, hD0⟩ := hv
  subst hsz
  have hD := hD0.self (sz := s.heap.size)
  rw [lg_entry_eq]
  exact body (p, l, e, _, s, m, args.toArray, below, meth, c, D, cA, va_A ms.flatten s.heap.size, s.heap) rfl rfl rfl ⟨B.exec, B.bytes, hml, B.returns, findClass_of_methodNamed B.named, atoms_spec (ws := ws) B.pre, B.notSynchronized, hK, fun q h => Or.inr h, rfl, rfl, rfl⟩ s.heap [] _ hP hD va_S.rf (lh_entry args maxL hc hn)
/-! options -/
theorem og {ρ : Type} {c : Prop} [Decidable c] {T : Option ρ} {res : ρ} (h : (if c then none else T) = some res) : ¬ c ∧ T = some res := by
  by_cases hc : c
  · rw [if_pos hc] at h; cases h
  · rw [if_neg hc] at h; exact ⟨hc, h⟩
def bd {α ρ : Type} (o : Option α) (f : α → Option ρ) : Option ρ := match o with | some a => f a | none => none
theorem ob {α ρ : Type} {o : Option α} {f : α → Option ρ} {res : ρ} (h : bd o f = some res) : ∃ a, o = some a ∧ f a = some res := by
  cases o with
  | none => cases h
  | some a => exact ⟨a, rfl, h⟩
theorem bd_some {α ρ : Type} (a : α) (f : α → Option ρ) : bd (some a) f = f a := rfl
def bd2 {α β ρ : Type} (o : Option (α × β)) (f : α → β → Option ρ) : Option ρ := match o with | some (a, b) => f a b | none => none
theorem ob2 {α β ρ : Type} {o : Option (α × β)} {f : α → β → Option ρ} {res : ρ} (h : bd2 o f = some res) : ∃ a b, o = some (a, b) ∧ f a b = some res := by
  cases o with
  | none => cases h
  | some a => obtain ⟨a, b⟩ := a; exact ⟨a, b, rfl, h⟩
theorem bd2_some {α β ρ : Type} (a : α) (b : β) (f : α → β → Option ρ) : bd2 (some (a, b)) f = f a b := rfl
def bd3 {α β γ ρ : Type} (o : Option (α × β × γ)) (f : α → β → γ → Option ρ) : Option ρ := match o with | some (a, b, c) => f a b c | none => none
theorem ob3 {α β γ ρ : Type} {o : Option (α × β × γ)} {f : α → β → γ → Option ρ} {res : ρ} (h : bd3 o f = some res) : ∃ a b c, o = some (a, b, c) ∧ f a b c = some res := by
  cases o with
  | none => cases h
  | some a => obtain ⟨a, b, c⟩ := a; exact ⟨a, b, c, rfl, h⟩
theorem bd3_some {α β γ ρ : Type} (a : α) (b : β) (c : γ) (f : α → β → γ → Option ρ) : bd3 (some (a, b, c)) f = f a b c := rfl
def bd4 {α β γ δ ρ : Type} (o : Option (α × β × γ × δ)) (f : α → β → γ → δ → Option ρ) : Option ρ := match o with | some (a, b, c, d) => f a b c d | none => none
theorem ob4 {α β γ δ ρ : Type} {o : Option (α × β × γ × δ)} {f : α → β → γ → δ → Option ρ} {res : ρ} (h : bd4 o f = some res) : ∃ a b c d, o = some (a, b, c, d) ∧ f a b c d = some res := by
  cases o with
  | none => cases h
  | some a => obtain ⟨a, b, c, d⟩ := a; exact ⟨a, b, c, d, rfl, h⟩
theorem bd4_some {α β γ δ ρ : Type} (a : α) (b : β) (c : γ) (d : δ) (f : α → β → γ → δ → Option ρ) : bd4 (some (a, b, c, d)) f = f a b c d := rfl
/-! one row an instruction -/
section GI
variable {X : gX} {own : String} {cc : ByteArray} {nL : Nat} {ret : Option FieldType} {Ts : List Cond} {fr lm : Nat} {Q : State → Prop} {ms : List va_W} {L : List (Option Value)} {st : List Value} {pc pc' : Nat}
theorem cx.word (C : cx X own cc nL ret Ts fr lm) {w : Cond} (hw : w ∈ Ts) : w.before X.2.2.2.2.2.2.1 X.2.2.2.2.1 = true := by
  obtain ⟨p, l, e, R, s, m, args, below, meth, c, D, cA, A, H0⟩ := X
  exact C.2.2.2.2.2.1 w hw
theorem G_loc {L' : List (Option Value)} (hl : lle L' L) (kk : G X Q ms L' st pc) : G X Q ms L st pc := by
  obtain ⟨p, l, e, R, s, m, args, below, meth, c, D, cA, A, H0⟩ := X
  intro H locs ls hP hD hS h
  exact kk H locs ls hP hD hS (h.le hl)

theorem g_iconst (C : cx X own cc nL ret Ts fr lm) {n : Int} {v : Int32} (d : decode cc pc = .ok (.iconst n, 1)) (hv : Int32.ofInt n = v) (hp : pc + 1 = pc') (kk : G X Q ms L (.int v :: st) pc') : G X Q ms L (st) pc := by
  subst hp
  obtain ⟨p, l, e, R, s, m, args, below, meth, c, D, cA, A, H0⟩ := X
  obtain ⟨hx, hb, -⟩ := C
  intro H locs ls hP hD hS hl
  exact lv_iconst hx hb d hv (kk H locs ls hP hD hS hl)
theorem g_bipush (C : cx X own cc nL ret Ts fr lm) {n : Int} {v : Int32} (d : decode cc pc = .ok (.bipush n, 2)) (hv : (Int8.ofInt n).toInt32 = v) (hp : pc + 2 = pc') (kk : G X Q ms L (.int v :: st) pc') : G X Q ms L (st) pc := by
  subst hp
  obtain ⟨p, l, e, R, s, m, args, below, meth, c, D, cA, A, H0⟩ := X
  obtain ⟨hx, hb, -⟩ := C
  intro H locs ls hP hD hS hl
  exact lv_bipush hx hb d hv (kk H locs ls hP hD hS hl)
theorem g_sipush (C : cx X own cc nL ret Ts fr lm) {n : Int} {v : Int32} (d : decode cc pc = .ok (.sipush n, 3)) (hv : (Int16.ofInt n).toInt32 = v) (hp : pc + 3 = pc') (kk : G X Q ms L (.int v :: st) pc') : G X Q ms L (st) pc := by
  subst hp
  obtain ⟨p, l, e, R, s, m, args, below, meth, c, D, cA, A, H0⟩ := X
  obtain ⟨hx, hb, -⟩ := C
  intro H locs ls hP hD hS hl
  exact lv_sipush hx hb d hv (kk H locs ls hP hD hS hl)
theorem g_iload_n (C : cx X own cc nL ret Ts fr lm) {k : Fin 4} {x : Int32} (d : decode cc pc = .ok (.iload_n k, 1)) (hL : L[k.val]? = some (some (.int x))) (hp : pc + 1 = pc') (kk : G X Q ms L (.int x :: st) pc') : G X Q ms L (st) pc := by
  subst hp
  obtain ⟨p, l, e, R, s, m, args, below, meth, c, D, cA, A, H0⟩ := X
  obtain ⟨hx, hb, -⟩ := C
  intro H locs ls hP hD hS hl
  exact lv_iload_n hx hb d rfl (hl.2.2 _ _ hL).1 (kk H locs ls hP hD hS hl)
theorem g_iload (C : cx X own cc nL ret Ts fr lm) {k : Nat} {x : Int32} (d : decode cc pc = .ok (.iload k, 2)) (hL : L[k]? = some (some (.int x))) (hp : pc + 2 = pc') (kk : G X Q ms L (.int x :: st) pc') : G X Q ms L (st) pc := by
  subst hp
  obtain ⟨p, l, e, R, s, m, args, below, meth, c, D, cA, A, H0⟩ := X
  obtain ⟨hx, hb, -⟩ := C
  intro H locs ls hP hD hS hl
  exact lv_iload hx hb d (hl.2.2 _ _ hL).1 (kk H locs ls hP hD hS hl)
theorem g_aload_n (C : cx X own cc nL ret Ts fr lm) {k : Fin 4} {x : Nat} (d : decode cc pc = .ok (.aload_n k, 1)) (hL : L[k.val]? = some (some (.ref x))) (hp : pc + 1 = pc') (kk : G X Q ms L (.ref x :: st) pc') : G X Q ms L (st) pc := by
  subst hp
  obtain ⟨p, l, e, R, s, m, args, below, meth, c, D, cA, A, H0⟩ := X
  obtain ⟨hx, hb, -⟩ := C
  intro H locs ls hP hD hS hl
  exact lv_aload_n hx hb d rfl (hl.2.2 _ _ hL).1 (kk H locs ls hP hD hS hl)
theorem g_aload (C : cx X own cc nL ret Ts fr lm) {k : Nat} {x : Nat} (d : decode cc pc = .ok (.aload k, 2)) (hL : L[k]? = some (some (.ref x))) (hp : pc + 2 = pc') (kk : G X Q ms L (.ref x :: st) pc') : G X Q ms L (st) pc := by
  subst hp
  obtain ⟨p, l, e, R, s, m, args, below, meth, c, D, cA, A, H0⟩ := X
  obtain ⟨hx, hb, -⟩ := C
  intro H locs ls hP hD hS hl
  exact lv_aload hx hb d (hl.2.2 _ _ hL).1 (kk H locs ls hP hD hS hl)
theorem g_iadd (C : cx X own cc nL ret Ts fr lm) {x y : Int32} (d : decode cc pc = .ok (.iadd, 1)) (hp : pc + 1 = pc') (kk : G X Q ms L (.int (x + y) :: st) pc') : G X Q ms L (.int y :: .int x :: st) pc := by
  subst hp
  obtain ⟨p, l, e, R, s, m, args, below, meth, c, D, cA, A, H0⟩ := X
  obtain ⟨hx, hb, -⟩ := C
  intro H locs ls hP hD hS hl
  exact lv_iadd hx hb d (kk H locs ls hP hD hS hl)
theorem g_isub (C : cx X own cc nL ret Ts fr lm) {x y : Int32} (d : decode cc pc = .ok (.isub, 1)) (hp : pc + 1 = pc') (kk : G X Q ms L (.int (x - y) :: st) pc') : G X Q ms L (.int y :: .int x :: st) pc := by
  subst hp
  obtain ⟨p, l, e, R, s, m, args, below, meth, c, D, cA, A, H0⟩ := X
  obtain ⟨hx, hb, -⟩ := C
  intro H locs ls hP hD hS hl
  exact lv_isub hx hb d (kk H locs ls hP hD hS hl)
theorem g_imul (C : cx X own cc nL ret Ts fr lm) {x y : Int32} (d : decode cc pc = .ok (.imul, 1)) (hp : pc + 1 = pc') (kk : G X Q ms L (.int (x * y) :: st) pc') : G X Q ms L (.int y :: .int x :: st) pc := by
  subst hp
  obtain ⟨p, l, e, R, s, m, args, below, meth, c, D, cA, A, H0⟩ := X
  obtain ⟨hx, hb, -⟩ := C
  intro H locs ls hP hD hS hl
  exact lv_imul hx hb d (kk H locs ls hP hD hS hl)
theorem g_iand (C : cx X own cc nL ret Ts fr lm) {x y : Int32} (d : decode cc pc = .ok (.iand, 1)) (hp : pc + 1 = pc') (kk : G X Q ms L (.int (x &&& y) :: st) pc') : G X Q ms L (.int y :: .int x :: st) pc := by
  subst hp
  obtain ⟨p, l, e, R, s, m, args, below, meth, c, D, cA, A, H0⟩ := X
  obtain ⟨hx, hb, -⟩ := C
  intro H locs ls hP hD hS hl
  exact lv_iand hx hb d (kk H locs ls hP hD hS hl)
theorem g_ior (C : cx X own cc nL ret Ts fr lm) {x y : Int32} (d : decode cc pc = .ok (.ior, 1)) (hp : pc + 1 = pc') (kk : G X Q ms L (.int (x ||| y) :: st) pc') : G X Q ms L (.int y :: .int x :: st) pc := by
  subst hp
  obtain ⟨p, l, e, R, s, m, args, below, meth, c, D, cA, A, H0⟩ := X
  obtain ⟨hx, hb, -⟩ := C
  intro H locs ls hP hD hS hl
  exact lv_ior hx hb d (kk H locs ls hP hD hS hl)
theorem g_ishl (C : cx X own cc nL ret Ts fr lm) {x y : Int32} (d : decode cc pc = .ok (.ishl, 1)) (hp : pc + 1 = pc') (kk : G X Q ms L (.int (x <<< (y &&& 31)) :: st) pc') : G X Q ms L (.int y :: .int x :: st) pc := by
  subst hp
  obtain ⟨p, l, e, R, s, m, args, below, meth, c, D, cA, A, H0⟩ := X
  obtain ⟨hx, hb, -⟩ := C
  intro H locs ls hP hD hS hl
  exact lv_ishl hx hb d (kk H locs ls hP hD hS hl)
theorem g_ishr (C : cx X own cc nL ret Ts fr lm) {x y : Int32} (d : decode cc pc = .ok (.ishr, 1)) (hp : pc + 1 = pc') (kk : G X Q ms L (.int (x >>> (y &&& 31)) :: st) pc') : G X Q ms L (.int y :: .int x :: st) pc := by
  subst hp
  obtain ⟨p, l, e, R, s, m, args, below, meth, c, D, cA, A, H0⟩ := X
  obtain ⟨hx, hb, -⟩ := C
  intro H locs ls hP hD hS hl
  exact lv_ishr hx hb d (kk H locs ls hP hD hS hl)
theorem g_ineg (C : cx X own cc nL ret Ts fr lm) {x : Int32} (d : decode cc pc = .ok (.ineg, 1)) (hp : pc + 1 = pc') (kk : G X Q ms L (.int (-x) :: st) pc') : G X Q ms L (.int x :: st) pc := by
  subst hp
  obtain ⟨p, l, e, R, s, m, args, below, meth, c, D, cA, A, H0⟩ := X
  obtain ⟨hx, hb, -⟩ := C
  intro H locs ls hP hD hS hl
  exact lv_ineg hx hb d (kk H locs ls hP hD hS hl)
theorem g_i2c (C : cx X own cc nL ret Ts fr lm) {x v : Int32} (d : decode cc pc = .ok (.i2c, 1)) (hv : (x.toUInt32 % 65536).toInt32 = v) (hp : pc + 1 = pc') (kk : G X Q ms L (.int v :: st) pc') : G X Q ms L (.int x :: st) pc := by
  subst hp
  obtain ⟨p, l, e, R, s, m, args, below, meth, c, D, cA, A, H0⟩ := X
  obtain ⟨hx, hb, -⟩ := C
  intro H locs ls hP hD hS hl
  exact lv_i2c hx hb d hv (kk H locs ls hP hD hS hl)
theorem g_dup (C : cx X own cc nL ret Ts fr lm) {z : Value} (d : decode cc pc = .ok (.dup, 1)) (hz : z.category = 1) (hp : pc + 1 = pc') (kk : G X Q ms L (z :: z :: st) pc') : G X Q ms L (z :: st) pc := by
  subst hp
  obtain ⟨p, l, e, R, s, m, args, below, meth, c, D, cA, A, H0⟩ := X
  obtain ⟨hx, hb, -⟩ := C
  intro H locs ls hP hD hS hl
  exact lv_dup hx hb d hz (kk H locs ls hP hD hS hl)
theorem g_pop (C : cx X own cc nL ret Ts fr lm) {z : Value} (d : decode cc pc = .ok (.pop, 1)) (hz : z.category = 1) (hp : pc + 1 = pc') (kk : G X Q ms L (st) pc') : G X Q ms L (z :: st) pc := by
  subst hp
  obtain ⟨p, l, e, R, s, m, args, below, meth, c, D, cA, A, H0⟩ := X
  obtain ⟨hx, hb, -⟩ := C
  intro H locs ls hP hD hS hl
  exact lv_pop hx hb d hz (kk H locs ls hP hD hS hl)
theorem g_dup2 (C : cx X own cc nL ret Ts fr lm) {z y : Value} (d : decode cc pc = .ok (.dup2, 1)) (hz : z.category = 1) (hy : y.category = 1) (hp : pc + 1 = pc') (kk : G X Q ms L (z :: y :: z :: y :: st) pc') : G X Q ms L (z :: y :: st) pc := by
  subst hp
  obtain ⟨p, l, e, R, s, m, args, below, meth, c, D, cA, A, H0⟩ := X
  obtain ⟨hx, hb, -⟩ := C
  intro H locs ls hP hD hS hl
  exact lv_dup2_11 hx hb d hz hy (kk H locs ls hP hD hS hl)
theorem g_idiv (C : cx X own cc nL ret Ts fr lm) {ρ : Type} {T : Option ρ} {res : ρ} {x y : Int32} (d : decode cc pc = .ok (.idiv, 1)) (hp : pc + 1 = pc') (h : (if y = 0 then none else T) = some res) (kk : T = some res → G X Q ms L (.int (x / y) :: st) pc') : G X Q ms L (.int y :: .int x :: st) pc := by
  subst hp
  obtain ⟨hne, h⟩ := og h
  obtain ⟨p, l, e, R, s, m, args, below, meth, c, D, cA, A, H0⟩ := X
  obtain ⟨hx, hb, -⟩ := C
  intro H locs ls hP hD hS hl
  exact lv_idiv hx hb d hne (kk h H locs ls hP hD hS hl)
theorem g_irem (C : cx X own cc nL ret Ts fr lm) {ρ : Type} {T : Option ρ} {res : ρ} {x y : Int32} (d : decode cc pc = .ok (.irem, 1)) (hp : pc + 1 = pc') (h : (if y = 0 then none else T) = some res) (kk : T = some res → G X Q ms L (.int (x - x / y * y) :: st) pc') : G X Q ms L (.int y :: .int x :: st) pc := by
  subst hp
  obtain ⟨hne, h⟩ := og h
  obtain ⟨p, l, e, R, s, m, args, below, meth, c, D, cA, A, H0⟩ := X
  obtain ⟨hx, hb, -⟩ := C
  intro H locs ls hP hD hS hl
  exact lv_irem hx hb d hne (kk h H locs ls hP hD hS hl)
theorem g_istore_n (C : cx X own cc nL ret Ts fr lm) {k : Fin 4} {x : Int32} (d : decode cc pc = .ok (.istore_n k, 1)) (hi : k.val < L.length) (hp : pc + 1 = pc') {L' : List (Option Value)} (hL : L.set k.val (some (.int x)) = L') (kk : G X Q ms L' st pc') : G X Q ms L (.int x :: st) pc := by
  subst hp; subst hL
  obtain ⟨p, l, e, R, s, m, args, below, meth, c, D, cA, A, H0⟩ := X
  obtain ⟨hx, hb, -⟩ := C
  intro H locs ls hP hD hS hl
  exact lv_istore_n hx hb d rfl hl.has hi rfl (fun ls' h' => kk H locs ls' hP hD hS (hl.set rfl hi h'))
theorem g_istore (C : cx X own cc nL ret Ts fr lm) {k : Nat} {x : Int32} (d : decode cc pc = .ok (.istore k, 2)) (hi : k < L.length) (hp : pc + 2 = pc') {L' : List (Option Value)} (hL : L.set k (some (.int x)) = L') (kk : G X Q ms L' st pc') : G X Q ms L (.int x :: st) pc := by
  subst hp; subst hL
  obtain ⟨p, l, e, R, s, m, args, below, meth, c, D, cA, A, H0⟩ := X
  obtain ⟨hx, hb, -⟩ := C
  intro H locs ls hP hD hS hl
  exact lv_istore hx hb d hl.has hi rfl (fun ls' h' => kk H locs ls' hP hD hS (hl.set rfl hi h'))
theorem g_astore_n (C : cx X own cc nL ret Ts fr lm) {k : Fin 4} {x : Nat} (d : decode cc pc = .ok (.astore_n k, 1)) (hi : k.val < L.length) (hp : pc + 1 = pc') {L' : List (Option Value)} (hL : L.set k.val (some (.ref x)) = L') (kk : G X Q ms L' st pc') : G X Q ms L (.ref x :: st) pc := by
  subst hp; subst hL
  obtain ⟨p, l, e, R, s, m, args, below, meth, c, D, cA, A, H0⟩ := X
  obtain ⟨hx, hb, -⟩ := C
  intro H locs ls hP hD hS hl
  exact lv_astore_n hx hb d rfl hl.has hi rfl (fun ls' h' => kk H locs ls' hP hD hS (hl.set rfl hi h'))
theorem g_iinc (C : cx X own cc nL ret Ts fr lm) {k : Nat} {n : Int} {x v : Int32} (d : decode cc pc = .ok (.iinc k n, 3)) (hx0 : L[k]? = some (some (.int x))) (hv : x + Int32.ofInt n = v) (hp : pc + 3 = pc') {L' : List (Option Value)} (hL : L.set k (some (.int v)) = L') (kk : G X Q ms L' st pc') : G X Q ms L st pc := by
  subst hp; subst hL
  obtain ⟨p, l, e, R, s, m, args, below, meth, c, D, cA, A, H0⟩ := X
  obtain ⟨hx, hb, -⟩ := C
  intro H locs ls hP hD hS hl
  obtain ⟨i, hi⟩ := List.getElem?_of_mem (lo_mem.mpr hx0)
  have hk := (List.getElem?_eq_some_iff.mp hx0).1
  exact lv_iinc hx hb d hl.has hi hv hk rfl (fun ls' h' => kk H locs ls' hP hD hS (hl.set rfl hk h'))
theorem g_goto (C : cx X own cc nL ret Ts fr lm) {off : Int} (d : decode cc pc = .ok (.goto off, 3)) (ht : (pc : Int) + off = (pc' : Int)) (kk : G X Q ms L st pc') : G X Q ms L st pc := by
  obtain ⟨p, l, e, R, s, m, args, below, meth, c, D, cA, A, H0⟩ := X
  obtain ⟨hx, hb, -⟩ := C
  intro H locs ls hP hD hS hl
  exact lv_goto hx hb d ht (kk H locs ls hP hD hS hl)
theorem g_icmp_eq (C : cx X own cc nL ret Ts fr lm) {ρ : Type} {T F : Option ρ} {res : ρ} {x y : Int32} {off : Int} {tgt : Nat} (d : decode cc pc = .ok (.if_icmp .eq off, 3)) (ht : (pc : Int) + off = (tgt : Int)) (hp : pc + 3 = pc') (h : (if x = y then T else F) = some res) (kt : x = y → T = some res → G X Q ms L st tgt) (kf : ¬ x = y → F = some res → G X Q ms L st pc') : G X Q ms L (.int y :: .int x :: st) pc := by
  subst hp
  obtain ⟨p, l, e, R, s, m, args, below, meth, c, D, cA, A, H0⟩ := X
  obtain ⟨hx, hb, -⟩ := C
  intro H locs ls hP hD hS hl
  exact lv_icmp_eq hx hb d ht (fun q => kt q ((if_pos q).symm.trans h) H locs ls hP hD hS hl) (fun q => kf q ((if_neg q).symm.trans h) H locs ls hP hD hS hl)
theorem g_icmp_ne (C : cx X own cc nL ret Ts fr lm) {ρ : Type} {T F : Option ρ} {res : ρ} {x y : Int32} {off : Int} {tgt : Nat} (d : decode cc pc = .ok (.if_icmp .ne off, 3)) (ht : (pc : Int) + off = (tgt : Int)) (hp : pc + 3 = pc') (h : (if x = y then T else F) = some res) (kt : x = y → T = some res → G X Q ms L st pc') (kf : ¬ x = y → F = some res → G X Q ms L st tgt) : G X Q ms L (.int y :: .int x :: st) pc := by
  subst hp
  obtain ⟨p, l, e, R, s, m, args, below, meth, c, D, cA, A, H0⟩ := X
  obtain ⟨hx, hb, -⟩ := C
  intro H locs ls hP hD hS hl
  exact lv_icmp_ne hx hb d ht (fun q => kf q ((if_neg q).symm.trans h) H locs ls hP hD hS hl) (fun q => kt q ((if_pos q).symm.trans h) H locs ls hP hD hS hl)
theorem g_icmp_lt (C : cx X own cc nL ret Ts fr lm) {ρ : Type} {T F : Option ρ} {res : ρ} {x y : Int32} {off : Int} {tgt : Nat} (d : decode cc pc = .ok (.if_icmp .lt off, 3)) (ht : (pc : Int) + off = (tgt : Int)) (hp : pc + 3 = pc') (h : (if x < y then T else F) = some res) (kt : x < y → T = some res → G X Q ms L st tgt) (kf : ¬ x < y → F = some res → G X Q ms L st pc') : G X Q ms L (.int y :: .int x :: st) pc := by
  subst hp
  obtain ⟨p, l, e, R, s, m, args, below, meth, c, D, cA, A, H0⟩ := X
  obtain ⟨hx, hb, -⟩ := C
  intro H locs ls hP hD hS hl
  exact lv_icmp_lt hx hb d ht (fun q => kt q ((if_pos q).symm.trans h) H locs ls hP hD hS hl) (fun q => kf q ((if_neg q).symm.trans h) H locs ls hP hD hS hl)
theorem g_icmp_ge (C : cx X own cc nL ret Ts fr lm) {ρ : Type} {T F : Option ρ} {res : ρ} {x y : Int32} {off : Int} {tgt : Nat} (d : decode cc pc = .ok (.if_icmp .ge off, 3)) (ht : (pc : Int) + off = (tgt : Int)) (hp : pc + 3 = pc') (h : (if y ≤ x then T else F) = some res) (kt : y ≤ x → T = some res → G X Q ms L st tgt) (kf : ¬ y ≤ x → F = some res → G X Q ms L st pc') : G X Q ms L (.int y :: .int x :: st) pc := by
  subst hp
  obtain ⟨p, l, e, R, s, m, args, below, meth, c, D, cA, A, H0⟩ := X
  obtain ⟨hx, hb, -⟩ := C
  intro H locs ls hP hD hS hl
  exact lv_icmp_ge hx hb d ht (fun q => kt q ((if_pos q).symm.trans h) H locs ls hP hD hS hl) (fun q => kf q ((if_neg q).symm.trans h) H locs ls hP hD hS hl)
theorem g_icmp_gt (C : cx X own cc nL ret Ts fr lm) {ρ : Type} {T F : Option ρ} {res : ρ} {x y : Int32} {off : Int} {tgt : Nat} (d : decode cc pc = .ok (.if_icmp .gt off, 3)) (ht : (pc : Int) + off = (tgt : Int)) (hp : pc + 3 = pc') (h : (if y < x then T else F) = some res) (kt : y < x → T = some res → G X Q ms L st tgt) (kf : ¬ y < x → F = some res → G X Q ms L st pc') : G X Q ms L (.int y :: .int x :: st) pc := by
  subst hp
  obtain ⟨p, l, e, R, s, m, args, below, meth, c, D, cA, A, H0⟩ := X
  obtain ⟨hx, hb, -⟩ := C
  intro H locs ls hP hD hS hl
  exact lv_icmp_gt hx hb d ht (fun q => kt q ((if_pos q).symm.trans h) H locs ls hP hD hS hl) (fun q => kf q ((if_neg q).symm.trans h) H locs ls hP hD hS hl)
theorem g_icmp_le (C : cx X own cc nL ret Ts fr lm) {ρ : Type} {T F : Option ρ} {res : ρ} {x y : Int32} {off : Int} {tgt : Nat} (d : decode cc pc = .ok (.if_icmp .le off, 3)) (ht : (pc : Int) + off = (tgt : Int)) (hp : pc + 3 = pc') (h : (if x ≤ y then T else F) = some res) (kt : x ≤ y → T = some res → G X Q ms L st tgt) (kf : ¬ x ≤ y → F = some res → G X Q ms L st pc') : G X Q ms L (.int y :: .int x :: st) pc := by
  subst hp
  obtain ⟨p, l, e, R, s, m, args, below, meth, c, D, cA, A, H0⟩ := X
  obtain ⟨hx, hb, -⟩ := C
  intro H locs ls hP hD hS hl
  exact lv_icmp_le hx hb d ht (fun q => kt q ((if_pos q).symm.trans h) H locs ls hP hD hS hl) (fun q => kf q ((if_neg q).symm.trans h) H locs ls hP hD hS hl)
theorem g_if_eq (C : cx X own cc nL ret Ts fr lm) {ρ : Type} {T F : Option ρ} {res : ρ} {x : Int32} {off : Int} {tgt : Nat} (d : decode cc pc = .ok (.ifCond .eq off, 3)) (ht : (pc : Int) + off = (tgt : Int)) (hp : pc + 3 = pc') (h : (if x = 0 then T else F) = some res) (kt : x = 0 → T = some res → G X Q ms L st tgt) (kf : ¬ x = 0 → F = some res → G X Q ms L st pc') : G X Q ms L (.int x :: st) pc := by
  subst hp
  obtain ⟨p, l, e, R, s, m, args, below, meth, c, D, cA, A, H0⟩ := X
  obtain ⟨hx, hb, -⟩ := C
  intro H locs ls hP hD hS hl
  exact lv_if_eq hx hb d ht (fun q => kt q ((if_pos q).symm.trans h) H locs ls hP hD hS hl) (fun q => kf q ((if_neg q).symm.trans h) H locs ls hP hD hS hl)
theorem g_if_ne (C : cx X own cc nL ret Ts fr lm) {ρ : Type} {T F : Option ρ} {res : ρ} {x : Int32} {off : Int} {tgt : Nat} (d : decode cc pc = .ok (.ifCond .ne off, 3)) (ht : (pc : Int) + off = (tgt : Int)) (hp : pc + 3 = pc') (h : (if x = 0 then T else F) = some res) (kt : x = 0 → T = some res → G X Q ms L st pc') (kf : ¬ x = 0 → F = some res → G X Q ms L st tgt) : G X Q ms L (.int x :: st) pc := by
  subst hp
  obtain ⟨p, l, e, R, s, m, args, below, meth, c, D, cA, A, H0⟩ := X
  obtain ⟨hx, hb, -⟩ := C
  intro H locs ls hP hD hS hl
  exact lv_if_ne hx hb d ht (fun q => kf q ((if_neg q).symm.trans h) H locs ls hP hD hS hl) (fun q => kt q ((if_pos q).symm.trans h) H locs ls hP hD hS hl)
theorem g_if_lt (C : cx X own cc nL ret Ts fr lm) {ρ : Type} {T F : Option ρ} {res : ρ} {x : Int32} {off : Int} {tgt : Nat} (d : decode cc pc = .ok (.ifCond .lt off, 3)) (ht : (pc : Int) + off = (tgt : Int)) (hp : pc + 3 = pc') (h : (if x < 0 then T else F) = some res) (kt : x < 0 → T = some res → G X Q ms L st tgt) (kf : ¬ x < 0 → F = some res → G X Q ms L st pc') : G X Q ms L (.int x :: st) pc := by
  subst hp
  obtain ⟨p, l, e, R, s, m, args, below, meth, c, D, cA, A, H0⟩ := X
  obtain ⟨hx, hb, -⟩ := C
  intro H locs ls hP hD hS hl
  exact lv_if_lt hx hb d ht (fun q => kt q ((if_pos q).symm.trans h) H locs ls hP hD hS hl) (fun q => kf q ((if_neg q).symm.trans h) H locs ls hP hD hS hl)
theorem g_if_ge (C : cx X own cc nL ret Ts fr lm) {ρ : Type} {T F : Option ρ} {res : ρ} {x : Int32} {off : Int} {tgt : Nat} (d : decode cc pc = .ok (.ifCond .ge off, 3)) (ht : (pc : Int) + off = (tgt : Int)) (hp : pc + 3 = pc') (h : (if 0 ≤ x then T else F) = some res) (kt : 0 ≤ x → T = some res → G X Q ms L st tgt) (kf : ¬ 0 ≤ x → F = some res → G X Q ms L st pc') : G X Q ms L (.int x :: st) pc := by
  subst hp
  obtain ⟨p, l, e, R, s, m, args, below, meth, c, D, cA, A, H0⟩ := X
  obtain ⟨hx, hb, -⟩ := C
  intro H locs ls hP hD hS hl
  exact lv_if_ge hx hb d ht (fun q => kt q ((if_pos q).symm.trans h) H locs ls hP hD hS hl) (fun q => kf q ((if_neg q).symm.trans h) H locs ls hP hD hS hl)
theorem g_if_gt (C : cx X own cc nL ret Ts fr lm) {ρ : Type} {T F : Option ρ} {res : ρ} {x : Int32} {off : Int} {tgt : Nat} (d : decode cc pc = .ok (.ifCond .gt off, 3)) (ht : (pc : Int) + off = (tgt : Int)) (hp : pc + 3 = pc') (h : (if 0 < x then T else F) = some res) (kt : 0 < x → T = some res → G X Q ms L st tgt) (kf : ¬ 0 < x → F = some res → G X Q ms L st pc') : G X Q ms L (.int x :: st) pc := by
  subst hp
  obtain ⟨p, l, e, R, s, m, args, below, meth, c, D, cA, A, H0⟩ := X
  obtain ⟨hx, hb, -⟩ := C
  intro H locs ls hP hD hS hl
  exact lv_if_gt hx hb d ht (fun q => kt q ((if_pos q).symm.trans h) H locs ls hP hD hS hl) (fun q => kf q ((if_neg q).symm.trans h) H locs ls hP hD hS hl)
theorem g_if_le (C : cx X own cc nL ret Ts fr lm) {ρ : Type} {T F : Option ρ} {res : ρ} {x : Int32} {off : Int} {tgt : Nat} (d : decode cc pc = .ok (.ifCond .le off, 3)) (ht : (pc : Int) + off = (tgt : Int)) (hp : pc + 3 = pc') (h : (if x ≤ 0 then T else F) = some res) (kt : x ≤ 0 → T = some res → G X Q ms L st tgt) (kf : ¬ x ≤ 0 → F = some res → G X Q ms L st pc') : G X Q ms L (.int x :: st) pc := by
  subst hp
  obtain ⟨p, l, e, R, s, m, args, below, meth, c, D, cA, A, H0⟩ := X
  obtain ⟨hx, hb, -⟩ := C
  intro H locs ls hP hD hS hl
  exact lv_if_le hx hb d ht (fun q => kt q ((if_pos q).symm.trans h) H locs ls hP hD hS hl) (fun q => kf q ((if_neg q).symm.trans h) H locs ls hP hD hS hl)
theorem g_tabOut (C : cx X own cc nL ret Ts fr lm) {dflt lo hi : Int} {offs : Array Int} {len : Nat} {x : Int32} (d : decode cc pc = .ok (.tableswitch dflt lo hi offs, len)) (h : x.toInt < lo ∨ hi < x.toInt) (ht : (pc : Int) + dflt = (pc' : Int)) (kk : G X Q ms L st pc') : G X Q ms L (.int x :: st) pc := by
  obtain ⟨p, l, e, R, s, m, args, below, meth, c, D, cA, A, H0⟩ := X
  obtain ⟨hx, hb, -⟩ := C
  intro H locs ls hP hD hS hl
  exact lv_tableOut hx hb d h ht (kk H locs ls hP hD hS hl)
theorem g_tabIn (C : cx X own cc nL ret Ts fr lm) {dflt lo hi : Int} {offs : Array Int} {len : Nat} {x : Int32} {off : Int} (d : decode cc pc = .ok (.tableswitch dflt lo hi offs, len)) (h1 : ¬ x.toInt < lo) (h2 : ¬ hi < x.toInt) (ho : offs[(x.toInt - lo).toNat]? = some off) (ht : (pc : Int) + off = (pc' : Int)) (kk : G X Q ms L st pc') : G X Q ms L (.int x :: st) pc := by
  obtain ⟨p, l, e, R, s, m, args, below, meth, c, D, cA, A, H0⟩ := X
  obtain ⟨hx, hb, -⟩ := C
  intro H locs ls hP hD hS hl
  exact lv_tableIn hx hb d h1 h2 ho ht (kk H locs ls hP hD hS hl)
theorem g_look (C : cx X own cc nL ret Ts fr lm) {dflt : Int} {ps : Array (Int × Int)} {len : Nat} {x : Int32} {off : Int} (d : decode cc pc = .ok (.lookupswitch dflt ps, len)) (hq : (ps.toList.zip (ps.toList.drop 1)).all (fun (a, next) => a.1 < next.1) = true) (ho : Op.lookupswitch.offset ps.toList dflt x.toInt = off) (ht : (pc : Int) + off = (pc' : Int)) (kk : G X Q ms L st pc') : G X Q ms L (.int x :: st) pc := by
  obtain ⟨p, l, e, R, s, m, args, below, meth, c, D, cA, A, H0⟩ := X
  obtain ⟨hx, hb, -⟩ := C
  intro H locs ls hP hD hS hl
  exact lv_lookup hx hb d hq ho ht (kk H locs ls hP hD hS hl)
theorem G_get (C : cx X own cc nL ret Ts fr lm) {i j k N ci idx : Nat} {w : va_W} {a : Nat} {fs : List Value} {v : Value} {Cn : String} {T : u_T} (hm : ms[i]? = some w) (hw : w[j]? = some (a, .inr (ci, fs))) (hc : vwCl[ci]? = some (Cn, T, N)) (hk : k < N) (hv : fs[k]? = some v) (hin : ∀ w ∈ u_ws Cn T N, w ∈ Ts) (hlink : Cond.fieldLink own idx (T k).1 (T k).2.1 (T k).2.2.1 ∈ Ts) (d : decode cc pc = .ok (.getfield idx, 3)) (hp : pc + 3 = pc') (kk : G X Q ms L (v :: st) pc') : G X Q ms L (.ref a :: st) pc := by
  subst hp
  obtain ⟨p, l, e, R, s, m, args, below, meth, c, D, cA, A, H0⟩ := X
  obtain ⟨hx, hb, -, -, hown, hts, -, hK, -⟩ := C
  intro H locs ls hP hD hS hl
  obtain ⟨q, hq, -⟩ := fl_at hm hw
  exact va_get hx hb hts hin hown hK hP q hq hc k hk (hts _ hlink) (fun _ h9 => h9) hv d (kk H locs ls hP hD hS hl)
theorem G_put (C : cx X own cc nL ret Ts fr lm) {i j k N ci idx : Nat} {w w' : va_W} {a : Nat} {fs : List Value} {v : Value} {Cn : String} {T : u_T} {ty : FieldType} {ty0 : Nat → FieldType} (hm : ms[i]? = some w) (hw : w[j]? = some (a, .inr (ci, fs))) (hc : vwCl[ci]? = some (Cn, T, N)) (hk : k < N) (hl0 : k < fs.length) (hw' : w.set j (a, .inr (ci, fs.set k v)) = w') (hty : ∀ k, k < N → parseFieldDescriptor (T k).2.2.1 = some (ty0 k)) (hnm : ∀ a, a < N → ∀ b, b < N → a ≠ b → (T a).2.1 ≠ (T b).2.1) (hfin : (T k).2.2.2 = false) (hd : parseFieldDescriptor (T k).2.2.1 = some ty) (hn : narrow ty v = v) (hfit : fits ty v = true) (hin : ∀ w ∈ u_ws Cn T N, w ∈ Ts) (hlink : Cond.fieldLink own idx (T k).1 (T k).2.1 (T k).2.2.1 ∈ Ts) (d : decode cc pc = .ok (.putfield idx, 3)) (hp : pc + 3 = pc') (kk : G X Q (ms.set i w') L st pc') : G X Q ms L (v :: .ref a :: st) pc := by
  subst hp; subst hw'
  obtain ⟨p, l, e, R, s, m, args, below, meth, c, D, cA, A, H0⟩ := X
  obtain ⟨hx, hb, -, -, hown, hts, -, hK, -⟩ := C
  intro H locs ls hP hD hS hl
  obtain ⟨q, hq, hset⟩ := fl_at hm hw
  refine va_put hx hb hts hin ty0 hty hnm hown hK hP hD hS q hq hc k hk (hts _ hlink) (fun _ h9 => h9) hfin hd hn hfit hl0 d (fun H1 locs1 hP1 hD1 hS1 => ?_)
  rw [hset] at hP1 hD1
  exact kk H1 locs1 ls hP1 hD1 hS1 hl
theorem g_iald (C : cx X own cc nL ret Ts fr lm) {ρ : Type} {T : Option ρ} {res : ρ} {i j a n : Nat} {w : va_W} {f : Nat → Int32} {x : Int32} (hm : ms[i]? = some w) (hw : w[j]? = some (a, .inl (gcA X 0, n, .inl f))) (d : decode cc pc = .ok (.iaload, 1)) (hp : pc + 1 = pc') (h : (if x < 0 ∨ n ≤ x.toNatClampNeg then none else T) = some res) (kk : T = some res → G X Q ms L (.int (f x.toNatClampNeg) :: st) pc') : G X Q ms L (.int x :: .ref a :: st) pc := by
  subst hp
  obtain ⟨hg, h⟩ := og h
  obtain ⟨p, l, e, R, s, m, args, below, meth, c, D, cA, A, H0⟩ := X
  obtain ⟨hx, hb, -, -, hown, hts, -, hK, -⟩ := C
  intro H locs ls hP hD hS hl
  obtain ⟨q, hq, -⟩ := fl_at hm hw
  exact va_iald hx hb hK hP q 0 hq rfl hg d (kk h H locs ls hP hD hS hl)
theorem g_iald0 (C : cx X own cc nL ret Ts fr lm) {i j a n : Nat} {w : va_W} {f : Nat → Int32} {x : Int32} (hm : ms[i]? = some w) (hw : w[j]? = some (a, .inl (gcA X 0, n, .inl f))) (d : decode cc pc = .ok (.iaload, 1)) (hp : pc + 1 = pc') (hg : vp_in x n) (kk : G X Q ms L (.int (f x.toNatClampNeg) :: st) pc') : G X Q ms L (.int x :: .ref a :: st) pc := by
  subst hp
  obtain ⟨p, l, e, R, s, m, args, below, meth, c, D, cA, A, H0⟩ := X
  obtain ⟨hx, hb, -, -, hown, hts, -, hK, -⟩ := C
  intro H locs ls hP hD hS hl
  obtain ⟨q, hq, -⟩ := fl_at hm hw
  exact va_iald hx hb hK hP q 0 hq rfl hg d (kk H locs ls hP hD hS hl)
theorem g_cald (C : cx X own cc nL ret Ts fr lm) {ρ : Type} {T : Option ρ} {res : ρ} {i j a n : Nat} {w : va_W} {f : Nat → Int32} {x : Int32} (hm : ms[i]? = some w) (hw : w[j]? = some (a, .inl (gcA X 1, n, .inl f))) (d : decode cc pc = .ok (.caload, 1)) (hp : pc + 1 = pc') (h : (if x < 0 ∨ n ≤ x.toNatClampNeg then none else T) = some res) (kk : T = some res → G X Q ms L (.int (f x.toNatClampNeg) :: st) pc') : G X Q ms L (.int x :: .ref a :: st) pc := by
  subst hp
  obtain ⟨hg, h⟩ := og h
  obtain ⟨p, l, e, R, s, m, args, below, meth, c, D, cA, A, H0⟩ := X
  obtain ⟨hx, hb, -, -, hown, hts, -, hK, -⟩ := C
  intro H locs ls hP hD hS hl
  obtain ⟨q, hq, -⟩ := fl_at hm hw
  exact va_cald hx hb hK hP q 1 hq rfl hg d (kk h H locs ls hP hD hS hl)
theorem g_iast (C : cx X own cc nL ret Ts fr lm) {ρ : Type} {T : Option ρ} {res : ρ} {i j a n : Nat} {w w' : va_W} {f : Nat → Int32} {x y : Int32} (hm : ms[i]? = some w) (hw : w[j]? = some (a, .inl (gcA X 0, n, .inl f))) (hw' : w.set j (a, .inl (gcA X 0, n, .inl (upd f x.toNatClampNeg y))) = w') (d : decode cc pc = .ok (.iastore, 1)) (hp : pc + 1 = pc') (h : (if x < 0 ∨ n ≤ x.toNatClampNeg then none else T) = some res) (kk : T = some res → G X Q (ms.set i w') L st pc') : G X Q ms L (.int y :: .int x :: .ref a :: st) pc := by
  subst hp; subst hw'
  obtain ⟨hg, h⟩ := og h
  obtain ⟨p, l, e, R, s, m, args, below, meth, c, D, cA, A, H0⟩ := X
  obtain ⟨hx, hb, -, -, hown, hts, -, hK, -⟩ := C
  intro H locs ls hP hD hS hl
  obtain ⟨q, hq, hset⟩ := fl_at hm hw
  refine va_iast hx hb hK hP hD hS q 0 hq rfl hg d (fun H1 locs1 hP1 hD1 hS1 => ?_)
  rw [hset] at hP1 hD1
  exact kk h H1 locs1 ls hP1 hD1 hS1 hl
theorem g_cast (C : cx X own cc nL ret Ts fr lm) {ρ : Type} {T : Option ρ} {res : ρ} {i j a n : Nat} {w w' : va_W} {f : Nat → Int32} {x y : Int32} (hm : ms[i]? = some w) (hw : w[j]? = some (a, .inl (gcA X 1, n, .inl f))) (hw' : w.set j (a, .inl (gcA X 1, n, .inl (upd f x.toNatClampNeg (vp_nar .char y)))) = w') (d : decode cc pc = .ok (.castore, 1)) (hp : pc + 1 = pc') (h : (if x < 0 ∨ n ≤ x.toNatClampNeg then none else T) = some res) (kk : T = some res → G X Q (ms.set i w') L st pc') : G X Q ms L (.int y :: .int x :: .ref a :: st) pc := by
  subst hp; subst hw'
  obtain ⟨hg, h⟩ := og h
  obtain ⟨p, l, e, R, s, m, args, below, meth, c, D, cA, A, H0⟩ := X
  obtain ⟨hx, hb, -, -, hown, hts, -, hK, -⟩ := C
  intro H locs ls hP hD hS hl
  obtain ⟨q, hq, hset⟩ := fl_at hm hw
  refine va_cast hx hb hK hP hD hS q 1 hq rfl hg d (fun H1 locs1 hP1 hD1 hS1 => ?_)
  rw [hset] at hP1 hD1
  exact kk h H1 locs1 ls hP1 hD1 hS1 hl
theorem g_iret (C : cx X own cc nL (some .int) Ts fr lm) {r : Int32} (d : decode cc pc = .ok (.ireturn, 1)) : G X (QI X r ms) ms L [.int r] pc := by
  obtain ⟨p, l, e, R, s, m, args, below, meth, c, D, cA, A, H0⟩ := X
  obtain ⟨hx, hb, -, hr, hown, hts, hlk, hK, -, -, -, h0⟩ := C
  intro H locs ls hP hD hS hl
  subst h0
  exact W.iret hx hb hr (fun t ht hW => ⟨⟨r, (), rfl, rfl, by show va_P D vwCl ms.flatten t.heap; rw [ht]; exact hP⟩, hS.F ht⟩) hS.2.2 d hlk
theorem g_zret (C : cx X own cc nL (some .boolean) Ts fr lm) {ρ : Type} {T : Option ρ} {res : ρ} {r : Int32} (h : (if ¬ (r = 0 ∨ r = 1) then none else T) = some res) (d : decode cc pc = .ok (.ireturn, 1)) : G X (QI X r ms) ms L [.int r] pc := by
  obtain ⟨hg, h⟩ := og h
  have hg : r = 0 ∨ r = 1 := Decidable.not_not.mp hg
  have hn : narrow .boolean (.int r) = .int r := by rcases hg with rfl | rfl <;> rfl
  obtain ⟨p, l, e, R, s, m, args, below, meth, c, D, cA, A, H0⟩ := X
  obtain ⟨hx, hb, -, hr, hown, hts, hlk, hK, -, -, -, h0⟩ := C
  intro H locs ls hP hD hS hl
  subst h0
  exact W.zret hx hb hr hn (fun t ht hW => ⟨⟨r, (), rfl, rfl, by show va_P D vwCl ms.flatten t.heap; rw [ht]; exact hP⟩, hS.F ht⟩) hS.2.2 d hlk
theorem g_zret0 (C : cx X own cc nL (some .boolean) Ts fr lm) {r : Int32} (hn : narrow .boolean (.int r) = .int r) (d : decode cc pc = .ok (.ireturn, 1)) : G X (QI X r ms) ms L [.int r] pc := by
  obtain ⟨p, l, e, R, s, m, args, below, meth, c, D, cA, A, H0⟩ := X
  obtain ⟨hx, hb, -, hr, hown, hts, hlk, hK, -, -, -, h0⟩ := C
  intro H locs ls hP hD hS hl
  subst h0
  exact W.zret hx hb hr hn (fun t ht hW => ⟨⟨r, (), rfl, rfl, by show va_P D vwCl ms.flatten t.heap; rw [ht]; exact hP⟩, hS.F ht⟩) hS.2.2 d hlk
theorem g_vret (C : cx X own cc nL none Ts fr lm) (d : decode cc pc = .ok (.return_, 1)) : G X (QV X ms) ms L [] pc := by
  obtain ⟨p, l, e, R, s, m, args, below, meth, c, D, cA, A, H0⟩ := X
  obtain ⟨hx, hb, -, hr, hown, hts, hlk, hK, -, -, -, h0⟩ := C
  intro H locs ls hP hD hS hl
  subst h0
  exact W.vret hx hb hr (fun t ht hW => ⟨⟨(), rfl, trivial, by show va_P D vwCl ms.flatten t.heap; rw [ht]; exact hP⟩, hS.F ht⟩) hS.2.2 d hlk
end GI
end
section
/-! calls: the callee's modules are cut out by their places, and put back -/
def adr (ms : List va_W) : List (List Nat) := ms.map (fun w => w.map Prod.fst)
theorem D_adr {A : Nat → Prop} {w w' : va_W} (h : w'.map Prod.fst = w.map Prod.fst) (hD : va_D A w) : va_D A w' := by
  have key : ∀ (k : Nat) (q : Nat × va_E), w'[k]? = some q → ∃ q0 : Nat × va_E, w[k]? = some q0 ∧ q0.1 = q.1 := by
    intro k q hq
    have h1 : (w'.map Prod.fst)[k]? = some q.1 := by rw [List.getElem?_map, hq]; rfl
    rw [h, List.getElem?_map] at h1
    cases hw : w[k]? with
    | none => rw [hw] at h1; cases h1
    | some q0 => rw [hw] at h1; exact ⟨q0, rfl, Option.some.inj h1⟩
  refine ⟨fun i j p q hi hj e => ?_, fun k q hk => ?_⟩
  · obtain ⟨p0, a1, a2⟩ := key i p hi
    obtain ⟨q0, b1, b2⟩ := key j q hj
    exact hD.1 i j p0 q0 a1 b1 (a2.trans (e.trans b2.symm))
  · obtain ⟨q0, a1, a2⟩ := key k q hk
    rw [← a2]
    exact hD.2 k q0 a1
theorem adr_fl {ms ms' : List va_W} (h : adr ms' = adr ms) : ms'.flatten.map Prod.fst = ms.flatten.map Prod.fst := by
  rw [List.map_flatten, List.map_flatten]
  exact congrArg List.flatten h
theorem P_mem {D : va_G} {cl : List vw_C} {ws : va_W} {H : Heap} : va_P D cl ws H ↔ ∀ x ∈ ws, va_at D cl x H := by
  constructor
  · intro h x hx
    obtain ⟨k, hk⟩ := List.getElem?_of_mem hx
    exact h k x hk
  · intro h k x hk
    exact h x (List.mem_of_getElem? hk)
theorem D_left {A : Nat → Prop} {a b : va_W} (h : va_D A (a ++ b)) : va_D A a := by
  have key : ∀ (k : Nat) (q : Nat × va_E), a[k]? = some q → (a ++ b)[k]? = some q := fun k q hk => by
    rw [List.getElem?_append_left (List.getElem?_eq_some_iff.mp hk).1]; exact hk
  exact ⟨fun i j p q hi hj e => h.1 i j p q (key i p hi) (key j q hj) e, fun k q hk => h.2 k q (key k q hk)⟩
theorem D_right {A : Nat → Prop} {a b : va_W} (h : va_D A (a ++ b)) : va_D A b := by
  have key : ∀ (k : Nat) (q : Nat × va_E), b[k]? = some q → (a ++ b)[a.length + k]? = some q := fun k q hk => by
    rw [List.getElem?_append_right (by omega), Nat.add_sub_cancel_left]; exact hk
  exact ⟨fun i j p q hi hj e => by have := h.1 _ _ p q (key i p hi) (key j q hj) e; omega, fun k q hk => h.2 _ q (key k q hk)⟩
theorem D_apart {A : Nat → Prop} {a b : va_W} (h : va_D A (a ++ b)) {x y : Nat × va_E} (hx : x ∈ a) (hy : y ∈ b) : x.1 ≠ y.1 := by
  intro e
  obtain ⟨i, hi⟩ := List.getElem?_of_mem hx
  obtain ⟨j, hj⟩ := List.getElem?_of_mem hy
  have hl := (List.getElem?_eq_some_iff.mp hi).1
  have h1 : (a ++ b)[i]? = some x := by rw [List.getElem?_append_left hl]; exact hi
  have h2 : (a ++ b)[a.length + j]? = some y := by rw [List.getElem?_append_right (by omega), Nat.add_sub_cancel_left]; exact hj
  have := h.1 _ _ x y h1 h2 e
  omega
theorem PD_of : ∀ {A : Nat → Prop} {ms : List va_W}, va_D A ms.flatten → (∀ (i : Nat) (w : va_W), ms[i]? = some w → va_D A w) ∧ (∀ (i j : Nat) (w v : va_W), i ≠ j → ms[i]? = some w → ms[j]? = some v → ∀ x ∈ w, ∀ y ∈ v, x.1 ≠ y.1)
  | A, [], _ => ⟨fun i w h => by simp at h, fun i j w v _ h => by simp at h⟩
  | A, w0 :: ms, h => by
    rw [List.flatten_cons] at h
    obtain ⟨h1, h2⟩ := PD_of (D_right h)
    have far : ∀ (j : Nat) (v : va_W), ms[j]? = some v → ∀ x ∈ w0, ∀ y ∈ v, x.1 ≠ y.1 := fun j v hj x hx y hy => D_apart h hx (List.mem_flatten.mpr ⟨v, List.mem_of_getElem? hj, hy⟩)
    refine ⟨fun i w hi => ?_, fun i j w v hne hi hj x hx y hy => ?_⟩
    · cases i with
      | zero => rw [List.getElem?_cons_zero] at hi; cases hi; exact D_left h
      | succ i => rw [List.getElem?_cons_succ] at hi; exact h1 i w hi
    · cases i with
      | zero =>
        rw [List.getElem?_cons_zero] at hi; cases hi
        cases j with
        | zero => exact absurd rfl hne
        | succ j => rw [List.getElem?_cons_succ] at hj; exact far j v hj x hx y hy
      | succ i =>
        rw [List.getElem?_cons_succ] at hi
        cases j with
        | zero => rw [List.getElem?_cons_zero] at hj; cases hj; exact fun e => far i w hi y hy x hx e.symm
        | succ j => rw [List.getElem?_cons_succ] at hj; exact h2 i j w v (fun e => hne (by rw [e])) hi hj x hx y hy
theorem of_PD : ∀ {A : Nat → Prop} {ms : List va_W}, (∀ (i : Nat) (w : va_W), ms[i]? = some w → va_D A w) → (∀ (i j : Nat) (w v : va_W), i ≠ j → ms[i]? = some w → ms[j]? = some v → ∀ x ∈ w, ∀ y ∈ v, x.1 ≠ y.1) → va_D A ms.flatten
  | A, [], _, _ => ⟨fun i j p q h => by simp at h, fun k q h => by simp at h⟩
  | A, w0 :: ms, h1, h2 => by
    rw [List.flatten_cons]
    refine va_D.app (h1 0 w0 rfl) (of_PD (fun i w hi => h1 (i + 1) w (by rw [List.getElem?_cons_succ]; exact hi)) (fun i j w v hne hi hj => h2 (i + 1) (j + 1) w v (fun e => hne (by omega)) (by rw [List.getElem?_cons_succ]; exact hi) (by rw [List.getElem?_cons_succ]; exact hj))) (fun i j p q hi hj => ?_)
    obtain ⟨v, hv, hq⟩ := List.mem_flatten.mp (List.mem_of_getElem? hj)
    obtain ⟨k, hk⟩ := List.getElem?_of_mem hv
    exact h2 0 (k + 1) w0 v (by omega) rfl (by rw [List.getElem?_cons_succ]; exact hk) p (List.mem_of_getElem? hi) q hq
def rpl : List va_W → List Nat → List va_W → List va_W
  | ms, i :: is, w :: ws => rpl (ms.set i w) is ws
  | ms, _, _ => ms
theorem rpl_spec : ∀ (is : List Nat) (mc ms : List va_W), is.length = mc.length → is.Nodup → (∀ i ∈ is, i < ms.length) → (rpl ms is mc).length = ms.length ∧ (∀ j, j ∉ is → (rpl ms is mc)[j]? = ms[j]?) ∧ ∀ (k i : Nat), is[k]? = some i → (rpl ms is mc)[i]? = mc[k]?
  | [], [], ms, _, _, _ => ⟨rfl, fun j _ => rfl, fun k i h => by simp at h⟩
  | i0 :: is, w :: ws, ms, hl, hn, hlt => by
    rw [List.nodup_cons] at hn
    obtain ⟨r1, r2, r3⟩ := rpl_spec is ws (ms.set i0 w) (by simpa using hl) hn.2 (fun i hi => by rw [List.length_set]; exact hlt i (List.mem_cons_of_mem _ hi))
    show (rpl (ms.set i0 w) is ws).length = ms.length ∧ (∀ j, j ∉ i0 :: is → (rpl (ms.set i0 w) is ws)[j]? = ms[j]?) ∧ ∀ (k i : Nat), (i0 :: is)[k]? = some i → (rpl (ms.set i0 w) is ws)[i]? = (w :: ws)[k]?
    refine ⟨by rw [r1, List.length_set], fun j hj => ?_, fun k i hk => ?_⟩
    · rw [List.mem_cons, not_or] at hj
      rw [r2 j hj.2, List.getElem?_set_ne (Ne.symm hj.1)]
    · cases k with
      | zero =>
        rw [List.getElem?_cons_zero] at hk
        cases hk
        rw [r2 i0 hn.1, List.getElem?_set_self (hlt i0 List.mem_cons_self), List.getElem?_cons_zero]
      | succ k =>
        rw [List.getElem?_cons_succ] at hk ⊢
        exact r3 k i hk
  | [], _ :: _, ms, hl, _, _ => by simp at hl
  | _ :: _, [], ms, hl, _, _ => by simp at hl
theorem cut_at {is : List Nat} {ms mc : List va_W} (hC : is.map (fun i => ms[i]?) = mc.map some) {k : Nat} {w : va_W} (hk : mc[k]? = some w) : ∃ i, is[k]? = some i ∧ ms[i]? = some w := by
  have h1 : (is.map (fun i => ms[i]?))[k]? = some (some w) := by rw [hC, List.getElem?_map, hk]; rfl
  rw [List.getElem?_map] at h1
  cases hi : is[k]? with
  | none => rw [hi] at h1; cases h1
  | some i => rw [hi] at h1; exact ⟨i, rfl, Option.some.inj h1⟩
theorem cut_in {is : List Nat} {ms mc : List va_W} (hC : is.map (fun i => ms[i]?) = mc.map some) {k i : Nat} (hk : is[k]? = some i) : ∃ w, mc[k]? = some w ∧ ms[i]? = some w := by
  have h1 : (mc.map some)[k]? = some (ms[i]?) := by rw [← hC, List.getElem?_map, hk]; rfl
  rw [List.getElem?_map] at h1
  cases hi : mc[k]? with
  | none => rw [hi] at h1; cases h1
  | some w => rw [hi] at h1; exact ⟨w, rfl, (Option.some.inj h1).symm⟩
theorem cut_ok {D : va_G} {cl : List vw_C} {A : Nat → Prop} {H : Heap} {is : List Nat} {ms mc mc' : List va_W} (hC : is.map (fun i => ms[i]?) = mc.map some) (hn : is.Nodup) (ha : adr mc' = adr mc) (hP : va_P D cl ms.flatten H) (hD : va_D A ms.flatten) :
    va_P D cl mc.flatten H ∧ va_D A mc.flatten ∧ (∀ x ∈ mc.flatten, x ∈ ms.flatten) ∧ ∀ H1 : Heap, va_P D cl mc'.flatten H1 → (∀ q : Nat, q < H.size → ¬ va_A mc.flatten H.size q → H1[q]? = H[q]?) → va_P D cl (rpl ms is mc').flatten H1 ∧ va_D A (rpl ms is mc').flatten := by
  obtain ⟨d1, d2⟩ := PD_of hD
  have hlen : is.length = mc.length := by have := congrArg List.length hC; simpa using this
  have hlen' : is.length = mc'.length := by have := congrArg List.length ha; simp only [adr, List.length_map] at this; omega
  have hlt : ∀ i ∈ is, i < ms.length := by
    intro i hi
    obtain ⟨k, hk⟩ := List.getElem?_of_mem hi
    obtain ⟨w, -, h2⟩ := cut_in hC hk
    exact (List.getElem?_eq_some_iff.mp h2).1
  have hsub : ∀ x ∈ mc.flatten, x ∈ ms.flatten := by
    intro x hx
    obtain ⟨w, hw, hxw⟩ := List.mem_flatten.mp hx
    obtain ⟨k, hk⟩ := List.getElem?_of_mem hw
    obtain ⟨i, -, h2⟩ := cut_at hC hk
    exact List.mem_flatten.mpr ⟨w, List.mem_of_getElem? h2, hxw⟩
  obtain ⟨r1, r2, r3⟩ := rpl_spec is mc' ms hlen' hn hlt
  refine ⟨P_mem.mpr (fun x hx => P_mem.mp hP x (hsub x hx)), of_PD (fun k w hk => ?_) (fun k k' w v hne hk hk' => ?_), hsub, fun H1 hP1 hk1 => ⟨P_mem.mpr (fun x hx => ?_), D_adr (adr_fl ?_) hD⟩⟩
  · obtain ⟨i, -, h2⟩ := cut_at hC hk
    exact d1 i w h2
  · obtain ⟨i, h1, h2⟩ := cut_at hC hk
    obtain ⟨i', h1', h2'⟩ := cut_at hC hk'
    refine d2 i i' w v (fun e => ?_) h2 h2'
    subst e
    have l1 := (List.getElem?_eq_some_iff.mp h1).1
    have l2 := (List.getElem?_eq_some_iff.mp h1').1
    have e1 := (List.getElem?_eq_some_iff.mp h1).2
    have e2 := (List.getElem?_eq_some_iff.mp h1').2
    have hp := List.pairwise_iff_getElem.mp hn
    rcases Nat.lt_or_gt_of_ne hne with q | q
    · exact hp k k' l1 l2 q (e1.trans e2.symm)
    · exact hp k' k l2 l1 q (e2.trans e1.symm)
  · obtain ⟨w, hw, hxw⟩ := List.mem_flatten.mp hx
    obtain ⟨j, hj⟩ := List.getElem?_of_mem hw
    by_cases hin : j ∈ is
    · obtain ⟨k, hk⟩ := List.getElem?_of_mem hin
      rw [r3 k j hk] at hj
      exact P_mem.mp hP1 x (List.mem_flatten.mpr ⟨w, List.mem_of_getElem? hj, hxw⟩)
    · rw [r2 j hin] at hj
      have hat := P_mem.mp hP x (List.mem_flatten.mpr ⟨w, List.mem_of_getElem? hj, hxw⟩)
      refine hat.kept (hk1 x.1 hat.lt (fun hA => ?_))
      rcases hA with ⟨k, e, hke⟩ | hge
      · obtain ⟨v, hv, hxv⟩ := List.mem_flatten.mp (List.mem_of_getElem? hke)
        obtain ⟨k2, hk2⟩ := List.getElem?_of_mem hv
        obtain ⟨i, h1, h2⟩ := cut_at hC hk2
        exact d2 i j v w (fun e => hin (e ▸ List.mem_of_getElem? h1)) h2 hj _ hxv x hxw rfl
      · have := hat.lt
        omega
  · apply List.ext_getElem?
    intro j
    simp only [adr, List.getElem?_map]
    by_cases hin : j ∈ is
    · obtain ⟨k, hk⟩ := List.getElem?_of_mem hin
      rw [r3 k j hk]
      obtain ⟨w, h1, h2⟩ := cut_in hC hk
      rw [h2]
      have := congrArg (fun z => z[k]?) ha
      simp only [adr, List.getElem?_map, h1] at this
      exact this
    · rw [r2 j hin]
section GC
variable {X : gX} {own : String} {cc : ByteArray} {nL : Nat} {ret : Option FieldType} {Ts : List Cond} {fr lm : Nat} {Q : State → Prop} {ms mc mc' : List va_W} {L : List (Option Value)} {st : List Value} {pc pc' : Nat} {y : MethodName} {bytes : ByteArray} {maxL : Nat} {rt : Option FieldType} {wsy wsy' : List Cond} {frc lc b n idx : Nat} {As : List Value} {is : List Nat} {r : Int32}
abbrev nd (y : MethodName) (n : Nat) : Prop := y.cls ≠ "java/lang/invoke/MethodHandle" ∧ y.cls ≠ "java/lang/invoke/VarHandle" ∧ (parseMethodDescriptor y.desc).map (fun d => d.parameters.length) = some n

theorem G_callVI (C : cx X own cc nL ret Ts fr lm) (hM : MI (gl X) (gD X) (gcA X) y wsy frc lc (.ref b :: As) mc r mc') (hG : GoodIn Ts (wsV own idx y.cls y wsy)) (hw : wsy = Cond.code y bytes maxL rt :: wsy') (hd : nd y n) (hR : frc + 1 ≤ fr ∧ 8 + (maxL + 11) + lc ≤ lm) {q0 ci : Nat} {fs : List Value} {T : u_T} {N : Nat} (hq : mc.flatten[q0]? = some (b, .inr (ci, fs))) (hci : vwCl[ci]? = some (y.cls, T, N)) (hC : is.map (fun i => ms[i]?) = mc.map some) (hn : is.Nodup) (ha : adr mc' = adr mc) (hAs : As.length = n) (hst : (st.map fun v => v.category).sum ≤ 8) (hLn : L.length = nL) (d : decode cc pc = .ok (.invokevirtual idx, 3)) (hp : pc + 3 = pc') (kk : G X Q (rpl ms is mc') L (.int r :: st) pc') : G X Q ms L (As.reverse ++ .ref b :: st) pc := by
  subst hp
  obtain ⟨p, l, e, R, s, m, args, below, meth, c, D, cA, A, H0⟩ := X
  obtain ⟨hx, hb, hml, hr, hown, hts, hlk, hK, hA, hfr, hlm, h0⟩ := C
  subst hfr; subst hlm
  intro H locs ls hP hD hS hl
  obtain ⟨hPc, hDc, hsub, hback⟩ := cut_ok hC hn ha hP hD
  have hF : ∀ q, va_A mc.flatten H.size q → A q := by
    intro q hq
    rcases hq with ⟨k, e, hke⟩ | hge
    · obtain ⟨k2, hk2⟩ := List.getElem?_of_mem (hsub _ (List.mem_of_getElem? hke))
      exact hD.2 k2 _ hk2
    · exact hA q (Nat.le_trans hS.1 hge)
  refine va_calli (va_runV (As := As) (rest := st) ⟨hx, hb, hml, hown, hts⟩ (hM H.size) (cwV n hts hG hw rfl rfl ⟨rfl, hd⟩ hR) ⟨fun a U g mk q => by obtain ⟨q0, q1, qP, qK, qD⟩ := q; exact ⟨q0, q1, qP, va_K.moved (u := U) (U := U.calling g mk a) (Vm.Alike.refl U.vm) qK, qD⟩, va_recv hK hPc hci hq, fun U hU hW => ⟨rfl, by rw [hU], by rw [hU]; exact hPc, va_K.moved hW.alike hK, hDc.weaken (fun _ _ _ _ => trivial)⟩⟩ rfl hAs (hl.1.trans hLn) rfl (lv_room hst) d ⟨Nat.le_refl _, Nat.le_refl _⟩) hS (fun q _ h => hF q h) hF (fun r0 u t H1 locs1 ht hvm hw1 hB hz1 hk1 hS1 => ?_)
  subst hw1
  rw [ht] at hB
  obtain ⟨hP1, hD1⟩ := hback H1 hB hk1
  exact kk H1 locs1 ls hP1 hD1 hS1 hl
theorem G_callVV (C : cx X own cc nL ret Ts fr lm) (hM : MV (gl X) (gD X) (gcA X) y wsy frc lc (.ref b :: As) mc mc') (hG : GoodIn Ts (wsV own idx y.cls y wsy)) (hw : wsy = Cond.code y bytes maxL rt :: wsy') (hd : nd y n) (hR : frc + 1 ≤ fr ∧ 8 + (maxL + 11) + lc ≤ lm) {q0 ci : Nat} {fs : List Value} {T : u_T} {N : Nat} (hq : mc.flatten[q0]? = some (b, .inr (ci, fs))) (hci : vwCl[ci]? = some (y.cls, T, N)) (hC : is.map (fun i => ms[i]?) = mc.map some) (hn : is.Nodup) (ha : adr mc' = adr mc) (hAs : As.length = n) (hst : (st.map fun v => v.category).sum ≤ 8) (hLn : L.length = nL) (d : decode cc pc = .ok (.invokevirtual idx, 3)) (hp : pc + 3 = pc') (kk : G X Q (rpl ms is mc') L (st) pc') : G X Q ms L (As.reverse ++ .ref b :: st) pc := by
  subst hp
  obtain ⟨p, l, e, R, s, m, args, below, meth, c, D, cA, A, H0⟩ := X
  obtain ⟨hx, hb, hml, hr, hown, hts, hlk, hK, hA, hfr, hlm, h0⟩ := C
  subst hfr; subst hlm
  intro H locs ls hP hD hS hl
  obtain ⟨hPc, hDc, hsub, hback⟩ := cut_ok hC hn ha hP hD
  have hF : ∀ q, va_A mc.flatten H.size q → A q := by
    intro q hq
    rcases hq with ⟨k, e, hke⟩ | hge
    · obtain ⟨k2, hk2⟩ := List.getElem?_of_mem (hsub _ (List.mem_of_getElem? hke))
      exact hD.2 k2 _ hk2
    · exact hA q (Nat.le_trans hS.1 hge)
  refine va_callv (va_runV (As := As) (rest := st) ⟨hx, hb, hml, hown, hts⟩ (hM H.size) (cwV n hts hG hw rfl rfl ⟨rfl, hd⟩ hR) ⟨fun a U g mk q => by obtain ⟨q0, q1, qP, qK, qD⟩ := q; exact ⟨q0, q1, qP, va_K.moved (u := U) (U := U.calling g mk a) (Vm.Alike.refl U.vm) qK, qD⟩, va_recv hK hPc hci hq, fun U hU hW => ⟨rfl, by rw [hU], by rw [hU]; exact hPc, va_K.moved hW.alike hK, hDc.weaken (fun _ _ _ _ => trivial)⟩⟩ rfl hAs (hl.1.trans hLn) rfl (lv_room hst) d ⟨Nat.le_refl _, Nat.le_refl _⟩) hS (fun q _ h => hF q h) hF (fun u t H1 locs1 ht hvm hw1 hB hz1 hk1 hS1 => ?_)
  rw [ht] at hB
  obtain ⟨hP1, hD1⟩ := hback H1 hB hk1
  exact kk H1 locs1 ls hP1 hD1 hS1 hl
theorem G_callSI (C : cx X own cc nL ret Ts fr lm) (hM : MI (gl X) (gD X) (gcA X) y wsy frc lc As mc r mc') (hG : GoodIn Ts (va_wsS own idx y wsy)) (hw : wsy = Cond.code y bytes maxL rt :: wsy') (hd : nd y n) (hR : frc + 1 ≤ fr ∧ 8 + (maxL + 11) + lc ≤ lm) (hC : is.map (fun i => ms[i]?) = mc.map some) (hn : is.Nodup) (ha : adr mc' = adr mc) (hAs : As.length = n) (hst : (st.map fun v => v.category).sum ≤ 8) (hLn : L.length = nL) (d : decode cc pc = .ok (.invokestatic idx, 3)) (hp : pc + 3 = pc') (kk : G X Q (rpl ms is mc') L (.int r :: st) pc') : G X Q ms L (As.reverse ++ st) pc := by
  subst hp
  obtain ⟨p, l, e, R, s, m, args, below, meth, c, D, cA, A, H0⟩ := X
  obtain ⟨hx, hb, hml, hr, hown, hts, hlk, hK, hA, hfr, hlm, h0⟩ := C
  subst hfr; subst hlm
  intro H locs ls hP hD hS hl
  obtain ⟨hPc, hDc, hsub, hback⟩ := cut_ok hC hn ha hP hD
  have hF : ∀ q, va_A mc.flatten H.size q → A q := by
    intro q hq
    rcases hq with ⟨k, e, hke⟩ | hge
    · obtain ⟨k2, hk2⟩ := List.getElem?_of_mem (hsub _ (List.mem_of_getElem? hke))
      exact hD.2 k2 _ hk2
    · exact hA q (Nat.le_trans hS.1 hge)
  refine va_calli (va_runS (As := As) (rest := st) ⟨hx, hb, hml, hown, hts⟩ (hM H.size) (va_cwS n hts hG hw rfl rfl hd hR) ⟨fun a U g mk q => by obtain ⟨q0, q1, qP, qK, qD⟩ := q; exact ⟨q0, q1, qP, va_K.moved (u := U) (U := U.calling g mk a) (Vm.Alike.refl U.vm) qK, qD⟩, fun U hU hW => ⟨rfl, by rw [hU], by rw [hU]; exact hPc, va_K.moved hW.alike hK, hDc.weaken (fun _ _ _ _ => trivial)⟩⟩ rfl hAs (hl.1.trans hLn) rfl (lv_room hst) d ⟨Nat.le_refl _, Nat.le_refl _⟩) hS (fun q _ h => hF q h) hF (fun r0 u t H1 locs1 ht hvm hw1 hB hz1 hk1 hS1 => ?_)
  subst hw1
  rw [ht] at hB
  obtain ⟨hP1, hD1⟩ := hback H1 hB hk1
  exact kk H1 locs1 ls hP1 hD1 hS1 hl
theorem G_callSV (C : cx X own cc nL ret Ts fr lm) (hM : MV (gl X) (gD X) (gcA X) y wsy frc lc As mc mc') (hG : GoodIn Ts (va_wsS own idx y wsy)) (hw : wsy = Cond.code y bytes maxL rt :: wsy') (hd : nd y n) (hR : frc + 1 ≤ fr ∧ 8 + (maxL + 11) + lc ≤ lm) (hC : is.map (fun i => ms[i]?) = mc.map some) (hn : is.Nodup) (ha : adr mc' = adr mc) (hAs : As.length = n) (hst : (st.map fun v => v.category).sum ≤ 8) (hLn : L.length = nL) (d : decode cc pc = .ok (.invokestatic idx, 3)) (hp : pc + 3 = pc') (kk : G X Q (rpl ms is mc') L (st) pc') : G X Q ms L (As.reverse ++ st) pc := by
  subst hp
  obtain ⟨p, l, e, R, s, m, args, below, meth, c, D, cA, A, H0⟩ := X
  obtain ⟨hx, hb, hml, hr, hown, hts, hlk, hK, hA, hfr, hlm, h0⟩ := C
  subst hfr; subst hlm
  intro H locs ls hP hD hS hl
  obtain ⟨hPc, hDc, hsub, hback⟩ := cut_ok hC hn ha hP hD
  have hF : ∀ q, va_A mc.flatten H.size q → A q := by
    intro q hq
    rcases hq with ⟨k, e, hke⟩ | hge
    · obtain ⟨k2, hk2⟩ := List.getElem?_of_mem (hsub _ (List.mem_of_getElem? hke))
      exact hD.2 k2 _ hk2
    · exact hA q (Nat.le_trans hS.1 hge)
  refine va_callv (va_runS (As := As) (rest := st) ⟨hx, hb, hml, hown, hts⟩ (hM H.size) (va_cwS n hts hG hw rfl rfl hd hR) ⟨fun a U g mk q => by obtain ⟨q0, q1, qP, qK, qD⟩ := q; exact ⟨q0, q1, qP, va_K.moved (u := U) (U := U.calling g mk a) (Vm.Alike.refl U.vm) qK, qD⟩, fun U hU hW => ⟨rfl, by rw [hU], by rw [hU]; exact hPc, va_K.moved hW.alike hK, hDc.weaken (fun _ _ _ _ => trivial)⟩⟩ rfl hAs (hl.1.trans hLn) rfl (lv_room hst) d ⟨Nat.le_refl _, Nat.le_refl _⟩) hS (fun q _ h => hF q h) hF (fun u t H1 locs1 ht hvm hw1 hB hz1 hk1 hS1 => ?_)
  rw [ht] at hB
  obtain ⟨hP1, hD1⟩ := hback H1 hB hk1
  exact kk H1 locs1 ls hP1 hD1 hS1 hl
theorem g_mabs (C : cx X own cc nL ret Ts fr lm) {x : Int32} (h1 : Cond.methodLink own idx Lib.Math.abs.name ∈ Ts) (h2 : Cond.static Lib.Math.abs.name ∈ Ts) (h3 : Cond.initialized "java/lang/Math" ∈ Ts) (h4 : Cond.code Lib.Math.abs.name Lib.Math.abs.code 1 (some .int) ∈ Ts) (hR : 1 ≤ fr ∧ (st.map fun v => v.category).sum + 13 ≤ lm) (hLn : L.length = nL) (d : decode cc pc = .ok (.invokestatic idx, 3)) (hp : pc + 3 = pc') (kk : G X Q ms L (.int (if 0 ≤ x then x else 0 - x) :: st) pc') : G X Q ms L (.int x :: st) pc := by
  subst hp
  obtain ⟨p, l, e, R, s, m, args, below, meth, c, D, cA, A, H0⟩ := X
  obtain ⟨hx, hb, hml, hr, hown, hts, hlk, hK, hA, hfr, hlm, h0⟩ := C
  subst hfr; subst hlm
  intro H locs ls hP hD hS hl
  exact va_mabs hx hb (hml.trans (hLn.symm.trans hl.1.symm)) hown (hts _ h1) (hts _ h2) (hts _ h3) (hts _ h4) hR.1 hR.2 (Nat.le_refl _) (Nat.le_refl _) d (kk H locs ls hP hD hS hl)
theorem g_mmax (C : cx X own cc nL ret Ts fr lm) {x y : Int32} (h1 : Cond.methodLink own idx Lib.Math.max.name ∈ Ts) (h2 : Cond.static Lib.Math.max.name ∈ Ts) (h3 : Cond.initialized "java/lang/Math" ∈ Ts) (h4 : Cond.code Lib.Math.max.name Lib.Math.max.code 2 (some .int) ∈ Ts) (hR : 1 ≤ fr ∧ (st.map fun v => v.category).sum + 13 ≤ lm) (hLn : L.length = nL) (d : decode cc pc = .ok (.invokestatic idx, 3)) (hp : pc + 3 = pc') (kk : G X Q ms L (.int (if x < y then y else x) :: st) pc') : G X Q ms L (.int y :: .int x :: st) pc := by
  subst hp
  obtain ⟨p, l, e, R, s, m, args, below, meth, c, D, cA, A, H0⟩ := X
  obtain ⟨hx, hb, hml, hr, hown, hts, hlk, hK, hA, hfr, hlm, h0⟩ := C
  subst hfr; subst hlm
  intro H locs ls hP hD hS hl
  exact va_mmax hx hb (hml.trans (hLn.symm.trans hl.1.symm)) hown (hts _ h1) (hts _ h2) (hts _ h3) (hts _ h4) hR.1 hR.2 (Nat.le_refl _) (Nat.le_refl _) d (kk H locs ls hP hD hS hl)
theorem g_mmin (C : cx X own cc nL ret Ts fr lm) {x y : Int32} (h1 : Cond.methodLink own idx Lib.Math.min.name ∈ Ts) (h2 : Cond.static Lib.Math.min.name ∈ Ts) (h3 : Cond.initialized "java/lang/Math" ∈ Ts) (h4 : Cond.code Lib.Math.min.name Lib.Math.min.code 2 (some .int) ∈ Ts) (hR : 1 ≤ fr ∧ (st.map fun v => v.category).sum + 13 ≤ lm) (hLn : L.length = nL) (d : decode cc pc = .ok (.invokestatic idx, 3)) (hp : pc + 3 = pc') (kk : G X Q ms L (.int (if y < x then y else x) :: st) pc') : G X Q ms L (.int y :: .int x :: st) pc := by
  subst hp
  obtain ⟨p, l, e, R, s, m, args, below, meth, c, D, cA, A, H0⟩ := X
  obtain ⟨hx, hb, hml, hr, hown, hts, hlk, hK, hA, hfr, hlm, h0⟩ := C
  subst hfr; subst hlm
  intro H locs ls hP hD hS hl
  exact va_mmin hx hb (hml.trans (hLn.symm.trans hl.1.symm)) hown (hts _ h1) (hts _ h2) (hts _ h3) (hts _ h4) hR.1 hR.2 (Nat.le_refl _) (Nat.le_refl _) d (kk H locs ls hP hD hS hl)
theorem g_copy (C : cx X own cc nL ret Ts fr lm) {i j i2 j2 a a2 n1 n2 : Nat} {w w2 w' : va_W} {f g : Nat → Int32} {k : Int32} (hm : ms[i]? = some w) (hw : w[j]? = some (a, .inl (gcA X 0, n1, .inl f))) (hm2 : ms[i2]? = some w2) (hw2 : w2[j2]? = some (a2, .inl (gcA X 0, n2, .inl g))) (hw' : w2.set j2 (a2, .inl (gcA X 0, n2, .inl (va_cpy f g 0 0 k.toNatClampNeg))) = w') (h1 : Cond.methodLink own idx arraycopyName ∈ Ts) (h2 : Cond.native arraycopyName ∈ Ts) (h3 : Cond.static arraycopyName ∈ Ts) (h4 : Cond.initialized "java/lang/System" ∈ Ts) (hk : ¬ k < 0) (hk1 : k.toNatClampNeg ≤ n1) (hk2 : k.toNatClampNeg ≤ n2) (hR : 1 ≤ fr ∧ (st.map fun v => v.category).sum + (nativeFrameWords "java/lang/System" "arraycopy" 5 + 11) ≤ lm) (hLn : L.length = nL) (d : decode cc pc = .ok (.invokestatic idx, 3)) (hp : pc + 3 = pc') (kk : G X Q (ms.set i2 w') L st pc') : G X Q ms L (.int k :: .int 0 :: .ref a2 :: .int 0 :: .ref a :: st) pc := by
  subst hp; subst hw'
  obtain ⟨p, l, e, R, s, m, args, below, meth, c, D, cA, A, H0⟩ := X
  obtain ⟨hx, hb, hml, hr, hown, hts, hlk, hK, hA, hfr, hlm, h0⟩ := C
  subst hfr; subst hlm
  intro H locs ls hP hD hS hl
  obtain ⟨q, hq, -⟩ := fl_at hm hw
  obtain ⟨q2, hq2, hset⟩ := fl_at hm2 hw2
  refine va_copyi hx hb (hml.trans (hLn.symm.trans hl.1.symm)) hown (hts _ h1) (hts _ h2) (hts _ h3) (hts _ h4) hK hP hD hS q q2 0 0 hq hq2 rfl rfl rfl (by decide) (by decide) hk (by simpa using hk1) (by simpa using hk2) (fun _ _ => rfl) hR.1 hR.2 d (fun H1 locs1 hP1 hD1 hS1 => ?_)
  rw [hset] at hP1 hD1
  exact kk H1 locs1 ls hP1 hD1 hS1 hl
end GC
end
section
/-! the modules: what each holds, as cells; a state is a function of field number and place -/
abbrev tS : Type := Nat → Nat → Int32
abbrev tH : Type := Int32 × (Nat → Nat) × (Nat → tS)
def bdW (cA : Nat → ClassId) (a : Nat → Nat) (S : tS) : va_W := [(a 0, .inr (0, [.int (S 0 0), .ref (a 2), .ref (a 3), .ref (a 4), .ref (a 5), .int (S 5 0), .ref (a 7), .ref (a 8)])), (a 2, .inl (cA 0, 20, .inl (S 1))), (a 3, .inl (cA 0, 20, .inl (S 2))), (a 4, .inl (cA 0, 20, .inl (S 3))), (a 5, .inl (cA 0, 120, .inl (S 4))), (a 7, .inl (cA 0, 48, .inl (S 6))), (a 8, .inl (cA 0, 3, .inl (S 7)))]
def heW (cA : Nat → ClassId) (a : Nat → Nat) (S : tS) : va_W := [(a 0, .inr (2, [.int (S 0 0), .int (S 1 0), .ref (a 3), .ref (a 4)])), (a 3, .inl (cA 0, 20, .inl (S 2))), (a 4, .inl (cA 0, 20, .inl (S 3)))]
def nmW (cA : Nat → ClassId) (a : Nat → Nat) (S : tS) : va_W := [(a 0, .inr (4, [.ref (a 1)])), (a 1, .inl (cA 0, 8, .inl (S 0)))]
def mdW (cA : Nat → ClassId) (a : Nat → Nat) (S : tS) : va_W := [(a 0, .inr (6, [.ref (a 1), .ref (a 2), .int (S 2 0), .ref (a 4), .int (S 4 0), .ref (a 6), .int (S 6 0), .ref (a 8), .ref (a 9), .int (S 9 0), .int (S 10 0), .int (S 11 0), .ref (a 13), .int (S 13 0), .ref (a 15)])), (a 1, .inl (cA 0, 233, .inl (S 0))), (a 2, .inl (cA 0, 932, .inl (S 1))), (a 4, .inl (cA 0, 233, .inl (S 3))), (a 6, .inl (cA 1, 80, .inl (S 5))), (a 8, .inl (cA 0, 20, .inl (S 7))), (a 9, .inl (cA 0, 20, .inl (S 8))), (a 13, .inl (cA 0, 60, .inl (S 12))), (a 15, .inl (cA 0, 20, .inl (S 14)))]
def txW (cA : Nat → ClassId) (a : Nat → Nat) (S : tS) : va_W := [(a 0, .inl (cA 1, 80, .inl (S 0)))]
def btW (a : Nat → Nat) (q : Nat) (S : tS) : va_W := [(a 0, .inr (1, [.ref q, .int (S 1 0), .int (S 2 0), .int (S 3 0), .int (S 4 0)]))]
def ntW (pa : Nat → Nat → Nat) (S : tS) : va_W := [(pa 0 0, .inr (5, [.ref (pa 1 0), .ref (pa 2 0), .ref (pa 3 0), .int (S 3 0), .ref (pa 4 0), .int (S 5 0), .ref (pa 5 0), .ref (pa 6 0), .ref (pa 7 0), .ref (pa 8 0), .ref (pa 9 0)]))]
/-- the history: its object, its row of references (place i refers to the board p i of four), the four boards; S = (states, p, what the boards hold) -/
def hsW (cA : Nat → ClassId) (a : Nat → Nat) (k : Nat → Nat → Nat) (S : tH) : va_W := [(a 0, .inr (3, [.int S.1, .ref (a 2)])), (a 2, .inl (cA 2, 4, .inr (.inr (.inr (.inr (fun i => some (k (S.2.1 i) 0)))))))] ++ (bdW cA (k 0) (S.2.2 0) ++ (bdW cA (k 1) (S.2.2 1) ++ (bdW cA (k 2) (S.2.2 2) ++ bdW cA (k 3) (S.2.2 3))))
theorem pj2 {α β : Type} {a a' : α} {b b' : β} (h : (a, b) = (a', b')) : a = a' ∧ b = b' := Prod.mk.inj h
theorem pj3 {α β γ : Type} {a a' : α} {b b' : β} {c c' : γ} (h : (a, b, c) = (a', b', c')) : a = a' ∧ b = b' ∧ c = c' := by cases h; exact ⟨rfl, rfl, rfl⟩
theorem pj4 {α β γ δ : Type} {a a' : α} {b b' : β} {c c' : γ} {d d' : δ} (h : (a, b, c, d) = (a', b', c', d')) : a = a' ∧ b = b' ∧ c = c' ∧ d = d' := by cases h; exact ⟨rfl, rfl, rfl, rfl⟩
theorem pj5 {α β γ δ ε : Type} {a a' : α} {b b' : β} {c c' : γ} {d d' : δ} {e e' : ε} (h : (a, b, c, d, e) = (a', b', c', d', e')) : a = a' ∧ b = b' ∧ c = c' ∧ d = d' ∧ e = e' := by cases h; exact ⟨rfl, rfl, rfl, rfl, rfl⟩
theorem oif {ρ : Type} {c : Prop} [Decidable c] {T F : Option ρ} {res : ρ} {P : Prop} (h : (if c then T else F) = some res) (kt : c → T = some res → P) (kf : ¬ c → F = some res → P) : P := by
  by_cases q : c
  · exact kt q ((if_pos q).symm.trans h)
  · exact kf q ((if_neg q).symm.trans h)
theorem zb {r : Int32} (h : ¬ ¬ (r = 0 ∨ r = 1)) : narrow .boolean (.int r) = .int r := by
  rcases Decidable.not_not.mp h with rfl | rfl <;> rfl
theorem rpl_same : ∀ {is : List Nat} {ms mc : List va_W}, is.map (fun i => ms[i]?) = mc.map some → rpl ms is mc = ms
  | [], ms, [], _ => rfl
  | [], ms, _ :: _, h => by simp at h
  | _ :: _, ms, [], h => by simp at h
  | i :: is, ms, w :: mc, h => by
    simp only [List.map_cons, List.cons.injEq] at h
    obtain ⟨h1, h2⟩ := h
    have e : ms.set i w = ms := by
      apply List.ext_getElem?
      intro j
      by_cases hj : i = j
      · subst hj
        rw [List.getElem?_set_self (List.getElem?_eq_some_iff.mp h1).1, h1]
      · rw [List.getElem?_set_ne hj]
    show rpl (ms.set i w) is mc = ms
    rw [e]
    exact rpl_same h2
theorem G_ms {X : gX} {Q : State → Prop} {ms ms' : List va_W} {L : List (Option Value)} {st : List Value} {pc : Nat} (e : ms' = ms) (kk : G X Q ms L st pc) : G X Q ms' L st pc := by subst e; exact kk
section GF
variable {X : gX} {own : String} {cc : ByteArray} {nL : Nat} {ret : Option FieldType} {Ts : List Cond} {fr lm : Nat} {Q : State → Prop} {ms : List va_W} {L : List (Option Value)} {st : List Value} {pc pc' i idx : Nat}
theorem gg_X0_0 (C : cx X own cc nL ret Ts fr lm) {a : Nat → Nat} {S : tS} (hm : ms[i]? = some (bdW (gcA X) a S)) (hin : ∀ w ∈ wsX00, w ∈ Ts) (hlink : Cond.fieldLink own idx "NoteThemes$Board" "notes" "I" ∈ Ts) (d : decode cc pc = .ok (.getfield idx, 3)) (hp : pc + 3 = pc') (kk : G X Q ms L (.int (S 0 0) :: st) pc') : G X Q ms L (.ref (a 0) :: st) pc :=
  G_get C (j := 0) (k := 0) (N := 8) (ci := 0) (T := TX0) (Cn := RX0) hm rfl rfl (by decide) rfl hin hlink d hp kk
theorem gp_X0_0 (C : cx X own cc nL ret Ts fr lm) {a : Nat → Nat} {S : tS} {v : Int32} (hm : ms[i]? = some (bdW (gcA X) a S)) (hin : ∀ w ∈ wsX00, w ∈ Ts) (hlink : Cond.fieldLink own idx "NoteThemes$Board" "notes" "I" ∈ Ts) (d : decode cc pc = .ok (.putfield idx, 3)) (hp : pc + 3 = pc') (kk : G X Q (ms.set i (bdW (gcA X) a (va_up S 0 (fun _ => v)))) L st pc') : G X Q ms L (.int v :: .ref (a 0) :: st) pc :=
  G_put C (j := 0) (k := 0) (N := 8) (ci := 0) (T := TX0) (Cn := RX0) (ty := .int) (ty0 := tyX0) hm rfl rfl (by decide) (Nat.le_of_ble_eq_true rfl) rfl tyX0_ok nmX0 rfl (by decide +kernel) rfl rfl hin hlink d hp kk
theorem gg_X0_1 (C : cx X own cc nL ret Ts fr lm) {a : Nat → Nat} {S : tS} (hm : ms[i]? = some (bdW (gcA X) a S)) (hin : ∀ w ∈ wsX00, w ∈ Ts) (hlink : Cond.fieldLink own idx "NoteThemes$Board" "columnOf" "[I" ∈ Ts) (d : decode cc pc = .ok (.getfield idx, 3)) (hp : pc + 3 = pc') (kk : G X Q ms L (.ref (a 2) :: st) pc') : G X Q ms L (.ref (a 0) :: st) pc :=
  G_get C (j := 0) (k := 1) (N := 8) (ci := 0) (T := TX0) (Cn := RX0) hm rfl rfl (by decide) rfl hin hlink d hp kk
theorem gg_X0_2 (C : cx X own cc nL ret Ts fr lm) {a : Nat → Nat} {S : tS} (hm : ms[i]? = some (bdW (gcA X) a S)) (hin : ∀ w ∈ wsX00, w ∈ Ts) (hlink : Cond.fieldLink own idx "NoteThemes$Board" "rowOf" "[I" ∈ Ts) (d : decode cc pc = .ok (.getfield idx, 3)) (hp : pc + 3 = pc') (kk : G X Q ms L (.ref (a 3) :: st) pc') : G X Q ms L (.ref (a 0) :: st) pc :=
  G_get C (j := 0) (k := 2) (N := 8) (ci := 0) (T := TX0) (Cn := RX0) hm rfl rfl (by decide) rfl hin hlink d hp kk
theorem gg_X0_3 (C : cx X own cc nL ret Ts fr lm) {a : Nat → Nat} {S : tS} (hm : ms[i]? = some (bdW (gcA X) a S)) (hin : ∀ w ∈ wsX00, w ∈ Ts) (hlink : Cond.fieldLink own idx "NoteThemes$Board" "themeOf" "[I" ∈ Ts) (d : decode cc pc = .ok (.getfield idx, 3)) (hp : pc + 3 = pc') (kk : G X Q ms L (.ref (a 4) :: st) pc') : G X Q ms L (.ref (a 0) :: st) pc :=
  G_get C (j := 0) (k := 3) (N := 8) (ci := 0) (T := TX0) (Cn := RX0) hm rfl rfl (by decide) rfl hin hlink d hp kk
theorem gg_X0_4 (C : cx X own cc nL ret Ts fr lm) {a : Nat → Nat} {S : tS} (hm : ms[i]? = some (bdW (gcA X) a S)) (hin : ∀ w ∈ wsX00, w ∈ Ts) (hlink : Cond.fieldLink own idx "NoteThemes$Board" "dotsAt" "[I" ∈ Ts) (d : decode cc pc = .ok (.getfield idx, 3)) (hp : pc + 3 = pc') (kk : G X Q ms L (.ref (a 5) :: st) pc') : G X Q ms L (.ref (a 0) :: st) pc :=
  G_get C (j := 0) (k := 4) (N := 8) (ci := 0) (T := TX0) (Cn := RX0) hm rfl rfl (by decide) rfl hin hlink d hp kk
theorem gg_X0_5 (C : cx X own cc nL ret Ts fr lm) {a : Nat → Nat} {S : tS} (hm : ms[i]? = some (bdW (gcA X) a S)) (hin : ∀ w ∈ wsX00, w ∈ Ts) (hlink : Cond.fieldLink own idx "NoteThemes$Board" "themes" "I" ∈ Ts) (d : decode cc pc = .ok (.getfield idx, 3)) (hp : pc + 3 = pc') (kk : G X Q ms L (.int (S 5 0) :: st) pc') : G X Q ms L (.ref (a 0) :: st) pc :=
  G_get C (j := 0) (k := 5) (N := 8) (ci := 0) (T := TX0) (Cn := RX0) hm rfl rfl (by decide) rfl hin hlink d hp kk
theorem gp_X0_5 (C : cx X own cc nL ret Ts fr lm) {a : Nat → Nat} {S : tS} {v : Int32} (hm : ms[i]? = some (bdW (gcA X) a S)) (hin : ∀ w ∈ wsX00, w ∈ Ts) (hlink : Cond.fieldLink own idx "NoteThemes$Board" "themes" "I" ∈ Ts) (d : decode cc pc = .ok (.putfield idx, 3)) (hp : pc + 3 = pc') (kk : G X Q (ms.set i (bdW (gcA X) a (va_up S 5 (fun _ => v)))) L st pc') : G X Q ms L (.int v :: .ref (a 0) :: st) pc :=
  G_put C (j := 0) (k := 5) (N := 8) (ci := 0) (T := TX0) (Cn := RX0) (ty := .int) (ty0 := tyX0) hm rfl rfl (by decide) (Nat.le_of_ble_eq_true rfl) rfl tyX0_ok nmX0 rfl (by decide +kernel) rfl rfl hin hlink d hp kk
theorem gg_X0_6 (C : cx X own cc nL ret Ts fr lm) {a : Nat → Nat} {S : tS} (hm : ms[i]? = some (bdW (gcA X) a S)) (hin : ∀ w ∈ wsX00, w ∈ Ts) (hlink : Cond.fieldLink own idx "NoteThemes$Board" "votedAt" "[I" ∈ Ts) (d : decode cc pc = .ok (.getfield idx, 3)) (hp : pc + 3 = pc') (kk : G X Q ms L (.ref (a 7) :: st) pc') : G X Q ms L (.ref (a 0) :: st) pc :=
  G_get C (j := 0) (k := 6) (N := 8) (ci := 0) (T := TX0) (Cn := RX0) hm rfl rfl (by decide) rfl hin hlink d hp kk
theorem gg_X0_7 (C : cx X own cc nL ret Ts fr lm) {a : Nat → Nat} {S : tS} (hm : ms[i]? = some (bdW (gcA X) a S)) (hin : ∀ w ∈ wsX00, w ∈ Ts) (hlink : Cond.fieldLink own idx "NoteThemes$Board" "settings" "[I" ∈ Ts) (d : decode cc pc = .ok (.getfield idx, 3)) (hp : pc + 3 = pc') (kk : G X Q ms L (.ref (a 8) :: st) pc') : G X Q ms L (.ref (a 0) :: st) pc :=
  G_get C (j := 0) (k := 7) (N := 8) (ci := 0) (T := TX0) (Cn := RX0) hm rfl rfl (by decide) rfl hin hlink d hp kk
theorem gg_X2_0 (C : cx X own cc nL ret Ts fr lm) {a : Nat → Nat} {S : tS} (hm : ms[i]? = some (heW (gcA X) a S)) (hin : ∀ w ∈ wsX20, w ∈ Ts) (hlink : Cond.fieldLink own idx "NoteThemes$Heaps" "number" "I" ∈ Ts) (d : decode cc pc = .ok (.getfield idx, 3)) (hp : pc + 3 = pc') (kk : G X Q ms L (.int (S 0 0) :: st) pc') : G X Q ms L (.ref (a 0) :: st) pc :=
  G_get C (j := 0) (k := 0) (N := 4) (ci := 2) (T := TX2) (Cn := RX2) hm rfl rfl (by decide) rfl hin hlink d hp kk
theorem gp_X2_0 (C : cx X own cc nL ret Ts fr lm) {a : Nat → Nat} {S : tS} {v : Int32} (hm : ms[i]? = some (heW (gcA X) a S)) (hin : ∀ w ∈ wsX20, w ∈ Ts) (hlink : Cond.fieldLink own idx "NoteThemes$Heaps" "number" "I" ∈ Ts) (d : decode cc pc = .ok (.putfield idx, 3)) (hp : pc + 3 = pc') (kk : G X Q (ms.set i (heW (gcA X) a (va_up S 0 (fun _ => v)))) L st pc') : G X Q ms L (.int v :: .ref (a 0) :: st) pc :=
  G_put C (j := 0) (k := 0) (N := 4) (ci := 2) (T := TX2) (Cn := RX2) (ty := .int) (ty0 := tyX2) hm rfl rfl (by decide) (Nat.le_of_ble_eq_true rfl) rfl tyX2_ok nmX2 rfl (by decide +kernel) rfl rfl hin hlink d hp kk
theorem gg_X2_1 (C : cx X own cc nL ret Ts fr lm) {a : Nat → Nat} {S : tS} (hm : ms[i]? = some (heW (gcA X) a S)) (hin : ∀ w ∈ wsX20, w ∈ Ts) (hlink : Cond.fieldLink own idx "NoteThemes$Heaps" "notes" "I" ∈ Ts) (d : decode cc pc = .ok (.getfield idx, 3)) (hp : pc + 3 = pc') (kk : G X Q ms L (.int (S 1 0) :: st) pc') : G X Q ms L (.ref (a 0) :: st) pc :=
  G_get C (j := 0) (k := 1) (N := 4) (ci := 2) (T := TX2) (Cn := RX2) hm rfl rfl (by decide) rfl hin hlink d hp kk
theorem gp_X2_1 (C : cx X own cc nL ret Ts fr lm) {a : Nat → Nat} {S : tS} {v : Int32} (hm : ms[i]? = some (heW (gcA X) a S)) (hin : ∀ w ∈ wsX20, w ∈ Ts) (hlink : Cond.fieldLink own idx "NoteThemes$Heaps" "notes" "I" ∈ Ts) (d : decode cc pc = .ok (.putfield idx, 3)) (hp : pc + 3 = pc') (kk : G X Q (ms.set i (heW (gcA X) a (va_up S 1 (fun _ => v)))) L st pc') : G X Q ms L (.int v :: .ref (a 0) :: st) pc :=
  G_put C (j := 0) (k := 1) (N := 4) (ci := 2) (T := TX2) (Cn := RX2) (ty := .int) (ty0 := tyX2) hm rfl rfl (by decide) (Nat.le_of_ble_eq_true rfl) rfl tyX2_ok nmX2 rfl (by decide +kernel) rfl rfl hin hlink d hp kk
theorem gg_X2_2 (C : cx X own cc nL ret Ts fr lm) {a : Nat → Nat} {S : tS} (hm : ms[i]? = some (heW (gcA X) a S)) (hin : ∀ w ∈ wsX20, w ∈ Ts) (hlink : Cond.fieldLink own idx "NoteThemes$Heaps" "heapOf" "[I" ∈ Ts) (d : decode cc pc = .ok (.getfield idx, 3)) (hp : pc + 3 = pc') (kk : G X Q ms L (.ref (a 3) :: st) pc') : G X Q ms L (.ref (a 0) :: st) pc :=
  G_get C (j := 0) (k := 2) (N := 4) (ci := 2) (T := TX2) (Cn := RX2) hm rfl rfl (by decide) rfl hin hlink d hp kk
theorem gg_X2_3 (C : cx X own cc nL ret Ts fr lm) {a : Nat → Nat} {S : tS} (hm : ms[i]? = some (heW (gcA X) a S)) (hin : ∀ w ∈ wsX20, w ∈ Ts) (hlink : Cond.fieldLink own idx "NoteThemes$Heaps" "lowestOf" "[I" ∈ Ts) (d : decode cc pc = .ok (.getfield idx, 3)) (hp : pc + 3 = pc') (kk : G X Q ms L (.ref (a 4) :: st) pc') : G X Q ms L (.ref (a 0) :: st) pc :=
  G_get C (j := 0) (k := 3) (N := 4) (ci := 2) (T := TX2) (Cn := RX2) hm rfl rfl (by decide) rfl hin hlink d hp kk
theorem gg_X4_0 (C : cx X own cc nL ret Ts fr lm) {a : Nat → Nat} {S : tS} (hm : ms[i]? = some (nmW (gcA X) a S)) (hin : ∀ w ∈ wsX40, w ∈ Ts) (hlink : Cond.fieldLink own idx "NoteThemes$Names" "nameOf" "[I" ∈ Ts) (d : decode cc pc = .ok (.getfield idx, 3)) (hp : pc + 3 = pc') (kk : G X Q ms L (.ref (a 1) :: st) pc') : G X Q ms L (.ref (a 0) :: st) pc :=
  G_get C (j := 0) (k := 0) (N := 1) (ci := 4) (T := TX4) (Cn := RX4) hm rfl rfl (by decide) rfl hin hlink d hp kk
theorem gg_X6_0 (C : cx X own cc nL ret Ts fr lm) {a : Nat → Nat} {S : tS} (hm : ms[i]? = some (mdW (gcA X) a S)) (hin : ∀ w ∈ wsX60, w ∈ Ts) (hlink : Cond.fieldLink own idx "NoteThemesModel" "s" "[I" ∈ Ts) (d : decode cc pc = .ok (.getfield idx, 3)) (hp : pc + 3 = pc') (kk : G X Q ms L (.ref (a 1) :: st) pc') : G X Q ms L (.ref (a 0) :: st) pc :=
  G_get C (j := 0) (k := 0) (N := 15) (ci := 6) (T := TX6) (Cn := RX6) hm rfl rfl (by decide) rfl hin hlink d hp kk
theorem gg_X6_1 (C : cx X own cc nL ret Ts fr lm) {a : Nat → Nat} {S : tS} (hm : ms[i]? = some (mdW (gcA X) a S)) (hin : ∀ w ∈ wsX60, w ∈ Ts) (hlink : Cond.fieldLink own idx "NoteThemesModel" "past" "[I" ∈ Ts) (d : decode cc pc = .ok (.getfield idx, 3)) (hp : pc + 3 = pc') (kk : G X Q ms L (.ref (a 2) :: st) pc') : G X Q ms L (.ref (a 0) :: st) pc :=
  G_get C (j := 0) (k := 1) (N := 15) (ci := 6) (T := TX6) (Cn := RX6) hm rfl rfl (by decide) rfl hin hlink d hp kk
theorem gg_X6_2 (C : cx X own cc nL ret Ts fr lm) {a : Nat → Nat} {S : tS} (hm : ms[i]? = some (mdW (gcA X) a S)) (hin : ∀ w ∈ wsX60, w ∈ Ts) (hlink : Cond.fieldLink own idx "NoteThemesModel" "known" "I" ∈ Ts) (d : decode cc pc = .ok (.getfield idx, 3)) (hp : pc + 3 = pc') (kk : G X Q ms L (.int (S 2 0) :: st) pc') : G X Q ms L (.ref (a 0) :: st) pc :=
  G_get C (j := 0) (k := 2) (N := 15) (ci := 6) (T := TX6) (Cn := RX6) hm rfl rfl (by decide) rfl hin hlink d hp kk
theorem gp_X6_2 (C : cx X own cc nL ret Ts fr lm) {a : Nat → Nat} {S : tS} {v : Int32} (hm : ms[i]? = some (mdW (gcA X) a S)) (hin : ∀ w ∈ wsX60, w ∈ Ts) (hlink : Cond.fieldLink own idx "NoteThemesModel" "known" "I" ∈ Ts) (d : decode cc pc = .ok (.putfield idx, 3)) (hp : pc + 3 = pc') (kk : G X Q (ms.set i (mdW (gcA X) a (va_up S 2 (fun _ => v)))) L st pc') : G X Q ms L (.int v :: .ref (a 0) :: st) pc :=
  G_put C (j := 0) (k := 2) (N := 15) (ci := 6) (T := TX6) (Cn := RX6) (ty := .int) (ty0 := tyX6) hm rfl rfl (by decide) (Nat.le_of_ble_eq_true rfl) rfl tyX6_ok nmX6 rfl (by decide +kernel) rfl rfl hin hlink d hp kk
theorem gg_X6_3 (C : cx X own cc nL ret Ts fr lm) {a : Nat → Nat} {S : tS} (hm : ms[i]? = some (mdW (gcA X) a S)) (hin : ∀ w ∈ wsX60, w ∈ Ts) (hlink : Cond.fieldLink own idx "NoteThemesModel" "kept" "[I" ∈ Ts) (d : decode cc pc = .ok (.getfield idx, 3)) (hp : pc + 3 = pc') (kk : G X Q ms L (.ref (a 4) :: st) pc') : G X Q ms L (.ref (a 0) :: st) pc :=
  G_get C (j := 0) (k := 3) (N := 15) (ci := 6) (T := TX6) (Cn := RX6) hm rfl rfl (by decide) rfl hin hlink d hp kk
theorem gg_X6_4 (C : cx X own cc nL ret Ts fr lm) {a : Nat → Nat} {S : tS} (hm : ms[i]? = some (mdW (gcA X) a S)) (hin : ∀ w ∈ wsX60, w ∈ Ts) (hlink : Cond.fieldLink own idx "NoteThemesModel" "isKept" "Z" ∈ Ts) (d : decode cc pc = .ok (.getfield idx, 3)) (hp : pc + 3 = pc') (kk : G X Q ms L (.int (S 4 0) :: st) pc') : G X Q ms L (.ref (a 0) :: st) pc :=
  G_get C (j := 0) (k := 4) (N := 15) (ci := 6) (T := TX6) (Cn := RX6) hm rfl rfl (by decide) rfl hin hlink d hp kk
theorem gp_X6_4 (C : cx X own cc nL ret Ts fr lm) {a : Nat → Nat} {S : tS} {v : Int32} (hm : ms[i]? = some (mdW (gcA X) a S)) (hz : narrow .boolean (.int v) = .int v) (hz2 : fits .boolean (.int v) = true) (hin : ∀ w ∈ wsX60, w ∈ Ts) (hlink : Cond.fieldLink own idx "NoteThemesModel" "isKept" "Z" ∈ Ts) (d : decode cc pc = .ok (.putfield idx, 3)) (hp : pc + 3 = pc') (kk : G X Q (ms.set i (mdW (gcA X) a (va_up S 4 (fun _ => v)))) L st pc') : G X Q ms L (.int v :: .ref (a 0) :: st) pc :=
  G_put C (j := 0) (k := 4) (N := 15) (ci := 6) (T := TX6) (Cn := RX6) (ty := .boolean) (ty0 := tyX6) hm rfl rfl (by decide) (Nat.le_of_ble_eq_true rfl) rfl tyX6_ok nmX6 rfl (by decide +kernel) hz hz2 hin hlink d hp kk
theorem gg_X6_5 (C : cx X own cc nL ret Ts fr lm) {a : Nat → Nat} {S : tS} (hm : ms[i]? = some (mdW (gcA X) a S)) (hin : ∀ w ∈ wsX60, w ∈ Ts) (hlink : Cond.fieldLink own idx "NoteThemesModel" "text" "[C" ∈ Ts) (d : decode cc pc = .ok (.getfield idx, 3)) (hp : pc + 3 = pc') (kk : G X Q ms L (.ref (a 6) :: st) pc') : G X Q ms L (.ref (a 0) :: st) pc :=
  G_get C (j := 0) (k := 5) (N := 15) (ci := 6) (T := TX6) (Cn := RX6) hm rfl rfl (by decide) rfl hin hlink d hp kk
theorem gg_X6_6 (C : cx X own cc nL ret Ts fr lm) {a : Nat → Nat} {S : tS} (hm : ms[i]? = some (mdW (gcA X) a S)) (hin : ∀ w ∈ wsX60, w ∈ Ts) (hlink : Cond.fieldLink own idx "NoteThemesModel" "length" "I" ∈ Ts) (d : decode cc pc = .ok (.getfield idx, 3)) (hp : pc + 3 = pc') (kk : G X Q ms L (.int (S 6 0) :: st) pc') : G X Q ms L (.ref (a 0) :: st) pc :=
  G_get C (j := 0) (k := 6) (N := 15) (ci := 6) (T := TX6) (Cn := RX6) hm rfl rfl (by decide) rfl hin hlink d hp kk
theorem gp_X6_6 (C : cx X own cc nL ret Ts fr lm) {a : Nat → Nat} {S : tS} {v : Int32} (hm : ms[i]? = some (mdW (gcA X) a S)) (hin : ∀ w ∈ wsX60, w ∈ Ts) (hlink : Cond.fieldLink own idx "NoteThemesModel" "length" "I" ∈ Ts) (d : decode cc pc = .ok (.putfield idx, 3)) (hp : pc + 3 = pc') (kk : G X Q (ms.set i (mdW (gcA X) a (va_up S 6 (fun _ => v)))) L st pc') : G X Q ms L (.int v :: .ref (a 0) :: st) pc :=
  G_put C (j := 0) (k := 6) (N := 15) (ci := 6) (T := TX6) (Cn := RX6) (ty := .int) (ty0 := tyX6) hm rfl rfl (by decide) (Nat.le_of_ble_eq_true rfl) rfl tyX6_ok nmX6 rfl (by decide +kernel) rfl rfl hin hlink d hp kk
theorem gg_X6_7 (C : cx X own cc nL ret Ts fr lm) {a : Nat → Nat} {S : tS} (hm : ms[i]? = some (mdW (gcA X) a S)) (hin : ∀ w ∈ wsX60, w ∈ Ts) (hlink : Cond.fieldLink own idx "NoteThemesModel" "heapOf" "[I" ∈ Ts) (d : decode cc pc = .ok (.getfield idx, 3)) (hp : pc + 3 = pc') (kk : G X Q ms L (.ref (a 8) :: st) pc') : G X Q ms L (.ref (a 0) :: st) pc :=
  G_get C (j := 0) (k := 7) (N := 15) (ci := 6) (T := TX6) (Cn := RX6) hm rfl rfl (by decide) rfl hin hlink d hp kk
theorem gg_X6_8 (C : cx X own cc nL ret Ts fr lm) {a : Nat → Nat} {S : tS} (hm : ms[i]? = some (mdW (gcA X) a S)) (hin : ∀ w ∈ wsX60, w ∈ Ts) (hlink : Cond.fieldLink own idx "NoteThemesModel" "row" "[I" ∈ Ts) (d : decode cc pc = .ok (.getfield idx, 3)) (hp : pc + 3 = pc') (kk : G X Q ms L (.ref (a 9) :: st) pc') : G X Q ms L (.ref (a 0) :: st) pc :=
  G_get C (j := 0) (k := 8) (N := 15) (ci := 6) (T := TX6) (Cn := RX6) hm rfl rfl (by decide) rfl hin hlink d hp kk
theorem gg_X6_9 (C : cx X own cc nL ret Ts fr lm) {a : Nat → Nat} {S : tS} (hm : ms[i]? = some (mdW (gcA X) a S)) (hin : ∀ w ∈ wsX60, w ∈ Ts) (hlink : Cond.fieldLink own idx "NoteThemesModel" "heaps" "I" ∈ Ts) (d : decode cc pc = .ok (.getfield idx, 3)) (hp : pc + 3 = pc') (kk : G X Q ms L (.int (S 9 0) :: st) pc') : G X Q ms L (.ref (a 0) :: st) pc :=
  G_get C (j := 0) (k := 9) (N := 15) (ci := 6) (T := TX6) (Cn := RX6) hm rfl rfl (by decide) rfl hin hlink d hp kk
theorem gp_X6_9 (C : cx X own cc nL ret Ts fr lm) {a : Nat → Nat} {S : tS} {v : Int32} (hm : ms[i]? = some (mdW (gcA X) a S)) (hin : ∀ w ∈ wsX60, w ∈ Ts) (hlink : Cond.fieldLink own idx "NoteThemesModel" "heaps" "I" ∈ Ts) (d : decode cc pc = .ok (.putfield idx, 3)) (hp : pc + 3 = pc') (kk : G X Q (ms.set i (mdW (gcA X) a (va_up S 9 (fun _ => v)))) L st pc') : G X Q ms L (.int v :: .ref (a 0) :: st) pc :=
  G_put C (j := 0) (k := 9) (N := 15) (ci := 6) (T := TX6) (Cn := RX6) (ty := .int) (ty0 := tyX6) hm rfl rfl (by decide) (Nat.le_of_ble_eq_true rfl) rfl tyX6_ok nmX6 rfl (by decide +kernel) rfl rfl hin hlink d hp kk
theorem gg_X6_10 (C : cx X own cc nL ret Ts fr lm) {a : Nat → Nat} {S : tS} (hm : ms[i]? = some (mdW (gcA X) a S)) (hin : ∀ w ∈ wsX60, w ∈ Ts) (hlink : Cond.fieldLink own idx "NoteThemesModel" "spot" "I" ∈ Ts) (d : decode cc pc = .ok (.getfield idx, 3)) (hp : pc + 3 = pc') (kk : G X Q ms L (.int (S 10 0) :: st) pc') : G X Q ms L (.ref (a 0) :: st) pc :=
  G_get C (j := 0) (k := 10) (N := 15) (ci := 6) (T := TX6) (Cn := RX6) hm rfl rfl (by decide) rfl hin hlink d hp kk
theorem gp_X6_10 (C : cx X own cc nL ret Ts fr lm) {a : Nat → Nat} {S : tS} {v : Int32} (hm : ms[i]? = some (mdW (gcA X) a S)) (hin : ∀ w ∈ wsX60, w ∈ Ts) (hlink : Cond.fieldLink own idx "NoteThemesModel" "spot" "I" ∈ Ts) (d : decode cc pc = .ok (.putfield idx, 3)) (hp : pc + 3 = pc') (kk : G X Q (ms.set i (mdW (gcA X) a (va_up S 10 (fun _ => v)))) L st pc') : G X Q ms L (.int v :: .ref (a 0) :: st) pc :=
  G_put C (j := 0) (k := 10) (N := 15) (ci := 6) (T := TX6) (Cn := RX6) (ty := .int) (ty0 := tyX6) hm rfl rfl (by decide) (Nat.le_of_ble_eq_true rfl) rfl tyX6_ok nmX6 rfl (by decide +kernel) rfl rfl hin hlink d hp kk
theorem gg_X6_11 (C : cx X own cc nL ret Ts fr lm) {a : Nat → Nat} {S : tS} (hm : ms[i]? = some (mdW (gcA X) a S)) (hin : ∀ w ∈ wsX60, w ∈ Ts) (hlink : Cond.fieldLink own idx "NoteThemesModel" "tells" "I" ∈ Ts) (d : decode cc pc = .ok (.getfield idx, 3)) (hp : pc + 3 = pc') (kk : G X Q ms L (.int (S 11 0) :: st) pc') : G X Q ms L (.ref (a 0) :: st) pc :=
  G_get C (j := 0) (k := 11) (N := 15) (ci := 6) (T := TX6) (Cn := RX6) hm rfl rfl (by decide) rfl hin hlink d hp kk
theorem gp_X6_11 (C : cx X own cc nL ret Ts fr lm) {a : Nat → Nat} {S : tS} {v : Int32} (hm : ms[i]? = some (mdW (gcA X) a S)) (hin : ∀ w ∈ wsX60, w ∈ Ts) (hlink : Cond.fieldLink own idx "NoteThemesModel" "tells" "I" ∈ Ts) (d : decode cc pc = .ok (.putfield idx, 3)) (hp : pc + 3 = pc') (kk : G X Q (ms.set i (mdW (gcA X) a (va_up S 11 (fun _ => v)))) L st pc') : G X Q ms L (.int v :: .ref (a 0) :: st) pc :=
  G_put C (j := 0) (k := 11) (N := 15) (ci := 6) (T := TX6) (Cn := RX6) (ty := .int) (ty0 := tyX6) hm rfl rfl (by decide) (Nat.le_of_ble_eq_true rfl) rfl tyX6_ok nmX6 rfl (by decide +kernel) rfl rfl hin hlink d hp kk
theorem gg_X6_12 (C : cx X own cc nL ret Ts fr lm) {a : Nat → Nat} {S : tS} (hm : ms[i]? = some (mdW (gcA X) a S)) (hin : ∀ w ∈ wsX60, w ∈ Ts) (hlink : Cond.fieldLink own idx "NoteThemesModel" "read" "[I" ∈ Ts) (d : decode cc pc = .ok (.getfield idx, 3)) (hp : pc + 3 = pc') (kk : G X Q ms L (.ref (a 13) :: st) pc') : G X Q ms L (.ref (a 0) :: st) pc :=
  G_get C (j := 0) (k := 12) (N := 15) (ci := 6) (T := TX6) (Cn := RX6) hm rfl rfl (by decide) rfl hin hlink d hp kk
theorem gg_X6_13 (C : cx X own cc nL ret Ts fr lm) {a : Nat → Nat} {S : tS} (hm : ms[i]? = some (mdW (gcA X) a S)) (hin : ∀ w ∈ wsX60, w ∈ Ts) (hlink : Cond.fieldLink own idx "NoteThemesModel" "dotsRead" "I" ∈ Ts) (d : decode cc pc = .ok (.getfield idx, 3)) (hp : pc + 3 = pc') (kk : G X Q ms L (.int (S 13 0) :: st) pc') : G X Q ms L (.ref (a 0) :: st) pc :=
  G_get C (j := 0) (k := 13) (N := 15) (ci := 6) (T := TX6) (Cn := RX6) hm rfl rfl (by decide) rfl hin hlink d hp kk
theorem gp_X6_13 (C : cx X own cc nL ret Ts fr lm) {a : Nat → Nat} {S : tS} {v : Int32} (hm : ms[i]? = some (mdW (gcA X) a S)) (hin : ∀ w ∈ wsX60, w ∈ Ts) (hlink : Cond.fieldLink own idx "NoteThemesModel" "dotsRead" "I" ∈ Ts) (d : decode cc pc = .ok (.putfield idx, 3)) (hp : pc + 3 = pc') (kk : G X Q (ms.set i (mdW (gcA X) a (va_up S 13 (fun _ => v)))) L st pc') : G X Q ms L (.int v :: .ref (a 0) :: st) pc :=
  G_put C (j := 0) (k := 13) (N := 15) (ci := 6) (T := TX6) (Cn := RX6) (ty := .int) (ty0 := tyX6) hm rfl rfl (by decide) (Nat.le_of_ble_eq_true rfl) rfl tyX6_ok nmX6 rfl (by decide +kernel) rfl rfl hin hlink d hp kk
theorem gg_X6_14 (C : cx X own cc nL ret Ts fr lm) {a : Nat → Nat} {S : tS} (hm : ms[i]? = some (mdW (gcA X) a S)) (hin : ∀ w ∈ wsX60, w ∈ Ts) (hlink : Cond.fieldLink own idx "NoteThemesModel" "heapHad" "[I" ∈ Ts) (d : decode cc pc = .ok (.getfield idx, 3)) (hp : pc + 3 = pc') (kk : G X Q ms L (.ref (a 15) :: st) pc') : G X Q ms L (.ref (a 0) :: st) pc :=
  G_get C (j := 0) (k := 14) (N := 15) (ci := 6) (T := TX6) (Cn := RX6) hm rfl rfl (by decide) rfl hin hlink d hp kk
theorem gg_X1_0 (C : cx X own cc nL ret Ts fr lm) {a : Nat → Nat} {q : Nat} {S : tS} (hm : ms[i]? = some (btW a q S)) (hin : ∀ w ∈ wsX10, w ∈ Ts) (hlink : Cond.fieldLink own idx "NoteThemes$BoardText" "board" "LNoteThemes$Board;" ∈ Ts) (d : decode cc pc = .ok (.getfield idx, 3)) (hp : pc + 3 = pc') (kk : G X Q ms L (.ref q :: st) pc') : G X Q ms L (.ref (a 0) :: st) pc :=
  G_get C (j := 0) (k := 0) (N := 5) (ci := 1) (T := TX1) (Cn := RX1) hm rfl rfl (by decide) rfl hin hlink d hp kk
theorem gg_X1_1 (C : cx X own cc nL ret Ts fr lm) {a : Nat → Nat} {q : Nat} {S : tS} (hm : ms[i]? = some (btW a q S)) (hin : ∀ w ∈ wsX10, w ∈ Ts) (hlink : Cond.fieldLink own idx "NoteThemes$BoardText" "notesRead" "I" ∈ Ts) (d : decode cc pc = .ok (.getfield idx, 3)) (hp : pc + 3 = pc') (kk : G X Q ms L (.int (S 1 0) :: st) pc') : G X Q ms L (.ref (a 0) :: st) pc :=
  G_get C (j := 0) (k := 1) (N := 5) (ci := 1) (T := TX1) (Cn := RX1) hm rfl rfl (by decide) rfl hin hlink d hp kk
theorem gp_X1_1 (C : cx X own cc nL ret Ts fr lm) {a : Nat → Nat} {q : Nat} {S : tS} {v : Int32} (hm : ms[i]? = some (btW a q S)) (hin : ∀ w ∈ wsX10, w ∈ Ts) (hlink : Cond.fieldLink own idx "NoteThemes$BoardText" "notesRead" "I" ∈ Ts) (d : decode cc pc = .ok (.putfield idx, 3)) (hp : pc + 3 = pc') (kk : G X Q (ms.set i (btW a q (va_up S 1 (fun _ => v)))) L st pc') : G X Q ms L (.int v :: .ref (a 0) :: st) pc :=
  G_put C (j := 0) (k := 1) (N := 5) (ci := 1) (T := TX1) (Cn := RX1) (ty := .int) (ty0 := tyX1) hm rfl rfl (by decide) (Nat.le_of_ble_eq_true rfl) rfl tyX1_ok nmX1 rfl (by decide +kernel) rfl rfl hin hlink d hp kk
theorem gg_X1_2 (C : cx X own cc nL ret Ts fr lm) {a : Nat → Nat} {q : Nat} {S : tS} (hm : ms[i]? = some (btW a q S)) (hin : ∀ w ∈ wsX10, w ∈ Ts) (hlink : Cond.fieldLink own idx "NoteThemes$BoardText" "part" "I" ∈ Ts) (d : decode cc pc = .ok (.getfield idx, 3)) (hp : pc + 3 = pc') (kk : G X Q ms L (.int (S 2 0) :: st) pc') : G X Q ms L (.ref (a 0) :: st) pc :=
  G_get C (j := 0) (k := 2) (N := 5) (ci := 1) (T := TX1) (Cn := RX1) hm rfl rfl (by decide) rfl hin hlink d hp kk
theorem gp_X1_2 (C : cx X own cc nL ret Ts fr lm) {a : Nat → Nat} {q : Nat} {S : tS} {v : Int32} (hm : ms[i]? = some (btW a q S)) (hin : ∀ w ∈ wsX10, w ∈ Ts) (hlink : Cond.fieldLink own idx "NoteThemes$BoardText" "part" "I" ∈ Ts) (d : decode cc pc = .ok (.putfield idx, 3)) (hp : pc + 3 = pc') (kk : G X Q (ms.set i (btW a q (va_up S 2 (fun _ => v)))) L st pc') : G X Q ms L (.int v :: .ref (a 0) :: st) pc :=
  G_put C (j := 0) (k := 2) (N := 5) (ci := 1) (T := TX1) (Cn := RX1) (ty := .int) (ty0 := tyX1) hm rfl rfl (by decide) (Nat.le_of_ble_eq_true rfl) rfl tyX1_ok nmX1 rfl (by decide +kernel) rfl rfl hin hlink d hp kk
theorem gg_X1_3 (C : cx X own cc nL ret Ts fr lm) {a : Nat → Nat} {q : Nat} {S : tS} (hm : ms[i]? = some (btW a q S)) (hin : ∀ w ∈ wsX10, w ∈ Ts) (hlink : Cond.fieldLink own idx "NoteThemes$BoardText" "number" "I" ∈ Ts) (d : decode cc pc = .ok (.getfield idx, 3)) (hp : pc + 3 = pc') (kk : G X Q ms L (.int (S 3 0) :: st) pc') : G X Q ms L (.ref (a 0) :: st) pc :=
  G_get C (j := 0) (k := 3) (N := 5) (ci := 1) (T := TX1) (Cn := RX1) hm rfl rfl (by decide) rfl hin hlink d hp kk
theorem gp_X1_3 (C : cx X own cc nL ret Ts fr lm) {a : Nat → Nat} {q : Nat} {S : tS} {v : Int32} (hm : ms[i]? = some (btW a q S)) (hin : ∀ w ∈ wsX10, w ∈ Ts) (hlink : Cond.fieldLink own idx "NoteThemes$BoardText" "number" "I" ∈ Ts) (d : decode cc pc = .ok (.putfield idx, 3)) (hp : pc + 3 = pc') (kk : G X Q (ms.set i (btW a q (va_up S 3 (fun _ => v)))) L st pc') : G X Q ms L (.int v :: .ref (a 0) :: st) pc :=
  G_put C (j := 0) (k := 3) (N := 5) (ci := 1) (T := TX1) (Cn := RX1) (ty := .int) (ty0 := tyX1) hm rfl rfl (by decide) (Nat.le_of_ble_eq_true rfl) rfl tyX1_ok nmX1 rfl (by decide +kernel) rfl rfl hin hlink d hp kk
theorem gg_X1_4 (C : cx X own cc nL ret Ts fr lm) {a : Nat → Nat} {q : Nat} {S : tS} (hm : ms[i]? = some (btW a q S)) (hin : ∀ w ∈ wsX10, w ∈ Ts) (hlink : Cond.fieldLink own idx "NoteThemes$BoardText" "column" "I" ∈ Ts) (d : decode cc pc = .ok (.getfield idx, 3)) (hp : pc + 3 = pc') (kk : G X Q ms L (.int (S 4 0) :: st) pc') : G X Q ms L (.ref (a 0) :: st) pc :=
  G_get C (j := 0) (k := 4) (N := 5) (ci := 1) (T := TX1) (Cn := RX1) hm rfl rfl (by decide) rfl hin hlink d hp kk
theorem gp_X1_4 (C : cx X own cc nL ret Ts fr lm) {a : Nat → Nat} {q : Nat} {S : tS} {v : Int32} (hm : ms[i]? = some (btW a q S)) (hin : ∀ w ∈ wsX10, w ∈ Ts) (hlink : Cond.fieldLink own idx "NoteThemes$BoardText" "column" "I" ∈ Ts) (d : decode cc pc = .ok (.putfield idx, 3)) (hp : pc + 3 = pc') (kk : G X Q (ms.set i (btW a q (va_up S 4 (fun _ => v)))) L st pc') : G X Q ms L (.int v :: .ref (a 0) :: st) pc :=
  G_put C (j := 0) (k := 4) (N := 5) (ci := 1) (T := TX1) (Cn := RX1) (ty := .int) (ty0 := tyX1) hm rfl rfl (by decide) (Nat.le_of_ble_eq_true rfl) rfl tyX1_ok nmX1 rfl (by decide +kernel) rfl rfl hin hlink d hp kk
theorem gg_X5_0 (C : cx X own cc nL ret Ts fr lm) {pa : Nat → Nat → Nat} {S : tS} (hm : ms[i]? = some (ntW pa S)) (hin : ∀ w ∈ wsX50, w ∈ Ts) (hlink : Cond.fieldLink own idx "NoteThemes" "board" "LNoteThemes$Board;" ∈ Ts) (d : decode cc pc = .ok (.getfield idx, 3)) (hp : pc + 3 = pc') (kk : G X Q ms L (.ref (pa 1 0) :: st) pc') : G X Q ms L (.ref (pa 0 0) :: st) pc :=
  G_get C (j := 0) (k := 0) (N := 11) (ci := 5) (T := TX5) (Cn := RX5) hm rfl rfl (by decide) rfl hin hlink d hp kk
theorem gg_X5_1 (C : cx X own cc nL ret Ts fr lm) {pa : Nat → Nat → Nat} {S : tS} (hm : ms[i]? = some (ntW pa S)) (hin : ∀ w ∈ wsX50, w ∈ Ts) (hlink : Cond.fieldLink own idx "NoteThemes" "history" "LNoteThemes$History;" ∈ Ts) (d : decode cc pc = .ok (.getfield idx, 3)) (hp : pc + 3 = pc') (kk : G X Q ms L (.ref (pa 2 0) :: st) pc') : G X Q ms L (.ref (pa 0 0) :: st) pc :=
  G_get C (j := 0) (k := 1) (N := 11) (ci := 5) (T := TX5) (Cn := RX5) hm rfl rfl (by decide) rfl hin hlink d hp kk
theorem gg_X5_2 (C : cx X own cc nL ret Ts fr lm) {pa : Nat → Nat → Nat} {S : tS} (hm : ms[i]? = some (ntW pa S)) (hin : ∀ w ∈ wsX50, w ∈ Ts) (hlink : Cond.fieldLink own idx "NoteThemes" "snapshot" "LNoteThemes$Board;" ∈ Ts) (d : decode cc pc = .ok (.getfield idx, 3)) (hp : pc + 3 = pc') (kk : G X Q ms L (.ref (pa 3 0) :: st) pc') : G X Q ms L (.ref (pa 0 0) :: st) pc :=
  G_get C (j := 0) (k := 2) (N := 11) (ci := 5) (T := TX5) (Cn := RX5) hm rfl rfl (by decide) rfl hin hlink d hp kk
theorem gg_X5_3 (C : cx X own cc nL ret Ts fr lm) {pa : Nat → Nat → Nat} {S : tS} (hm : ms[i]? = some (ntW pa S)) (hin : ∀ w ∈ wsX50, w ∈ Ts) (hlink : Cond.fieldLink own idx "NoteThemes" "hasSnapshot" "Z" ∈ Ts) (d : decode cc pc = .ok (.getfield idx, 3)) (hp : pc + 3 = pc') (kk : G X Q ms L (.int (S 3 0) :: st) pc') : G X Q ms L (.ref (pa 0 0) :: st) pc :=
  G_get C (j := 0) (k := 3) (N := 11) (ci := 5) (T := TX5) (Cn := RX5) hm rfl rfl (by decide) rfl hin hlink d hp kk
theorem gp_X5_3 (C : cx X own cc nL ret Ts fr lm) {pa : Nat → Nat → Nat} {S : tS} {v : Int32} (hm : ms[i]? = some (ntW pa S)) (hz : narrow .boolean (.int v) = .int v) (hz2 : fits .boolean (.int v) = true) (hin : ∀ w ∈ wsX50, w ∈ Ts) (hlink : Cond.fieldLink own idx "NoteThemes" "hasSnapshot" "Z" ∈ Ts) (d : decode cc pc = .ok (.putfield idx, 3)) (hp : pc + 3 = pc') (kk : G X Q (ms.set i (ntW pa (va_up S 3 (fun _ => v)))) L st pc') : G X Q ms L (.int v :: .ref (pa 0 0) :: st) pc :=
  G_put C (j := 0) (k := 3) (N := 11) (ci := 5) (T := TX5) (Cn := RX5) (ty := .boolean) (ty0 := tyX5) hm rfl rfl (by decide) (Nat.le_of_ble_eq_true rfl) rfl tyX5_ok nmX5 rfl (by decide +kernel) hz hz2 hin hlink d hp kk
theorem gg_X5_4 (C : cx X own cc nL ret Ts fr lm) {pa : Nat → Nat → Nat} {S : tS} (hm : ms[i]? = some (ntW pa S)) (hin : ∀ w ∈ wsX50, w ∈ Ts) (hlink : Cond.fieldLink own idx "NoteThemes" "text" "[C" ∈ Ts) (d : decode cc pc = .ok (.getfield idx, 3)) (hp : pc + 3 = pc') (kk : G X Q ms L (.ref (pa 4 0) :: st) pc') : G X Q ms L (.ref (pa 0 0) :: st) pc :=
  G_get C (j := 0) (k := 4) (N := 11) (ci := 5) (T := TX5) (Cn := RX5) hm rfl rfl (by decide) rfl hin hlink d hp kk
theorem gg_X5_5 (C : cx X own cc nL ret Ts fr lm) {pa : Nat → Nat → Nat} {S : tS} (hm : ms[i]? = some (ntW pa S)) (hin : ∀ w ∈ wsX50, w ∈ Ts) (hlink : Cond.fieldLink own idx "NoteThemes" "textLength" "I" ∈ Ts) (d : decode cc pc = .ok (.getfield idx, 3)) (hp : pc + 3 = pc') (kk : G X Q ms L (.int (S 5 0) :: st) pc') : G X Q ms L (.ref (pa 0 0) :: st) pc :=
  G_get C (j := 0) (k := 5) (N := 11) (ci := 5) (T := TX5) (Cn := RX5) hm rfl rfl (by decide) rfl hin hlink d hp kk
theorem gp_X5_5 (C : cx X own cc nL ret Ts fr lm) {pa : Nat → Nat → Nat} {S : tS} {v : Int32} (hm : ms[i]? = some (ntW pa S)) (hin : ∀ w ∈ wsX50, w ∈ Ts) (hlink : Cond.fieldLink own idx "NoteThemes" "textLength" "I" ∈ Ts) (d : decode cc pc = .ok (.putfield idx, 3)) (hp : pc + 3 = pc') (kk : G X Q (ms.set i (ntW pa (va_up S 5 (fun _ => v)))) L st pc') : G X Q ms L (.int v :: .ref (pa 0 0) :: st) pc :=
  G_put C (j := 0) (k := 5) (N := 11) (ci := 5) (T := TX5) (Cn := RX5) (ty := .int) (ty0 := tyX5) hm rfl rfl (by decide) (Nat.le_of_ble_eq_true rfl) rfl tyX5_ok nmX5 rfl (by decide +kernel) rfl rfl hin hlink d hp kk
theorem gg_X5_6 (C : cx X own cc nL ret Ts fr lm) {pa : Nat → Nat → Nat} {S : tS} (hm : ms[i]? = some (ntW pa S)) (hin : ∀ w ∈ wsX50, w ∈ Ts) (hlink : Cond.fieldLink own idx "NoteThemes" "trial" "LNoteThemes$Board;" ∈ Ts) (d : decode cc pc = .ok (.getfield idx, 3)) (hp : pc + 3 = pc') (kk : G X Q ms L (.ref (pa 5 0) :: st) pc') : G X Q ms L (.ref (pa 0 0) :: st) pc :=
  G_get C (j := 0) (k := 6) (N := 11) (ci := 5) (T := TX5) (Cn := RX5) hm rfl rfl (by decide) rfl hin hlink d hp kk
theorem gg_X5_7 (C : cx X own cc nL ret Ts fr lm) {pa : Nat → Nat → Nat} {S : tS} (hm : ms[i]? = some (ntW pa S)) (hin : ∀ w ∈ wsX50, w ∈ Ts) (hlink : Cond.fieldLink own idx "NoteThemes" "heapsNow" "LNoteThemes$Heaps;" ∈ Ts) (d : decode cc pc = .ok (.getfield idx, 3)) (hp : pc + 3 = pc') (kk : G X Q ms L (.ref (pa 6 0) :: st) pc') : G X Q ms L (.ref (pa 0 0) :: st) pc :=
  G_get C (j := 0) (k := 7) (N := 11) (ci := 5) (T := TX5) (Cn := RX5) hm rfl rfl (by decide) rfl hin hlink d hp kk
theorem gg_X5_8 (C : cx X own cc nL ret Ts fr lm) {pa : Nat → Nat → Nat} {S : tS} (hm : ms[i]? = some (ntW pa S)) (hin : ∀ w ∈ wsX50, w ∈ Ts) (hlink : Cond.fieldLink own idx "NoteThemes" "heapsThen" "LNoteThemes$Heaps;" ∈ Ts) (d : decode cc pc = .ok (.getfield idx, 3)) (hp : pc + 3 = pc') (kk : G X Q ms L (.ref (pa 7 0) :: st) pc') : G X Q ms L (.ref (pa 0 0) :: st) pc :=
  G_get C (j := 0) (k := 8) (N := 11) (ci := 5) (T := TX5) (Cn := RX5) hm rfl rfl (by decide) rfl hin hlink d hp kk
theorem gg_X5_9 (C : cx X own cc nL ret Ts fr lm) {pa : Nat → Nat → Nat} {S : tS} (hm : ms[i]? = some (ntW pa S)) (hin : ∀ w ∈ wsX50, w ∈ Ts) (hlink : Cond.fieldLink own idx "NoteThemes" "names" "LNoteThemes$Names;" ∈ Ts) (d : decode cc pc = .ok (.getfield idx, 3)) (hp : pc + 3 = pc') (kk : G X Q ms L (.ref (pa 8 0) :: st) pc') : G X Q ms L (.ref (pa 0 0) :: st) pc :=
  G_get C (j := 0) (k := 9) (N := 11) (ci := 5) (T := TX5) (Cn := RX5) hm rfl rfl (by decide) rfl hin hlink d hp kk
theorem gg_X5_10 (C : cx X own cc nL ret Ts fr lm) {pa : Nat → Nat → Nat} {S : tS} (hm : ms[i]? = some (ntW pa S)) (hin : ∀ w ∈ wsX50, w ∈ Ts) (hlink : Cond.fieldLink own idx "NoteThemes" "boardText" "LNoteThemes$BoardText;" ∈ Ts) (d : decode cc pc = .ok (.getfield idx, 3)) (hp : pc + 3 = pc') (kk : G X Q ms L (.ref (pa 9 0) :: st) pc') : G X Q ms L (.ref (pa 0 0) :: st) pc :=
  G_get C (j := 0) (k := 10) (N := 11) (ci := 5) (T := TX5) (Cn := RX5) hm rfl rfl (by decide) rfl hin hlink d hp kk
theorem gg_X3_0 (C : cx X own cc nL ret Ts fr lm) {a : Nat → Nat} {k : Nat → Nat → Nat} {S : tH} (hm : ms[i]? = some (hsW (gcA X) a k S)) (hin : ∀ w ∈ wsX30, w ∈ Ts) (hlink : Cond.fieldLink own idx "NoteThemes$History" "states" "I" ∈ Ts) (d : decode cc pc = .ok (.getfield idx, 3)) (hp : pc + 3 = pc') (kk : G X Q ms L (.int S.1 :: st) pc') : G X Q ms L (.ref (a 0) :: st) pc :=
  G_get C (j := 0) (k := 0) (N := 2) (ci := 3) (T := TX3) (Cn := RX3) hm rfl rfl (by decide) rfl hin hlink d hp kk
theorem gg_X3_1 (C : cx X own cc nL ret Ts fr lm) {a : Nat → Nat} {k : Nat → Nat → Nat} {S : tH} (hm : ms[i]? = some (hsW (gcA X) a k S)) (hin : ∀ w ∈ wsX30, w ∈ Ts) (hlink : Cond.fieldLink own idx "NoteThemes$History" "kept" "[LNoteThemes$Board;" ∈ Ts) (d : decode cc pc = .ok (.getfield idx, 3)) (hp : pc + 3 = pc') (kk : G X Q ms L (.ref (a 2) :: st) pc') : G X Q ms L (.ref (a 0) :: st) pc :=
  G_get C (j := 0) (k := 1) (N := 2) (ci := 3) (T := TX3) (Cn := RX3) hm rfl rfl (by decide) rfl hin hlink d hp kk
end GF
end
section
theorem dX0_init_0 : decode cX0_init 0 = .ok (.aload_n 0, 1) := by decide +kernel
theorem dX0_init_1 : decode cX0_init 1 = .ok (.invokespecial 3, 3) := by decide +kernel
theorem dX0_init_4 : decode cX0_init 4 = .ok (.aload_n 0, 1) := by decide +kernel
theorem dX0_init_5 : decode cX0_init 5 = .ok (.iconst 0, 1) := by decide +kernel
theorem dX0_init_6 : decode cX0_init 6 = .ok (.putfield 9, 3) := by decide +kernel
theorem dX0_init_9 : decode cX0_init 9 = .ok (.aload_n 0, 1) := by decide +kernel
theorem dX0_init_10 : decode cX0_init 10 = .ok (.bipush 20, 2) := by decide +kernel
theorem dX0_init_12 : decode cX0_init 12 = .ok (.newarray .int, 2) := by decide +kernel
theorem dX0_init_14 : decode cX0_init 14 = .ok (.putfield 15, 3) := by decide +kernel
theorem dX0_init_17 : decode cX0_init 17 = .ok (.aload_n 0, 1) := by decide +kernel
theorem dX0_init_18 : decode cX0_init 18 = .ok (.bipush 20, 2) := by decide +kernel
theorem dX0_init_20 : decode cX0_init 20 = .ok (.newarray .int, 2) := by decide +kernel
theorem dX0_init_22 : decode cX0_init 22 = .ok (.putfield 19, 3) := by decide +kernel
theorem dX0_init_25 : decode cX0_init 25 = .ok (.aload_n 0, 1) := by decide +kernel
theorem dX0_init_26 : decode cX0_init 26 = .ok (.bipush 20, 2) := by decide +kernel
theorem dX0_init_28 : decode cX0_init 28 = .ok (.newarray .int, 2) := by decide +kernel
theorem dX0_init_30 : decode cX0_init 30 = .ok (.putfield 22, 3) := by decide +kernel
theorem dX0_init_33 : decode cX0_init 33 = .ok (.aload_n 0, 1) := by decide +kernel
theorem dX0_init_34 : decode cX0_init 34 = .ok (.bipush 120, 2) := by decide +kernel
theorem dX0_init_36 : decode cX0_init 36 = .ok (.newarray .int, 2) := by decide +kernel
theorem dX0_init_38 : decode cX0_init 38 = .ok (.putfield 25, 3) := by decide +kernel
theorem dX0_init_41 : decode cX0_init 41 = .ok (.aload_n 0, 1) := by decide +kernel
theorem dX0_init_42 : decode cX0_init 42 = .ok (.iconst 0, 1) := by decide +kernel
theorem dX0_init_43 : decode cX0_init 43 = .ok (.putfield 28, 3) := by decide +kernel
theorem dX0_init_46 : decode cX0_init 46 = .ok (.aload_n 0, 1) := by decide +kernel
theorem dX0_init_47 : decode cX0_init 47 = .ok (.bipush 48, 2) := by decide +kernel
theorem dX0_init_49 : decode cX0_init 49 = .ok (.newarray .int, 2) := by decide +kernel
theorem dX0_init_51 : decode cX0_init 51 = .ok (.putfield 31, 3) := by decide +kernel
theorem dX0_init_54 : decode cX0_init 54 = .ok (.aload_n 0, 1) := by decide +kernel
theorem dX0_init_55 : decode cX0_init 55 = .ok (.iconst 3, 1) := by decide +kernel
theorem dX0_init_56 : decode cX0_init 56 = .ok (.newarray .int, 2) := by decide +kernel
theorem dX0_init_58 : decode cX0_init 58 = .ok (.putfield 34, 3) := by decide +kernel
theorem dX0_init_61 : decode cX0_init 61 = .ok (.getstatic 37, 3) := by decide +kernel
theorem dX0_init_64 : decode cX0_init 64 = .ok (.iconst 0, 1) := by decide +kernel
theorem dX0_init_65 : decode cX0_init 65 = .ok (.aload_n 0, 1) := by decide +kernel
theorem dX0_init_66 : decode cX0_init 66 = .ok (.getfield 34, 3) := by decide +kernel
theorem dX0_init_69 : decode cX0_init 69 = .ok (.iconst 0, 1) := by decide +kernel
theorem dX0_init_70 : decode cX0_init 70 = .ok (.iconst 3, 1) := by decide +kernel
theorem dX0_init_71 : decode cX0_init 71 = .ok (.invokestatic 40, 3) := by decide +kernel
theorem dX0_init_74 : decode cX0_init 74 = .ok (.return_, 1) := by decide +kernel
theorem dX0_copyFrom_0 : decode cX0_copyFrom 0 = .ok (.aload_n 0, 1) := by decide +kernel
theorem dX0_copyFrom_1 : decode cX0_copyFrom 1 = .ok (.aload_n 1, 1) := by decide +kernel
theorem dX0_copyFrom_2 : decode cX0_copyFrom 2 = .ok (.getfield 9, 3) := by decide +kernel
theorem dX0_copyFrom_5 : decode cX0_copyFrom 5 = .ok (.putfield 9, 3) := by decide +kernel
theorem dX0_copyFrom_8 : decode cX0_copyFrom 8 = .ok (.aload_n 1, 1) := by decide +kernel
theorem dX0_copyFrom_9 : decode cX0_copyFrom 9 = .ok (.getfield 15, 3) := by decide +kernel
theorem dX0_copyFrom_12 : decode cX0_copyFrom 12 = .ok (.iconst 0, 1) := by decide +kernel
theorem dX0_copyFrom_13 : decode cX0_copyFrom 13 = .ok (.aload_n 0, 1) := by decide +kernel
theorem dX0_copyFrom_14 : decode cX0_copyFrom 14 = .ok (.getfield 15, 3) := by decide +kernel
theorem dX0_copyFrom_17 : decode cX0_copyFrom 17 = .ok (.iconst 0, 1) := by decide +kernel
theorem dX0_copyFrom_18 : decode cX0_copyFrom 18 = .ok (.bipush 20, 2) := by decide +kernel
theorem dX0_copyFrom_20 : decode cX0_copyFrom 20 = .ok (.invokestatic 40, 3) := by decide +kernel
theorem dX0_copyFrom_23 : decode cX0_copyFrom 23 = .ok (.aload_n 1, 1) := by decide +kernel
theorem dX0_copyFrom_24 : decode cX0_copyFrom 24 = .ok (.getfield 19, 3) := by decide +kernel
theorem dX0_copyFrom_27 : decode cX0_copyFrom 27 = .ok (.iconst 0, 1) := by decide +kernel
theorem dX0_copyFrom_28 : decode cX0_copyFrom 28 = .ok (.aload_n 0, 1) := by decide +kernel
theorem dX0_copyFrom_29 : decode cX0_copyFrom 29 = .ok (.getfield 19, 3) := by decide +kernel
theorem dX0_copyFrom_32 : decode cX0_copyFrom 32 = .ok (.iconst 0, 1) := by decide +kernel
theorem dX0_copyFrom_33 : decode cX0_copyFrom 33 = .ok (.bipush 20, 2) := by decide +kernel
theorem dX0_copyFrom_35 : decode cX0_copyFrom 35 = .ok (.invokestatic 40, 3) := by decide +kernel
theorem dX0_copyFrom_38 : decode cX0_copyFrom 38 = .ok (.aload_n 1, 1) := by decide +kernel
theorem dX0_copyFrom_39 : decode cX0_copyFrom 39 = .ok (.getfield 22, 3) := by decide +kernel
theorem dX0_copyFrom_42 : decode cX0_copyFrom 42 = .ok (.iconst 0, 1) := by decide +kernel
theorem dX0_copyFrom_43 : decode cX0_copyFrom 43 = .ok (.aload_n 0, 1) := by decide +kernel
theorem dX0_copyFrom_44 : decode cX0_copyFrom 44 = .ok (.getfield 22, 3) := by decide +kernel
theorem dX0_copyFrom_47 : decode cX0_copyFrom 47 = .ok (.iconst 0, 1) := by decide +kernel
theorem dX0_copyFrom_48 : decode cX0_copyFrom 48 = .ok (.bipush 20, 2) := by decide +kernel
theorem dX0_copyFrom_50 : decode cX0_copyFrom 50 = .ok (.invokestatic 40, 3) := by decide +kernel
theorem dX0_copyFrom_53 : decode cX0_copyFrom 53 = .ok (.aload_n 1, 1) := by decide +kernel
theorem dX0_copyFrom_54 : decode cX0_copyFrom 54 = .ok (.getfield 25, 3) := by decide +kernel
theorem dX0_copyFrom_57 : decode cX0_copyFrom 57 = .ok (.iconst 0, 1) := by decide +kernel
theorem dX0_copyFrom_58 : decode cX0_copyFrom 58 = .ok (.aload_n 0, 1) := by decide +kernel
theorem dX0_copyFrom_59 : decode cX0_copyFrom 59 = .ok (.getfield 25, 3) := by decide +kernel
theorem dX0_copyFrom_62 : decode cX0_copyFrom 62 = .ok (.iconst 0, 1) := by decide +kernel
theorem dX0_copyFrom_63 : decode cX0_copyFrom 63 = .ok (.bipush 120, 2) := by decide +kernel
theorem dX0_copyFrom_65 : decode cX0_copyFrom 65 = .ok (.invokestatic 40, 3) := by decide +kernel
theorem dX0_copyFrom_68 : decode cX0_copyFrom 68 = .ok (.aload_n 0, 1) := by decide +kernel
theorem dX0_copyFrom_69 : decode cX0_copyFrom 69 = .ok (.aload_n 1, 1) := by decide +kernel
theorem dX0_copyFrom_70 : decode cX0_copyFrom 70 = .ok (.getfield 28, 3) := by decide +kernel
theorem dX0_copyFrom_73 : decode cX0_copyFrom 73 = .ok (.putfield 28, 3) := by decide +kernel
theorem dX0_copyFrom_76 : decode cX0_copyFrom 76 = .ok (.aload_n 1, 1) := by decide +kernel
theorem dX0_copyFrom_77 : decode cX0_copyFrom 77 = .ok (.getfield 31, 3) := by decide +kernel
theorem dX0_copyFrom_80 : decode cX0_copyFrom 80 = .ok (.iconst 0, 1) := by decide +kernel
theorem dX0_copyFrom_81 : decode cX0_copyFrom 81 = .ok (.aload_n 0, 1) := by decide +kernel
theorem dX0_copyFrom_82 : decode cX0_copyFrom 82 = .ok (.getfield 31, 3) := by decide +kernel
theorem dX0_copyFrom_85 : decode cX0_copyFrom 85 = .ok (.iconst 0, 1) := by decide +kernel
theorem dX0_copyFrom_86 : decode cX0_copyFrom 86 = .ok (.bipush 48, 2) := by decide +kernel
theorem dX0_copyFrom_88 : decode cX0_copyFrom 88 = .ok (.invokestatic 40, 3) := by decide +kernel
theorem dX0_copyFrom_91 : decode cX0_copyFrom 91 = .ok (.aload_n 1, 1) := by decide +kernel
theorem dX0_copyFrom_92 : decode cX0_copyFrom 92 = .ok (.getfield 34, 3) := by decide +kernel
theorem dX0_copyFrom_95 : decode cX0_copyFrom 95 = .ok (.iconst 0, 1) := by decide +kernel
theorem dX0_copyFrom_96 : decode cX0_copyFrom 96 = .ok (.aload_n 0, 1) := by decide +kernel
theorem dX0_copyFrom_97 : decode cX0_copyFrom 97 = .ok (.getfield 34, 3) := by decide +kernel
theorem dX0_copyFrom_100 : decode cX0_copyFrom 100 = .ok (.iconst 0, 1) := by decide +kernel
theorem dX0_copyFrom_101 : decode cX0_copyFrom 101 = .ok (.iconst 3, 1) := by decide +kernel
theorem dX0_copyFrom_102 : decode cX0_copyFrom 102 = .ok (.invokestatic 40, 3) := by decide +kernel
theorem dX0_copyFrom_105 : decode cX0_copyFrom 105 = .ok (.return_, 1) := by decide +kernel
theorem dX0_removeAll_0 : decode cX0_removeAll 0 = .ok (.aload_n 0, 1) := by decide +kernel
theorem dX0_removeAll_1 : decode cX0_removeAll 1 = .ok (.iconst 0, 1) := by decide +kernel
theorem dX0_removeAll_2 : decode cX0_removeAll 2 = .ok (.putfield 9, 3) := by decide +kernel
theorem dX0_removeAll_5 : decode cX0_removeAll 5 = .ok (.aload_n 0, 1) := by decide +kernel
theorem dX0_removeAll_6 : decode cX0_removeAll 6 = .ok (.iconst 0, 1) := by decide +kernel
theorem dX0_removeAll_7 : decode cX0_removeAll 7 = .ok (.putfield 28, 3) := by decide +kernel
theorem dX0_removeAll_10 : decode cX0_removeAll 10 = .ok (.return_, 1) := by decide +kernel
theorem dX0_hasNote_0 : decode cX0_hasNote 0 = .ok (.iload_n 1, 1) := by decide +kernel
theorem dX0_hasNote_1 : decode cX0_hasNote 1 = .ok (.ifCond .lt 15, 3) := by decide +kernel
theorem dX0_hasNote_4 : decode cX0_hasNote 4 = .ok (.iload_n 1, 1) := by decide +kernel
theorem dX0_hasNote_5 : decode cX0_hasNote 5 = .ok (.aload_n 0, 1) := by decide +kernel
theorem dX0_hasNote_6 : decode cX0_hasNote 6 = .ok (.getfield 9, 3) := by decide +kernel
theorem dX0_hasNote_9 : decode cX0_hasNote 9 = .ok (.if_icmp .ge 7, 3) := by decide +kernel
theorem dX0_hasNote_12 : decode cX0_hasNote 12 = .ok (.iconst 1, 1) := by decide +kernel
theorem dX0_hasNote_13 : decode cX0_hasNote 13 = .ok (.goto 4, 3) := by decide +kernel
theorem dX0_hasNote_16 : decode cX0_hasNote 16 = .ok (.iconst 0, 1) := by decide +kernel
theorem dX0_hasNote_17 : decode cX0_hasNote 17 = .ok (.ireturn, 1) := by decide +kernel
theorem dX0_hasTheme_0 : decode cX0_hasTheme 0 = .ok (.iload_n 1, 1) := by decide +kernel
theorem dX0_hasTheme_1 : decode cX0_hasTheme 1 = .ok (.ifCond .lt 15, 3) := by decide +kernel
theorem dX0_hasTheme_4 : decode cX0_hasTheme 4 = .ok (.iload_n 1, 1) := by decide +kernel
theorem dX0_hasTheme_5 : decode cX0_hasTheme 5 = .ok (.aload_n 0, 1) := by decide +kernel
theorem dX0_hasTheme_6 : decode cX0_hasTheme 6 = .ok (.getfield 28, 3) := by decide +kernel
theorem dX0_hasTheme_9 : decode cX0_hasTheme 9 = .ok (.if_icmp .ge 7, 3) := by decide +kernel
theorem dX0_hasTheme_12 : decode cX0_hasTheme 12 = .ok (.iconst 1, 1) := by decide +kernel
theorem dX0_hasTheme_13 : decode cX0_hasTheme 13 = .ok (.goto 4, 3) := by decide +kernel
theorem dX0_hasTheme_16 : decode cX0_hasTheme 16 = .ok (.iconst 0, 1) := by decide +kernel
theorem dX0_hasTheme_17 : decode cX0_hasTheme 17 = .ok (.ireturn, 1) := by decide +kernel
set_option maxRecDepth 20000 in
theorem ggX0_addNote_X0_moveNote : GoodIn wsX0_addNote wsX0_moveNote := goodIn_r _ [8, 9, 10, 11, 12, 13, 14, 15, 16, 17, 18] (by decide +kernel) (by decide +kernel)
set_option maxRecDepth 20000 in
theorem gX0_addNote_X0_moveNote : GoodIn wsX0_addNote (wsV RX0 46 RX0 yX0_moveNote wsX0_moveNote) := goodIn_app (goodIn_of _ (by decide +kernel)) ggX0_addNote_X0_moveNote
theorem dX0_addNote_0 : decode cX0_addNote 0 = .ok (.aload_n 0, 1) := by decide +kernel
theorem dX0_addNote_1 : decode cX0_addNote 1 = .ok (.getfield 9, 3) := by decide +kernel
theorem dX0_addNote_4 : decode cX0_addNote 4 = .ok (.istore_n 3, 1) := by decide +kernel
theorem dX0_addNote_5 : decode cX0_addNote 5 = .ok (.aload_n 0, 1) := by decide +kernel
theorem dX0_addNote_6 : decode cX0_addNote 6 = .ok (.dup, 1) := by decide +kernel
theorem dX0_addNote_7 : decode cX0_addNote 7 = .ok (.getfield 9, 3) := by decide +kernel
theorem dX0_addNote_10 : decode cX0_addNote 10 = .ok (.iconst 1, 1) := by decide +kernel
theorem dX0_addNote_11 : decode cX0_addNote 11 = .ok (.iadd, 1) := by decide +kernel
theorem dX0_addNote_12 : decode cX0_addNote 12 = .ok (.putfield 9, 3) := by decide +kernel
theorem dX0_addNote_15 : decode cX0_addNote 15 = .ok (.aload_n 0, 1) := by decide +kernel
theorem dX0_addNote_16 : decode cX0_addNote 16 = .ok (.iload_n 3, 1) := by decide +kernel
theorem dX0_addNote_17 : decode cX0_addNote 17 = .ok (.iload_n 1, 1) := by decide +kernel
theorem dX0_addNote_18 : decode cX0_addNote 18 = .ok (.iload_n 2, 1) := by decide +kernel
theorem dX0_addNote_19 : decode cX0_addNote 19 = .ok (.invokevirtual 46, 3) := by decide +kernel
theorem dX0_addNote_22 : decode cX0_addNote 22 = .ok (.aload_n 0, 1) := by decide +kernel
theorem dX0_addNote_23 : decode cX0_addNote 23 = .ok (.getfield 22, 3) := by decide +kernel
theorem dX0_addNote_26 : decode cX0_addNote 26 = .ok (.iload_n 3, 1) := by decide +kernel
theorem dX0_addNote_27 : decode cX0_addNote 27 = .ok (.bipush (-5), 2) := by decide +kernel
theorem dX0_addNote_29 : decode cX0_addNote 29 = .ok (.iastore, 1) := by decide +kernel
theorem dX0_addNote_30 : decode cX0_addNote 30 = .ok (.iconst 0, 1) := by decide +kernel
theorem dX0_addNote_31 : decode cX0_addNote 31 = .ok (.istore 4, 2) := by decide +kernel
theorem dX0_addNote_33 : decode cX0_addNote 33 = .ok (.iload 4, 2) := by decide +kernel
theorem dX0_addNote_35 : decode cX0_addNote 35 = .ok (.bipush 6, 2) := by decide +kernel
theorem dX0_addNote_37 : decode cX0_addNote 37 = .ok (.if_icmp .ge 22, 3) := by decide +kernel
theorem dX0_addNote_40 : decode cX0_addNote 40 = .ok (.aload_n 0, 1) := by decide +kernel
theorem dX0_addNote_41 : decode cX0_addNote 41 = .ok (.getfield 25, 3) := by decide +kernel
theorem dX0_addNote_44 : decode cX0_addNote 44 = .ok (.iload_n 3, 1) := by decide +kernel
theorem dX0_addNote_45 : decode cX0_addNote 45 = .ok (.bipush 6, 2) := by decide +kernel
theorem dX0_addNote_47 : decode cX0_addNote 47 = .ok (.imul, 1) := by decide +kernel
theorem dX0_addNote_48 : decode cX0_addNote 48 = .ok (.iload 4, 2) := by decide +kernel
theorem dX0_addNote_50 : decode cX0_addNote 50 = .ok (.iadd, 1) := by decide +kernel
theorem dX0_addNote_51 : decode cX0_addNote 51 = .ok (.iconst 0, 1) := by decide +kernel
theorem dX0_addNote_52 : decode cX0_addNote 52 = .ok (.iastore, 1) := by decide +kernel
theorem dX0_addNote_53 : decode cX0_addNote 53 = .ok (.iinc 4 1, 3) := by decide +kernel
theorem dX0_addNote_56 : decode cX0_addNote 56 = .ok (.goto (-23), 3) := by decide +kernel
theorem dX0_addNote_59 : decode cX0_addNote 59 = .ok (.return_, 1) := by decide +kernel
theorem dX0_moveNote_0 : decode cX0_moveNote 0 = .ok (.aload_n 0, 1) := by decide +kernel
theorem dX0_moveNote_1 : decode cX0_moveNote 1 = .ok (.getfield 15, 3) := by decide +kernel
theorem dX0_moveNote_4 : decode cX0_moveNote 4 = .ok (.iload_n 1, 1) := by decide +kernel
theorem dX0_moveNote_5 : decode cX0_moveNote 5 = .ok (.iload_n 2, 1) := by decide +kernel
theorem dX0_moveNote_6 : decode cX0_moveNote 6 = .ok (.iastore, 1) := by decide +kernel
theorem dX0_moveNote_7 : decode cX0_moveNote 7 = .ok (.aload_n 0, 1) := by decide +kernel
theorem dX0_moveNote_8 : decode cX0_moveNote 8 = .ok (.getfield 19, 3) := by decide +kernel
theorem dX0_moveNote_11 : decode cX0_moveNote 11 = .ok (.iload_n 1, 1) := by decide +kernel
theorem dX0_moveNote_12 : decode cX0_moveNote 12 = .ok (.iload_n 3, 1) := by decide +kernel
theorem dX0_moveNote_13 : decode cX0_moveNote 13 = .ok (.iastore, 1) := by decide +kernel
theorem dX0_moveNote_14 : decode cX0_moveNote 14 = .ok (.return_, 1) := by decide +kernel
set_option maxRecDepth 20000 in
theorem ggX0_removeNote_X0_copyNote : GoodIn wsX0_removeNote wsX0_copyNote := goodIn_r _ [7, 8, 9, 1, 10, 11, 12, 13, 6, 14, 33, 34, 35, 36, 37, 38, 39, 40] (by decide +kernel) (by decide +kernel)
set_option maxRecDepth 20000 in
theorem gX0_removeNote_X0_copyNote : GoodIn wsX0_removeNote (wsV RX0 50 RX0 yX0_copyNote wsX0_copyNote) := goodIn_app (goodIn_of _ (by decide +kernel)) ggX0_removeNote_X0_copyNote
set_option maxRecDepth 20000 in
theorem ggX0_removeNote_X0_removeThemeIfEmpty : GoodIn wsX0_removeNote wsX0_removeThemeIfEmpty := goodIn_r _ [18, 2, 1, 19, 20, 21, 22, 6, 23, 24, 25, 26, 27, 28, 29, 30, 31, 32, 33, 34, 35, 36, 37, 38, 39, 40] (by decide +kernel) (by decide +kernel)
set_option maxRecDepth 20000 in
theorem gX0_removeNote_X0_removeThemeIfEmpty : GoodIn wsX0_removeNote (wsV RX0 54 RX0 yX0_removeThemeIfEmpty wsX0_removeThemeIfEmpty) := goodIn_app (goodIn_of _ (by decide +kernel)) ggX0_removeNote_X0_removeThemeIfEmpty
theorem dX0_removeNote_0 : decode cX0_removeNote 0 = .ok (.aload_n 0, 1) := by decide +kernel
theorem dX0_removeNote_1 : decode cX0_removeNote 1 = .ok (.getfield 22, 3) := by decide +kernel
theorem dX0_removeNote_4 : decode cX0_removeNote 4 = .ok (.iload_n 1, 1) := by decide +kernel
theorem dX0_removeNote_5 : decode cX0_removeNote 5 = .ok (.iaload, 1) := by decide +kernel
theorem dX0_removeNote_6 : decode cX0_removeNote 6 = .ok (.istore_n 2, 1) := by decide +kernel
theorem dX0_removeNote_7 : decode cX0_removeNote 7 = .ok (.iload_n 1, 1) := by decide +kernel
theorem dX0_removeNote_8 : decode cX0_removeNote 8 = .ok (.istore_n 3, 1) := by decide +kernel
theorem dX0_removeNote_9 : decode cX0_removeNote 9 = .ok (.iload_n 3, 1) := by decide +kernel
theorem dX0_removeNote_10 : decode cX0_removeNote 10 = .ok (.aload_n 0, 1) := by decide +kernel
theorem dX0_removeNote_11 : decode cX0_removeNote 11 = .ok (.getfield 9, 3) := by decide +kernel
theorem dX0_removeNote_14 : decode cX0_removeNote 14 = .ok (.iconst 1, 1) := by decide +kernel
theorem dX0_removeNote_15 : decode cX0_removeNote 15 = .ok (.isub, 1) := by decide +kernel
theorem dX0_removeNote_16 : decode cX0_removeNote 16 = .ok (.if_icmp .ge 17, 3) := by decide +kernel
theorem dX0_removeNote_19 : decode cX0_removeNote 19 = .ok (.aload_n 0, 1) := by decide +kernel
theorem dX0_removeNote_20 : decode cX0_removeNote 20 = .ok (.iload_n 3, 1) := by decide +kernel
theorem dX0_removeNote_21 : decode cX0_removeNote 21 = .ok (.iconst 1, 1) := by decide +kernel
theorem dX0_removeNote_22 : decode cX0_removeNote 22 = .ok (.iadd, 1) := by decide +kernel
theorem dX0_removeNote_23 : decode cX0_removeNote 23 = .ok (.iload_n 3, 1) := by decide +kernel
theorem dX0_removeNote_24 : decode cX0_removeNote 24 = .ok (.invokevirtual 50, 3) := by decide +kernel
theorem dX0_removeNote_27 : decode cX0_removeNote 27 = .ok (.iinc 3 1, 3) := by decide +kernel
theorem dX0_removeNote_30 : decode cX0_removeNote 30 = .ok (.goto (-21), 3) := by decide +kernel
theorem dX0_removeNote_33 : decode cX0_removeNote 33 = .ok (.aload_n 0, 1) := by decide +kernel
theorem dX0_removeNote_34 : decode cX0_removeNote 34 = .ok (.dup, 1) := by decide +kernel
theorem dX0_removeNote_35 : decode cX0_removeNote 35 = .ok (.getfield 9, 3) := by decide +kernel
theorem dX0_removeNote_38 : decode cX0_removeNote 38 = .ok (.iconst 1, 1) := by decide +kernel
theorem dX0_removeNote_39 : decode cX0_removeNote 39 = .ok (.isub, 1) := by decide +kernel
theorem dX0_removeNote_40 : decode cX0_removeNote 40 = .ok (.putfield 9, 3) := by decide +kernel
theorem dX0_removeNote_43 : decode cX0_removeNote 43 = .ok (.aload_n 0, 1) := by decide +kernel
theorem dX0_removeNote_44 : decode cX0_removeNote 44 = .ok (.iload_n 2, 1) := by decide +kernel
theorem dX0_removeNote_45 : decode cX0_removeNote 45 = .ok (.invokevirtual 54, 3) := by decide +kernel
theorem dX0_removeNote_48 : decode cX0_removeNote 48 = .ok (.return_, 1) := by decide +kernel
set_option maxRecDepth 20000 in
theorem ggX0_copyNote_X0_moveNote : GoodIn wsX0_copyNote wsX0_moveNote := goodIn_r _ [9, 1, 2, 10, 11, 12, 13, 14, 15, 16, 17] (by decide +kernel) (by decide +kernel)
set_option maxRecDepth 20000 in
theorem gX0_copyNote_X0_moveNote : GoodIn wsX0_copyNote (wsV RX0 46 RX0 yX0_moveNote wsX0_moveNote) := goodIn_app (goodIn_of _ (by decide +kernel)) ggX0_copyNote_X0_moveNote
theorem dX0_copyNote_0 : decode cX0_copyNote 0 = .ok (.aload_n 0, 1) := by decide +kernel
theorem dX0_copyNote_1 : decode cX0_copyNote 1 = .ok (.iload_n 2, 1) := by decide +kernel
theorem dX0_copyNote_2 : decode cX0_copyNote 2 = .ok (.aload_n 0, 1) := by decide +kernel
theorem dX0_copyNote_3 : decode cX0_copyNote 3 = .ok (.getfield 15, 3) := by decide +kernel
theorem dX0_copyNote_6 : decode cX0_copyNote 6 = .ok (.iload_n 1, 1) := by decide +kernel
theorem dX0_copyNote_7 : decode cX0_copyNote 7 = .ok (.iaload, 1) := by decide +kernel
theorem dX0_copyNote_8 : decode cX0_copyNote 8 = .ok (.aload_n 0, 1) := by decide +kernel
theorem dX0_copyNote_9 : decode cX0_copyNote 9 = .ok (.getfield 19, 3) := by decide +kernel
theorem dX0_copyNote_12 : decode cX0_copyNote 12 = .ok (.iload_n 1, 1) := by decide +kernel
theorem dX0_copyNote_13 : decode cX0_copyNote 13 = .ok (.iaload, 1) := by decide +kernel
theorem dX0_copyNote_14 : decode cX0_copyNote 14 = .ok (.invokevirtual 46, 3) := by decide +kernel
theorem dX0_copyNote_17 : decode cX0_copyNote 17 = .ok (.aload_n 0, 1) := by decide +kernel
theorem dX0_copyNote_18 : decode cX0_copyNote 18 = .ok (.getfield 22, 3) := by decide +kernel
theorem dX0_copyNote_21 : decode cX0_copyNote 21 = .ok (.iload_n 2, 1) := by decide +kernel
theorem dX0_copyNote_22 : decode cX0_copyNote 22 = .ok (.aload_n 0, 1) := by decide +kernel
theorem dX0_copyNote_23 : decode cX0_copyNote 23 = .ok (.getfield 22, 3) := by decide +kernel
theorem dX0_copyNote_26 : decode cX0_copyNote 26 = .ok (.iload_n 1, 1) := by decide +kernel
theorem dX0_copyNote_27 : decode cX0_copyNote 27 = .ok (.iaload, 1) := by decide +kernel
theorem dX0_copyNote_28 : decode cX0_copyNote 28 = .ok (.iastore, 1) := by decide +kernel
theorem dX0_copyNote_29 : decode cX0_copyNote 29 = .ok (.iconst 0, 1) := by decide +kernel
theorem dX0_copyNote_30 : decode cX0_copyNote 30 = .ok (.istore_n 3, 1) := by decide +kernel
theorem dX0_copyNote_31 : decode cX0_copyNote 31 = .ok (.iload_n 3, 1) := by decide +kernel
theorem dX0_copyNote_32 : decode cX0_copyNote 32 = .ok (.bipush 6, 2) := by decide +kernel
theorem dX0_copyNote_34 : decode cX0_copyNote 34 = .ok (.if_icmp .ge 31, 3) := by decide +kernel
theorem dX0_copyNote_37 : decode cX0_copyNote 37 = .ok (.aload_n 0, 1) := by decide +kernel
theorem dX0_copyNote_38 : decode cX0_copyNote 38 = .ok (.getfield 25, 3) := by decide +kernel
theorem dX0_copyNote_41 : decode cX0_copyNote 41 = .ok (.iload_n 2, 1) := by decide +kernel
theorem dX0_copyNote_42 : decode cX0_copyNote 42 = .ok (.bipush 6, 2) := by decide +kernel
theorem dX0_copyNote_44 : decode cX0_copyNote 44 = .ok (.imul, 1) := by decide +kernel
theorem dX0_copyNote_45 : decode cX0_copyNote 45 = .ok (.iload_n 3, 1) := by decide +kernel
theorem dX0_copyNote_46 : decode cX0_copyNote 46 = .ok (.iadd, 1) := by decide +kernel
theorem dX0_copyNote_47 : decode cX0_copyNote 47 = .ok (.aload_n 0, 1) := by decide +kernel
theorem dX0_copyNote_48 : decode cX0_copyNote 48 = .ok (.getfield 25, 3) := by decide +kernel
theorem dX0_copyNote_51 : decode cX0_copyNote 51 = .ok (.iload_n 1, 1) := by decide +kernel
theorem dX0_copyNote_52 : decode cX0_copyNote 52 = .ok (.bipush 6, 2) := by decide +kernel
theorem dX0_copyNote_54 : decode cX0_copyNote 54 = .ok (.imul, 1) := by decide +kernel
theorem dX0_copyNote_55 : decode cX0_copyNote 55 = .ok (.iload_n 3, 1) := by decide +kernel
theorem dX0_copyNote_56 : decode cX0_copyNote 56 = .ok (.iadd, 1) := by decide +kernel
theorem dX0_copyNote_57 : decode cX0_copyNote 57 = .ok (.iaload, 1) := by decide +kernel
theorem dX0_copyNote_58 : decode cX0_copyNote 58 = .ok (.iastore, 1) := by decide +kernel
theorem dX0_copyNote_59 : decode cX0_copyNote 59 = .ok (.iinc 3 1, 3) := by decide +kernel
theorem dX0_copyNote_62 : decode cX0_copyNote 62 = .ok (.goto (-31), 3) := by decide +kernel
theorem dX0_copyNote_65 : decode cX0_copyNote 65 = .ok (.return_, 1) := by decide +kernel
theorem dX0_distance_0 : decode cX0_distance 0 = .ok (.aload_n 0, 1) := by decide +kernel
theorem dX0_distance_1 : decode cX0_distance 1 = .ok (.getfield 15, 3) := by decide +kernel
theorem dX0_distance_4 : decode cX0_distance 4 = .ok (.iload_n 1, 1) := by decide +kernel
theorem dX0_distance_5 : decode cX0_distance 5 = .ok (.iaload, 1) := by decide +kernel
theorem dX0_distance_6 : decode cX0_distance 6 = .ok (.aload_n 0, 1) := by decide +kernel
theorem dX0_distance_7 : decode cX0_distance 7 = .ok (.getfield 15, 3) := by decide +kernel
theorem dX0_distance_10 : decode cX0_distance 10 = .ok (.iload_n 2, 1) := by decide +kernel
theorem dX0_distance_11 : decode cX0_distance 11 = .ok (.iaload, 1) := by decide +kernel
theorem dX0_distance_12 : decode cX0_distance 12 = .ok (.isub, 1) := by decide +kernel
theorem dX0_distance_13 : decode cX0_distance 13 = .ok (.invokestatic 58, 3) := by decide +kernel
theorem dX0_distance_16 : decode cX0_distance 16 = .ok (.aload_n 0, 1) := by decide +kernel
theorem dX0_distance_17 : decode cX0_distance 17 = .ok (.getfield 19, 3) := by decide +kernel
theorem dX0_distance_20 : decode cX0_distance 20 = .ok (.iload_n 1, 1) := by decide +kernel
theorem dX0_distance_21 : decode cX0_distance 21 = .ok (.iaload, 1) := by decide +kernel
theorem dX0_distance_22 : decode cX0_distance 22 = .ok (.aload_n 0, 1) := by decide +kernel
theorem dX0_distance_23 : decode cX0_distance 23 = .ok (.getfield 19, 3) := by decide +kernel
theorem dX0_distance_26 : decode cX0_distance 26 = .ok (.iload_n 2, 1) := by decide +kernel
theorem dX0_distance_27 : decode cX0_distance 27 = .ok (.iaload, 1) := by decide +kernel
theorem dX0_distance_28 : decode cX0_distance 28 = .ok (.isub, 1) := by decide +kernel
theorem dX0_distance_29 : decode cX0_distance 29 = .ok (.invokestatic 58, 3) := by decide +kernel
theorem dX0_distance_32 : decode cX0_distance 32 = .ok (.iadd, 1) := by decide +kernel
theorem dX0_distance_33 : decode cX0_distance 33 = .ok (.ireturn, 1) := by decide +kernel
set_option maxRecDepth 20000 in
theorem ggX0_notesNear_X0_distance : GoodIn wsX0_notesNear wsX0_distance := goodIn_r _ [7, 8, 9, 10, 11, 12, 13, 14, 15, 16, 17, 18, 19, 20, 21] (by decide +kernel) (by decide +kernel)
set_option maxRecDepth 20000 in
theorem gX0_notesNear_X0_distance : GoodIn wsX0_notesNear (wsV RX0 64 RX0 yX0_distance wsX0_distance) := goodIn_app (goodIn_of _ (by decide +kernel)) ggX0_notesNear_X0_distance
theorem dX0_notesNear_0 : decode cX0_notesNear 0 = .ok (.iconst 0, 1) := by decide +kernel
theorem dX0_notesNear_1 : decode cX0_notesNear 1 = .ok (.istore_n 2, 1) := by decide +kernel
theorem dX0_notesNear_2 : decode cX0_notesNear 2 = .ok (.iconst 0, 1) := by decide +kernel
theorem dX0_notesNear_3 : decode cX0_notesNear 3 = .ok (.istore_n 3, 1) := by decide +kernel
theorem dX0_notesNear_4 : decode cX0_notesNear 4 = .ok (.iload_n 3, 1) := by decide +kernel
theorem dX0_notesNear_5 : decode cX0_notesNear 5 = .ok (.aload_n 0, 1) := by decide +kernel
theorem dX0_notesNear_6 : decode cX0_notesNear 6 = .ok (.getfield 9, 3) := by decide +kernel
theorem dX0_notesNear_9 : decode cX0_notesNear 9 = .ok (.if_icmp .ge 32, 3) := by decide +kernel
theorem dX0_notesNear_12 : decode cX0_notesNear 12 = .ok (.iload_n 3, 1) := by decide +kernel
theorem dX0_notesNear_13 : decode cX0_notesNear 13 = .ok (.iload_n 1, 1) := by decide +kernel
theorem dX0_notesNear_14 : decode cX0_notesNear 14 = .ok (.if_icmp .eq 21, 3) := by decide +kernel
theorem dX0_notesNear_17 : decode cX0_notesNear 17 = .ok (.aload_n 0, 1) := by decide +kernel
theorem dX0_notesNear_18 : decode cX0_notesNear 18 = .ok (.iload_n 1, 1) := by decide +kernel
theorem dX0_notesNear_19 : decode cX0_notesNear 19 = .ok (.iload_n 3, 1) := by decide +kernel
theorem dX0_notesNear_20 : decode cX0_notesNear 20 = .ok (.invokevirtual 64, 3) := by decide +kernel
theorem dX0_notesNear_23 : decode cX0_notesNear 23 = .ok (.aload_n 0, 1) := by decide +kernel
theorem dX0_notesNear_24 : decode cX0_notesNear 24 = .ok (.getfield 34, 3) := by decide +kernel
theorem dX0_notesNear_27 : decode cX0_notesNear 27 = .ok (.iconst 0, 1) := by decide +kernel
theorem dX0_notesNear_28 : decode cX0_notesNear 28 = .ok (.iaload, 1) := by decide +kernel
theorem dX0_notesNear_29 : decode cX0_notesNear 29 = .ok (.if_icmp .gt 6, 3) := by decide +kernel
theorem dX0_notesNear_32 : decode cX0_notesNear 32 = .ok (.iinc 2 1, 3) := by decide +kernel
theorem dX0_notesNear_35 : decode cX0_notesNear 35 = .ok (.iinc 3 1, 3) := by decide +kernel
theorem dX0_notesNear_38 : decode cX0_notesNear 38 = .ok (.goto (-34), 3) := by decide +kernel
theorem dX0_notesNear_41 : decode cX0_notesNear 41 = .ok (.iload_n 2, 1) := by decide +kernel
theorem dX0_notesNear_42 : decode cX0_notesNear 42 = .ok (.ireturn, 1) := by decide +kernel
theorem dX0_dotsOfPerson_0 : decode cX0_dotsOfPerson 0 = .ok (.aload_n 0, 1) := by decide +kernel
theorem dX0_dotsOfPerson_1 : decode cX0_dotsOfPerson 1 = .ok (.getfield 25, 3) := by decide +kernel
theorem dX0_dotsOfPerson_4 : decode cX0_dotsOfPerson 4 = .ok (.iload_n 2, 1) := by decide +kernel
theorem dX0_dotsOfPerson_5 : decode cX0_dotsOfPerson 5 = .ok (.bipush 6, 2) := by decide +kernel
theorem dX0_dotsOfPerson_7 : decode cX0_dotsOfPerson 7 = .ok (.imul, 1) := by decide +kernel
theorem dX0_dotsOfPerson_8 : decode cX0_dotsOfPerson 8 = .ok (.iload_n 1, 1) := by decide +kernel
theorem dX0_dotsOfPerson_9 : decode cX0_dotsOfPerson 9 = .ok (.iadd, 1) := by decide +kernel
theorem dX0_dotsOfPerson_10 : decode cX0_dotsOfPerson 10 = .ok (.iaload, 1) := by decide +kernel
theorem dX0_dotsOfPerson_11 : decode cX0_dotsOfPerson 11 = .ok (.ireturn, 1) := by decide +kernel
theorem dX0_addDots_0 : decode cX0_addDots 0 = .ok (.aload_n 0, 1) := by decide +kernel
theorem dX0_addDots_1 : decode cX0_addDots 1 = .ok (.getfield 25, 3) := by decide +kernel
theorem dX0_addDots_4 : decode cX0_addDots 4 = .ok (.iload_n 2, 1) := by decide +kernel
theorem dX0_addDots_5 : decode cX0_addDots 5 = .ok (.bipush 6, 2) := by decide +kernel
theorem dX0_addDots_7 : decode cX0_addDots 7 = .ok (.imul, 1) := by decide +kernel
theorem dX0_addDots_8 : decode cX0_addDots 8 = .ok (.iload_n 1, 1) := by decide +kernel
theorem dX0_addDots_9 : decode cX0_addDots 9 = .ok (.iadd, 1) := by decide +kernel
theorem dX0_addDots_10 : decode cX0_addDots 10 = .ok (.dup2, 1) := by decide +kernel
theorem dX0_addDots_11 : decode cX0_addDots 11 = .ok (.iaload, 1) := by decide +kernel
theorem dX0_addDots_12 : decode cX0_addDots 12 = .ok (.iload_n 3, 1) := by decide +kernel
theorem dX0_addDots_13 : decode cX0_addDots 13 = .ok (.iadd, 1) := by decide +kernel
theorem dX0_addDots_14 : decode cX0_addDots 14 = .ok (.iastore, 1) := by decide +kernel
theorem dX0_addDots_15 : decode cX0_addDots 15 = .ok (.return_, 1) := by decide +kernel
set_option maxRecDepth 20000 in
theorem ggX0_dotsOn_X0_dotsOfPerson : GoodIn wsX0_dotsOn wsX0_dotsOfPerson := goodIn_r _ [5, 6, 7, 8, 9, 10, 11, 12, 13, 14] (by decide +kernel) (by decide +kernel)
set_option maxRecDepth 20000 in
theorem gX0_dotsOn_X0_dotsOfPerson : GoodIn wsX0_dotsOn (wsV RX0 68 RX0 yX0_dotsOfPerson wsX0_dotsOfPerson) := goodIn_app (goodIn_of _ (by decide +kernel)) ggX0_dotsOn_X0_dotsOfPerson
theorem dX0_dotsOn_0 : decode cX0_dotsOn 0 = .ok (.iconst 0, 1) := by decide +kernel
theorem dX0_dotsOn_1 : decode cX0_dotsOn 1 = .ok (.istore_n 2, 1) := by decide +kernel
theorem dX0_dotsOn_2 : decode cX0_dotsOn 2 = .ok (.iconst 0, 1) := by decide +kernel
theorem dX0_dotsOn_3 : decode cX0_dotsOn 3 = .ok (.istore_n 3, 1) := by decide +kernel
theorem dX0_dotsOn_4 : decode cX0_dotsOn 4 = .ok (.iload_n 3, 1) := by decide +kernel
theorem dX0_dotsOn_5 : decode cX0_dotsOn 5 = .ok (.bipush 6, 2) := by decide +kernel
theorem dX0_dotsOn_7 : decode cX0_dotsOn 7 = .ok (.if_icmp .ge 18, 3) := by decide +kernel
theorem dX0_dotsOn_10 : decode cX0_dotsOn 10 = .ok (.iload_n 2, 1) := by decide +kernel
theorem dX0_dotsOn_11 : decode cX0_dotsOn 11 = .ok (.aload_n 0, 1) := by decide +kernel
theorem dX0_dotsOn_12 : decode cX0_dotsOn 12 = .ok (.iload_n 3, 1) := by decide +kernel
theorem dX0_dotsOn_13 : decode cX0_dotsOn 13 = .ok (.iload_n 1, 1) := by decide +kernel
theorem dX0_dotsOn_14 : decode cX0_dotsOn 14 = .ok (.invokevirtual 68, 3) := by decide +kernel
theorem dX0_dotsOn_17 : decode cX0_dotsOn 17 = .ok (.iadd, 1) := by decide +kernel
theorem dX0_dotsOn_18 : decode cX0_dotsOn 18 = .ok (.istore_n 2, 1) := by decide +kernel
theorem dX0_dotsOn_19 : decode cX0_dotsOn 19 = .ok (.iinc 3 1, 3) := by decide +kernel
theorem dX0_dotsOn_22 : decode cX0_dotsOn 22 = .ok (.goto (-18), 3) := by decide +kernel
theorem dX0_dotsOn_25 : decode cX0_dotsOn 25 = .ok (.iload_n 2, 1) := by decide +kernel
theorem dX0_dotsOn_26 : decode cX0_dotsOn 26 = .ok (.ireturn, 1) := by decide +kernel
set_option maxRecDepth 20000 in
theorem ggX0_dotsLeft_X0_dotsOfPerson : GoodIn wsX0_dotsLeft wsX0_dotsOfPerson := goodIn_r _ [11, 12, 13, 14, 15, 16, 17, 18, 19, 20] (by decide +kernel) (by decide +kernel)
set_option maxRecDepth 20000 in
theorem gX0_dotsLeft_X0_dotsOfPerson : GoodIn wsX0_dotsLeft (wsV RX0 68 RX0 yX0_dotsOfPerson wsX0_dotsOfPerson) := goodIn_app (goodIn_of _ (by decide +kernel)) ggX0_dotsLeft_X0_dotsOfPerson
theorem dX0_dotsLeft_0 : decode cX0_dotsLeft 0 = .ok (.aload_n 0, 1) := by decide +kernel
theorem dX0_dotsLeft_1 : decode cX0_dotsLeft 1 = .ok (.getfield 34, 3) := by decide +kernel
theorem dX0_dotsLeft_4 : decode cX0_dotsLeft 4 = .ok (.iconst 1, 1) := by decide +kernel
theorem dX0_dotsLeft_5 : decode cX0_dotsLeft 5 = .ok (.iaload, 1) := by decide +kernel
theorem dX0_dotsLeft_6 : decode cX0_dotsLeft 6 = .ok (.istore_n 2, 1) := by decide +kernel
theorem dX0_dotsLeft_7 : decode cX0_dotsLeft 7 = .ok (.iconst 0, 1) := by decide +kernel
theorem dX0_dotsLeft_8 : decode cX0_dotsLeft 8 = .ok (.istore_n 3, 1) := by decide +kernel
theorem dX0_dotsLeft_9 : decode cX0_dotsLeft 9 = .ok (.iload_n 3, 1) := by decide +kernel
theorem dX0_dotsLeft_10 : decode cX0_dotsLeft 10 = .ok (.aload_n 0, 1) := by decide +kernel
theorem dX0_dotsLeft_11 : decode cX0_dotsLeft 11 = .ok (.getfield 9, 3) := by decide +kernel
theorem dX0_dotsLeft_14 : decode cX0_dotsLeft 14 = .ok (.if_icmp .ge 18, 3) := by decide +kernel
theorem dX0_dotsLeft_17 : decode cX0_dotsLeft 17 = .ok (.iload_n 2, 1) := by decide +kernel
theorem dX0_dotsLeft_18 : decode cX0_dotsLeft 18 = .ok (.aload_n 0, 1) := by decide +kernel
theorem dX0_dotsLeft_19 : decode cX0_dotsLeft 19 = .ok (.iload_n 1, 1) := by decide +kernel
theorem dX0_dotsLeft_20 : decode cX0_dotsLeft 20 = .ok (.iload_n 3, 1) := by decide +kernel
theorem dX0_dotsLeft_21 : decode cX0_dotsLeft 21 = .ok (.invokevirtual 68, 3) := by decide +kernel
theorem dX0_dotsLeft_24 : decode cX0_dotsLeft 24 = .ok (.isub, 1) := by decide +kernel
theorem dX0_dotsLeft_25 : decode cX0_dotsLeft 25 = .ok (.istore_n 2, 1) := by decide +kernel
theorem dX0_dotsLeft_26 : decode cX0_dotsLeft 26 = .ok (.iinc 3 1, 3) := by decide +kernel
theorem dX0_dotsLeft_29 : decode cX0_dotsLeft 29 = .ok (.goto (-20), 3) := by decide +kernel
theorem dX0_dotsLeft_32 : decode cX0_dotsLeft 32 = .ok (.iload_n 2, 1) := by decide +kernel
theorem dX0_dotsLeft_33 : decode cX0_dotsLeft 33 = .ok (.iconst 0, 1) := by decide +kernel
theorem dX0_dotsLeft_34 : decode cX0_dotsLeft 34 = .ok (.invokestatic 71, 3) := by decide +kernel
theorem dX0_dotsLeft_37 : decode cX0_dotsLeft 37 = .ok (.ireturn, 1) := by decide +kernel
set_option maxRecDepth 20000 in
theorem ggX0_hasMostDots_X0_dotsOfPerson : GoodIn wsX0_hasMostDots wsX0_dotsOfPerson := goodIn_r _ [6, 7, 8, 9, 10, 11, 12, 13, 14, 15] (by decide +kernel) (by decide +kernel)
set_option maxRecDepth 20000 in
theorem gX0_hasMostDots_X0_dotsOfPerson : GoodIn wsX0_hasMostDots (wsV RX0 68 RX0 yX0_dotsOfPerson wsX0_dotsOfPerson) := goodIn_app (goodIn_of _ (by decide +kernel)) ggX0_hasMostDots_X0_dotsOfPerson
theorem dX0_hasMostDots_0 : decode cX0_hasMostDots 0 = .ok (.aload_n 0, 1) := by decide +kernel
theorem dX0_hasMostDots_1 : decode cX0_hasMostDots 1 = .ok (.iload_n 1, 1) := by decide +kernel
theorem dX0_hasMostDots_2 : decode cX0_hasMostDots 2 = .ok (.iload_n 2, 1) := by decide +kernel
theorem dX0_hasMostDots_3 : decode cX0_hasMostDots 3 = .ok (.invokevirtual 68, 3) := by decide +kernel
theorem dX0_hasMostDots_6 : decode cX0_hasMostDots 6 = .ok (.aload_n 0, 1) := by decide +kernel
theorem dX0_hasMostDots_7 : decode cX0_hasMostDots 7 = .ok (.getfield 34, 3) := by decide +kernel
theorem dX0_hasMostDots_10 : decode cX0_hasMostDots 10 = .ok (.iconst 2, 1) := by decide +kernel
theorem dX0_hasMostDots_11 : decode cX0_hasMostDots 11 = .ok (.iaload, 1) := by decide +kernel
theorem dX0_hasMostDots_12 : decode cX0_hasMostDots 12 = .ok (.if_icmp .lt 7, 3) := by decide +kernel
theorem dX0_hasMostDots_15 : decode cX0_hasMostDots 15 = .ok (.iconst 1, 1) := by decide +kernel
theorem dX0_hasMostDots_16 : decode cX0_hasMostDots 16 = .ok (.goto 4, 3) := by decide +kernel
theorem dX0_hasMostDots_19 : decode cX0_hasMostDots 19 = .ok (.iconst 0, 1) := by decide +kernel
theorem dX0_hasMostDots_20 : decode cX0_hasMostDots 20 = .ok (.ireturn, 1) := by decide +kernel
set_option maxRecDepth 20000 in
theorem ggX0_allDotsStuck_X0_dotsOn : GoodIn wsX0_allDotsStuck wsX0_dotsOn := goodIn_r _ [6, 7, 8, 9, 5, 10, 11, 12, 13, 14, 15, 16, 17, 18, 19] (by decide +kernel) (by decide +kernel)
set_option maxRecDepth 20000 in
theorem gX0_allDotsStuck_X0_dotsOn : GoodIn wsX0_allDotsStuck (wsV RX0 74 RX0 yX0_dotsOn wsX0_dotsOn) := goodIn_app (goodIn_of _ (by decide +kernel)) ggX0_allDotsStuck_X0_dotsOn
theorem dX0_allDotsStuck_0 : decode cX0_allDotsStuck 0 = .ok (.iconst 0, 1) := by decide +kernel
theorem dX0_allDotsStuck_1 : decode cX0_allDotsStuck 1 = .ok (.istore_n 1, 1) := by decide +kernel
theorem dX0_allDotsStuck_2 : decode cX0_allDotsStuck 2 = .ok (.iconst 0, 1) := by decide +kernel
theorem dX0_allDotsStuck_3 : decode cX0_allDotsStuck 3 = .ok (.istore_n 2, 1) := by decide +kernel
theorem dX0_allDotsStuck_4 : decode cX0_allDotsStuck 4 = .ok (.iload_n 2, 1) := by decide +kernel
theorem dX0_allDotsStuck_5 : decode cX0_allDotsStuck 5 = .ok (.aload_n 0, 1) := by decide +kernel
theorem dX0_allDotsStuck_6 : decode cX0_allDotsStuck 6 = .ok (.getfield 9, 3) := by decide +kernel
theorem dX0_allDotsStuck_9 : decode cX0_allDotsStuck 9 = .ok (.if_icmp .ge 17, 3) := by decide +kernel
theorem dX0_allDotsStuck_12 : decode cX0_allDotsStuck 12 = .ok (.iload_n 1, 1) := by decide +kernel
theorem dX0_allDotsStuck_13 : decode cX0_allDotsStuck 13 = .ok (.aload_n 0, 1) := by decide +kernel
theorem dX0_allDotsStuck_14 : decode cX0_allDotsStuck 14 = .ok (.iload_n 2, 1) := by decide +kernel
theorem dX0_allDotsStuck_15 : decode cX0_allDotsStuck 15 = .ok (.invokevirtual 74, 3) := by decide +kernel
theorem dX0_allDotsStuck_18 : decode cX0_allDotsStuck 18 = .ok (.iadd, 1) := by decide +kernel
theorem dX0_allDotsStuck_19 : decode cX0_allDotsStuck 19 = .ok (.istore_n 1, 1) := by decide +kernel
theorem dX0_allDotsStuck_20 : decode cX0_allDotsStuck 20 = .ok (.iinc 2 1, 3) := by decide +kernel
theorem dX0_allDotsStuck_23 : decode cX0_allDotsStuck 23 = .ok (.goto (-19), 3) := by decide +kernel
theorem dX0_allDotsStuck_26 : decode cX0_allDotsStuck 26 = .ok (.iload_n 1, 1) := by decide +kernel
theorem dX0_allDotsStuck_27 : decode cX0_allDotsStuck 27 = .ok (.ireturn, 1) := by decide +kernel
set_option maxRecDepth 20000 in
theorem ggX0_allDotsLeft_X0_dotsLeft : GoodIn wsX0_allDotsLeft wsX0_dotsLeft := goodIn_r _ [5, 6, 7, 8, 9, 10, 11, 12, 13, 14, 4, 15, 16, 17, 18, 19, 20, 21, 22, 23, 24] (by decide +kernel) (by decide +kernel)
set_option maxRecDepth 20000 in
theorem gX0_allDotsLeft_X0_dotsLeft : GoodIn wsX0_allDotsLeft (wsV RX0 77 RX0 yX0_dotsLeft wsX0_dotsLeft) := goodIn_app (goodIn_of _ (by decide +kernel)) ggX0_allDotsLeft_X0_dotsLeft
theorem dX0_allDotsLeft_0 : decode cX0_allDotsLeft 0 = .ok (.iconst 0, 1) := by decide +kernel
theorem dX0_allDotsLeft_1 : decode cX0_allDotsLeft 1 = .ok (.istore_n 1, 1) := by decide +kernel
theorem dX0_allDotsLeft_2 : decode cX0_allDotsLeft 2 = .ok (.iconst 0, 1) := by decide +kernel
theorem dX0_allDotsLeft_3 : decode cX0_allDotsLeft 3 = .ok (.istore_n 2, 1) := by decide +kernel
theorem dX0_allDotsLeft_4 : decode cX0_allDotsLeft 4 = .ok (.iload_n 2, 1) := by decide +kernel
theorem dX0_allDotsLeft_5 : decode cX0_allDotsLeft 5 = .ok (.bipush 6, 2) := by decide +kernel
theorem dX0_allDotsLeft_7 : decode cX0_allDotsLeft 7 = .ok (.if_icmp .ge 17, 3) := by decide +kernel
theorem dX0_allDotsLeft_10 : decode cX0_allDotsLeft 10 = .ok (.iload_n 1, 1) := by decide +kernel
theorem dX0_allDotsLeft_11 : decode cX0_allDotsLeft 11 = .ok (.aload_n 0, 1) := by decide +kernel
theorem dX0_allDotsLeft_12 : decode cX0_allDotsLeft 12 = .ok (.iload_n 2, 1) := by decide +kernel
theorem dX0_allDotsLeft_13 : decode cX0_allDotsLeft 13 = .ok (.invokevirtual 77, 3) := by decide +kernel
theorem dX0_allDotsLeft_16 : decode cX0_allDotsLeft 16 = .ok (.iadd, 1) := by decide +kernel
theorem dX0_allDotsLeft_17 : decode cX0_allDotsLeft 17 = .ok (.istore_n 1, 1) := by decide +kernel
theorem dX0_allDotsLeft_18 : decode cX0_allDotsLeft 18 = .ok (.iinc 2 1, 3) := by decide +kernel
theorem dX0_allDotsLeft_21 : decode cX0_allDotsLeft 21 = .ok (.goto (-17), 3) := by decide +kernel
theorem dX0_allDotsLeft_24 : decode cX0_allDotsLeft 24 = .ok (.iload_n 1, 1) := by decide +kernel
theorem dX0_allDotsLeft_25 : decode cX0_allDotsLeft 25 = .ok (.ireturn, 1) := by decide +kernel
set_option maxRecDepth 20000 in
theorem ggX0_addTheme_X0_setVote : GoodIn wsX0_addTheme wsX0_setVote := goodIn_r _ [6, 7, 8, 9, 10, 11, 12, 13, 14, 15] (by decide +kernel) (by decide +kernel)
set_option maxRecDepth 20000 in
theorem gX0_addTheme_X0_setVote : GoodIn wsX0_addTheme (wsV RX0 80 RX0 yX0_setVote wsX0_setVote) := goodIn_app (goodIn_of _ (by decide +kernel)) ggX0_addTheme_X0_setVote
theorem dX0_addTheme_0 : decode cX0_addTheme 0 = .ok (.aload_n 0, 1) := by decide +kernel
theorem dX0_addTheme_1 : decode cX0_addTheme 1 = .ok (.getfield 28, 3) := by decide +kernel
theorem dX0_addTheme_4 : decode cX0_addTheme 4 = .ok (.istore_n 1, 1) := by decide +kernel
theorem dX0_addTheme_5 : decode cX0_addTheme 5 = .ok (.aload_n 0, 1) := by decide +kernel
theorem dX0_addTheme_6 : decode cX0_addTheme 6 = .ok (.dup, 1) := by decide +kernel
theorem dX0_addTheme_7 : decode cX0_addTheme 7 = .ok (.getfield 28, 3) := by decide +kernel
theorem dX0_addTheme_10 : decode cX0_addTheme 10 = .ok (.iconst 1, 1) := by decide +kernel
theorem dX0_addTheme_11 : decode cX0_addTheme 11 = .ok (.iadd, 1) := by decide +kernel
theorem dX0_addTheme_12 : decode cX0_addTheme 12 = .ok (.putfield 28, 3) := by decide +kernel
theorem dX0_addTheme_15 : decode cX0_addTheme 15 = .ok (.iconst 0, 1) := by decide +kernel
theorem dX0_addTheme_16 : decode cX0_addTheme 16 = .ok (.istore_n 2, 1) := by decide +kernel
theorem dX0_addTheme_17 : decode cX0_addTheme 17 = .ok (.iload_n 2, 1) := by decide +kernel
theorem dX0_addTheme_18 : decode cX0_addTheme 18 = .ok (.bipush 6, 2) := by decide +kernel
theorem dX0_addTheme_20 : decode cX0_addTheme 20 = .ok (.if_icmp .ge 17, 3) := by decide +kernel
theorem dX0_addTheme_23 : decode cX0_addTheme 23 = .ok (.aload_n 0, 1) := by decide +kernel
theorem dX0_addTheme_24 : decode cX0_addTheme 24 = .ok (.iload_n 2, 1) := by decide +kernel
theorem dX0_addTheme_25 : decode cX0_addTheme 25 = .ok (.iload_n 1, 1) := by decide +kernel
theorem dX0_addTheme_26 : decode cX0_addTheme 26 = .ok (.bipush (-5), 2) := by decide +kernel
theorem dX0_addTheme_28 : decode cX0_addTheme 28 = .ok (.invokevirtual 80, 3) := by decide +kernel
theorem dX0_addTheme_31 : decode cX0_addTheme 31 = .ok (.iinc 2 1, 3) := by decide +kernel
theorem dX0_addTheme_34 : decode cX0_addTheme 34 = .ok (.goto (-17), 3) := by decide +kernel
theorem dX0_addTheme_37 : decode cX0_addTheme 37 = .ok (.iload_n 1, 1) := by decide +kernel
theorem dX0_addTheme_38 : decode cX0_addTheme 38 = .ok (.ireturn, 1) := by decide +kernel
set_option maxRecDepth 20000 in
theorem ggX0_mergeThemes_X0_voteOf : GoodIn wsX0_mergeThemes wsX0_voteOf := goodIn_r _ [7, 8, 22, 23, 24, 25, 26, 27, 28, 29] (by decide +kernel) (by decide +kernel)
set_option maxRecDepth 20000 in
theorem gX0_mergeThemes_X0_voteOf : GoodIn wsX0_mergeThemes (wsV RX0 83 RX0 yX0_voteOf wsX0_voteOf) := goodIn_app (goodIn_of _ (by decide +kernel)) ggX0_mergeThemes_X0_voteOf
set_option maxRecDepth 20000 in
theorem ggX0_mergeThemes_X0_setVote : GoodIn wsX0_mergeThemes wsX0_setVote := goodIn_r _ [12, 8, 22, 23, 24, 25, 26, 27, 28, 29] (by decide +kernel) (by decide +kernel)
set_option maxRecDepth 20000 in
theorem gX0_mergeThemes_X0_setVote : GoodIn wsX0_mergeThemes (wsV RX0 80 RX0 yX0_setVote wsX0_setVote) := goodIn_app (goodIn_of _ (by decide +kernel)) ggX0_mergeThemes_X0_setVote
set_option maxRecDepth 20000 in
theorem ggX0_mergeThemes_X0_removeThemeIfEmpty : GoodIn wsX0_mergeThemes wsX0_removeThemeIfEmpty := goodIn_r _ [16, 1, 2, 17, 18, 19, 20, 6, 21, 3, 4, 5, 7, 8, 9, 10, 11, 12, 22, 23, 24, 25, 26, 27, 28, 29] (by decide +kernel) (by decide +kernel)
set_option maxRecDepth 20000 in
theorem gX0_mergeThemes_X0_removeThemeIfEmpty : GoodIn wsX0_mergeThemes (wsV RX0 54 RX0 yX0_removeThemeIfEmpty wsX0_removeThemeIfEmpty) := goodIn_app (goodIn_of _ (by decide +kernel)) ggX0_mergeThemes_X0_removeThemeIfEmpty
theorem dX0_mergeThemes_0 : decode cX0_mergeThemes 0 = .ok (.iconst 0, 1) := by decide +kernel
theorem dX0_mergeThemes_1 : decode cX0_mergeThemes 1 = .ok (.istore_n 3, 1) := by decide +kernel
theorem dX0_mergeThemes_2 : decode cX0_mergeThemes 2 = .ok (.iload_n 3, 1) := by decide +kernel
theorem dX0_mergeThemes_3 : decode cX0_mergeThemes 3 = .ok (.aload_n 0, 1) := by decide +kernel
theorem dX0_mergeThemes_4 : decode cX0_mergeThemes 4 = .ok (.getfield 9, 3) := by decide +kernel
theorem dX0_mergeThemes_7 : decode cX0_mergeThemes 7 = .ok (.if_icmp .ge 26, 3) := by decide +kernel
theorem dX0_mergeThemes_10 : decode cX0_mergeThemes 10 = .ok (.aload_n 0, 1) := by decide +kernel
theorem dX0_mergeThemes_11 : decode cX0_mergeThemes 11 = .ok (.getfield 22, 3) := by decide +kernel
theorem dX0_mergeThemes_14 : decode cX0_mergeThemes 14 = .ok (.iload_n 3, 1) := by decide +kernel
theorem dX0_mergeThemes_15 : decode cX0_mergeThemes 15 = .ok (.iaload, 1) := by decide +kernel
theorem dX0_mergeThemes_16 : decode cX0_mergeThemes 16 = .ok (.iload_n 2, 1) := by decide +kernel
theorem dX0_mergeThemes_17 : decode cX0_mergeThemes 17 = .ok (.if_icmp .ne 10, 3) := by decide +kernel
theorem dX0_mergeThemes_20 : decode cX0_mergeThemes 20 = .ok (.aload_n 0, 1) := by decide +kernel
theorem dX0_mergeThemes_21 : decode cX0_mergeThemes 21 = .ok (.getfield 22, 3) := by decide +kernel
theorem dX0_mergeThemes_24 : decode cX0_mergeThemes 24 = .ok (.iload_n 3, 1) := by decide +kernel
theorem dX0_mergeThemes_25 : decode cX0_mergeThemes 25 = .ok (.iload_n 1, 1) := by decide +kernel
theorem dX0_mergeThemes_26 : decode cX0_mergeThemes 26 = .ok (.iastore, 1) := by decide +kernel
theorem dX0_mergeThemes_27 : decode cX0_mergeThemes 27 = .ok (.iinc 3 1, 3) := by decide +kernel
theorem dX0_mergeThemes_30 : decode cX0_mergeThemes 30 = .ok (.goto (-28), 3) := by decide +kernel
theorem dX0_mergeThemes_33 : decode cX0_mergeThemes 33 = .ok (.iconst 0, 1) := by decide +kernel
theorem dX0_mergeThemes_34 : decode cX0_mergeThemes 34 = .ok (.istore_n 3, 1) := by decide +kernel
theorem dX0_mergeThemes_35 : decode cX0_mergeThemes 35 = .ok (.iload_n 3, 1) := by decide +kernel
theorem dX0_mergeThemes_36 : decode cX0_mergeThemes 36 = .ok (.bipush 6, 2) := by decide +kernel
theorem dX0_mergeThemes_38 : decode cX0_mergeThemes 38 = .ok (.if_icmp .ge 32, 3) := by decide +kernel
theorem dX0_mergeThemes_41 : decode cX0_mergeThemes 41 = .ok (.aload_n 0, 1) := by decide +kernel
theorem dX0_mergeThemes_42 : decode cX0_mergeThemes 42 = .ok (.iload_n 3, 1) := by decide +kernel
theorem dX0_mergeThemes_43 : decode cX0_mergeThemes 43 = .ok (.iload_n 1, 1) := by decide +kernel
theorem dX0_mergeThemes_44 : decode cX0_mergeThemes 44 = .ok (.invokevirtual 83, 3) := by decide +kernel
theorem dX0_mergeThemes_47 : decode cX0_mergeThemes 47 = .ok (.bipush (-5), 2) := by decide +kernel
theorem dX0_mergeThemes_49 : decode cX0_mergeThemes 49 = .ok (.if_icmp .ne 15, 3) := by decide +kernel
theorem dX0_mergeThemes_52 : decode cX0_mergeThemes 52 = .ok (.aload_n 0, 1) := by decide +kernel
theorem dX0_mergeThemes_53 : decode cX0_mergeThemes 53 = .ok (.iload_n 3, 1) := by decide +kernel
theorem dX0_mergeThemes_54 : decode cX0_mergeThemes 54 = .ok (.iload_n 1, 1) := by decide +kernel
theorem dX0_mergeThemes_55 : decode cX0_mergeThemes 55 = .ok (.aload_n 0, 1) := by decide +kernel
theorem dX0_mergeThemes_56 : decode cX0_mergeThemes 56 = .ok (.iload_n 3, 1) := by decide +kernel
theorem dX0_mergeThemes_57 : decode cX0_mergeThemes 57 = .ok (.iload_n 2, 1) := by decide +kernel
theorem dX0_mergeThemes_58 : decode cX0_mergeThemes 58 = .ok (.invokevirtual 83, 3) := by decide +kernel
theorem dX0_mergeThemes_61 : decode cX0_mergeThemes 61 = .ok (.invokevirtual 80, 3) := by decide +kernel
theorem dX0_mergeThemes_64 : decode cX0_mergeThemes 64 = .ok (.iinc 3 1, 3) := by decide +kernel
theorem dX0_mergeThemes_67 : decode cX0_mergeThemes 67 = .ok (.goto (-32), 3) := by decide +kernel
theorem dX0_mergeThemes_70 : decode cX0_mergeThemes 70 = .ok (.aload_n 0, 1) := by decide +kernel
theorem dX0_mergeThemes_71 : decode cX0_mergeThemes 71 = .ok (.iload_n 2, 1) := by decide +kernel
theorem dX0_mergeThemes_72 : decode cX0_mergeThemes 72 = .ok (.invokevirtual 54, 3) := by decide +kernel
theorem dX0_mergeThemes_75 : decode cX0_mergeThemes 75 = .ok (.return_, 1) := by decide +kernel
set_option maxRecDepth 20000 in
theorem ggX0_removeThemeIfEmpty_X0_notesOfTheme : GoodIn wsX0_removeThemeIfEmpty wsX0_notesOfTheme := goodIn_r _ [8, 1, 2, 18, 19, 20, 21, 22, 23, 24, 25] (by decide +kernel) (by decide +kernel)
set_option maxRecDepth 20000 in
theorem gX0_removeThemeIfEmpty_X0_notesOfTheme : GoodIn wsX0_removeThemeIfEmpty (wsV RX0 86 RX0 yX0_notesOfTheme wsX0_notesOfTheme) := goodIn_app (goodIn_of _ (by decide +kernel)) ggX0_removeThemeIfEmpty_X0_notesOfTheme
set_option maxRecDepth 20000 in
theorem ggX0_removeThemeIfEmpty_X0_voteOf : GoodIn wsX0_removeThemeIfEmpty wsX0_voteOf := goodIn_r _ [12, 13, 18, 19, 20, 21, 22, 23, 24, 25] (by decide +kernel) (by decide +kernel)
set_option maxRecDepth 20000 in
theorem gX0_removeThemeIfEmpty_X0_voteOf : GoodIn wsX0_removeThemeIfEmpty (wsV RX0 83 RX0 yX0_voteOf wsX0_voteOf) := goodIn_app (goodIn_of _ (by decide +kernel)) ggX0_removeThemeIfEmpty_X0_voteOf
set_option maxRecDepth 20000 in
theorem ggX0_removeThemeIfEmpty_X0_setVote : GoodIn wsX0_removeThemeIfEmpty wsX0_setVote := goodIn_r _ [17, 13, 18, 19, 20, 21, 22, 23, 24, 25] (by decide +kernel) (by decide +kernel)
set_option maxRecDepth 20000 in
theorem gX0_removeThemeIfEmpty_X0_setVote : GoodIn wsX0_removeThemeIfEmpty (wsV RX0 80 RX0 yX0_setVote wsX0_setVote) := goodIn_app (goodIn_of _ (by decide +kernel)) ggX0_removeThemeIfEmpty_X0_setVote
theorem dX0_removeThemeIfEmpty_0 : decode cX0_removeThemeIfEmpty 0 = .ok (.iload_n 1, 1) := by decide +kernel
theorem dX0_removeThemeIfEmpty_1 : decode cX0_removeThemeIfEmpty 1 = .ok (.bipush (-5), 2) := by decide +kernel
theorem dX0_removeThemeIfEmpty_3 : decode cX0_removeThemeIfEmpty 3 = .ok (.if_icmp .eq 11, 3) := by decide +kernel
theorem dX0_removeThemeIfEmpty_6 : decode cX0_removeThemeIfEmpty 6 = .ok (.aload_n 0, 1) := by decide +kernel
theorem dX0_removeThemeIfEmpty_7 : decode cX0_removeThemeIfEmpty 7 = .ok (.iload_n 1, 1) := by decide +kernel
theorem dX0_removeThemeIfEmpty_8 : decode cX0_removeThemeIfEmpty 8 = .ok (.invokevirtual 86, 3) := by decide +kernel
theorem dX0_removeThemeIfEmpty_11 : decode cX0_removeThemeIfEmpty 11 = .ok (.ifCond .le 4, 3) := by decide +kernel
theorem dX0_removeThemeIfEmpty_14 : decode cX0_removeThemeIfEmpty 14 = .ok (.return_, 1) := by decide +kernel
theorem dX0_removeThemeIfEmpty_15 : decode cX0_removeThemeIfEmpty 15 = .ok (.iconst 0, 1) := by decide +kernel
theorem dX0_removeThemeIfEmpty_16 : decode cX0_removeThemeIfEmpty 16 = .ok (.istore_n 2, 1) := by decide +kernel
theorem dX0_removeThemeIfEmpty_17 : decode cX0_removeThemeIfEmpty 17 = .ok (.iload_n 2, 1) := by decide +kernel
theorem dX0_removeThemeIfEmpty_18 : decode cX0_removeThemeIfEmpty 18 = .ok (.aload_n 0, 1) := by decide +kernel
theorem dX0_removeThemeIfEmpty_19 : decode cX0_removeThemeIfEmpty 19 = .ok (.getfield 9, 3) := by decide +kernel
theorem dX0_removeThemeIfEmpty_22 : decode cX0_removeThemeIfEmpty 22 = .ok (.if_icmp .ge 29, 3) := by decide +kernel
theorem dX0_removeThemeIfEmpty_25 : decode cX0_removeThemeIfEmpty 25 = .ok (.aload_n 0, 1) := by decide +kernel
theorem dX0_removeThemeIfEmpty_26 : decode cX0_removeThemeIfEmpty 26 = .ok (.getfield 22, 3) := by decide +kernel
theorem dX0_removeThemeIfEmpty_29 : decode cX0_removeThemeIfEmpty 29 = .ok (.iload_n 2, 1) := by decide +kernel
theorem dX0_removeThemeIfEmpty_30 : decode cX0_removeThemeIfEmpty 30 = .ok (.iaload, 1) := by decide +kernel
theorem dX0_removeThemeIfEmpty_31 : decode cX0_removeThemeIfEmpty 31 = .ok (.iload_n 1, 1) := by decide +kernel
theorem dX0_removeThemeIfEmpty_32 : decode cX0_removeThemeIfEmpty 32 = .ok (.if_icmp .le 13, 3) := by decide +kernel
theorem dX0_removeThemeIfEmpty_35 : decode cX0_removeThemeIfEmpty 35 = .ok (.aload_n 0, 1) := by decide +kernel
theorem dX0_removeThemeIfEmpty_36 : decode cX0_removeThemeIfEmpty 36 = .ok (.getfield 22, 3) := by decide +kernel
theorem dX0_removeThemeIfEmpty_39 : decode cX0_removeThemeIfEmpty 39 = .ok (.iload_n 2, 1) := by decide +kernel
theorem dX0_removeThemeIfEmpty_40 : decode cX0_removeThemeIfEmpty 40 = .ok (.dup2, 1) := by decide +kernel
theorem dX0_removeThemeIfEmpty_41 : decode cX0_removeThemeIfEmpty 41 = .ok (.iaload, 1) := by decide +kernel
theorem dX0_removeThemeIfEmpty_42 : decode cX0_removeThemeIfEmpty 42 = .ok (.iconst 1, 1) := by decide +kernel
theorem dX0_removeThemeIfEmpty_43 : decode cX0_removeThemeIfEmpty 43 = .ok (.isub, 1) := by decide +kernel
theorem dX0_removeThemeIfEmpty_44 : decode cX0_removeThemeIfEmpty 44 = .ok (.iastore, 1) := by decide +kernel
theorem dX0_removeThemeIfEmpty_45 : decode cX0_removeThemeIfEmpty 45 = .ok (.iinc 2 1, 3) := by decide +kernel
theorem dX0_removeThemeIfEmpty_48 : decode cX0_removeThemeIfEmpty 48 = .ok (.goto (-31), 3) := by decide +kernel
theorem dX0_removeThemeIfEmpty_51 : decode cX0_removeThemeIfEmpty 51 = .ok (.iload_n 1, 1) := by decide +kernel
theorem dX0_removeThemeIfEmpty_52 : decode cX0_removeThemeIfEmpty 52 = .ok (.istore_n 2, 1) := by decide +kernel
theorem dX0_removeThemeIfEmpty_53 : decode cX0_removeThemeIfEmpty 53 = .ok (.iload_n 2, 1) := by decide +kernel
theorem dX0_removeThemeIfEmpty_54 : decode cX0_removeThemeIfEmpty 54 = .ok (.aload_n 0, 1) := by decide +kernel
theorem dX0_removeThemeIfEmpty_55 : decode cX0_removeThemeIfEmpty 55 = .ok (.getfield 28, 3) := by decide +kernel
theorem dX0_removeThemeIfEmpty_58 : decode cX0_removeThemeIfEmpty 58 = .ok (.iconst 1, 1) := by decide +kernel
theorem dX0_removeThemeIfEmpty_59 : decode cX0_removeThemeIfEmpty 59 = .ok (.isub, 1) := by decide +kernel
theorem dX0_removeThemeIfEmpty_60 : decode cX0_removeThemeIfEmpty 60 = .ok (.if_icmp .ge 37, 3) := by decide +kernel
theorem dX0_removeThemeIfEmpty_63 : decode cX0_removeThemeIfEmpty 63 = .ok (.iconst 0, 1) := by decide +kernel
theorem dX0_removeThemeIfEmpty_64 : decode cX0_removeThemeIfEmpty 64 = .ok (.istore_n 3, 1) := by decide +kernel
theorem dX0_removeThemeIfEmpty_65 : decode cX0_removeThemeIfEmpty 65 = .ok (.iload_n 3, 1) := by decide +kernel
theorem dX0_removeThemeIfEmpty_66 : decode cX0_removeThemeIfEmpty 66 = .ok (.bipush 6, 2) := by decide +kernel
theorem dX0_removeThemeIfEmpty_68 : decode cX0_removeThemeIfEmpty 68 = .ok (.if_icmp .ge 23, 3) := by decide +kernel
theorem dX0_removeThemeIfEmpty_71 : decode cX0_removeThemeIfEmpty 71 = .ok (.aload_n 0, 1) := by decide +kernel
theorem dX0_removeThemeIfEmpty_72 : decode cX0_removeThemeIfEmpty 72 = .ok (.iload_n 3, 1) := by decide +kernel
theorem dX0_removeThemeIfEmpty_73 : decode cX0_removeThemeIfEmpty 73 = .ok (.iload_n 2, 1) := by decide +kernel
theorem dX0_removeThemeIfEmpty_74 : decode cX0_removeThemeIfEmpty 74 = .ok (.aload_n 0, 1) := by decide +kernel
theorem dX0_removeThemeIfEmpty_75 : decode cX0_removeThemeIfEmpty 75 = .ok (.iload_n 3, 1) := by decide +kernel
theorem dX0_removeThemeIfEmpty_76 : decode cX0_removeThemeIfEmpty 76 = .ok (.iload_n 2, 1) := by decide +kernel
theorem dX0_removeThemeIfEmpty_77 : decode cX0_removeThemeIfEmpty 77 = .ok (.iconst 1, 1) := by decide +kernel
theorem dX0_removeThemeIfEmpty_78 : decode cX0_removeThemeIfEmpty 78 = .ok (.iadd, 1) := by decide +kernel
theorem dX0_removeThemeIfEmpty_79 : decode cX0_removeThemeIfEmpty 79 = .ok (.invokevirtual 83, 3) := by decide +kernel
theorem dX0_removeThemeIfEmpty_82 : decode cX0_removeThemeIfEmpty 82 = .ok (.invokevirtual 80, 3) := by decide +kernel
theorem dX0_removeThemeIfEmpty_85 : decode cX0_removeThemeIfEmpty 85 = .ok (.iinc 3 1, 3) := by decide +kernel
theorem dX0_removeThemeIfEmpty_88 : decode cX0_removeThemeIfEmpty 88 = .ok (.goto (-23), 3) := by decide +kernel
theorem dX0_removeThemeIfEmpty_91 : decode cX0_removeThemeIfEmpty 91 = .ok (.iinc 2 1, 3) := by decide +kernel
theorem dX0_removeThemeIfEmpty_94 : decode cX0_removeThemeIfEmpty 94 = .ok (.goto (-41), 3) := by decide +kernel
theorem dX0_removeThemeIfEmpty_97 : decode cX0_removeThemeIfEmpty 97 = .ok (.aload_n 0, 1) := by decide +kernel
theorem dX0_removeThemeIfEmpty_98 : decode cX0_removeThemeIfEmpty 98 = .ok (.dup, 1) := by decide +kernel
theorem dX0_removeThemeIfEmpty_99 : decode cX0_removeThemeIfEmpty 99 = .ok (.getfield 28, 3) := by decide +kernel
theorem dX0_removeThemeIfEmpty_102 : decode cX0_removeThemeIfEmpty 102 = .ok (.iconst 1, 1) := by decide +kernel
theorem dX0_removeThemeIfEmpty_103 : decode cX0_removeThemeIfEmpty 103 = .ok (.isub, 1) := by decide +kernel
theorem dX0_removeThemeIfEmpty_104 : decode cX0_removeThemeIfEmpty 104 = .ok (.putfield 28, 3) := by decide +kernel
theorem dX0_removeThemeIfEmpty_107 : decode cX0_removeThemeIfEmpty 107 = .ok (.return_, 1) := by decide +kernel
theorem dX0_notesOfTheme_0 : decode cX0_notesOfTheme 0 = .ok (.iconst 0, 1) := by decide +kernel
theorem dX0_notesOfTheme_1 : decode cX0_notesOfTheme 1 = .ok (.istore_n 2, 1) := by decide +kernel
theorem dX0_notesOfTheme_2 : decode cX0_notesOfTheme 2 = .ok (.iconst 0, 1) := by decide +kernel
theorem dX0_notesOfTheme_3 : decode cX0_notesOfTheme 3 = .ok (.istore_n 3, 1) := by decide +kernel
theorem dX0_notesOfTheme_4 : decode cX0_notesOfTheme 4 = .ok (.iload_n 3, 1) := by decide +kernel
theorem dX0_notesOfTheme_5 : decode cX0_notesOfTheme 5 = .ok (.aload_n 0, 1) := by decide +kernel
theorem dX0_notesOfTheme_6 : decode cX0_notesOfTheme 6 = .ok (.getfield 9, 3) := by decide +kernel
theorem dX0_notesOfTheme_9 : decode cX0_notesOfTheme 9 = .ok (.if_icmp .ge 22, 3) := by decide +kernel
theorem dX0_notesOfTheme_12 : decode cX0_notesOfTheme 12 = .ok (.aload_n 0, 1) := by decide +kernel
theorem dX0_notesOfTheme_13 : decode cX0_notesOfTheme 13 = .ok (.getfield 22, 3) := by decide +kernel
theorem dX0_notesOfTheme_16 : decode cX0_notesOfTheme 16 = .ok (.iload_n 3, 1) := by decide +kernel
theorem dX0_notesOfTheme_17 : decode cX0_notesOfTheme 17 = .ok (.iaload, 1) := by decide +kernel
theorem dX0_notesOfTheme_18 : decode cX0_notesOfTheme 18 = .ok (.iload_n 1, 1) := by decide +kernel
theorem dX0_notesOfTheme_19 : decode cX0_notesOfTheme 19 = .ok (.if_icmp .ne 6, 3) := by decide +kernel
theorem dX0_notesOfTheme_22 : decode cX0_notesOfTheme 22 = .ok (.iinc 2 1, 3) := by decide +kernel
theorem dX0_notesOfTheme_25 : decode cX0_notesOfTheme 25 = .ok (.iinc 3 1, 3) := by decide +kernel
theorem dX0_notesOfTheme_28 : decode cX0_notesOfTheme 28 = .ok (.goto (-24), 3) := by decide +kernel
theorem dX0_notesOfTheme_31 : decode cX0_notesOfTheme 31 = .ok (.iload_n 2, 1) := by decide +kernel
theorem dX0_notesOfTheme_32 : decode cX0_notesOfTheme 32 = .ok (.ireturn, 1) := by decide +kernel
set_option maxRecDepth 20000 in
theorem ggX0_dotsOfTheme_X0_dotsOn : GoodIn wsX0_dotsOfTheme wsX0_dotsOn := goodIn_r _ [7, 8, 9, 10, 6, 11, 12, 13, 14, 15, 16, 17, 18, 19, 20] (by decide +kernel) (by decide +kernel)
set_option maxRecDepth 20000 in
theorem gX0_dotsOfTheme_X0_dotsOn : GoodIn wsX0_dotsOfTheme (wsV RX0 74 RX0 yX0_dotsOn wsX0_dotsOn) := goodIn_app (goodIn_of _ (by decide +kernel)) ggX0_dotsOfTheme_X0_dotsOn
theorem dX0_dotsOfTheme_0 : decode cX0_dotsOfTheme 0 = .ok (.iconst 0, 1) := by decide +kernel
theorem dX0_dotsOfTheme_1 : decode cX0_dotsOfTheme 1 = .ok (.istore_n 2, 1) := by decide +kernel
theorem dX0_dotsOfTheme_2 : decode cX0_dotsOfTheme 2 = .ok (.iconst 0, 1) := by decide +kernel
theorem dX0_dotsOfTheme_3 : decode cX0_dotsOfTheme 3 = .ok (.istore_n 3, 1) := by decide +kernel
theorem dX0_dotsOfTheme_4 : decode cX0_dotsOfTheme 4 = .ok (.iload_n 3, 1) := by decide +kernel
theorem dX0_dotsOfTheme_5 : decode cX0_dotsOfTheme 5 = .ok (.aload_n 0, 1) := by decide +kernel
theorem dX0_dotsOfTheme_6 : decode cX0_dotsOfTheme 6 = .ok (.getfield 9, 3) := by decide +kernel
theorem dX0_dotsOfTheme_9 : decode cX0_dotsOfTheme 9 = .ok (.if_icmp .ge 27, 3) := by decide +kernel
theorem dX0_dotsOfTheme_12 : decode cX0_dotsOfTheme 12 = .ok (.aload_n 0, 1) := by decide +kernel
theorem dX0_dotsOfTheme_13 : decode cX0_dotsOfTheme 13 = .ok (.getfield 22, 3) := by decide +kernel
theorem dX0_dotsOfTheme_16 : decode cX0_dotsOfTheme 16 = .ok (.iload_n 3, 1) := by decide +kernel
theorem dX0_dotsOfTheme_17 : decode cX0_dotsOfTheme 17 = .ok (.iaload, 1) := by decide +kernel
theorem dX0_dotsOfTheme_18 : decode cX0_dotsOfTheme 18 = .ok (.iload_n 1, 1) := by decide +kernel
theorem dX0_dotsOfTheme_19 : decode cX0_dotsOfTheme 19 = .ok (.if_icmp .ne 11, 3) := by decide +kernel
theorem dX0_dotsOfTheme_22 : decode cX0_dotsOfTheme 22 = .ok (.iload_n 2, 1) := by decide +kernel
theorem dX0_dotsOfTheme_23 : decode cX0_dotsOfTheme 23 = .ok (.aload_n 0, 1) := by decide +kernel
theorem dX0_dotsOfTheme_24 : decode cX0_dotsOfTheme 24 = .ok (.iload_n 3, 1) := by decide +kernel
theorem dX0_dotsOfTheme_25 : decode cX0_dotsOfTheme 25 = .ok (.invokevirtual 74, 3) := by decide +kernel
theorem dX0_dotsOfTheme_28 : decode cX0_dotsOfTheme 28 = .ok (.iadd, 1) := by decide +kernel
theorem dX0_dotsOfTheme_29 : decode cX0_dotsOfTheme 29 = .ok (.istore_n 2, 1) := by decide +kernel
theorem dX0_dotsOfTheme_30 : decode cX0_dotsOfTheme 30 = .ok (.iinc 3 1, 3) := by decide +kernel
theorem dX0_dotsOfTheme_33 : decode cX0_dotsOfTheme 33 = .ok (.goto (-29), 3) := by decide +kernel
theorem dX0_dotsOfTheme_36 : decode cX0_dotsOfTheme 36 = .ok (.iload_n 2, 1) := by decide +kernel
theorem dX0_dotsOfTheme_37 : decode cX0_dotsOfTheme 37 = .ok (.ireturn, 1) := by decide +kernel
theorem dX0_voteOf_0 : decode cX0_voteOf 0 = .ok (.aload_n 0, 1) := by decide +kernel
theorem dX0_voteOf_1 : decode cX0_voteOf 1 = .ok (.getfield 31, 3) := by decide +kernel
theorem dX0_voteOf_4 : decode cX0_voteOf 4 = .ok (.iload_n 2, 1) := by decide +kernel
theorem dX0_voteOf_5 : decode cX0_voteOf 5 = .ok (.bipush 6, 2) := by decide +kernel
theorem dX0_voteOf_7 : decode cX0_voteOf 7 = .ok (.imul, 1) := by decide +kernel
theorem dX0_voteOf_8 : decode cX0_voteOf 8 = .ok (.iload_n 1, 1) := by decide +kernel
theorem dX0_voteOf_9 : decode cX0_voteOf 9 = .ok (.iadd, 1) := by decide +kernel
theorem dX0_voteOf_10 : decode cX0_voteOf 10 = .ok (.iaload, 1) := by decide +kernel
theorem dX0_voteOf_11 : decode cX0_voteOf 11 = .ok (.ireturn, 1) := by decide +kernel
theorem dX0_setVote_0 : decode cX0_setVote 0 = .ok (.aload_n 0, 1) := by decide +kernel
theorem dX0_setVote_1 : decode cX0_setVote 1 = .ok (.getfield 31, 3) := by decide +kernel
theorem dX0_setVote_4 : decode cX0_setVote 4 = .ok (.iload_n 2, 1) := by decide +kernel
theorem dX0_setVote_5 : decode cX0_setVote 5 = .ok (.bipush 6, 2) := by decide +kernel
theorem dX0_setVote_7 : decode cX0_setVote 7 = .ok (.imul, 1) := by decide +kernel
theorem dX0_setVote_8 : decode cX0_setVote 8 = .ok (.iload_n 1, 1) := by decide +kernel
theorem dX0_setVote_9 : decode cX0_setVote 9 = .ok (.iadd, 1) := by decide +kernel
theorem dX0_setVote_10 : decode cX0_setVote 10 = .ok (.iload_n 3, 1) := by decide +kernel
theorem dX0_setVote_11 : decode cX0_setVote 11 = .ok (.iastore, 1) := by decide +kernel
theorem dX0_setVote_12 : decode cX0_setVote 12 = .ok (.return_, 1) := by decide +kernel
set_option maxRecDepth 20000 in
theorem ggX0_votesFor_X0_voteOf : GoodIn wsX0_votesFor wsX0_voteOf := goodIn_r _ [5, 6, 7, 8, 9, 10, 11, 12, 13, 14] (by decide +kernel) (by decide +kernel)
set_option maxRecDepth 20000 in
theorem gX0_votesFor_X0_voteOf : GoodIn wsX0_votesFor (wsV RX0 83 RX0 yX0_voteOf wsX0_voteOf) := goodIn_app (goodIn_of _ (by decide +kernel)) ggX0_votesFor_X0_voteOf
theorem dX0_votesFor_0 : decode cX0_votesFor 0 = .ok (.iconst 0, 1) := by decide +kernel
theorem dX0_votesFor_1 : decode cX0_votesFor 1 = .ok (.istore_n 3, 1) := by decide +kernel
theorem dX0_votesFor_2 : decode cX0_votesFor 2 = .ok (.iconst 0, 1) := by decide +kernel
theorem dX0_votesFor_3 : decode cX0_votesFor 3 = .ok (.istore 4, 2) := by decide +kernel
theorem dX0_votesFor_5 : decode cX0_votesFor 5 = .ok (.iload 4, 2) := by decide +kernel
theorem dX0_votesFor_7 : decode cX0_votesFor 7 = .ok (.bipush 6, 2) := by decide +kernel
theorem dX0_votesFor_9 : decode cX0_votesFor 9 = .ok (.if_icmp .ge 23, 3) := by decide +kernel
theorem dX0_votesFor_12 : decode cX0_votesFor 12 = .ok (.aload_n 0, 1) := by decide +kernel
theorem dX0_votesFor_13 : decode cX0_votesFor 13 = .ok (.iload 4, 2) := by decide +kernel
theorem dX0_votesFor_15 : decode cX0_votesFor 15 = .ok (.iload_n 1, 1) := by decide +kernel
theorem dX0_votesFor_16 : decode cX0_votesFor 16 = .ok (.invokevirtual 83, 3) := by decide +kernel
theorem dX0_votesFor_19 : decode cX0_votesFor 19 = .ok (.iload_n 2, 1) := by decide +kernel
theorem dX0_votesFor_20 : decode cX0_votesFor 20 = .ok (.if_icmp .ne 6, 3) := by decide +kernel
theorem dX0_votesFor_23 : decode cX0_votesFor 23 = .ok (.iinc 3 1, 3) := by decide +kernel
theorem dX0_votesFor_26 : decode cX0_votesFor 26 = .ok (.iinc 4 1, 3) := by decide +kernel
theorem dX0_votesFor_29 : decode cX0_votesFor 29 = .ok (.goto (-24), 3) := by decide +kernel
theorem dX0_votesFor_32 : decode cX0_votesFor 32 = .ok (.iload_n 3, 1) := by decide +kernel
theorem dX0_votesFor_33 : decode cX0_votesFor 33 = .ok (.ireturn, 1) := by decide +kernel
set_option maxRecDepth 20000 in
theorem ggX0_votersOf_X0_votesFor : GoodIn wsX0_votersOf wsX0_votesFor := goodIn_r _ [5, 6, 7, 8, 4, 9, 10, 11, 12, 13, 14, 15, 16, 17, 18] (by decide +kernel) (by decide +kernel)
set_option maxRecDepth 20000 in
theorem gX0_votersOf_X0_votesFor : GoodIn wsX0_votersOf (wsV RX0 89 RX0 yX0_votesFor wsX0_votesFor) := goodIn_app (goodIn_of _ (by decide +kernel)) ggX0_votersOf_X0_votesFor
theorem dX0_votersOf_0 : decode cX0_votersOf 0 = .ok (.bipush 6, 2) := by decide +kernel
theorem dX0_votersOf_2 : decode cX0_votersOf 2 = .ok (.aload_n 0, 1) := by decide +kernel
theorem dX0_votersOf_3 : decode cX0_votersOf 3 = .ok (.iload_n 1, 1) := by decide +kernel
theorem dX0_votersOf_4 : decode cX0_votersOf 4 = .ok (.bipush (-5), 2) := by decide +kernel
theorem dX0_votersOf_6 : decode cX0_votersOf 6 = .ok (.invokevirtual 89, 3) := by decide +kernel
theorem dX0_votersOf_9 : decode cX0_votersOf 9 = .ok (.isub, 1) := by decide +kernel
theorem dX0_votersOf_10 : decode cX0_votersOf 10 = .ok (.ireturn, 1) := by decide +kernel
end
section
theorem hi_X0_moveNote_X0 : ∀ w ∈ wsX00, w ∈ wsX0_moveNote := fun w h => List.mem_cons_of_mem _ (List.mem_append_right _ h)
theorem lk_X0_moveNote_1 : Cond.fieldLink RX0 15 "NoteThemes$Board" "columnOf" "[I" ∈ wsX0_moveNote := List.mem_of_getElem? (i := 1) rfl
theorem lk_X0_moveNote_2 : Cond.fieldLink RX0 19 "NoteThemes$Board" "rowOf" "[I" ∈ wsX0_moveNote := List.mem_of_getElem? (i := 2) rfl
def f_X0_moveNote (B : tS) (p0 : Int32) (p1 : Int32) (p2 : Int32) : Option (tS) := (if p0 < 0 ∨ 20 ≤ p0.toNatClampNeg then none else (if p0 < 0 ∨ 20 ≤ p0.toNatClampNeg then none else some (va_up (va_up B 1 (upd (B 1) p0.toNatClampNeg p1)) 2 (upd (B 2) p0.toNatClampNeg p2))))
set_option maxRecDepth 100000 in
set_option maxHeartbeats 4000000 in
theorem B_X0_moveNote {X : gX} (C : cx X RX0 cX0_moveNote 4 none wsX0_moveNote 0 0) (a : Nat → Nat) (B : tS) (p0 : Int32) (p1 : Int32) (p2 : Int32) (Bz : tS) (h : f_X0_moveNote B p0 p1 p2 = some Bz) : G X (QV X [bdW (gcA X) a Bz]) [bdW (gcA X) a B] [some (.ref (a 0)), some (.int p0), some (.int p1), some (.int p2)] [] 0 := by
  unfold f_X0_moveNote at h
  refine g_aload_n (pc' := 1) C dX0_moveNote_0 rfl rfl ?_
  refine gg_X0_1 (pc' := 4) (i := 0) C rfl hi_X0_moveNote_X0 lk_X0_moveNote_1 dX0_moveNote_1 rfl ?_
  refine g_iload_n (pc' := 5) C dX0_moveNote_4 rfl rfl ?_
  refine g_iload_n (pc' := 6) C dX0_moveNote_5 rfl rfl ?_
  refine g_iast (pc' := 7) (i := 0) (j := 1) (w' := bdW (gcA X) a (va_up B 1 (upd (B 1) p0.toNatClampNeg p1))) C rfl rfl rfl dX0_moveNote_6 rfl h (fun h => ?_)
  refine g_aload_n (pc' := 8) C dX0_moveNote_7 rfl rfl ?_
  refine gg_X0_2 (pc' := 11) (i := 0) C rfl hi_X0_moveNote_X0 lk_X0_moveNote_2 dX0_moveNote_8 rfl ?_
  refine g_iload_n (pc' := 12) C dX0_moveNote_11 rfl rfl ?_
  refine g_iload_n (pc' := 13) C dX0_moveNote_12 rfl rfl ?_
  refine g_iast (pc' := 14) (i := 0) (j := 2) (w' := bdW (gcA X) a (va_up (va_up B 1 (upd (B 1) p0.toNatClampNeg p1)) 2 (upd (B 2) p0.toNatClampNeg p2))) C rfl rfl rfl dX0_moveNote_13 rfl h (fun h => ?_)
  obtain rfl := Option.some.inj h
  exact g_vret C dX0_moveNote_14
set_option maxRecDepth 100000 in
set_option maxHeartbeats 4000000 in
theorem c_X0_moveNote (l : Launch) (D : va_G) (cA : Nat → ClassId) (a : Nat → Nat) (B : tS) (p0 : Int32) (p1 : Int32) (p2 : Int32) (Bz : tS) (h : f_X0_moveNote B p0 p1 p2 = some Bz) : MV l D cA yX0_moveNote wsX0_moveNote 0 0 [.ref (a 0), .int p0, .int p1, .int p2] [bdW cA a B]  [bdW cA a Bz] := MV_of (cc := cX0_moveNote) (maxL := 4) (by decide +kernel) rfl (List.forall_mem_cons.mpr ⟨rfl, List.forall_mem_cons.mpr ⟨rfl, List.forall_mem_cons.mpr ⟨rfl, List.forall_mem_cons.mpr ⟨rfl, List.forall_mem_nil _⟩⟩⟩⟩) (Nat.le_of_ble_eq_true rfl) (fun X e1 e2 e3 C => by subst e1; subst e2; subst e3; exact B_X0_moveNote C a B p0 p1 p2 Bz h)
set_option maxRecDepth 100000 in
set_option maxHeartbeats 4000000 in
theorem nd_X0_moveNote : nd yX0_moveNote 3 := ⟨by decide +kernel, by decide +kernel, by decide +kernel⟩
set_option maxRecDepth 100000 in
set_option maxHeartbeats 4000000 in
theorem k_X0_moveNote {X : gX} {own : String} {cc : ByteArray} {nL : Nat} {ret : Option FieldType} {Ts : List Cond} {fr lm : Nat} {Q : State → Prop} {ms : List va_W} {L : List (Option Value)} {st : List Value} {pc pc' idx : Nat} {ρ : Type} {T : tS → Option ρ} {res : ρ} (C : cx X own cc nL ret Ts fr lm) (a : Nat → Nat) (B : tS) (p0 : Int32) (p1 : Int32) (p2 : Int32) (is : List Nat) (hC : is.map (fun i => ms[i]?) = [some (bdW (gcA X) a B)]) (hn : is.Nodup) (hG : GoodIn Ts (wsV own idx RX0 yX0_moveNote wsX0_moveNote)) (hR : 0 + 1 ≤ fr ∧ 8 + (4 + 11) + 0 ≤ lm) (hst : (st.map fun v => v.category).sum ≤ 8) (hLn : L.length = nL) (d : decode cc pc = .ok (.invokevirtual idx, 3)) (hp : pc + 3 = pc') (h : bd (f_X0_moveNote B p0 p1 p2) T = some res) (kk : ∀ (Bz : tS), T Bz = some res → G X Q (rpl ms is [bdW (gcA X) a Bz]) L (st) pc') : G X Q ms L (.int p2 :: .int p1 :: .int p0 :: .ref (a 0) :: st) pc := by
  obtain ⟨Bz, h1, h⟩ := ob h
  exact G_callVV C (As := [.int p0, .int p1, .int p2]) (c_X0_moveNote (gl X) (gD X) (gcA X) a B p0 p1 p2 Bz h1) hG rfl nd_X0_moveNote hR (q0 := 0) rfl rfl hC hn rfl rfl hst hLn d hp (kk Bz h)
theorem hi_X0_addNote_X0 : ∀ w ∈ wsX00, w ∈ wsX0_addNote := fun w h => List.mem_cons_of_mem _ (List.mem_append_right _ h)
theorem lk_X0_addNote_1 : Cond.fieldLink RX0 9 "NoteThemes$Board" "notes" "I" ∈ wsX0_addNote := List.mem_of_getElem? (i := 1) rfl
theorem lk_X0_addNote_2 : Cond.fieldLink RX0 22 "NoteThemes$Board" "themeOf" "[I" ∈ wsX0_addNote := List.mem_of_getElem? (i := 2) rfl
theorem lk_X0_addNote_3 : Cond.fieldLink RX0 25 "NoteThemes$Board" "dotsAt" "[I" ∈ wsX0_addNote := List.mem_of_getElem? (i := 3) rfl
def f_X0_addNote_33b (p0 : Int32) (p1 : Int32)  (k33 : Int32 → Int32 → tS → Option (tS)) (x3 : Int32) (x4 : Int32) (B : tS) : Option (tS) := (if (6 : Int32) ≤ x4 then some B else (if ((x3 * (6 : Int32)) + x4) < 0 ∨ 120 ≤ ((x3 * (6 : Int32)) + x4).toNatClampNeg then none else k33 x3 (x4 + 1) (va_up B 4 (upd (B 4) ((x3 * (6 : Int32)) + x4).toNatClampNeg (0 : Int32)))))
def f_X0_addNote_33 (p0 : Int32) (p1 : Int32)  : Nat → Int32 → Int32 → tS → Option (tS)
  | 0 => fun _ _ _ => none
  | n + 1 => f_X0_addNote_33b p0 p1  (f_X0_addNote_33 p0 p1  n)
set_option maxRecDepth 100000 in
set_option maxHeartbeats 4000000 in
theorem B_X0_addNote_33b {X : gX} (C : cx X RX0 cX0_addNote 5 none wsX0_addNote 1 23) (a : Nat → Nat) (p0 : Int32) (p1 : Int32) (Bz : tS)  (k33 : Int32 → Int32 → tS → Option (tS)) (hk33 : ∀ (x3 : Int32) (x4 : Int32) (B : tS), k33 x3 x4 B = some Bz → G X (QV X [bdW (gcA X) a Bz]) [bdW (gcA X) a B] [some (.ref (a 0)), some (.int p0), some (.int p1), some (.int x3), some (.int x4)] [] 33) (x3 : Int32) (x4 : Int32) (B : tS) (h : f_X0_addNote_33b p0 p1  k33 x3 x4 B = some Bz) : G X (QV X [bdW (gcA X) a Bz]) [bdW (gcA X) a B] [some (.ref (a 0)), some (.int p0), some (.int p1), some (.int x3), some (.int x4)] [] 33 := by
  unfold f_X0_addNote_33b at h
  refine g_iload (pc' := 35) C dX0_addNote_33 rfl rfl ?_
  refine g_bipush (pc' := 37) (v := 6) C dX0_addNote_35 (by decide) rfl ?_
  refine g_icmp_ge (pc' := 40) (tgt := 59) C dX0_addNote_37 (by decide) rfl h (fun c h => ?_) (fun c h => ?_)
  · obtain rfl := Option.some.inj h
    exact g_vret C dX0_addNote_59
  · refine g_aload_n (pc' := 41) C dX0_addNote_40 rfl rfl ?_
    refine gg_X0_4 (pc' := 44) (i := 0) C rfl hi_X0_addNote_X0 lk_X0_addNote_3 dX0_addNote_41 rfl ?_
    refine g_iload_n (pc' := 45) C dX0_addNote_44 rfl rfl ?_
    refine g_bipush (pc' := 47) (v := 6) C dX0_addNote_45 (by decide) rfl ?_
    refine g_imul (pc' := 48) C dX0_addNote_47 rfl ?_
    refine g_iload (pc' := 50) C dX0_addNote_48 rfl rfl ?_
    refine g_iadd (pc' := 51) C dX0_addNote_50 rfl ?_
    refine g_iconst (pc' := 52) (v := 0) C dX0_addNote_51 (by decide) rfl ?_
    refine g_iast (pc' := 53) (i := 0) (j := 4) (w' := bdW (gcA X) a (va_up B 4 (upd (B 4) ((x3 * (6 : Int32)) + x4).toNatClampNeg (0 : Int32)))) C rfl rfl rfl dX0_addNote_52 rfl h (fun h => ?_)
    refine g_iinc (pc' := 56) (v := (x4 + 1)) C dX0_addNote_53 rfl rfl rfl (L' := [some (.ref (a 0)), some (.int p0), some (.int p1), some (.int x3), some (.int (x4 + 1))]) rfl ?_
    refine g_goto (pc' := 33) C dX0_addNote_56 (by decide) ?_
    exact G_loc (lle_s (lle_s (lle_s (lle_s (lle_s lle_0))))) (hk33 x3 (x4 + 1) (va_up B 4 (upd (B 4) ((x3 * (6 : Int32)) + x4).toNatClampNeg (0 : Int32))) h)
set_option maxRecDepth 100000 in
set_option maxHeartbeats 4000000 in
theorem L_X0_addNote_33 {X : gX} (C : cx X RX0 cX0_addNote 5 none wsX0_addNote 1 23) (a : Nat → Nat) (p0 : Int32) (p1 : Int32) (Bz : tS)  : ∀ (n : Nat) (x3 : Int32) (x4 : Int32) (B : tS), f_X0_addNote_33 p0 p1  n x3 x4 B = some Bz → G X (QV X [bdW (gcA X) a Bz]) [bdW (gcA X) a B] [some (.ref (a 0)), some (.int p0), some (.int p1), some (.int x3), some (.int x4)] [] 33 := by
  intro n
  induction n with
  | zero => intro x3 x4 B h; have h : (none : Option (tS)) = some Bz := h; cases h
  | succ n ih => intro x3 x4 B h; exact B_X0_addNote_33b C a p0 p1 Bz  (f_X0_addNote_33 p0 p1  n) ih x3 x4 B h
def f_X0_addNote (B : tS) (p0 : Int32) (p1 : Int32) : Option (tS) := (bd (f_X0_moveNote (va_up B 0 (fun _ => ((B 0 0) + (1 : Int32)))) (B 0 0) p0 p1) (fun B1 => (if (B 0 0) < 0 ∨ 20 ≤ (B 0 0).toNatClampNeg then none else f_X0_addNote_33 p0 p1 1000 (B 0 0) (0 : Int32) (va_up B1 3 (upd (B1 3) (B 0 0).toNatClampNeg (-5 : Int32))))))
set_option maxRecDepth 100000 in
set_option maxHeartbeats 4000000 in
theorem B_X0_addNote {X : gX} (C : cx X RX0 cX0_addNote 5 none wsX0_addNote 1 23) (a : Nat → Nat) (B : tS) (p0 : Int32) (p1 : Int32) (Bz : tS) (h : f_X0_addNote B p0 p1 = some Bz) : G X (QV X [bdW (gcA X) a Bz]) [bdW (gcA X) a B] [some (.ref (a 0)), some (.int p0), some (.int p1), none, none] [] 0 := by
  unfold f_X0_addNote at h
  refine g_aload_n (pc' := 1) C dX0_addNote_0 rfl rfl ?_
  refine gg_X0_0 (pc' := 4) (i := 0) C rfl hi_X0_addNote_X0 lk_X0_addNote_1 dX0_addNote_1 rfl ?_
  refine g_istore_n (pc' := 5) C dX0_addNote_4 (Nat.le_of_ble_eq_true rfl) rfl (L' := [some (.ref (a 0)), some (.int p0), some (.int p1), some (.int (B 0 0)), none]) rfl ?_
  refine g_aload_n (pc' := 6) C dX0_addNote_5 rfl rfl ?_
  refine g_dup (pc' := 7) C dX0_addNote_6 rfl rfl ?_
  refine gg_X0_0 (pc' := 10) (i := 0) C rfl hi_X0_addNote_X0 lk_X0_addNote_1 dX0_addNote_7 rfl ?_
  refine g_iconst (pc' := 11) (v := 1) C dX0_addNote_10 (by decide) rfl ?_
  refine g_iadd (pc' := 12) C dX0_addNote_11 rfl ?_
  refine gp_X0_0 (pc' := 15) (i := 0) C rfl hi_X0_addNote_X0 lk_X0_addNote_1 dX0_addNote_12 rfl ?_
  refine g_aload_n (pc' := 16) C dX0_addNote_15 rfl rfl ?_
  refine g_iload_n (pc' := 17) C dX0_addNote_16 rfl rfl ?_
  refine g_iload_n (pc' := 18) C dX0_addNote_17 rfl rfl ?_
  refine g_iload_n (pc' := 19) C dX0_addNote_18 rfl rfl ?_
  refine k_X0_moveNote (pc' := 22) C a (va_up B 0 (fun _ => ((B 0 0) + (1 : Int32)))) (B 0 0) p0 p1 [0] rfl (by decide) gX0_addNote_X0_moveNote ⟨Nat.le_of_ble_eq_true rfl, Nat.le_of_ble_eq_true rfl⟩ (Nat.le_of_ble_eq_true rfl) rfl dX0_addNote_19 rfl h (fun B1 h => ?_)
  refine g_aload_n (pc' := 23) C dX0_addNote_22 rfl rfl ?_
  refine gg_X0_3 (pc' := 26) (i := 0) C rfl hi_X0_addNote_X0 lk_X0_addNote_2 dX0_addNote_23 rfl ?_
  refine g_iload_n (pc' := 27) C dX0_addNote_26 rfl rfl ?_
  refine g_bipush (pc' := 29) (v := -5) C dX0_addNote_27 (by decide) rfl ?_
  refine g_iast (pc' := 30) (i := 0) (j := 3) (w' := bdW (gcA X) a (va_up B1 3 (upd (B1 3) (B 0 0).toNatClampNeg (-5 : Int32)))) C rfl rfl rfl dX0_addNote_29 rfl h (fun h => ?_)
  refine g_iconst (pc' := 31) (v := 0) C dX0_addNote_30 (by decide) rfl ?_
  refine g_istore (pc' := 33) C dX0_addNote_31 (Nat.le_of_ble_eq_true rfl) rfl (L' := [some (.ref (a 0)), some (.int p0), some (.int p1), some (.int (B 0 0)), some (.int (0 : Int32))]) rfl ?_
  exact G_loc (lle_s (lle_s (lle_s (lle_s (lle_s lle_0))))) (L_X0_addNote_33 C a p0 p1 Bz 1000 (B 0 0) (0 : Int32) (va_up B1 3 (upd (B1 3) (B 0 0).toNatClampNeg (-5 : Int32))) h)
set_option maxRecDepth 100000 in
set_option maxHeartbeats 4000000 in
theorem c_X0_addNote (l : Launch) (D : va_G) (cA : Nat → ClassId) (a : Nat → Nat) (B : tS) (p0 : Int32) (p1 : Int32) (Bz : tS) (h : f_X0_addNote B p0 p1 = some Bz) : MV l D cA yX0_addNote wsX0_addNote 1 23 [.ref (a 0), .int p0, .int p1] [bdW cA a B]  [bdW cA a Bz] := MV_of (cc := cX0_addNote) (maxL := 5) (by decide +kernel) rfl (List.forall_mem_cons.mpr ⟨rfl, List.forall_mem_cons.mpr ⟨rfl, List.forall_mem_cons.mpr ⟨rfl, List.forall_mem_nil _⟩⟩⟩) (Nat.le_of_ble_eq_true rfl) (fun X e1 e2 e3 C => by subst e1; subst e2; subst e3; exact B_X0_addNote C a B p0 p1 Bz h)
set_option maxRecDepth 100000 in
set_option maxHeartbeats 4000000 in
theorem nd_X0_addNote : nd yX0_addNote 2 := ⟨by decide +kernel, by decide +kernel, by decide +kernel⟩
set_option maxRecDepth 100000 in
set_option maxHeartbeats 4000000 in
theorem k_X0_addNote {X : gX} {own : String} {cc : ByteArray} {nL : Nat} {ret : Option FieldType} {Ts : List Cond} {fr lm : Nat} {Q : State → Prop} {ms : List va_W} {L : List (Option Value)} {st : List Value} {pc pc' idx : Nat} {ρ : Type} {T : tS → Option ρ} {res : ρ} (C : cx X own cc nL ret Ts fr lm) (a : Nat → Nat) (B : tS) (p0 : Int32) (p1 : Int32) (is : List Nat) (hC : is.map (fun i => ms[i]?) = [some (bdW (gcA X) a B)]) (hn : is.Nodup) (hG : GoodIn Ts (wsV own idx RX0 yX0_addNote wsX0_addNote)) (hR : 1 + 1 ≤ fr ∧ 8 + (5 + 11) + 23 ≤ lm) (hst : (st.map fun v => v.category).sum ≤ 8) (hLn : L.length = nL) (d : decode cc pc = .ok (.invokevirtual idx, 3)) (hp : pc + 3 = pc') (h : bd (f_X0_addNote B p0 p1) T = some res) (kk : ∀ (Bz : tS), T Bz = some res → G X Q (rpl ms is [bdW (gcA X) a Bz]) L (st) pc') : G X Q ms L (.int p1 :: .int p0 :: .ref (a 0) :: st) pc := by
  obtain ⟨Bz, h1, h⟩ := ob h
  exact G_callVV C (As := [.int p0, .int p1]) (c_X0_addNote (gl X) (gD X) (gcA X) a B p0 p1 Bz h1) hG rfl nd_X0_addNote hR (q0 := 0) rfl rfl hC hn rfl rfl hst hLn d hp (kk Bz h)
theorem hi_X0_copyFrom_X0 : ∀ w ∈ wsX00, w ∈ wsX0_copyFrom := fun w h => List.mem_cons_of_mem _ (List.mem_append_right _ h)
theorem lk_X0_copyFrom_1 : Cond.fieldLink RX0 9 "NoteThemes$Board" "notes" "I" ∈ wsX0_copyFrom := List.mem_of_getElem? (i := 1) rfl
theorem lk_X0_copyFrom_10 : Cond.fieldLink RX0 28 "NoteThemes$Board" "themes" "I" ∈ wsX0_copyFrom := List.mem_of_getElem? (i := 10) rfl
theorem lk_X0_copyFrom_11 : Cond.fieldLink RX0 31 "NoteThemes$Board" "votedAt" "[I" ∈ wsX0_copyFrom := List.mem_of_getElem? (i := 11) rfl
theorem lk_X0_copyFrom_12 : Cond.fieldLink RX0 34 "NoteThemes$Board" "settings" "[I" ∈ wsX0_copyFrom := List.mem_of_getElem? (i := 12) rfl
theorem lk_X0_copyFrom_2 : Cond.fieldLink RX0 15 "NoteThemes$Board" "columnOf" "[I" ∈ wsX0_copyFrom := List.mem_of_getElem? (i := 2) rfl
theorem lk_X0_copyFrom_3 : Cond.methodLink RX0 40 arraycopyName ∈ wsX0_copyFrom := List.mem_of_getElem? (i := 3) rfl
theorem lk_X0_copyFrom_4 : Cond.native arraycopyName ∈ wsX0_copyFrom := List.mem_of_getElem? (i := 4) rfl
theorem lk_X0_copyFrom_5 : Cond.static arraycopyName ∈ wsX0_copyFrom := List.mem_of_getElem? (i := 5) rfl
theorem lk_X0_copyFrom_6 : Cond.initialized "java/lang/System" ∈ wsX0_copyFrom := List.mem_of_getElem? (i := 6) rfl
theorem lk_X0_copyFrom_7 : Cond.fieldLink RX0 19 "NoteThemes$Board" "rowOf" "[I" ∈ wsX0_copyFrom := List.mem_of_getElem? (i := 7) rfl
theorem lk_X0_copyFrom_8 : Cond.fieldLink RX0 22 "NoteThemes$Board" "themeOf" "[I" ∈ wsX0_copyFrom := List.mem_of_getElem? (i := 8) rfl
theorem lk_X0_copyFrom_9 : Cond.fieldLink RX0 25 "NoteThemes$Board" "dotsAt" "[I" ∈ wsX0_copyFrom := List.mem_of_getElem? (i := 9) rfl
def f_X0_copyFrom (B : tS) (O : tS)  : Option (tS) := some (va_up (va_up (va_up (va_up (va_up (va_up (va_up (va_up B 0 (fun _ => (O 0 0))) 1 (va_cpy (O 1) (B 1) 0 0 (20 : Int32).toNatClampNeg)) 2 (va_cpy (O 2) (B 2) 0 0 (20 : Int32).toNatClampNeg)) 3 (va_cpy (O 3) (B 3) 0 0 (20 : Int32).toNatClampNeg)) 4 (va_cpy (O 4) (B 4) 0 0 (120 : Int32).toNatClampNeg)) 5 (fun _ => (O 5 0))) 6 (va_cpy (O 6) (B 6) 0 0 (48 : Int32).toNatClampNeg)) 7 (va_cpy (O 7) (B 7) 0 0 (3 : Int32).toNatClampNeg))
set_option maxRecDepth 100000 in
set_option maxHeartbeats 4000000 in
theorem B_X0_copyFrom {X : gX} (C : cx X RX0 cX0_copyFrom 2 none wsX0_copyFrom 1 26) (a : Nat → Nat) (b : Nat → Nat) (B : tS) (O : tS)  (Bz : tS) (h : f_X0_copyFrom B O = some Bz) : G X (QV X [bdW (gcA X) a Bz, bdW (gcA X) b O]) [bdW (gcA X) a B, bdW (gcA X) b O] [some (.ref (a 0)), some (.ref (b 0))] [] 0 := by
  unfold f_X0_copyFrom at h
  refine g_aload_n (pc' := 1) C dX0_copyFrom_0 rfl rfl ?_
  refine g_aload_n (pc' := 2) C dX0_copyFrom_1 rfl rfl ?_
  refine gg_X0_0 (pc' := 5) (i := 1) C rfl hi_X0_copyFrom_X0 lk_X0_copyFrom_1 dX0_copyFrom_2 rfl ?_
  refine gp_X0_0 (pc' := 8) (i := 0) C rfl hi_X0_copyFrom_X0 lk_X0_copyFrom_1 dX0_copyFrom_5 rfl ?_
  refine g_aload_n (pc' := 9) C dX0_copyFrom_8 rfl rfl ?_
  refine gg_X0_1 (pc' := 12) (i := 1) C rfl hi_X0_copyFrom_X0 lk_X0_copyFrom_2 dX0_copyFrom_9 rfl ?_
  refine g_iconst (pc' := 13) (v := 0) C dX0_copyFrom_12 (by decide) rfl ?_
  refine g_aload_n (pc' := 14) C dX0_copyFrom_13 rfl rfl ?_
  refine gg_X0_1 (pc' := 17) (i := 0) C rfl hi_X0_copyFrom_X0 lk_X0_copyFrom_2 dX0_copyFrom_14 rfl ?_
  refine g_iconst (pc' := 18) (v := 0) C dX0_copyFrom_17 (by decide) rfl ?_
  refine g_bipush (pc' := 20) (v := 20) C dX0_copyFrom_18 (by decide) rfl ?_
  refine g_copy (pc' := 23) (i := 1) (j := 1) (i2 := 0) (j2 := 1) (w' := bdW (gcA X) a (va_up (va_up B 0 (fun _ => (O 0 0))) 1 (va_cpy (O 1) (B 1) 0 0 (20 : Int32).toNatClampNeg))) C rfl rfl rfl rfl rfl lk_X0_copyFrom_3 lk_X0_copyFrom_4 lk_X0_copyFrom_5 lk_X0_copyFrom_6 (by decide) (by decide) (by decide) ⟨Nat.le_of_ble_eq_true rfl, Nat.le_of_ble_eq_true rfl⟩ rfl dX0_copyFrom_20 rfl ?_
  refine g_aload_n (pc' := 24) C dX0_copyFrom_23 rfl rfl ?_
  refine gg_X0_2 (pc' := 27) (i := 1) C rfl hi_X0_copyFrom_X0 lk_X0_copyFrom_7 dX0_copyFrom_24 rfl ?_
  refine g_iconst (pc' := 28) (v := 0) C dX0_copyFrom_27 (by decide) rfl ?_
  refine g_aload_n (pc' := 29) C dX0_copyFrom_28 rfl rfl ?_
  refine gg_X0_2 (pc' := 32) (i := 0) C rfl hi_X0_copyFrom_X0 lk_X0_copyFrom_7 dX0_copyFrom_29 rfl ?_
  refine g_iconst (pc' := 33) (v := 0) C dX0_copyFrom_32 (by decide) rfl ?_
  refine g_bipush (pc' := 35) (v := 20) C dX0_copyFrom_33 (by decide) rfl ?_
  refine g_copy (pc' := 38) (i := 1) (j := 2) (i2 := 0) (j2 := 2) (w' := bdW (gcA X) a (va_up (va_up (va_up B 0 (fun _ => (O 0 0))) 1 (va_cpy (O 1) (B 1) 0 0 (20 : Int32).toNatClampNeg)) 2 (va_cpy (O 2) (B 2) 0 0 (20 : Int32).toNatClampNeg))) C rfl rfl rfl rfl rfl lk_X0_copyFrom_3 lk_X0_copyFrom_4 lk_X0_copyFrom_5 lk_X0_copyFrom_6 (by decide) (by decide) (by decide) ⟨Nat.le_of_ble_eq_true rfl, Nat.le_of_ble_eq_true rfl⟩ rfl dX0_copyFrom_35 rfl ?_
  refine g_aload_n (pc' := 39) C dX0_copyFrom_38 rfl rfl ?_
  refine gg_X0_3 (pc' := 42) (i := 1) C rfl hi_X0_copyFrom_X0 lk_X0_copyFrom_8 dX0_copyFrom_39 rfl ?_
  refine g_iconst (pc' := 43) (v := 0) C dX0_copyFrom_42 (by decide) rfl ?_
  refine g_aload_n (pc' := 44) C dX0_copyFrom_43 rfl rfl ?_
  refine gg_X0_3 (pc' := 47) (i := 0) C rfl hi_X0_copyFrom_X0 lk_X0_copyFrom_8 dX0_copyFrom_44 rfl ?_
  refine g_iconst (pc' := 48) (v := 0) C dX0_copyFrom_47 (by decide) rfl ?_
  refine g_bipush (pc' := 50) (v := 20) C dX0_copyFrom_48 (by decide) rfl ?_
  refine g_copy (pc' := 53) (i := 1) (j := 3) (i2 := 0) (j2 := 3) (w' := bdW (gcA X) a (va_up (va_up (va_up (va_up B 0 (fun _ => (O 0 0))) 1 (va_cpy (O 1) (B 1) 0 0 (20 : Int32).toNatClampNeg)) 2 (va_cpy (O 2) (B 2) 0 0 (20 : Int32).toNatClampNeg)) 3 (va_cpy (O 3) (B 3) 0 0 (20 : Int32).toNatClampNeg))) C rfl rfl rfl rfl rfl lk_X0_copyFrom_3 lk_X0_copyFrom_4 lk_X0_copyFrom_5 lk_X0_copyFrom_6 (by decide) (by decide) (by decide) ⟨Nat.le_of_ble_eq_true rfl, Nat.le_of_ble_eq_true rfl⟩ rfl dX0_copyFrom_50 rfl ?_
  refine g_aload_n (pc' := 54) C dX0_copyFrom_53 rfl rfl ?_
  refine gg_X0_4 (pc' := 57) (i := 1) C rfl hi_X0_copyFrom_X0 lk_X0_copyFrom_9 dX0_copyFrom_54 rfl ?_
  refine g_iconst (pc' := 58) (v := 0) C dX0_copyFrom_57 (by decide) rfl ?_
  refine g_aload_n (pc' := 59) C dX0_copyFrom_58 rfl rfl ?_
  refine gg_X0_4 (pc' := 62) (i := 0) C rfl hi_X0_copyFrom_X0 lk_X0_copyFrom_9 dX0_copyFrom_59 rfl ?_
  refine g_iconst (pc' := 63) (v := 0) C dX0_copyFrom_62 (by decide) rfl ?_
  refine g_bipush (pc' := 65) (v := 120) C dX0_copyFrom_63 (by decide) rfl ?_
  refine g_copy (pc' := 68) (i := 1) (j := 4) (i2 := 0) (j2 := 4) (w' := bdW (gcA X) a (va_up (va_up (va_up (va_up (va_up B 0 (fun _ => (O 0 0))) 1 (va_cpy (O 1) (B 1) 0 0 (20 : Int32).toNatClampNeg)) 2 (va_cpy (O 2) (B 2) 0 0 (20 : Int32).toNatClampNeg)) 3 (va_cpy (O 3) (B 3) 0 0 (20 : Int32).toNatClampNeg)) 4 (va_cpy (O 4) (B 4) 0 0 (120 : Int32).toNatClampNeg))) C rfl rfl rfl rfl rfl lk_X0_copyFrom_3 lk_X0_copyFrom_4 lk_X0_copyFrom_5 lk_X0_copyFrom_6 (by decide) (by decide) (by decide) ⟨Nat.le_of_ble_eq_true rfl, Nat.le_of_ble_eq_true rfl⟩ rfl dX0_copyFrom_65 rfl ?_
  refine g_aload_n (pc' := 69) C dX0_copyFrom_68 rfl rfl ?_
  refine g_aload_n (pc' := 70) C dX0_copyFrom_69 rfl rfl ?_
  refine gg_X0_5 (pc' := 73) (i := 1) C rfl hi_X0_copyFrom_X0 lk_X0_copyFrom_10 dX0_copyFrom_70 rfl ?_
  refine gp_X0_5 (pc' := 76) (i := 0) C rfl hi_X0_copyFrom_X0 lk_X0_copyFrom_10 dX0_copyFrom_73 rfl ?_
  refine g_aload_n (pc' := 77) C dX0_copyFrom_76 rfl rfl ?_
  refine gg_X0_6 (pc' := 80) (i := 1) C rfl hi_X0_copyFrom_X0 lk_X0_copyFrom_11 dX0_copyFrom_77 rfl ?_
  refine g_iconst (pc' := 81) (v := 0) C dX0_copyFrom_80 (by decide) rfl ?_
  refine g_aload_n (pc' := 82) C dX0_copyFrom_81 rfl rfl ?_
  refine gg_X0_6 (pc' := 85) (i := 0) C rfl hi_X0_copyFrom_X0 lk_X0_copyFrom_11 dX0_copyFrom_82 rfl ?_
  refine g_iconst (pc' := 86) (v := 0) C dX0_copyFrom_85 (by decide) rfl ?_
  refine g_bipush (pc' := 88) (v := 48) C dX0_copyFrom_86 (by decide) rfl ?_
  refine g_copy (pc' := 91) (i := 1) (j := 5) (i2 := 0) (j2 := 5) (w' := bdW (gcA X) a (va_up (va_up (va_up (va_up (va_up (va_up (va_up B 0 (fun _ => (O 0 0))) 1 (va_cpy (O 1) (B 1) 0 0 (20 : Int32).toNatClampNeg)) 2 (va_cpy (O 2) (B 2) 0 0 (20 : Int32).toNatClampNeg)) 3 (va_cpy (O 3) (B 3) 0 0 (20 : Int32).toNatClampNeg)) 4 (va_cpy (O 4) (B 4) 0 0 (120 : Int32).toNatClampNeg)) 5 (fun _ => (O 5 0))) 6 (va_cpy (O 6) (B 6) 0 0 (48 : Int32).toNatClampNeg))) C rfl rfl rfl rfl rfl lk_X0_copyFrom_3 lk_X0_copyFrom_4 lk_X0_copyFrom_5 lk_X0_copyFrom_6 (by decide) (by decide) (by decide) ⟨Nat.le_of_ble_eq_true rfl, Nat.le_of_ble_eq_true rfl⟩ rfl dX0_copyFrom_88 rfl ?_
  refine g_aload_n (pc' := 92) C dX0_copyFrom_91 rfl rfl ?_
  refine gg_X0_7 (pc' := 95) (i := 1) C rfl hi_X0_copyFrom_X0 lk_X0_copyFrom_12 dX0_copyFrom_92 rfl ?_
  refine g_iconst (pc' := 96) (v := 0) C dX0_copyFrom_95 (by decide) rfl ?_
  refine g_aload_n (pc' := 97) C dX0_copyFrom_96 rfl rfl ?_
  refine gg_X0_7 (pc' := 100) (i := 0) C rfl hi_X0_copyFrom_X0 lk_X0_copyFrom_12 dX0_copyFrom_97 rfl ?_
  refine g_iconst (pc' := 101) (v := 0) C dX0_copyFrom_100 (by decide) rfl ?_
  refine g_iconst (pc' := 102) (v := 3) C dX0_copyFrom_101 (by decide) rfl ?_
  refine g_copy (pc' := 105) (i := 1) (j := 6) (i2 := 0) (j2 := 6) (w' := bdW (gcA X) a (va_up (va_up (va_up (va_up (va_up (va_up (va_up (va_up B 0 (fun _ => (O 0 0))) 1 (va_cpy (O 1) (B 1) 0 0 (20 : Int32).toNatClampNeg)) 2 (va_cpy (O 2) (B 2) 0 0 (20 : Int32).toNatClampNeg)) 3 (va_cpy (O 3) (B 3) 0 0 (20 : Int32).toNatClampNeg)) 4 (va_cpy (O 4) (B 4) 0 0 (120 : Int32).toNatClampNeg)) 5 (fun _ => (O 5 0))) 6 (va_cpy (O 6) (B 6) 0 0 (48 : Int32).toNatClampNeg)) 7 (va_cpy (O 7) (B 7) 0 0 (3 : Int32).toNatClampNeg))) C rfl rfl rfl rfl rfl lk_X0_copyFrom_3 lk_X0_copyFrom_4 lk_X0_copyFrom_5 lk_X0_copyFrom_6 (by decide) (by decide) (by decide) ⟨Nat.le_of_ble_eq_true rfl, Nat.le_of_ble_eq_true rfl⟩ rfl dX0_copyFrom_102 rfl ?_
  obtain rfl := Option.some.inj h
  exact g_vret C dX0_copyFrom_105
set_option maxRecDepth 100000 in
set_option maxHeartbeats 4000000 in
theorem c_X0_copyFrom (l : Launch) (D : va_G) (cA : Nat → ClassId) (a : Nat → Nat) (b : Nat → Nat) (B : tS) (O : tS)  (Bz : tS) (h : f_X0_copyFrom B O = some Bz) : MV l D cA yX0_copyFrom wsX0_copyFrom 1 26 [.ref (a 0), .ref (b 0)] [bdW cA a B, bdW cA b O]  [bdW cA a Bz, bdW cA b O] := MV_of (cc := cX0_copyFrom) (maxL := 2) (by decide +kernel) rfl (List.forall_mem_cons.mpr ⟨rfl, List.forall_mem_cons.mpr ⟨rfl, List.forall_mem_nil _⟩⟩) (Nat.le_of_ble_eq_true rfl) (fun X e1 e2 e3 C => by subst e1; subst e2; subst e3; exact B_X0_copyFrom C a b B O Bz h)
set_option maxRecDepth 100000 in
set_option maxHeartbeats 4000000 in
theorem nd_X0_copyFrom : nd yX0_copyFrom 1 := ⟨by decide +kernel, by decide +kernel, by decide +kernel⟩
set_option maxRecDepth 100000 in
set_option maxHeartbeats 4000000 in
theorem k_X0_copyFrom {X : gX} {own : String} {cc : ByteArray} {nL : Nat} {ret : Option FieldType} {Ts : List Cond} {fr lm : Nat} {Q : State → Prop} {ms : List va_W} {L : List (Option Value)} {st : List Value} {pc pc' idx : Nat} {ρ : Type} {T : tS → Option ρ} {res : ρ} (C : cx X own cc nL ret Ts fr lm) (a : Nat → Nat) (b : Nat → Nat) (B : tS) (O : tS)  (is : List Nat) (hC : is.map (fun i => ms[i]?) = [some (bdW (gcA X) a B), some (bdW (gcA X) b O)]) (hn : is.Nodup) (hG : GoodIn Ts (wsV own idx RX0 yX0_copyFrom wsX0_copyFrom)) (hR : 1 + 1 ≤ fr ∧ 8 + (2 + 11) + 26 ≤ lm) (hst : (st.map fun v => v.category).sum ≤ 8) (hLn : L.length = nL) (d : decode cc pc = .ok (.invokevirtual idx, 3)) (hp : pc + 3 = pc') (h : bd (f_X0_copyFrom B O) T = some res) (kk : ∀ (Bz : tS), T Bz = some res → G X Q (rpl ms is [bdW (gcA X) a Bz, bdW (gcA X) b O]) L (st) pc') : G X Q ms L (.ref (b 0) :: .ref (a 0) :: st) pc := by
  obtain ⟨Bz, h1, h⟩ := ob h
  exact G_callVV C (As := [.ref (b 0)]) (c_X0_copyFrom (gl X) (gD X) (gcA X) a b B O Bz h1) hG rfl nd_X0_copyFrom hR (q0 := 0) rfl rfl hC hn rfl rfl hst hLn d hp (kk Bz h)
theorem hi_X0_removeAll_X0 : ∀ w ∈ wsX00, w ∈ wsX0_removeAll := fun w h => List.mem_cons_of_mem _ (List.mem_append_right _ h)
theorem lk_X0_removeAll_1 : Cond.fieldLink RX0 9 "NoteThemes$Board" "notes" "I" ∈ wsX0_removeAll := List.mem_of_getElem? (i := 1) rfl
theorem lk_X0_removeAll_2 : Cond.fieldLink RX0 28 "NoteThemes$Board" "themes" "I" ∈ wsX0_removeAll := List.mem_of_getElem? (i := 2) rfl
def f_X0_removeAll (B : tS)  : Option (tS) := some (va_up (va_up B 0 (fun _ => (0 : Int32))) 5 (fun _ => (0 : Int32)))
set_option maxRecDepth 100000 in
set_option maxHeartbeats 4000000 in
theorem B_X0_removeAll {X : gX} (C : cx X RX0 cX0_removeAll 1 none wsX0_removeAll 0 0) (a : Nat → Nat) (B : tS)  (Bz : tS) (h : f_X0_removeAll B = some Bz) : G X (QV X [bdW (gcA X) a Bz]) [bdW (gcA X) a B] [some (.ref (a 0))] [] 0 := by
  unfold f_X0_removeAll at h
  refine g_aload_n (pc' := 1) C dX0_removeAll_0 rfl rfl ?_
  refine g_iconst (pc' := 2) (v := 0) C dX0_removeAll_1 (by decide) rfl ?_
  refine gp_X0_0 (pc' := 5) (i := 0) C rfl hi_X0_removeAll_X0 lk_X0_removeAll_1 dX0_removeAll_2 rfl ?_
  refine g_aload_n (pc' := 6) C dX0_removeAll_5 rfl rfl ?_
  refine g_iconst (pc' := 7) (v := 0) C dX0_removeAll_6 (by decide) rfl ?_
  refine gp_X0_5 (pc' := 10) (i := 0) C rfl hi_X0_removeAll_X0 lk_X0_removeAll_2 dX0_removeAll_7 rfl ?_
  obtain rfl := Option.some.inj h
  exact g_vret C dX0_removeAll_10
set_option maxRecDepth 100000 in
set_option maxHeartbeats 4000000 in
theorem c_X0_removeAll (l : Launch) (D : va_G) (cA : Nat → ClassId) (a : Nat → Nat) (B : tS)  (Bz : tS) (h : f_X0_removeAll B = some Bz) : MV l D cA yX0_removeAll wsX0_removeAll 0 0 [.ref (a 0)] [bdW cA a B]  [bdW cA a Bz] := MV_of (cc := cX0_removeAll) (maxL := 1) (by decide +kernel) rfl (List.forall_mem_cons.mpr ⟨rfl, List.forall_mem_nil _⟩) (Nat.le_of_ble_eq_true rfl) (fun X e1 e2 e3 C => by subst e1; subst e2; subst e3; exact B_X0_removeAll C a B Bz h)
set_option maxRecDepth 100000 in
set_option maxHeartbeats 4000000 in
theorem nd_X0_removeAll : nd yX0_removeAll 0 := ⟨by decide +kernel, by decide +kernel, by decide +kernel⟩
set_option maxRecDepth 100000 in
set_option maxHeartbeats 4000000 in
theorem k_X0_removeAll {X : gX} {own : String} {cc : ByteArray} {nL : Nat} {ret : Option FieldType} {Ts : List Cond} {fr lm : Nat} {Q : State → Prop} {ms : List va_W} {L : List (Option Value)} {st : List Value} {pc pc' idx : Nat} {ρ : Type} {T : tS → Option ρ} {res : ρ} (C : cx X own cc nL ret Ts fr lm) (a : Nat → Nat) (B : tS)  (is : List Nat) (hC : is.map (fun i => ms[i]?) = [some (bdW (gcA X) a B)]) (hn : is.Nodup) (hG : GoodIn Ts (wsV own idx RX0 yX0_removeAll wsX0_removeAll)) (hR : 0 + 1 ≤ fr ∧ 8 + (1 + 11) + 0 ≤ lm) (hst : (st.map fun v => v.category).sum ≤ 8) (hLn : L.length = nL) (d : decode cc pc = .ok (.invokevirtual idx, 3)) (hp : pc + 3 = pc') (h : bd (f_X0_removeAll B) T = some res) (kk : ∀ (Bz : tS), T Bz = some res → G X Q (rpl ms is [bdW (gcA X) a Bz]) L (st) pc') : G X Q ms L (.ref (a 0) :: st) pc := by
  obtain ⟨Bz, h1, h⟩ := ob h
  exact G_callVV C (As := []) (c_X0_removeAll (gl X) (gD X) (gcA X) a B Bz h1) hG rfl nd_X0_removeAll hR (q0 := 0) rfl rfl hC hn rfl rfl hst hLn d hp (kk Bz h)
theorem hi_X0_dotsOfPerson_X0 : ∀ w ∈ wsX00, w ∈ wsX0_dotsOfPerson := fun w h => List.mem_cons_of_mem _ (List.mem_append_right _ h)
theorem lk_X0_dotsOfPerson_1 : Cond.fieldLink RX0 25 "NoteThemes$Board" "dotsAt" "[I" ∈ wsX0_dotsOfPerson := List.mem_of_getElem? (i := 1) rfl
def f_X0_dotsOfPerson (B : tS) (p0 : Int32) (p1 : Int32) : Option (Int32) := (if ((p1 * (6 : Int32)) + p0) < 0 ∨ 120 ≤ ((p1 * (6 : Int32)) + p0).toNatClampNeg then none else some (B 4 ((p1 * (6 : Int32)) + p0).toNatClampNeg))
set_option maxRecDepth 100000 in
set_option maxHeartbeats 4000000 in
theorem B_X0_dotsOfPerson {X : gX} (C : cx X RX0 cX0_dotsOfPerson 3 (some .int) wsX0_dotsOfPerson 0 0) (a : Nat → Nat) (B : tS) (p0 : Int32) (p1 : Int32) (r : Int32) (h : f_X0_dotsOfPerson B p0 p1 = some r) : G X (QI X r [bdW (gcA X) a B]) [bdW (gcA X) a B] [some (.ref (a 0)), some (.int p0), some (.int p1)] [] 0 := by
  unfold f_X0_dotsOfPerson at h
  refine g_aload_n (pc' := 1) C dX0_dotsOfPerson_0 rfl rfl ?_
  refine gg_X0_4 (pc' := 4) (i := 0) C rfl hi_X0_dotsOfPerson_X0 lk_X0_dotsOfPerson_1 dX0_dotsOfPerson_1 rfl ?_
  refine g_iload_n (pc' := 5) C dX0_dotsOfPerson_4 rfl rfl ?_
  refine g_bipush (pc' := 7) (v := 6) C dX0_dotsOfPerson_5 (by decide) rfl ?_
  refine g_imul (pc' := 8) C dX0_dotsOfPerson_7 rfl ?_
  refine g_iload_n (pc' := 9) C dX0_dotsOfPerson_8 rfl rfl ?_
  refine g_iadd (pc' := 10) C dX0_dotsOfPerson_9 rfl ?_
  refine g_iald (pc' := 11) (i := 0) (j := 4) C rfl rfl dX0_dotsOfPerson_10 rfl h (fun h => ?_)
  obtain rfl := Option.some.inj h
  exact g_iret C dX0_dotsOfPerson_11
set_option maxRecDepth 100000 in
set_option maxHeartbeats 4000000 in
theorem c_X0_dotsOfPerson (l : Launch) (D : va_G) (cA : Nat → ClassId) (a : Nat → Nat) (B : tS) (p0 : Int32) (p1 : Int32) (r : Int32) (h : f_X0_dotsOfPerson B p0 p1 = some r) : MI l D cA yX0_dotsOfPerson wsX0_dotsOfPerson 0 0 [.ref (a 0), .int p0, .int p1] [bdW cA a B] r [bdW cA a B] := MI_of (cc := cX0_dotsOfPerson) (maxL := 3) (rt := some .int) (by decide +kernel) rfl (List.forall_mem_cons.mpr ⟨rfl, List.forall_mem_cons.mpr ⟨rfl, List.forall_mem_cons.mpr ⟨rfl, List.forall_mem_nil _⟩⟩⟩) (Nat.le_of_ble_eq_true rfl) (fun X e1 e2 e3 C => by subst e1; subst e2; subst e3; exact B_X0_dotsOfPerson C a B p0 p1 r h)
set_option maxRecDepth 100000 in
set_option maxHeartbeats 4000000 in
theorem nd_X0_dotsOfPerson : nd yX0_dotsOfPerson 2 := ⟨by decide +kernel, by decide +kernel, by decide +kernel⟩
set_option maxRecDepth 100000 in
set_option maxHeartbeats 4000000 in
theorem k_X0_dotsOfPerson {X : gX} {own : String} {cc : ByteArray} {nL : Nat} {ret : Option FieldType} {Ts : List Cond} {fr lm : Nat} {Q : State → Prop} {ms : List va_W} {L : List (Option Value)} {st : List Value} {pc pc' idx : Nat} {ρ : Type} {T : Int32 → Option ρ} {res : ρ} (C : cx X own cc nL ret Ts fr lm) (a : Nat → Nat) (B : tS) (p0 : Int32) (p1 : Int32) (is : List Nat) (hC : is.map (fun i => ms[i]?) = [some (bdW (gcA X) a B)]) (hn : is.Nodup) (hG : GoodIn Ts (wsV own idx RX0 yX0_dotsOfPerson wsX0_dotsOfPerson)) (hR : 0 + 1 ≤ fr ∧ 8 + (3 + 11) + 0 ≤ lm) (hst : (st.map fun v => v.category).sum ≤ 8) (hLn : L.length = nL) (d : decode cc pc = .ok (.invokevirtual idx, 3)) (hp : pc + 3 = pc') (h : bd (f_X0_dotsOfPerson B p0 p1) T = some res) (kk : ∀ (r : Int32), T r = some res → G X Q (ms) L (.int r :: st) pc') : G X Q ms L (.int p1 :: .int p0 :: .ref (a 0) :: st) pc := by
  obtain ⟨r, h1, h⟩ := ob h
  exact G_callVI C (As := [.int p0, .int p1]) (c_X0_dotsOfPerson (gl X) (gD X) (gcA X) a B p0 p1 r h1) hG rfl nd_X0_dotsOfPerson hR (q0 := 0) rfl rfl hC hn rfl rfl hst hLn d hp (G_ms (rpl_same (mc := [bdW (gcA X) a B]) hC) (kk r h))
theorem hi_X0_dotsLeft_X0 : ∀ w ∈ wsX00, w ∈ wsX0_dotsLeft := fun w h => List.mem_cons_of_mem _ (List.mem_append_right _ h)
theorem lk_X0_dotsLeft_1 : Cond.fieldLink RX0 34 "NoteThemes$Board" "settings" "[I" ∈ wsX0_dotsLeft := List.mem_of_getElem? (i := 1) rfl
theorem lk_X0_dotsLeft_2 : Cond.fieldLink RX0 9 "NoteThemes$Board" "notes" "I" ∈ wsX0_dotsLeft := List.mem_of_getElem? (i := 2) rfl
theorem lk_X0_dotsLeft_3 : Cond.methodLink RX0 71 Lib.Math.max.name ∈ wsX0_dotsLeft := List.mem_of_getElem? (i := 3) rfl
theorem lk_X0_dotsLeft_4 : Cond.static Lib.Math.max.name ∈ wsX0_dotsLeft := List.mem_of_getElem? (i := 4) rfl
theorem lk_X0_dotsLeft_5 : Cond.initialized "java/lang/Math" ∈ wsX0_dotsLeft := List.mem_of_getElem? (i := 5) rfl
theorem lk_X0_dotsLeft_6 : Cond.code Lib.Math.max.name Lib.Math.max.code 2 (some .int) ∈ wsX0_dotsLeft := List.mem_of_getElem? (i := 6) rfl
def f_X0_dotsLeft_9b (B : tS) (p0 : Int32)  (k9 : Int32 → Int32 → Option (Int32)) (x2 : Int32) (x3 : Int32) : Option (Int32) := (if (B 0 0) ≤ x3 then some (if x2 < (0 : Int32) then (0 : Int32) else x2) else (bd (f_X0_dotsOfPerson B p0 x3) (fun r1 => k9 (x2 - r1) (x3 + 1))))
def f_X0_dotsLeft_9 (B : tS) (p0 : Int32)  : Nat → Int32 → Int32 → Option (Int32)
  | 0 => fun _ _ => none
  | n + 1 => f_X0_dotsLeft_9b B p0  (f_X0_dotsLeft_9 B p0  n)
set_option maxRecDepth 100000 in
set_option maxHeartbeats 4000000 in
theorem B_X0_dotsLeft_9b {X : gX} (C : cx X RX0 cX0_dotsLeft 4 (some .int) wsX0_dotsLeft 1 22) (a : Nat → Nat) (B : tS) (p0 : Int32) (r : Int32)  (k9 : Int32 → Int32 → Option (Int32)) (hk9 : ∀ (x2 : Int32) (x3 : Int32), k9 x2 x3 = some r → G X (QI X r [bdW (gcA X) a B]) [bdW (gcA X) a B] [some (.ref (a 0)), some (.int p0), some (.int x2), some (.int x3)] [] 9) (x2 : Int32) (x3 : Int32) (h : f_X0_dotsLeft_9b B p0  k9 x2 x3 = some r) : G X (QI X r [bdW (gcA X) a B]) [bdW (gcA X) a B] [some (.ref (a 0)), some (.int p0), some (.int x2), some (.int x3)] [] 9 := by
  unfold f_X0_dotsLeft_9b at h
  refine g_iload_n (pc' := 10) C dX0_dotsLeft_9 rfl rfl ?_
  refine g_aload_n (pc' := 11) C dX0_dotsLeft_10 rfl rfl ?_
  refine gg_X0_0 (pc' := 14) (i := 0) C rfl hi_X0_dotsLeft_X0 lk_X0_dotsLeft_2 dX0_dotsLeft_11 rfl ?_
  refine g_icmp_ge (pc' := 17) (tgt := 32) C dX0_dotsLeft_14 (by decide) rfl h (fun c h => ?_) (fun c h => ?_)
  · refine g_iload_n (pc' := 33) C dX0_dotsLeft_32 rfl rfl ?_
    refine g_iconst (pc' := 34) (v := 0) C dX0_dotsLeft_33 (by decide) rfl ?_
    refine g_mmax (pc' := 37) C lk_X0_dotsLeft_3 lk_X0_dotsLeft_4 lk_X0_dotsLeft_5 lk_X0_dotsLeft_6 ⟨Nat.le_of_ble_eq_true rfl, Nat.le_of_ble_eq_true rfl⟩ rfl dX0_dotsLeft_34 rfl ?_
    obtain rfl := Option.some.inj h
    exact g_iret C dX0_dotsLeft_37
  · refine g_iload_n (pc' := 18) C dX0_dotsLeft_17 rfl rfl ?_
    refine g_aload_n (pc' := 19) C dX0_dotsLeft_18 rfl rfl ?_
    refine g_iload_n (pc' := 20) C dX0_dotsLeft_19 rfl rfl ?_
    refine g_iload_n (pc' := 21) C dX0_dotsLeft_20 rfl rfl ?_
    refine k_X0_dotsOfPerson (pc' := 24) C a B p0 x3 [0] rfl (by decide) gX0_dotsLeft_X0_dotsOfPerson ⟨Nat.le_of_ble_eq_true rfl, Nat.le_of_ble_eq_true rfl⟩ (Nat.le_of_ble_eq_true rfl) rfl dX0_dotsLeft_21 rfl h (fun r1 h => ?_)
    refine g_isub (pc' := 25) C dX0_dotsLeft_24 rfl ?_
    refine g_istore_n (pc' := 26) C dX0_dotsLeft_25 (Nat.le_of_ble_eq_true rfl) rfl (L' := [some (.ref (a 0)), some (.int p0), some (.int (x2 - r1)), some (.int x3)]) rfl ?_
    refine g_iinc (pc' := 29) (v := (x3 + 1)) C dX0_dotsLeft_26 rfl rfl rfl (L' := [some (.ref (a 0)), some (.int p0), some (.int (x2 - r1)), some (.int (x3 + 1))]) rfl ?_
    refine g_goto (pc' := 9) C dX0_dotsLeft_29 (by decide) ?_
    exact G_loc (lle_s (lle_s (lle_s (lle_s lle_0)))) (hk9 (x2 - r1) (x3 + 1) h)
set_option maxRecDepth 100000 in
set_option maxHeartbeats 4000000 in
theorem L_X0_dotsLeft_9 {X : gX} (C : cx X RX0 cX0_dotsLeft 4 (some .int) wsX0_dotsLeft 1 22) (a : Nat → Nat) (B : tS) (p0 : Int32) (r : Int32)  : ∀ (n : Nat) (x2 : Int32) (x3 : Int32), f_X0_dotsLeft_9 B p0  n x2 x3 = some r → G X (QI X r [bdW (gcA X) a B]) [bdW (gcA X) a B] [some (.ref (a 0)), some (.int p0), some (.int x2), some (.int x3)] [] 9 := by
  intro n
  induction n with
  | zero => intro x2 x3 h; have h : (none : Option (Int32)) = some r := h; cases h
  | succ n ih => intro x2 x3 h; exact B_X0_dotsLeft_9b C a B p0 r  (f_X0_dotsLeft_9 B p0  n) ih x2 x3 h
def f_X0_dotsLeft (B : tS) (p0 : Int32) : Option (Int32) := f_X0_dotsLeft_9 B p0 1000 (B 7 (1 : Int32).toNatClampNeg) (0 : Int32)
set_option maxRecDepth 100000 in
set_option maxHeartbeats 4000000 in
theorem B_X0_dotsLeft {X : gX} (C : cx X RX0 cX0_dotsLeft 4 (some .int) wsX0_dotsLeft 1 22) (a : Nat → Nat) (B : tS) (p0 : Int32) (r : Int32) (h : f_X0_dotsLeft B p0 = some r) : G X (QI X r [bdW (gcA X) a B]) [bdW (gcA X) a B] [some (.ref (a 0)), some (.int p0), none, none] [] 0 := by
  unfold f_X0_dotsLeft at h
  refine g_aload_n (pc' := 1) C dX0_dotsLeft_0 rfl rfl ?_
  refine gg_X0_7 (pc' := 4) (i := 0) C rfl hi_X0_dotsLeft_X0 lk_X0_dotsLeft_1 dX0_dotsLeft_1 rfl ?_
  refine g_iconst (pc' := 5) (v := 1) C dX0_dotsLeft_4 (by decide) rfl ?_
  refine g_iald0 (pc' := 6) (i := 0) (j := 6) C rfl rfl dX0_dotsLeft_5 rfl (by unfold vp_in; decide) ?_
  refine g_istore_n (pc' := 7) C dX0_dotsLeft_6 (Nat.le_of_ble_eq_true rfl) rfl (L' := [some (.ref (a 0)), some (.int p0), some (.int (B 7 (1 : Int32).toNatClampNeg)), none]) rfl ?_
  refine g_iconst (pc' := 8) (v := 0) C dX0_dotsLeft_7 (by decide) rfl ?_
  refine g_istore_n (pc' := 9) C dX0_dotsLeft_8 (Nat.le_of_ble_eq_true rfl) rfl (L' := [some (.ref (a 0)), some (.int p0), some (.int (B 7 (1 : Int32).toNatClampNeg)), some (.int (0 : Int32))]) rfl ?_
  exact G_loc (lle_s (lle_s (lle_s (lle_s lle_0)))) (L_X0_dotsLeft_9 C a B p0 r 1000 (B 7 (1 : Int32).toNatClampNeg) (0 : Int32) h)
set_option maxRecDepth 100000 in
set_option maxHeartbeats 4000000 in
theorem c_X0_dotsLeft (l : Launch) (D : va_G) (cA : Nat → ClassId) (a : Nat → Nat) (B : tS) (p0 : Int32) (r : Int32) (h : f_X0_dotsLeft B p0 = some r) : MI l D cA yX0_dotsLeft wsX0_dotsLeft 1 22 [.ref (a 0), .int p0] [bdW cA a B] r [bdW cA a B] := MI_of (cc := cX0_dotsLeft) (maxL := 4) (rt := some .int) (by decide +kernel) rfl (List.forall_mem_cons.mpr ⟨rfl, List.forall_mem_cons.mpr ⟨rfl, List.forall_mem_nil _⟩⟩) (Nat.le_of_ble_eq_true rfl) (fun X e1 e2 e3 C => by subst e1; subst e2; subst e3; exact B_X0_dotsLeft C a B p0 r h)
set_option maxRecDepth 100000 in
set_option maxHeartbeats 4000000 in
theorem nd_X0_dotsLeft : nd yX0_dotsLeft 1 := ⟨by decide +kernel, by decide +kernel, by decide +kernel⟩
set_option maxRecDepth 100000 in
set_option maxHeartbeats 4000000 in
theorem k_X0_dotsLeft {X : gX} {own : String} {cc : ByteArray} {nL : Nat} {ret : Option FieldType} {Ts : List Cond} {fr lm : Nat} {Q : State → Prop} {ms : List va_W} {L : List (Option Value)} {st : List Value} {pc pc' idx : Nat} {ρ : Type} {T : Int32 → Option ρ} {res : ρ} (C : cx X own cc nL ret Ts fr lm) (a : Nat → Nat) (B : tS) (p0 : Int32) (is : List Nat) (hC : is.map (fun i => ms[i]?) = [some (bdW (gcA X) a B)]) (hn : is.Nodup) (hG : GoodIn Ts (wsV own idx RX0 yX0_dotsLeft wsX0_dotsLeft)) (hR : 1 + 1 ≤ fr ∧ 8 + (4 + 11) + 22 ≤ lm) (hst : (st.map fun v => v.category).sum ≤ 8) (hLn : L.length = nL) (d : decode cc pc = .ok (.invokevirtual idx, 3)) (hp : pc + 3 = pc') (h : bd (f_X0_dotsLeft B p0) T = some res) (kk : ∀ (r : Int32), T r = some res → G X Q (ms) L (.int r :: st) pc') : G X Q ms L (.int p0 :: .ref (a 0) :: st) pc := by
  obtain ⟨r, h1, h⟩ := ob h
  exact G_callVI C (As := [.int p0]) (c_X0_dotsLeft (gl X) (gD X) (gcA X) a B p0 r h1) hG rfl nd_X0_dotsLeft hR (q0 := 0) rfl rfl hC hn rfl rfl hst hLn d hp (G_ms (rpl_same (mc := [bdW (gcA X) a B]) hC) (kk r h))
theorem hi_X0_hasMostDots_X0 : ∀ w ∈ wsX00, w ∈ wsX0_hasMostDots := fun w h => List.mem_cons_of_mem _ (List.mem_append_right _ h)
theorem lk_X0_hasMostDots_1 : Cond.fieldLink RX0 34 "NoteThemes$Board" "settings" "[I" ∈ wsX0_hasMostDots := List.mem_of_getElem? (i := 1) rfl
def f_X0_hasMostDots (B : tS) (p0 : Int32) (p1 : Int32) : Option (Int32) := (bd (f_X0_dotsOfPerson B p0 p1) (fun r1 => (if r1 < (B 7 (2 : Int32).toNatClampNeg) then some (0 : Int32) else some (1 : Int32))))
set_option maxRecDepth 100000 in
set_option maxHeartbeats 4000000 in
theorem B_X0_hasMostDots {X : gX} (C : cx X RX0 cX0_hasMostDots 3 (some .boolean) wsX0_hasMostDots 1 22) (a : Nat → Nat) (B : tS) (p0 : Int32) (p1 : Int32) (r : Int32) (h : f_X0_hasMostDots B p0 p1 = some r) : G X (QI X r [bdW (gcA X) a B]) [bdW (gcA X) a B] [some (.ref (a 0)), some (.int p0), some (.int p1)] [] 0 := by
  unfold f_X0_hasMostDots at h
  refine g_aload_n (pc' := 1) C dX0_hasMostDots_0 rfl rfl ?_
  refine g_iload_n (pc' := 2) C dX0_hasMostDots_1 rfl rfl ?_
  refine g_iload_n (pc' := 3) C dX0_hasMostDots_2 rfl rfl ?_
  refine k_X0_dotsOfPerson (pc' := 6) C a B p0 p1 [0] rfl (by decide) gX0_hasMostDots_X0_dotsOfPerson ⟨Nat.le_of_ble_eq_true rfl, Nat.le_of_ble_eq_true rfl⟩ (Nat.le_of_ble_eq_true rfl) rfl dX0_hasMostDots_3 rfl h (fun r1 h => ?_)
  refine g_aload_n (pc' := 7) C dX0_hasMostDots_6 rfl rfl ?_
  refine gg_X0_7 (pc' := 10) (i := 0) C rfl hi_X0_hasMostDots_X0 lk_X0_hasMostDots_1 dX0_hasMostDots_7 rfl ?_
  refine g_iconst (pc' := 11) (v := 2) C dX0_hasMostDots_10 (by decide) rfl ?_
  refine g_iald0 (pc' := 12) (i := 0) (j := 6) C rfl rfl dX0_hasMostDots_11 rfl (by unfold vp_in; decide) ?_
  refine g_icmp_lt (pc' := 15) (tgt := 19) C dX0_hasMostDots_12 (by decide) rfl h (fun c h => ?_) (fun c h => ?_)
  · refine g_iconst (pc' := 20) (v := 0) C dX0_hasMostDots_19 (by decide) rfl ?_
    obtain rfl := Option.some.inj h
    exact g_zret0 C rfl dX0_hasMostDots_20
  · refine g_iconst (pc' := 16) (v := 1) C dX0_hasMostDots_15 (by decide) rfl ?_
    refine g_goto (pc' := 20) C dX0_hasMostDots_16 (by decide) ?_
    obtain rfl := Option.some.inj h
    exact g_zret0 C rfl dX0_hasMostDots_20
set_option maxRecDepth 100000 in
set_option maxHeartbeats 4000000 in
theorem c_X0_hasMostDots (l : Launch) (D : va_G) (cA : Nat → ClassId) (a : Nat → Nat) (B : tS) (p0 : Int32) (p1 : Int32) (r : Int32) (h : f_X0_hasMostDots B p0 p1 = some r) : MI l D cA yX0_hasMostDots wsX0_hasMostDots 1 22 [.ref (a 0), .int p0, .int p1] [bdW cA a B] r [bdW cA a B] := MI_of (cc := cX0_hasMostDots) (maxL := 3) (rt := some .boolean) (by decide +kernel) rfl (List.forall_mem_cons.mpr ⟨rfl, List.forall_mem_cons.mpr ⟨rfl, List.forall_mem_cons.mpr ⟨rfl, List.forall_mem_nil _⟩⟩⟩) (Nat.le_of_ble_eq_true rfl) (fun X e1 e2 e3 C => by subst e1; subst e2; subst e3; exact B_X0_hasMostDots C a B p0 p1 r h)
set_option maxRecDepth 100000 in
set_option maxHeartbeats 4000000 in
theorem nd_X0_hasMostDots : nd yX0_hasMostDots 2 := ⟨by decide +kernel, by decide +kernel, by decide +kernel⟩
set_option maxRecDepth 100000 in
set_option maxHeartbeats 4000000 in
theorem k_X0_hasMostDots {X : gX} {own : String} {cc : ByteArray} {nL : Nat} {ret : Option FieldType} {Ts : List Cond} {fr lm : Nat} {Q : State → Prop} {ms : List va_W} {L : List (Option Value)} {st : List Value} {pc pc' idx : Nat} {ρ : Type} {T : Int32 → Option ρ} {res : ρ} (C : cx X own cc nL ret Ts fr lm) (a : Nat → Nat) (B : tS) (p0 : Int32) (p1 : Int32) (is : List Nat) (hC : is.map (fun i => ms[i]?) = [some (bdW (gcA X) a B)]) (hn : is.Nodup) (hG : GoodIn Ts (wsV own idx RX0 yX0_hasMostDots wsX0_hasMostDots)) (hR : 1 + 1 ≤ fr ∧ 8 + (3 + 11) + 22 ≤ lm) (hst : (st.map fun v => v.category).sum ≤ 8) (hLn : L.length = nL) (d : decode cc pc = .ok (.invokevirtual idx, 3)) (hp : pc + 3 = pc') (h : bd (f_X0_hasMostDots B p0 p1) T = some res) (kk : ∀ (r : Int32), T r = some res → G X Q (ms) L (.int r :: st) pc') : G X Q ms L (.int p1 :: .int p0 :: .ref (a 0) :: st) pc := by
  obtain ⟨r, h1, h⟩ := ob h
  exact G_callVI C (As := [.int p0, .int p1]) (c_X0_hasMostDots (gl X) (gD X) (gcA X) a B p0 p1 r h1) hG rfl nd_X0_hasMostDots hR (q0 := 0) rfl rfl hC hn rfl rfl hst hLn d hp (G_ms (rpl_same (mc := [bdW (gcA X) a B]) hC) (kk r h))
theorem hi_X0_addDots_X0 : ∀ w ∈ wsX00, w ∈ wsX0_addDots := fun w h => List.mem_cons_of_mem _ (List.mem_append_right _ h)
theorem lk_X0_addDots_1 : Cond.fieldLink RX0 25 "NoteThemes$Board" "dotsAt" "[I" ∈ wsX0_addDots := List.mem_of_getElem? (i := 1) rfl
def f_X0_addDots (B : tS) (p0 : Int32) (p1 : Int32) (p2 : Int32) : Option (tS) := (if ((p1 * (6 : Int32)) + p0) < 0 ∨ 120 ≤ ((p1 * (6 : Int32)) + p0).toNatClampNeg then none else (if ((p1 * (6 : Int32)) + p0) < 0 ∨ 120 ≤ ((p1 * (6 : Int32)) + p0).toNatClampNeg then none else some (va_up B 4 (upd (B 4) ((p1 * (6 : Int32)) + p0).toNatClampNeg ((B 4 ((p1 * (6 : Int32)) + p0).toNatClampNeg) + p2)))))
set_option maxRecDepth 100000 in
set_option maxHeartbeats 4000000 in
theorem B_X0_addDots {X : gX} (C : cx X RX0 cX0_addDots 4 none wsX0_addDots 0 0) (a : Nat → Nat) (B : tS) (p0 : Int32) (p1 : Int32) (p2 : Int32) (Bz : tS) (h : f_X0_addDots B p0 p1 p2 = some Bz) : G X (QV X [bdW (gcA X) a Bz]) [bdW (gcA X) a B] [some (.ref (a 0)), some (.int p0), some (.int p1), some (.int p2)] [] 0 := by
  unfold f_X0_addDots at h
  refine g_aload_n (pc' := 1) C dX0_addDots_0 rfl rfl ?_
  refine gg_X0_4 (pc' := 4) (i := 0) C rfl hi_X0_addDots_X0 lk_X0_addDots_1 dX0_addDots_1 rfl ?_
  refine g_iload_n (pc' := 5) C dX0_addDots_4 rfl rfl ?_
  refine g_bipush (pc' := 7) (v := 6) C dX0_addDots_5 (by decide) rfl ?_
  refine g_imul (pc' := 8) C dX0_addDots_7 rfl ?_
  refine g_iload_n (pc' := 9) C dX0_addDots_8 rfl rfl ?_
  refine g_iadd (pc' := 10) C dX0_addDots_9 rfl ?_
  refine g_dup2 (pc' := 11) C dX0_addDots_10 rfl rfl rfl ?_
  refine g_iald (pc' := 12) (i := 0) (j := 4) C rfl rfl dX0_addDots_11 rfl h (fun h => ?_)
  refine g_iload_n (pc' := 13) C dX0_addDots_12 rfl rfl ?_
  refine g_iadd (pc' := 14) C dX0_addDots_13 rfl ?_
  refine g_iast (pc' := 15) (i := 0) (j := 4) (w' := bdW (gcA X) a (va_up B 4 (upd (B 4) ((p1 * (6 : Int32)) + p0).toNatClampNeg ((B 4 ((p1 * (6 : Int32)) + p0).toNatClampNeg) + p2)))) C rfl rfl rfl dX0_addDots_14 rfl h (fun h => ?_)
  obtain rfl := Option.some.inj h
  exact g_vret C dX0_addDots_15
set_option maxRecDepth 100000 in
set_option maxHeartbeats 4000000 in
theorem c_X0_addDots (l : Launch) (D : va_G) (cA : Nat → ClassId) (a : Nat → Nat) (B : tS) (p0 : Int32) (p1 : Int32) (p2 : Int32) (Bz : tS) (h : f_X0_addDots B p0 p1 p2 = some Bz) : MV l D cA yX0_addDots wsX0_addDots 0 0 [.ref (a 0), .int p0, .int p1, .int p2] [bdW cA a B]  [bdW cA a Bz] := MV_of (cc := cX0_addDots) (maxL := 4) (by decide +kernel) rfl (List.forall_mem_cons.mpr ⟨rfl, List.forall_mem_cons.mpr ⟨rfl, List.forall_mem_cons.mpr ⟨rfl, List.forall_mem_cons.mpr ⟨rfl, List.forall_mem_nil _⟩⟩⟩⟩) (Nat.le_of_ble_eq_true rfl) (fun X e1 e2 e3 C => by subst e1; subst e2; subst e3; exact B_X0_addDots C a B p0 p1 p2 Bz h)
set_option maxRecDepth 100000 in
set_option maxHeartbeats 4000000 in
theorem nd_X0_addDots : nd yX0_addDots 3 := ⟨by decide +kernel, by decide +kernel, by decide +kernel⟩
set_option maxRecDepth 100000 in
set_option maxHeartbeats 4000000 in
theorem k_X0_addDots {X : gX} {own : String} {cc : ByteArray} {nL : Nat} {ret : Option FieldType} {Ts : List Cond} {fr lm : Nat} {Q : State → Prop} {ms : List va_W} {L : List (Option Value)} {st : List Value} {pc pc' idx : Nat} {ρ : Type} {T : tS → Option ρ} {res : ρ} (C : cx X own cc nL ret Ts fr lm) (a : Nat → Nat) (B : tS) (p0 : Int32) (p1 : Int32) (p2 : Int32) (is : List Nat) (hC : is.map (fun i => ms[i]?) = [some (bdW (gcA X) a B)]) (hn : is.Nodup) (hG : GoodIn Ts (wsV own idx RX0 yX0_addDots wsX0_addDots)) (hR : 0 + 1 ≤ fr ∧ 8 + (4 + 11) + 0 ≤ lm) (hst : (st.map fun v => v.category).sum ≤ 8) (hLn : L.length = nL) (d : decode cc pc = .ok (.invokevirtual idx, 3)) (hp : pc + 3 = pc') (h : bd (f_X0_addDots B p0 p1 p2) T = some res) (kk : ∀ (Bz : tS), T Bz = some res → G X Q (rpl ms is [bdW (gcA X) a Bz]) L (st) pc') : G X Q ms L (.int p2 :: .int p1 :: .int p0 :: .ref (a 0) :: st) pc := by
  obtain ⟨Bz, h1, h⟩ := ob h
  exact G_callVV C (As := [.int p0, .int p1, .int p2]) (c_X0_addDots (gl X) (gD X) (gcA X) a B p0 p1 p2 Bz h1) hG rfl nd_X0_addDots hR (q0 := 0) rfl rfl hC hn rfl rfl hst hLn d hp (kk Bz h)
theorem hi_X0_hasNote_X0 : ∀ w ∈ wsX00, w ∈ wsX0_hasNote := fun w h => List.mem_cons_of_mem _ (List.mem_append_right _ h)
theorem lk_X0_hasNote_1 : Cond.fieldLink RX0 9 "NoteThemes$Board" "notes" "I" ∈ wsX0_hasNote := List.mem_of_getElem? (i := 1) rfl
def f_X0_hasNote (B : tS) (p0 : Int32) : Option (Int32) := (if p0 < 0 then some (0 : Int32) else (if (B 0 0) ≤ p0 then some (0 : Int32) else some (1 : Int32)))
set_option maxRecDepth 100000 in
set_option maxHeartbeats 4000000 in
theorem B_X0_hasNote {X : gX} (C : cx X RX0 cX0_hasNote 2 (some .boolean) wsX0_hasNote 0 0) (a : Nat → Nat) (B : tS) (p0 : Int32) (r : Int32) (h : f_X0_hasNote B p0 = some r) : G X (QI X r [bdW (gcA X) a B]) [bdW (gcA X) a B] [some (.ref (a 0)), some (.int p0)] [] 0 := by
  unfold f_X0_hasNote at h
  refine g_iload_n (pc' := 1) C dX0_hasNote_0 rfl rfl ?_
  refine g_if_lt (pc' := 4) (tgt := 16) C dX0_hasNote_1 (by decide) rfl h (fun c h => ?_) (fun c h => ?_)
  · refine g_iconst (pc' := 17) (v := 0) C dX0_hasNote_16 (by decide) rfl ?_
    obtain rfl := Option.some.inj h
    exact g_zret0 C rfl dX0_hasNote_17
  · refine g_iload_n (pc' := 5) C dX0_hasNote_4 rfl rfl ?_
    refine g_aload_n (pc' := 6) C dX0_hasNote_5 rfl rfl ?_
    refine gg_X0_0 (pc' := 9) (i := 0) C rfl hi_X0_hasNote_X0 lk_X0_hasNote_1 dX0_hasNote_6 rfl ?_
    refine g_icmp_ge (pc' := 12) (tgt := 16) C dX0_hasNote_9 (by decide) rfl h (fun c h => ?_) (fun c h => ?_)
    · refine g_iconst (pc' := 17) (v := 0) C dX0_hasNote_16 (by decide) rfl ?_
      obtain rfl := Option.some.inj h
      exact g_zret0 C rfl dX0_hasNote_17
    · refine g_iconst (pc' := 13) (v := 1) C dX0_hasNote_12 (by decide) rfl ?_
      refine g_goto (pc' := 17) C dX0_hasNote_13 (by decide) ?_
      obtain rfl := Option.some.inj h
      exact g_zret0 C rfl dX0_hasNote_17
set_option maxRecDepth 100000 in
set_option maxHeartbeats 4000000 in
theorem c_X0_hasNote (l : Launch) (D : va_G) (cA : Nat → ClassId) (a : Nat → Nat) (B : tS) (p0 : Int32) (r : Int32) (h : f_X0_hasNote B p0 = some r) : MI l D cA yX0_hasNote wsX0_hasNote 0 0 [.ref (a 0), .int p0] [bdW cA a B] r [bdW cA a B] := MI_of (cc := cX0_hasNote) (maxL := 2) (rt := some .boolean) (by decide +kernel) rfl (List.forall_mem_cons.mpr ⟨rfl, List.forall_mem_cons.mpr ⟨rfl, List.forall_mem_nil _⟩⟩) (Nat.le_of_ble_eq_true rfl) (fun X e1 e2 e3 C => by subst e1; subst e2; subst e3; exact B_X0_hasNote C a B p0 r h)
set_option maxRecDepth 100000 in
set_option maxHeartbeats 4000000 in
theorem nd_X0_hasNote : nd yX0_hasNote 1 := ⟨by decide +kernel, by decide +kernel, by decide +kernel⟩
set_option maxRecDepth 100000 in
set_option maxHeartbeats 4000000 in
theorem k_X0_hasNote {X : gX} {own : String} {cc : ByteArray} {nL : Nat} {ret : Option FieldType} {Ts : List Cond} {fr lm : Nat} {Q : State → Prop} {ms : List va_W} {L : List (Option Value)} {st : List Value} {pc pc' idx : Nat} {ρ : Type} {T : Int32 → Option ρ} {res : ρ} (C : cx X own cc nL ret Ts fr lm) (a : Nat → Nat) (B : tS) (p0 : Int32) (is : List Nat) (hC : is.map (fun i => ms[i]?) = [some (bdW (gcA X) a B)]) (hn : is.Nodup) (hG : GoodIn Ts (wsV own idx RX0 yX0_hasNote wsX0_hasNote)) (hR : 0 + 1 ≤ fr ∧ 8 + (2 + 11) + 0 ≤ lm) (hst : (st.map fun v => v.category).sum ≤ 8) (hLn : L.length = nL) (d : decode cc pc = .ok (.invokevirtual idx, 3)) (hp : pc + 3 = pc') (h : bd (f_X0_hasNote B p0) T = some res) (kk : ∀ (r : Int32), T r = some res → G X Q (ms) L (.int r :: st) pc') : G X Q ms L (.int p0 :: .ref (a 0) :: st) pc := by
  obtain ⟨r, h1, h⟩ := ob h
  exact G_callVI C (As := [.int p0]) (c_X0_hasNote (gl X) (gD X) (gcA X) a B p0 r h1) hG rfl nd_X0_hasNote hR (q0 := 0) rfl rfl hC hn rfl rfl hst hLn d hp (G_ms (rpl_same (mc := [bdW (gcA X) a B]) hC) (kk r h))
def f_X0_dotsOn_4b (B : tS) (p0 : Int32)  (k4 : Int32 → Int32 → Option (Int32)) (x2 : Int32) (x3 : Int32) : Option (Int32) := (if (6 : Int32) ≤ x3 then some x2 else (bd (f_X0_dotsOfPerson B x3 p0) (fun r1 => k4 (x2 + r1) (x3 + 1))))
def f_X0_dotsOn_4 (B : tS) (p0 : Int32)  : Nat → Int32 → Int32 → Option (Int32)
  | 0 => fun _ _ => none
  | n + 1 => f_X0_dotsOn_4b B p0  (f_X0_dotsOn_4 B p0  n)
set_option maxRecDepth 100000 in
set_option maxHeartbeats 4000000 in
theorem B_X0_dotsOn_4b {X : gX} (C : cx X RX0 cX0_dotsOn 4 (some .int) wsX0_dotsOn 1 22) (a : Nat → Nat) (B : tS) (p0 : Int32) (r : Int32)  (k4 : Int32 → Int32 → Option (Int32)) (hk4 : ∀ (x2 : Int32) (x3 : Int32), k4 x2 x3 = some r → G X (QI X r [bdW (gcA X) a B]) [bdW (gcA X) a B] [some (.ref (a 0)), some (.int p0), some (.int x2), some (.int x3)] [] 4) (x2 : Int32) (x3 : Int32) (h : f_X0_dotsOn_4b B p0  k4 x2 x3 = some r) : G X (QI X r [bdW (gcA X) a B]) [bdW (gcA X) a B] [some (.ref (a 0)), some (.int p0), some (.int x2), some (.int x3)] [] 4 := by
  unfold f_X0_dotsOn_4b at h
  refine g_iload_n (pc' := 5) C dX0_dotsOn_4 rfl rfl ?_
  refine g_bipush (pc' := 7) (v := 6) C dX0_dotsOn_5 (by decide) rfl ?_
  refine g_icmp_ge (pc' := 10) (tgt := 25) C dX0_dotsOn_7 (by decide) rfl h (fun c h => ?_) (fun c h => ?_)
  · refine g_iload_n (pc' := 26) C dX0_dotsOn_25 rfl rfl ?_
    obtain rfl := Option.some.inj h
    exact g_iret C dX0_dotsOn_26
  · refine g_iload_n (pc' := 11) C dX0_dotsOn_10 rfl rfl ?_
    refine g_aload_n (pc' := 12) C dX0_dotsOn_11 rfl rfl ?_
    refine g_iload_n (pc' := 13) C dX0_dotsOn_12 rfl rfl ?_
    refine g_iload_n (pc' := 14) C dX0_dotsOn_13 rfl rfl ?_
    refine k_X0_dotsOfPerson (pc' := 17) C a B x3 p0 [0] rfl (by decide) gX0_dotsOn_X0_dotsOfPerson ⟨Nat.le_of_ble_eq_true rfl, Nat.le_of_ble_eq_true rfl⟩ (Nat.le_of_ble_eq_true rfl) rfl dX0_dotsOn_14 rfl h (fun r1 h => ?_)
    refine g_iadd (pc' := 18) C dX0_dotsOn_17 rfl ?_
    refine g_istore_n (pc' := 19) C dX0_dotsOn_18 (Nat.le_of_ble_eq_true rfl) rfl (L' := [some (.ref (a 0)), some (.int p0), some (.int (x2 + r1)), some (.int x3)]) rfl ?_
    refine g_iinc (pc' := 22) (v := (x3 + 1)) C dX0_dotsOn_19 rfl rfl rfl (L' := [some (.ref (a 0)), some (.int p0), some (.int (x2 + r1)), some (.int (x3 + 1))]) rfl ?_
    refine g_goto (pc' := 4) C dX0_dotsOn_22 (by decide) ?_
    exact G_loc (lle_s (lle_s (lle_s (lle_s lle_0)))) (hk4 (x2 + r1) (x3 + 1) h)
set_option maxRecDepth 100000 in
set_option maxHeartbeats 4000000 in
theorem L_X0_dotsOn_4 {X : gX} (C : cx X RX0 cX0_dotsOn 4 (some .int) wsX0_dotsOn 1 22) (a : Nat → Nat) (B : tS) (p0 : Int32) (r : Int32)  : ∀ (n : Nat) (x2 : Int32) (x3 : Int32), f_X0_dotsOn_4 B p0  n x2 x3 = some r → G X (QI X r [bdW (gcA X) a B]) [bdW (gcA X) a B] [some (.ref (a 0)), some (.int p0), some (.int x2), some (.int x3)] [] 4 := by
  intro n
  induction n with
  | zero => intro x2 x3 h; have h : (none : Option (Int32)) = some r := h; cases h
  | succ n ih => intro x2 x3 h; exact B_X0_dotsOn_4b C a B p0 r  (f_X0_dotsOn_4 B p0  n) ih x2 x3 h
def f_X0_dotsOn (B : tS) (p0 : Int32) : Option (Int32) := f_X0_dotsOn_4 B p0 1000 (0 : Int32) (0 : Int32)
set_option maxRecDepth 100000 in
set_option maxHeartbeats 4000000 in
theorem B_X0_dotsOn {X : gX} (C : cx X RX0 cX0_dotsOn 4 (some .int) wsX0_dotsOn 1 22) (a : Nat → Nat) (B : tS) (p0 : Int32) (r : Int32) (h : f_X0_dotsOn B p0 = some r) : G X (QI X r [bdW (gcA X) a B]) [bdW (gcA X) a B] [some (.ref (a 0)), some (.int p0), none, none] [] 0 := by
  unfold f_X0_dotsOn at h
  refine g_iconst (pc' := 1) (v := 0) C dX0_dotsOn_0 (by decide) rfl ?_
  refine g_istore_n (pc' := 2) C dX0_dotsOn_1 (Nat.le_of_ble_eq_true rfl) rfl (L' := [some (.ref (a 0)), some (.int p0), some (.int (0 : Int32)), none]) rfl ?_
  refine g_iconst (pc' := 3) (v := 0) C dX0_dotsOn_2 (by decide) rfl ?_
  refine g_istore_n (pc' := 4) C dX0_dotsOn_3 (Nat.le_of_ble_eq_true rfl) rfl (L' := [some (.ref (a 0)), some (.int p0), some (.int (0 : Int32)), some (.int (0 : Int32))]) rfl ?_
  exact G_loc (lle_s (lle_s (lle_s (lle_s lle_0)))) (L_X0_dotsOn_4 C a B p0 r 1000 (0 : Int32) (0 : Int32) h)
set_option maxRecDepth 100000 in
set_option maxHeartbeats 4000000 in
theorem c_X0_dotsOn (l : Launch) (D : va_G) (cA : Nat → ClassId) (a : Nat → Nat) (B : tS) (p0 : Int32) (r : Int32) (h : f_X0_dotsOn B p0 = some r) : MI l D cA yX0_dotsOn wsX0_dotsOn 1 22 [.ref (a 0), .int p0] [bdW cA a B] r [bdW cA a B] := MI_of (cc := cX0_dotsOn) (maxL := 4) (rt := some .int) (by decide +kernel) rfl (List.forall_mem_cons.mpr ⟨rfl, List.forall_mem_cons.mpr ⟨rfl, List.forall_mem_nil _⟩⟩) (Nat.le_of_ble_eq_true rfl) (fun X e1 e2 e3 C => by subst e1; subst e2; subst e3; exact B_X0_dotsOn C a B p0 r h)
set_option maxRecDepth 100000 in
set_option maxHeartbeats 4000000 in
theorem nd_X0_dotsOn : nd yX0_dotsOn 1 := ⟨by decide +kernel, by decide +kernel, by decide +kernel⟩
set_option maxRecDepth 100000 in
set_option maxHeartbeats 4000000 in
theorem k_X0_dotsOn {X : gX} {own : String} {cc : ByteArray} {nL : Nat} {ret : Option FieldType} {Ts : List Cond} {fr lm : Nat} {Q : State → Prop} {ms : List va_W} {L : List (Option Value)} {st : List Value} {pc pc' idx : Nat} {ρ : Type} {T : Int32 → Option ρ} {res : ρ} (C : cx X own cc nL ret Ts fr lm) (a : Nat → Nat) (B : tS) (p0 : Int32) (is : List Nat) (hC : is.map (fun i => ms[i]?) = [some (bdW (gcA X) a B)]) (hn : is.Nodup) (hG : GoodIn Ts (wsV own idx RX0 yX0_dotsOn wsX0_dotsOn)) (hR : 1 + 1 ≤ fr ∧ 8 + (4 + 11) + 22 ≤ lm) (hst : (st.map fun v => v.category).sum ≤ 8) (hLn : L.length = nL) (d : decode cc pc = .ok (.invokevirtual idx, 3)) (hp : pc + 3 = pc') (h : bd (f_X0_dotsOn B p0) T = some res) (kk : ∀ (r : Int32), T r = some res → G X Q (ms) L (.int r :: st) pc') : G X Q ms L (.int p0 :: .ref (a 0) :: st) pc := by
  obtain ⟨r, h1, h⟩ := ob h
  exact G_callVI C (As := [.int p0]) (c_X0_dotsOn (gl X) (gD X) (gcA X) a B p0 r h1) hG rfl nd_X0_dotsOn hR (q0 := 0) rfl rfl hC hn rfl rfl hst hLn d hp (G_ms (rpl_same (mc := [bdW (gcA X) a B]) hC) (kk r h))
theorem hi_X0_copyNote_X0 : ∀ w ∈ wsX00, w ∈ wsX0_copyNote := fun w h => List.mem_cons_of_mem _ (List.mem_append_right _ h)
theorem lk_X0_copyNote_1 : Cond.fieldLink RX0 15 "NoteThemes$Board" "columnOf" "[I" ∈ wsX0_copyNote := List.mem_of_getElem? (i := 1) rfl
theorem lk_X0_copyNote_2 : Cond.fieldLink RX0 19 "NoteThemes$Board" "rowOf" "[I" ∈ wsX0_copyNote := List.mem_of_getElem? (i := 2) rfl
theorem lk_X0_copyNote_3 : Cond.fieldLink RX0 22 "NoteThemes$Board" "themeOf" "[I" ∈ wsX0_copyNote := List.mem_of_getElem? (i := 3) rfl
theorem lk_X0_copyNote_4 : Cond.fieldLink RX0 25 "NoteThemes$Board" "dotsAt" "[I" ∈ wsX0_copyNote := List.mem_of_getElem? (i := 4) rfl
def f_X0_copyNote_31b (p0 : Int32) (p1 : Int32)  (k31 : Int32 → tS → Option (tS)) (x3 : Int32) (B : tS) : Option (tS) := (if (6 : Int32) ≤ x3 then some B else (if ((p0 * (6 : Int32)) + x3) < 0 ∨ 120 ≤ ((p0 * (6 : Int32)) + x3).toNatClampNeg then none else (if ((p1 * (6 : Int32)) + x3) < 0 ∨ 120 ≤ ((p1 * (6 : Int32)) + x3).toNatClampNeg then none else k31 (x3 + 1) (va_up B 4 (upd (B 4) ((p1 * (6 : Int32)) + x3).toNatClampNeg (B 4 ((p0 * (6 : Int32)) + x3).toNatClampNeg))))))
def f_X0_copyNote_31 (p0 : Int32) (p1 : Int32)  : Nat → Int32 → tS → Option (tS)
  | 0 => fun _ _ => none
  | n + 1 => f_X0_copyNote_31b p0 p1  (f_X0_copyNote_31 p0 p1  n)
set_option maxRecDepth 100000 in
set_option maxHeartbeats 4000000 in
theorem B_X0_copyNote_31b {X : gX} (C : cx X RX0 cX0_copyNote 4 none wsX0_copyNote 1 23) (a : Nat → Nat) (p0 : Int32) (p1 : Int32) (Bz : tS)  (k31 : Int32 → tS → Option (tS)) (hk31 : ∀ (x3 : Int32) (B : tS), k31 x3 B = some Bz → G X (QV X [bdW (gcA X) a Bz]) [bdW (gcA X) a B] [some (.ref (a 0)), some (.int p0), some (.int p1), some (.int x3)] [] 31) (x3 : Int32) (B : tS) (h : f_X0_copyNote_31b p0 p1  k31 x3 B = some Bz) : G X (QV X [bdW (gcA X) a Bz]) [bdW (gcA X) a B] [some (.ref (a 0)), some (.int p0), some (.int p1), some (.int x3)] [] 31 := by
  unfold f_X0_copyNote_31b at h
  refine g_iload_n (pc' := 32) C dX0_copyNote_31 rfl rfl ?_
  refine g_bipush (pc' := 34) (v := 6) C dX0_copyNote_32 (by decide) rfl ?_
  refine g_icmp_ge (pc' := 37) (tgt := 65) C dX0_copyNote_34 (by decide) rfl h (fun c h => ?_) (fun c h => ?_)
  · obtain rfl := Option.some.inj h
    exact g_vret C dX0_copyNote_65
  · refine g_aload_n (pc' := 38) C dX0_copyNote_37 rfl rfl ?_
    refine gg_X0_4 (pc' := 41) (i := 0) C rfl hi_X0_copyNote_X0 lk_X0_copyNote_4 dX0_copyNote_38 rfl ?_
    refine g_iload_n (pc' := 42) C dX0_copyNote_41 rfl rfl ?_
    refine g_bipush (pc' := 44) (v := 6) C dX0_copyNote_42 (by decide) rfl ?_
    refine g_imul (pc' := 45) C dX0_copyNote_44 rfl ?_
    refine g_iload_n (pc' := 46) C dX0_copyNote_45 rfl rfl ?_
    refine g_iadd (pc' := 47) C dX0_copyNote_46 rfl ?_
    refine g_aload_n (pc' := 48) C dX0_copyNote_47 rfl rfl ?_
    refine gg_X0_4 (pc' := 51) (i := 0) C rfl hi_X0_copyNote_X0 lk_X0_copyNote_4 dX0_copyNote_48 rfl ?_
    refine g_iload_n (pc' := 52) C dX0_copyNote_51 rfl rfl ?_
    refine g_bipush (pc' := 54) (v := 6) C dX0_copyNote_52 (by decide) rfl ?_
    refine g_imul (pc' := 55) C dX0_copyNote_54 rfl ?_
    refine g_iload_n (pc' := 56) C dX0_copyNote_55 rfl rfl ?_
    refine g_iadd (pc' := 57) C dX0_copyNote_56 rfl ?_
    refine g_iald (pc' := 58) (i := 0) (j := 4) C rfl rfl dX0_copyNote_57 rfl h (fun h => ?_)
    refine g_iast (pc' := 59) (i := 0) (j := 4) (w' := bdW (gcA X) a (va_up B 4 (upd (B 4) ((p1 * (6 : Int32)) + x3).toNatClampNeg (B 4 ((p0 * (6 : Int32)) + x3).toNatClampNeg)))) C rfl rfl rfl dX0_copyNote_58 rfl h (fun h => ?_)
    refine g_iinc (pc' := 62) (v := (x3 + 1)) C dX0_copyNote_59 rfl rfl rfl (L' := [some (.ref (a 0)), some (.int p0), some (.int p1), some (.int (x3 + 1))]) rfl ?_
    refine g_goto (pc' := 31) C dX0_copyNote_62 (by decide) ?_
    exact G_loc (lle_s (lle_s (lle_s (lle_s lle_0)))) (hk31 (x3 + 1) (va_up B 4 (upd (B 4) ((p1 * (6 : Int32)) + x3).toNatClampNeg (B 4 ((p0 * (6 : Int32)) + x3).toNatClampNeg))) h)
set_option maxRecDepth 100000 in
set_option maxHeartbeats 4000000 in
theorem L_X0_copyNote_31 {X : gX} (C : cx X RX0 cX0_copyNote 4 none wsX0_copyNote 1 23) (a : Nat → Nat) (p0 : Int32) (p1 : Int32) (Bz : tS)  : ∀ (n : Nat) (x3 : Int32) (B : tS), f_X0_copyNote_31 p0 p1  n x3 B = some Bz → G X (QV X [bdW (gcA X) a Bz]) [bdW (gcA X) a B] [some (.ref (a 0)), some (.int p0), some (.int p1), some (.int x3)] [] 31 := by
  intro n
  induction n with
  | zero => intro x3 B h; have h : (none : Option (tS)) = some Bz := h; cases h
  | succ n ih => intro x3 B h; exact B_X0_copyNote_31b C a p0 p1 Bz  (f_X0_copyNote_31 p0 p1  n) ih x3 B h
def f_X0_copyNote (B : tS) (p0 : Int32) (p1 : Int32) : Option (tS) := (if p0 < 0 ∨ 20 ≤ p0.toNatClampNeg then none else (if p0 < 0 ∨ 20 ≤ p0.toNatClampNeg then none else (bd (f_X0_moveNote B p1 (B 1 p0.toNatClampNeg) (B 2 p0.toNatClampNeg)) (fun B1 => (if p0 < 0 ∨ 20 ≤ p0.toNatClampNeg then none else (if p1 < 0 ∨ 20 ≤ p1.toNatClampNeg then none else f_X0_copyNote_31 p0 p1 1000 (0 : Int32) (va_up B1 3 (upd (B1 3) p1.toNatClampNeg (B1 3 p0.toNatClampNeg)))))))))
set_option maxRecDepth 100000 in
set_option maxHeartbeats 4000000 in
theorem B_X0_copyNote {X : gX} (C : cx X RX0 cX0_copyNote 4 none wsX0_copyNote 1 23) (a : Nat → Nat) (B : tS) (p0 : Int32) (p1 : Int32) (Bz : tS) (h : f_X0_copyNote B p0 p1 = some Bz) : G X (QV X [bdW (gcA X) a Bz]) [bdW (gcA X) a B] [some (.ref (a 0)), some (.int p0), some (.int p1), none] [] 0 := by
  unfold f_X0_copyNote at h
  refine g_aload_n (pc' := 1) C dX0_copyNote_0 rfl rfl ?_
  refine g_iload_n (pc' := 2) C dX0_copyNote_1 rfl rfl ?_
  refine g_aload_n (pc' := 3) C dX0_copyNote_2 rfl rfl ?_
  refine gg_X0_1 (pc' := 6) (i := 0) C rfl hi_X0_copyNote_X0 lk_X0_copyNote_1 dX0_copyNote_3 rfl ?_
  refine g_iload_n (pc' := 7) C dX0_copyNote_6 rfl rfl ?_
  refine g_iald (pc' := 8) (i := 0) (j := 1) C rfl rfl dX0_copyNote_7 rfl h (fun h => ?_)
  refine g_aload_n (pc' := 9) C dX0_copyNote_8 rfl rfl ?_
  refine gg_X0_2 (pc' := 12) (i := 0) C rfl hi_X0_copyNote_X0 lk_X0_copyNote_2 dX0_copyNote_9 rfl ?_
  refine g_iload_n (pc' := 13) C dX0_copyNote_12 rfl rfl ?_
  refine g_iald (pc' := 14) (i := 0) (j := 2) C rfl rfl dX0_copyNote_13 rfl h (fun h => ?_)
  refine k_X0_moveNote (pc' := 17) C a B p1 (B 1 p0.toNatClampNeg) (B 2 p0.toNatClampNeg) [0] rfl (by decide) gX0_copyNote_X0_moveNote ⟨Nat.le_of_ble_eq_true rfl, Nat.le_of_ble_eq_true rfl⟩ (Nat.le_of_ble_eq_true rfl) rfl dX0_copyNote_14 rfl h (fun B1 h => ?_)
  refine g_aload_n (pc' := 18) C dX0_copyNote_17 rfl rfl ?_
  refine gg_X0_3 (pc' := 21) (i := 0) C rfl hi_X0_copyNote_X0 lk_X0_copyNote_3 dX0_copyNote_18 rfl ?_
  refine g_iload_n (pc' := 22) C dX0_copyNote_21 rfl rfl ?_
  refine g_aload_n (pc' := 23) C dX0_copyNote_22 rfl rfl ?_
  refine gg_X0_3 (pc' := 26) (i := 0) C rfl hi_X0_copyNote_X0 lk_X0_copyNote_3 dX0_copyNote_23 rfl ?_
  refine g_iload_n (pc' := 27) C dX0_copyNote_26 rfl rfl ?_
  refine g_iald (pc' := 28) (i := 0) (j := 3) C rfl rfl dX0_copyNote_27 rfl h (fun h => ?_)
  refine g_iast (pc' := 29) (i := 0) (j := 3) (w' := bdW (gcA X) a (va_up B1 3 (upd (B1 3) p1.toNatClampNeg (B1 3 p0.toNatClampNeg)))) C rfl rfl rfl dX0_copyNote_28 rfl h (fun h => ?_)
  refine g_iconst (pc' := 30) (v := 0) C dX0_copyNote_29 (by decide) rfl ?_
  refine g_istore_n (pc' := 31) C dX0_copyNote_30 (Nat.le_of_ble_eq_true rfl) rfl (L' := [some (.ref (a 0)), some (.int p0), some (.int p1), some (.int (0 : Int32))]) rfl ?_
  exact G_loc (lle_s (lle_s (lle_s (lle_s lle_0)))) (L_X0_copyNote_31 C a p0 p1 Bz 1000 (0 : Int32) (va_up B1 3 (upd (B1 3) p1.toNatClampNeg (B1 3 p0.toNatClampNeg))) h)
set_option maxRecDepth 100000 in
set_option maxHeartbeats 4000000 in
theorem c_X0_copyNote (l : Launch) (D : va_G) (cA : Nat → ClassId) (a : Nat → Nat) (B : tS) (p0 : Int32) (p1 : Int32) (Bz : tS) (h : f_X0_copyNote B p0 p1 = some Bz) : MV l D cA yX0_copyNote wsX0_copyNote 1 23 [.ref (a 0), .int p0, .int p1] [bdW cA a B]  [bdW cA a Bz] := MV_of (cc := cX0_copyNote) (maxL := 4) (by decide +kernel) rfl (List.forall_mem_cons.mpr ⟨rfl, List.forall_mem_cons.mpr ⟨rfl, List.forall_mem_cons.mpr ⟨rfl, List.forall_mem_nil _⟩⟩⟩) (Nat.le_of_ble_eq_true rfl) (fun X e1 e2 e3 C => by subst e1; subst e2; subst e3; exact B_X0_copyNote C a B p0 p1 Bz h)
set_option maxRecDepth 100000 in
set_option maxHeartbeats 4000000 in
theorem nd_X0_copyNote : nd yX0_copyNote 2 := ⟨by decide +kernel, by decide +kernel, by decide +kernel⟩
set_option maxRecDepth 100000 in
set_option maxHeartbeats 4000000 in
theorem k_X0_copyNote {X : gX} {own : String} {cc : ByteArray} {nL : Nat} {ret : Option FieldType} {Ts : List Cond} {fr lm : Nat} {Q : State → Prop} {ms : List va_W} {L : List (Option Value)} {st : List Value} {pc pc' idx : Nat} {ρ : Type} {T : tS → Option ρ} {res : ρ} (C : cx X own cc nL ret Ts fr lm) (a : Nat → Nat) (B : tS) (p0 : Int32) (p1 : Int32) (is : List Nat) (hC : is.map (fun i => ms[i]?) = [some (bdW (gcA X) a B)]) (hn : is.Nodup) (hG : GoodIn Ts (wsV own idx RX0 yX0_copyNote wsX0_copyNote)) (hR : 1 + 1 ≤ fr ∧ 8 + (4 + 11) + 23 ≤ lm) (hst : (st.map fun v => v.category).sum ≤ 8) (hLn : L.length = nL) (d : decode cc pc = .ok (.invokevirtual idx, 3)) (hp : pc + 3 = pc') (h : bd (f_X0_copyNote B p0 p1) T = some res) (kk : ∀ (Bz : tS), T Bz = some res → G X Q (rpl ms is [bdW (gcA X) a Bz]) L (st) pc') : G X Q ms L (.int p1 :: .int p0 :: .ref (a 0) :: st) pc := by
  obtain ⟨Bz, h1, h⟩ := ob h
  exact G_callVV C (As := [.int p0, .int p1]) (c_X0_copyNote (gl X) (gD X) (gcA X) a B p0 p1 Bz h1) hG rfl nd_X0_copyNote hR (q0 := 0) rfl rfl hC hn rfl rfl hst hLn d hp (kk Bz h)
theorem hi_X0_notesOfTheme_X0 : ∀ w ∈ wsX00, w ∈ wsX0_notesOfTheme := fun w h => List.mem_cons_of_mem _ (List.mem_append_right _ h)
theorem lk_X0_notesOfTheme_1 : Cond.fieldLink RX0 9 "NoteThemes$Board" "notes" "I" ∈ wsX0_notesOfTheme := List.mem_of_getElem? (i := 1) rfl
theorem lk_X0_notesOfTheme_2 : Cond.fieldLink RX0 22 "NoteThemes$Board" "themeOf" "[I" ∈ wsX0_notesOfTheme := List.mem_of_getElem? (i := 2) rfl
def f_X0_notesOfTheme_25 (B : tS) (p0 : Int32) (k4 : Int32 → Int32 → Option (Int32)) (x2 : Int32) (x3 : Int32) : Option (Int32) := k4 x2 (x3 + 1)
set_option maxRecDepth 100000 in
set_option maxHeartbeats 4000000 in
theorem B_X0_notesOfTheme_25 {X : gX} (C : cx X RX0 cX0_notesOfTheme 4 (some .int) wsX0_notesOfTheme 0 0) (a : Nat → Nat) (B : tS) (p0 : Int32) (r : Int32) (k4 : Int32 → Int32 → Option (Int32)) (hk4 : ∀ (x2 : Int32) (x3 : Int32), k4 x2 x3 = some r → G X (QI X r [bdW (gcA X) a B]) [bdW (gcA X) a B] [some (.ref (a 0)), some (.int p0), some (.int x2), some (.int x3)] [] 4) (x2 : Int32) (x3 : Int32) (h : f_X0_notesOfTheme_25 B p0 k4 x2 x3 = some r) : G X (QI X r [bdW (gcA X) a B]) [bdW (gcA X) a B] [some (.ref (a 0)), some (.int p0), some (.int x2), some (.int x3)] [] 25 := by
  unfold f_X0_notesOfTheme_25 at h
  refine g_iinc (pc' := 28) (v := (x3 + 1)) C dX0_notesOfTheme_25 rfl rfl rfl (L' := [some (.ref (a 0)), some (.int p0), some (.int x2), some (.int (x3 + 1))]) rfl ?_
  refine g_goto (pc' := 4) C dX0_notesOfTheme_28 (by decide) ?_
  exact G_loc (lle_s (lle_s (lle_s (lle_s lle_0)))) (hk4 x2 (x3 + 1) h)
def f_X0_notesOfTheme_4b (B : tS) (p0 : Int32)  (k4 : Int32 → Int32 → Option (Int32)) (x2 : Int32) (x3 : Int32) : Option (Int32) := (if (B 0 0) ≤ x3 then some x2 else (if x3 < 0 ∨ 20 ≤ x3.toNatClampNeg then none else (if (B 3 x3.toNatClampNeg) = p0 then f_X0_notesOfTheme_25 B p0 k4 (x2 + 1) x3 else f_X0_notesOfTheme_25 B p0 k4 x2 x3)))
def f_X0_notesOfTheme_4 (B : tS) (p0 : Int32)  : Nat → Int32 → Int32 → Option (Int32)
  | 0 => fun _ _ => none
  | n + 1 => f_X0_notesOfTheme_4b B p0  (f_X0_notesOfTheme_4 B p0  n)
set_option maxRecDepth 100000 in
set_option maxHeartbeats 4000000 in
theorem B_X0_notesOfTheme_4b {X : gX} (C : cx X RX0 cX0_notesOfTheme 4 (some .int) wsX0_notesOfTheme 0 0) (a : Nat → Nat) (B : tS) (p0 : Int32) (r : Int32)  (k4 : Int32 → Int32 → Option (Int32)) (hk4 : ∀ (x2 : Int32) (x3 : Int32), k4 x2 x3 = some r → G X (QI X r [bdW (gcA X) a B]) [bdW (gcA X) a B] [some (.ref (a 0)), some (.int p0), some (.int x2), some (.int x3)] [] 4) (x2 : Int32) (x3 : Int32) (h : f_X0_notesOfTheme_4b B p0  k4 x2 x3 = some r) : G X (QI X r [bdW (gcA X) a B]) [bdW (gcA X) a B] [some (.ref (a 0)), some (.int p0), some (.int x2), some (.int x3)] [] 4 := by
  unfold f_X0_notesOfTheme_4b at h
  refine g_iload_n (pc' := 5) C dX0_notesOfTheme_4 rfl rfl ?_
  refine g_aload_n (pc' := 6) C dX0_notesOfTheme_5 rfl rfl ?_
  refine gg_X0_0 (pc' := 9) (i := 0) C rfl hi_X0_notesOfTheme_X0 lk_X0_notesOfTheme_1 dX0_notesOfTheme_6 rfl ?_
  refine g_icmp_ge (pc' := 12) (tgt := 31) C dX0_notesOfTheme_9 (by decide) rfl h (fun c h => ?_) (fun c h => ?_)
  · refine g_iload_n (pc' := 32) C dX0_notesOfTheme_31 rfl rfl ?_
    obtain rfl := Option.some.inj h
    exact g_iret C dX0_notesOfTheme_32
  · refine g_aload_n (pc' := 13) C dX0_notesOfTheme_12 rfl rfl ?_
    refine gg_X0_3 (pc' := 16) (i := 0) C rfl hi_X0_notesOfTheme_X0 lk_X0_notesOfTheme_2 dX0_notesOfTheme_13 rfl ?_
    refine g_iload_n (pc' := 17) C dX0_notesOfTheme_16 rfl rfl ?_
    refine g_iald (pc' := 18) (i := 0) (j := 3) C rfl rfl dX0_notesOfTheme_17 rfl h (fun h => ?_)
    refine g_iload_n (pc' := 19) C dX0_notesOfTheme_18 rfl rfl ?_
    refine g_icmp_ne (pc' := 22) (tgt := 25) C dX0_notesOfTheme_19 (by decide) rfl h (fun c h => ?_) (fun c h => ?_)
    · refine g_iinc (pc' := 25) (v := (x2 + 1)) C dX0_notesOfTheme_22 rfl rfl rfl (L' := [some (.ref (a 0)), some (.int p0), some (.int (x2 + 1)), some (.int x3)]) rfl ?_
      exact G_loc (lle_s (lle_s (lle_s (lle_s lle_0)))) (B_X0_notesOfTheme_25 C a B p0 r k4 hk4 (x2 + 1) x3 h)
    · exact G_loc (lle_s (lle_s (lle_s (lle_s lle_0)))) (B_X0_notesOfTheme_25 C a B p0 r k4 hk4 x2 x3 h)
set_option maxRecDepth 100000 in
set_option maxHeartbeats 4000000 in
theorem L_X0_notesOfTheme_4 {X : gX} (C : cx X RX0 cX0_notesOfTheme 4 (some .int) wsX0_notesOfTheme 0 0) (a : Nat → Nat) (B : tS) (p0 : Int32) (r : Int32)  : ∀ (n : Nat) (x2 : Int32) (x3 : Int32), f_X0_notesOfTheme_4 B p0  n x2 x3 = some r → G X (QI X r [bdW (gcA X) a B]) [bdW (gcA X) a B] [some (.ref (a 0)), some (.int p0), some (.int x2), some (.int x3)] [] 4 := by
  intro n
  induction n with
  | zero => intro x2 x3 h; have h : (none : Option (Int32)) = some r := h; cases h
  | succ n ih => intro x2 x3 h; exact B_X0_notesOfTheme_4b C a B p0 r  (f_X0_notesOfTheme_4 B p0  n) ih x2 x3 h
def f_X0_notesOfTheme (B : tS) (p0 : Int32) : Option (Int32) := f_X0_notesOfTheme_4 B p0 1000 (0 : Int32) (0 : Int32)
set_option maxRecDepth 100000 in
set_option maxHeartbeats 4000000 in
theorem B_X0_notesOfTheme {X : gX} (C : cx X RX0 cX0_notesOfTheme 4 (some .int) wsX0_notesOfTheme 0 0) (a : Nat → Nat) (B : tS) (p0 : Int32) (r : Int32) (h : f_X0_notesOfTheme B p0 = some r) : G X (QI X r [bdW (gcA X) a B]) [bdW (gcA X) a B] [some (.ref (a 0)), some (.int p0), none, none] [] 0 := by
  unfold f_X0_notesOfTheme at h
  refine g_iconst (pc' := 1) (v := 0) C dX0_notesOfTheme_0 (by decide) rfl ?_
  refine g_istore_n (pc' := 2) C dX0_notesOfTheme_1 (Nat.le_of_ble_eq_true rfl) rfl (L' := [some (.ref (a 0)), some (.int p0), some (.int (0 : Int32)), none]) rfl ?_
  refine g_iconst (pc' := 3) (v := 0) C dX0_notesOfTheme_2 (by decide) rfl ?_
  refine g_istore_n (pc' := 4) C dX0_notesOfTheme_3 (Nat.le_of_ble_eq_true rfl) rfl (L' := [some (.ref (a 0)), some (.int p0), some (.int (0 : Int32)), some (.int (0 : Int32))]) rfl ?_
  exact G_loc (lle_s (lle_s (lle_s (lle_s lle_0)))) (L_X0_notesOfTheme_4 C a B p0 r 1000 (0 : Int32) (0 : Int32) h)
set_option maxRecDepth 100000 in
set_option maxHeartbeats 4000000 in
theorem c_X0_notesOfTheme (l : Launch) (D : va_G) (cA : Nat → ClassId) (a : Nat → Nat) (B : tS) (p0 : Int32) (r : Int32) (h : f_X0_notesOfTheme B p0 = some r) : MI l D cA yX0_notesOfTheme wsX0_notesOfTheme 0 0 [.ref (a 0), .int p0] [bdW cA a B] r [bdW cA a B] := MI_of (cc := cX0_notesOfTheme) (maxL := 4) (rt := some .int) (by decide +kernel) rfl (List.forall_mem_cons.mpr ⟨rfl, List.forall_mem_cons.mpr ⟨rfl, List.forall_mem_nil _⟩⟩) (Nat.le_of_ble_eq_true rfl) (fun X e1 e2 e3 C => by subst e1; subst e2; subst e3; exact B_X0_notesOfTheme C a B p0 r h)
set_option maxRecDepth 100000 in
set_option maxHeartbeats 4000000 in
theorem nd_X0_notesOfTheme : nd yX0_notesOfTheme 1 := ⟨by decide +kernel, by decide +kernel, by decide +kernel⟩
set_option maxRecDepth 100000 in
set_option maxHeartbeats 4000000 in
theorem k_X0_notesOfTheme {X : gX} {own : String} {cc : ByteArray} {nL : Nat} {ret : Option FieldType} {Ts : List Cond} {fr lm : Nat} {Q : State → Prop} {ms : List va_W} {L : List (Option Value)} {st : List Value} {pc pc' idx : Nat} {ρ : Type} {T : Int32 → Option ρ} {res : ρ} (C : cx X own cc nL ret Ts fr lm) (a : Nat → Nat) (B : tS) (p0 : Int32) (is : List Nat) (hC : is.map (fun i => ms[i]?) = [some (bdW (gcA X) a B)]) (hn : is.Nodup) (hG : GoodIn Ts (wsV own idx RX0 yX0_notesOfTheme wsX0_notesOfTheme)) (hR : 0 + 1 ≤ fr ∧ 8 + (4 + 11) + 0 ≤ lm) (hst : (st.map fun v => v.category).sum ≤ 8) (hLn : L.length = nL) (d : decode cc pc = .ok (.invokevirtual idx, 3)) (hp : pc + 3 = pc') (h : bd (f_X0_notesOfTheme B p0) T = some res) (kk : ∀ (r : Int32), T r = some res → G X Q (ms) L (.int r :: st) pc') : G X Q ms L (.int p0 :: .ref (a 0) :: st) pc := by
  obtain ⟨r, h1, h⟩ := ob h
  exact G_callVI C (As := [.int p0]) (c_X0_notesOfTheme (gl X) (gD X) (gcA X) a B p0 r h1) hG rfl nd_X0_notesOfTheme hR (q0 := 0) rfl rfl hC hn rfl rfl hst hLn d hp (G_ms (rpl_same (mc := [bdW (gcA X) a B]) hC) (kk r h))
theorem hi_X0_voteOf_X0 : ∀ w ∈ wsX00, w ∈ wsX0_voteOf := fun w h => List.mem_cons_of_mem _ (List.mem_append_right _ h)
theorem lk_X0_voteOf_1 : Cond.fieldLink RX0 31 "NoteThemes$Board" "votedAt" "[I" ∈ wsX0_voteOf := List.mem_of_getElem? (i := 1) rfl
def f_X0_voteOf (B : tS) (p0 : Int32) (p1 : Int32) : Option (Int32) := (if ((p1 * (6 : Int32)) + p0) < 0 ∨ 48 ≤ ((p1 * (6 : Int32)) + p0).toNatClampNeg then none else some (B 6 ((p1 * (6 : Int32)) + p0).toNatClampNeg))
set_option maxRecDepth 100000 in
set_option maxHeartbeats 4000000 in
theorem B_X0_voteOf {X : gX} (C : cx X RX0 cX0_voteOf 3 (some .int) wsX0_voteOf 0 0) (a : Nat → Nat) (B : tS) (p0 : Int32) (p1 : Int32) (r : Int32) (h : f_X0_voteOf B p0 p1 = some r) : G X (QI X r [bdW (gcA X) a B]) [bdW (gcA X) a B] [some (.ref (a 0)), some (.int p0), some (.int p1)] [] 0 := by
  unfold f_X0_voteOf at h
  refine g_aload_n (pc' := 1) C dX0_voteOf_0 rfl rfl ?_
  refine gg_X0_6 (pc' := 4) (i := 0) C rfl hi_X0_voteOf_X0 lk_X0_voteOf_1 dX0_voteOf_1 rfl ?_
  refine g_iload_n (pc' := 5) C dX0_voteOf_4 rfl rfl ?_
  refine g_bipush (pc' := 7) (v := 6) C dX0_voteOf_5 (by decide) rfl ?_
  refine g_imul (pc' := 8) C dX0_voteOf_7 rfl ?_
  refine g_iload_n (pc' := 9) C dX0_voteOf_8 rfl rfl ?_
  refine g_iadd (pc' := 10) C dX0_voteOf_9 rfl ?_
  refine g_iald (pc' := 11) (i := 0) (j := 5) C rfl rfl dX0_voteOf_10 rfl h (fun h => ?_)
  obtain rfl := Option.some.inj h
  exact g_iret C dX0_voteOf_11
set_option maxRecDepth 100000 in
set_option maxHeartbeats 4000000 in
theorem c_X0_voteOf (l : Launch) (D : va_G) (cA : Nat → ClassId) (a : Nat → Nat) (B : tS) (p0 : Int32) (p1 : Int32) (r : Int32) (h : f_X0_voteOf B p0 p1 = some r) : MI l D cA yX0_voteOf wsX0_voteOf 0 0 [.ref (a 0), .int p0, .int p1] [bdW cA a B] r [bdW cA a B] := MI_of (cc := cX0_voteOf) (maxL := 3) (rt := some .int) (by decide +kernel) rfl (List.forall_mem_cons.mpr ⟨rfl, List.forall_mem_cons.mpr ⟨rfl, List.forall_mem_cons.mpr ⟨rfl, List.forall_mem_nil _⟩⟩⟩) (Nat.le_of_ble_eq_true rfl) (fun X e1 e2 e3 C => by subst e1; subst e2; subst e3; exact B_X0_voteOf C a B p0 p1 r h)
set_option maxRecDepth 100000 in
set_option maxHeartbeats 4000000 in
theorem nd_X0_voteOf : nd yX0_voteOf 2 := ⟨by decide +kernel, by decide +kernel, by decide +kernel⟩
set_option maxRecDepth 100000 in
set_option maxHeartbeats 4000000 in
theorem k_X0_voteOf {X : gX} {own : String} {cc : ByteArray} {nL : Nat} {ret : Option FieldType} {Ts : List Cond} {fr lm : Nat} {Q : State → Prop} {ms : List va_W} {L : List (Option Value)} {st : List Value} {pc pc' idx : Nat} {ρ : Type} {T : Int32 → Option ρ} {res : ρ} (C : cx X own cc nL ret Ts fr lm) (a : Nat → Nat) (B : tS) (p0 : Int32) (p1 : Int32) (is : List Nat) (hC : is.map (fun i => ms[i]?) = [some (bdW (gcA X) a B)]) (hn : is.Nodup) (hG : GoodIn Ts (wsV own idx RX0 yX0_voteOf wsX0_voteOf)) (hR : 0 + 1 ≤ fr ∧ 8 + (3 + 11) + 0 ≤ lm) (hst : (st.map fun v => v.category).sum ≤ 8) (hLn : L.length = nL) (d : decode cc pc = .ok (.invokevirtual idx, 3)) (hp : pc + 3 = pc') (h : bd (f_X0_voteOf B p0 p1) T = some res) (kk : ∀ (r : Int32), T r = some res → G X Q (ms) L (.int r :: st) pc') : G X Q ms L (.int p1 :: .int p0 :: .ref (a 0) :: st) pc := by
  obtain ⟨r, h1, h⟩ := ob h
  exact G_callVI C (As := [.int p0, .int p1]) (c_X0_voteOf (gl X) (gD X) (gcA X) a B p0 p1 r h1) hG rfl nd_X0_voteOf hR (q0 := 0) rfl rfl hC hn rfl rfl hst hLn d hp (G_ms (rpl_same (mc := [bdW (gcA X) a B]) hC) (kk r h))
theorem hi_X0_setVote_X0 : ∀ w ∈ wsX00, w ∈ wsX0_setVote := fun w h => List.mem_cons_of_mem _ (List.mem_append_right _ h)
theorem lk_X0_setVote_1 : Cond.fieldLink RX0 31 "NoteThemes$Board" "votedAt" "[I" ∈ wsX0_setVote := List.mem_of_getElem? (i := 1) rfl
def f_X0_setVote (B : tS) (p0 : Int32) (p1 : Int32) (p2 : Int32) : Option (tS) := (if ((p1 * (6 : Int32)) + p0) < 0 ∨ 48 ≤ ((p1 * (6 : Int32)) + p0).toNatClampNeg then none else some (va_up B 6 (upd (B 6) ((p1 * (6 : Int32)) + p0).toNatClampNeg p2)))
set_option maxRecDepth 100000 in
set_option maxHeartbeats 4000000 in
theorem B_X0_setVote {X : gX} (C : cx X RX0 cX0_setVote 4 none wsX0_setVote 0 0) (a : Nat → Nat) (B : tS) (p0 : Int32) (p1 : Int32) (p2 : Int32) (Bz : tS) (h : f_X0_setVote B p0 p1 p2 = some Bz) : G X (QV X [bdW (gcA X) a Bz]) [bdW (gcA X) a B] [some (.ref (a 0)), some (.int p0), some (.int p1), some (.int p2)] [] 0 := by
  unfold f_X0_setVote at h
  refine g_aload_n (pc' := 1) C dX0_setVote_0 rfl rfl ?_
  refine gg_X0_6 (pc' := 4) (i := 0) C rfl hi_X0_setVote_X0 lk_X0_setVote_1 dX0_setVote_1 rfl ?_
  refine g_iload_n (pc' := 5) C dX0_setVote_4 rfl rfl ?_
  refine g_bipush (pc' := 7) (v := 6) C dX0_setVote_5 (by decide) rfl ?_
  refine g_imul (pc' := 8) C dX0_setVote_7 rfl ?_
  refine g_iload_n (pc' := 9) C dX0_setVote_8 rfl rfl ?_
  refine g_iadd (pc' := 10) C dX0_setVote_9 rfl ?_
  refine g_iload_n (pc' := 11) C dX0_setVote_10 rfl rfl ?_
  refine g_iast (pc' := 12) (i := 0) (j := 5) (w' := bdW (gcA X) a (va_up B 6 (upd (B 6) ((p1 * (6 : Int32)) + p0).toNatClampNeg p2))) C rfl rfl rfl dX0_setVote_11 rfl h (fun h => ?_)
  obtain rfl := Option.some.inj h
  exact g_vret C dX0_setVote_12
set_option maxRecDepth 100000 in
set_option maxHeartbeats 4000000 in
theorem c_X0_setVote (l : Launch) (D : va_G) (cA : Nat → ClassId) (a : Nat → Nat) (B : tS) (p0 : Int32) (p1 : Int32) (p2 : Int32) (Bz : tS) (h : f_X0_setVote B p0 p1 p2 = some Bz) : MV l D cA yX0_setVote wsX0_setVote 0 0 [.ref (a 0), .int p0, .int p1, .int p2] [bdW cA a B]  [bdW cA a Bz] := MV_of (cc := cX0_setVote) (maxL := 4) (by decide +kernel) rfl (List.forall_mem_cons.mpr ⟨rfl, List.forall_mem_cons.mpr ⟨rfl, List.forall_mem_cons.mpr ⟨rfl, List.forall_mem_cons.mpr ⟨rfl, List.forall_mem_nil _⟩⟩⟩⟩) (Nat.le_of_ble_eq_true rfl) (fun X e1 e2 e3 C => by subst e1; subst e2; subst e3; exact B_X0_setVote C a B p0 p1 p2 Bz h)
set_option maxRecDepth 100000 in
set_option maxHeartbeats 4000000 in
theorem nd_X0_setVote : nd yX0_setVote 3 := ⟨by decide +kernel, by decide +kernel, by decide +kernel⟩
set_option maxRecDepth 100000 in
set_option maxHeartbeats 4000000 in
theorem k_X0_setVote {X : gX} {own : String} {cc : ByteArray} {nL : Nat} {ret : Option FieldType} {Ts : List Cond} {fr lm : Nat} {Q : State → Prop} {ms : List va_W} {L : List (Option Value)} {st : List Value} {pc pc' idx : Nat} {ρ : Type} {T : tS → Option ρ} {res : ρ} (C : cx X own cc nL ret Ts fr lm) (a : Nat → Nat) (B : tS) (p0 : Int32) (p1 : Int32) (p2 : Int32) (is : List Nat) (hC : is.map (fun i => ms[i]?) = [some (bdW (gcA X) a B)]) (hn : is.Nodup) (hG : GoodIn Ts (wsV own idx RX0 yX0_setVote wsX0_setVote)) (hR : 0 + 1 ≤ fr ∧ 8 + (4 + 11) + 0 ≤ lm) (hst : (st.map fun v => v.category).sum ≤ 8) (hLn : L.length = nL) (d : decode cc pc = .ok (.invokevirtual idx, 3)) (hp : pc + 3 = pc') (h : bd (f_X0_setVote B p0 p1 p2) T = some res) (kk : ∀ (Bz : tS), T Bz = some res → G X Q (rpl ms is [bdW (gcA X) a Bz]) L (st) pc') : G X Q ms L (.int p2 :: .int p1 :: .int p0 :: .ref (a 0) :: st) pc := by
  obtain ⟨Bz, h1, h⟩ := ob h
  exact G_callVV C (As := [.int p0, .int p1, .int p2]) (c_X0_setVote (gl X) (gD X) (gcA X) a B p0 p1 p2 Bz h1) hG rfl nd_X0_setVote hR (q0 := 0) rfl rfl hC hn rfl rfl hst hLn d hp (kk Bz h)
theorem hi_X0_removeThemeIfEmpty_X0 : ∀ w ∈ wsX00, w ∈ wsX0_removeThemeIfEmpty := fun w h => List.mem_cons_of_mem _ (List.mem_append_right _ h)
theorem lk_X0_removeThemeIfEmpty_1 : Cond.fieldLink RX0 9 "NoteThemes$Board" "notes" "I" ∈ wsX0_removeThemeIfEmpty := List.mem_of_getElem? (i := 1) rfl
theorem lk_X0_removeThemeIfEmpty_2 : Cond.fieldLink RX0 22 "NoteThemes$Board" "themeOf" "[I" ∈ wsX0_removeThemeIfEmpty := List.mem_of_getElem? (i := 2) rfl
theorem lk_X0_removeThemeIfEmpty_3 : Cond.fieldLink RX0 28 "NoteThemes$Board" "themes" "I" ∈ wsX0_removeThemeIfEmpty := List.mem_of_getElem? (i := 3) rfl
def f_X0_removeThemeIfEmpty_65b (p0 : Int32) (k53 : Int32 → tS → Option (tS)) (k65 : Int32 → Int32 → tS → Option (tS)) (x2 : Int32) (x3 : Int32) (B : tS) : Option (tS) := (if (6 : Int32) ≤ x3 then k53 (x2 + 1) B else (bd (f_X0_voteOf B x3 (x2 + (1 : Int32))) (fun r1 => (bd (f_X0_setVote B x3 x2 r1) (fun B2 => k65 x2 (x3 + 1) B2)))))
def f_X0_removeThemeIfEmpty_65 (p0 : Int32) (k53 : Int32 → tS → Option (tS)) : Nat → Int32 → Int32 → tS → Option (tS)
  | 0 => fun _ _ _ => none
  | n + 1 => f_X0_removeThemeIfEmpty_65b p0 k53 (f_X0_removeThemeIfEmpty_65 p0 k53 n)
set_option maxRecDepth 100000 in
set_option maxHeartbeats 4000000 in
theorem B_X0_removeThemeIfEmpty_65b {X : gX} (C : cx X RX0 cX0_removeThemeIfEmpty 4 none wsX0_removeThemeIfEmpty 1 23) (a : Nat → Nat) (p0 : Int32) (Bz : tS) (k53 : Int32 → tS → Option (tS)) (hk53 : ∀ (x2 : Int32) (B : tS), k53 x2 B = some Bz → G X (QV X [bdW (gcA X) a Bz]) [bdW (gcA X) a B] [some (.ref (a 0)), some (.int p0), some (.int x2), none] [] 53) (k65 : Int32 → Int32 → tS → Option (tS)) (hk65 : ∀ (x2 : Int32) (x3 : Int32) (B : tS), k65 x2 x3 B = some Bz → G X (QV X [bdW (gcA X) a Bz]) [bdW (gcA X) a B] [some (.ref (a 0)), some (.int p0), some (.int x2), some (.int x3)] [] 65) (x2 : Int32) (x3 : Int32) (B : tS) (h : f_X0_removeThemeIfEmpty_65b p0 k53 k65 x2 x3 B = some Bz) : G X (QV X [bdW (gcA X) a Bz]) [bdW (gcA X) a B] [some (.ref (a 0)), some (.int p0), some (.int x2), some (.int x3)] [] 65 := by
  unfold f_X0_removeThemeIfEmpty_65b at h
  refine g_iload_n (pc' := 66) C dX0_removeThemeIfEmpty_65 rfl rfl ?_
  refine g_bipush (pc' := 68) (v := 6) C dX0_removeThemeIfEmpty_66 (by decide) rfl ?_
  refine g_icmp_ge (pc' := 71) (tgt := 91) C dX0_removeThemeIfEmpty_68 (by decide) rfl h (fun c h => ?_) (fun c h => ?_)
  · refine g_iinc (pc' := 94) (v := (x2 + 1)) C dX0_removeThemeIfEmpty_91 rfl rfl rfl (L' := [some (.ref (a 0)), some (.int p0), some (.int (x2 + 1)), some (.int x3)]) rfl ?_
    refine g_goto (pc' := 53) C dX0_removeThemeIfEmpty_94 (by decide) ?_
    exact G_loc (lle_s (lle_s (lle_s (lle_n lle_0)))) (hk53 (x2 + 1) B h)
  · refine g_aload_n (pc' := 72) C dX0_removeThemeIfEmpty_71 rfl rfl ?_
    refine g_iload_n (pc' := 73) C dX0_removeThemeIfEmpty_72 rfl rfl ?_
    refine g_iload_n (pc' := 74) C dX0_removeThemeIfEmpty_73 rfl rfl ?_
    refine g_aload_n (pc' := 75) C dX0_removeThemeIfEmpty_74 rfl rfl ?_
    refine g_iload_n (pc' := 76) C dX0_removeThemeIfEmpty_75 rfl rfl ?_
    refine g_iload_n (pc' := 77) C dX0_removeThemeIfEmpty_76 rfl rfl ?_
    refine g_iconst (pc' := 78) (v := 1) C dX0_removeThemeIfEmpty_77 (by decide) rfl ?_
    refine g_iadd (pc' := 79) C dX0_removeThemeIfEmpty_78 rfl ?_
    refine k_X0_voteOf (pc' := 82) C a B x3 (x2 + (1 : Int32)) [0] rfl (by decide) gX0_removeThemeIfEmpty_X0_voteOf ⟨Nat.le_of_ble_eq_true rfl, Nat.le_of_ble_eq_true rfl⟩ (Nat.le_of_ble_eq_true rfl) rfl dX0_removeThemeIfEmpty_79 rfl h (fun r1 h => ?_)
    refine k_X0_setVote (pc' := 85) C a B x3 x2 r1 [0] rfl (by decide) gX0_removeThemeIfEmpty_X0_setVote ⟨Nat.le_of_ble_eq_true rfl, Nat.le_of_ble_eq_true rfl⟩ (Nat.le_of_ble_eq_true rfl) rfl dX0_removeThemeIfEmpty_82 rfl h (fun B2 h => ?_)
    refine g_iinc (pc' := 88) (v := (x3 + 1)) C dX0_removeThemeIfEmpty_85 rfl rfl rfl (L' := [some (.ref (a 0)), some (.int p0), some (.int x2), some (.int (x3 + 1))]) rfl ?_
    refine g_goto (pc' := 65) C dX0_removeThemeIfEmpty_88 (by decide) ?_
    exact G_loc (lle_s (lle_s (lle_s (lle_s lle_0)))) (hk65 x2 (x3 + 1) B2 h)
set_option maxRecDepth 100000 in
set_option maxHeartbeats 4000000 in
theorem L_X0_removeThemeIfEmpty_65 {X : gX} (C : cx X RX0 cX0_removeThemeIfEmpty 4 none wsX0_removeThemeIfEmpty 1 23) (a : Nat → Nat) (p0 : Int32) (Bz : tS) (k53 : Int32 → tS → Option (tS)) (hk53 : ∀ (x2 : Int32) (B : tS), k53 x2 B = some Bz → G X (QV X [bdW (gcA X) a Bz]) [bdW (gcA X) a B] [some (.ref (a 0)), some (.int p0), some (.int x2), none] [] 53) : ∀ (n : Nat) (x2 : Int32) (x3 : Int32) (B : tS), f_X0_removeThemeIfEmpty_65 p0 k53 n x2 x3 B = some Bz → G X (QV X [bdW (gcA X) a Bz]) [bdW (gcA X) a B] [some (.ref (a 0)), some (.int p0), some (.int x2), some (.int x3)] [] 65 := by
  intro n
  induction n with
  | zero => intro x2 x3 B h; have h : (none : Option (tS)) = some Bz := h; cases h
  | succ n ih => intro x2 x3 B h; exact B_X0_removeThemeIfEmpty_65b C a p0 Bz k53 hk53 (f_X0_removeThemeIfEmpty_65 p0 k53 n) ih x2 x3 B h
def f_X0_removeThemeIfEmpty_53b (p0 : Int32)  (k53 : Int32 → tS → Option (tS)) (x2 : Int32) (B : tS) : Option (tS) := (if ((B 5 0) - (1 : Int32)) ≤ x2 then some (va_up B 5 (fun _ => ((B 5 0) - (1 : Int32)))) else f_X0_removeThemeIfEmpty_65 p0 k53 1000 x2 (0 : Int32) B)
def f_X0_removeThemeIfEmpty_53 (p0 : Int32)  : Nat → Int32 → tS → Option (tS)
  | 0 => fun _ _ => none
  | n + 1 => f_X0_removeThemeIfEmpty_53b p0  (f_X0_removeThemeIfEmpty_53 p0  n)
set_option maxRecDepth 100000 in
set_option maxHeartbeats 4000000 in
theorem B_X0_removeThemeIfEmpty_53b {X : gX} (C : cx X RX0 cX0_removeThemeIfEmpty 4 none wsX0_removeThemeIfEmpty 1 23) (a : Nat → Nat) (p0 : Int32) (Bz : tS)  (k53 : Int32 → tS → Option (tS)) (hk53 : ∀ (x2 : Int32) (B : tS), k53 x2 B = some Bz → G X (QV X [bdW (gcA X) a Bz]) [bdW (gcA X) a B] [some (.ref (a 0)), some (.int p0), some (.int x2), none] [] 53) (x2 : Int32) (B : tS) (h : f_X0_removeThemeIfEmpty_53b p0  k53 x2 B = some Bz) : G X (QV X [bdW (gcA X) a Bz]) [bdW (gcA X) a B] [some (.ref (a 0)), some (.int p0), some (.int x2), none] [] 53 := by
  unfold f_X0_removeThemeIfEmpty_53b at h
  refine g_iload_n (pc' := 54) C dX0_removeThemeIfEmpty_53 rfl rfl ?_
  refine g_aload_n (pc' := 55) C dX0_removeThemeIfEmpty_54 rfl rfl ?_
  refine gg_X0_5 (pc' := 58) (i := 0) C rfl hi_X0_removeThemeIfEmpty_X0 lk_X0_removeThemeIfEmpty_3 dX0_removeThemeIfEmpty_55 rfl ?_
  refine g_iconst (pc' := 59) (v := 1) C dX0_removeThemeIfEmpty_58 (by decide) rfl ?_
  refine g_isub (pc' := 60) C dX0_removeThemeIfEmpty_59 rfl ?_
  refine g_icmp_ge (pc' := 63) (tgt := 97) C dX0_removeThemeIfEmpty_60 (by decide) rfl h (fun c h => ?_) (fun c h => ?_)
  · refine g_aload_n (pc' := 98) C dX0_removeThemeIfEmpty_97 rfl rfl ?_
    refine g_dup (pc' := 99) C dX0_removeThemeIfEmpty_98 rfl rfl ?_
    refine gg_X0_5 (pc' := 102) (i := 0) C rfl hi_X0_removeThemeIfEmpty_X0 lk_X0_removeThemeIfEmpty_3 dX0_removeThemeIfEmpty_99 rfl ?_
    refine g_iconst (pc' := 103) (v := 1) C dX0_removeThemeIfEmpty_102 (by decide) rfl ?_
    refine g_isub (pc' := 104) C dX0_removeThemeIfEmpty_103 rfl ?_
    refine gp_X0_5 (pc' := 107) (i := 0) C rfl hi_X0_removeThemeIfEmpty_X0 lk_X0_removeThemeIfEmpty_3 dX0_removeThemeIfEmpty_104 rfl ?_
    obtain rfl := Option.some.inj h
    exact g_vret C dX0_removeThemeIfEmpty_107
  · refine g_iconst (pc' := 64) (v := 0) C dX0_removeThemeIfEmpty_63 (by decide) rfl ?_
    refine g_istore_n (pc' := 65) C dX0_removeThemeIfEmpty_64 (Nat.le_of_ble_eq_true rfl) rfl (L' := [some (.ref (a 0)), some (.int p0), some (.int x2), some (.int (0 : Int32))]) rfl ?_
    exact G_loc (lle_s (lle_s (lle_s (lle_s lle_0)))) (L_X0_removeThemeIfEmpty_65 C a p0 Bz k53 hk53 1000 x2 (0 : Int32) B h)
set_option maxRecDepth 100000 in
set_option maxHeartbeats 4000000 in
theorem L_X0_removeThemeIfEmpty_53 {X : gX} (C : cx X RX0 cX0_removeThemeIfEmpty 4 none wsX0_removeThemeIfEmpty 1 23) (a : Nat → Nat) (p0 : Int32) (Bz : tS)  : ∀ (n : Nat) (x2 : Int32) (B : tS), f_X0_removeThemeIfEmpty_53 p0  n x2 B = some Bz → G X (QV X [bdW (gcA X) a Bz]) [bdW (gcA X) a B] [some (.ref (a 0)), some (.int p0), some (.int x2), none] [] 53 := by
  intro n
  induction n with
  | zero => intro x2 B h; have h : (none : Option (tS)) = some Bz := h; cases h
  | succ n ih => intro x2 B h; exact B_X0_removeThemeIfEmpty_53b C a p0 Bz  (f_X0_removeThemeIfEmpty_53 p0  n) ih x2 B h
def f_X0_removeThemeIfEmpty_45 (p0 : Int32) (k17 : Int32 → tS → Option (tS)) (x2 : Int32) (B : tS) : Option (tS) := k17 (x2 + 1) B
set_option maxRecDepth 100000 in
set_option maxHeartbeats 4000000 in
theorem B_X0_removeThemeIfEmpty_45 {X : gX} (C : cx X RX0 cX0_removeThemeIfEmpty 4 none wsX0_removeThemeIfEmpty 1 23) (a : Nat → Nat) (p0 : Int32) (Bz : tS) (k17 : Int32 → tS → Option (tS)) (hk17 : ∀ (x2 : Int32) (B : tS), k17 x2 B = some Bz → G X (QV X [bdW (gcA X) a Bz]) [bdW (gcA X) a B] [some (.ref (a 0)), some (.int p0), some (.int x2), none] [] 17) (x2 : Int32) (B : tS) (h : f_X0_removeThemeIfEmpty_45 p0 k17 x2 B = some Bz) : G X (QV X [bdW (gcA X) a Bz]) [bdW (gcA X) a B] [some (.ref (a 0)), some (.int p0), some (.int x2), none] [] 45 := by
  unfold f_X0_removeThemeIfEmpty_45 at h
  refine g_iinc (pc' := 48) (v := (x2 + 1)) C dX0_removeThemeIfEmpty_45 rfl rfl rfl (L' := [some (.ref (a 0)), some (.int p0), some (.int (x2 + 1)), none]) rfl ?_
  refine g_goto (pc' := 17) C dX0_removeThemeIfEmpty_48 (by decide) ?_
  exact G_loc (lle_s (lle_s (lle_s (lle_n lle_0)))) (hk17 (x2 + 1) B h)
def f_X0_removeThemeIfEmpty_17b (p0 : Int32)  (k17 : Int32 → tS → Option (tS)) (x2 : Int32) (B : tS) : Option (tS) := (if (B 0 0) ≤ x2 then f_X0_removeThemeIfEmpty_53 p0 1000 p0 B else (if x2 < 0 ∨ 20 ≤ x2.toNatClampNeg then none else (if (B 3 x2.toNatClampNeg) ≤ p0 then f_X0_removeThemeIfEmpty_45 p0 k17 x2 B else (if x2 < 0 ∨ 20 ≤ x2.toNatClampNeg then none else (if x2 < 0 ∨ 20 ≤ x2.toNatClampNeg then none else f_X0_removeThemeIfEmpty_45 p0 k17 x2 (va_up B 3 (upd (B 3) x2.toNatClampNeg ((B 3 x2.toNatClampNeg) - (1 : Int32)))))))))
def f_X0_removeThemeIfEmpty_17 (p0 : Int32)  : Nat → Int32 → tS → Option (tS)
  | 0 => fun _ _ => none
  | n + 1 => f_X0_removeThemeIfEmpty_17b p0  (f_X0_removeThemeIfEmpty_17 p0  n)
set_option maxRecDepth 100000 in
set_option maxHeartbeats 4000000 in
theorem B_X0_removeThemeIfEmpty_17b {X : gX} (C : cx X RX0 cX0_removeThemeIfEmpty 4 none wsX0_removeThemeIfEmpty 1 23) (a : Nat → Nat) (p0 : Int32) (Bz : tS)  (k17 : Int32 → tS → Option (tS)) (hk17 : ∀ (x2 : Int32) (B : tS), k17 x2 B = some Bz → G X (QV X [bdW (gcA X) a Bz]) [bdW (gcA X) a B] [some (.ref (a 0)), some (.int p0), some (.int x2), none] [] 17) (x2 : Int32) (B : tS) (h : f_X0_removeThemeIfEmpty_17b p0  k17 x2 B = some Bz) : G X (QV X [bdW (gcA X) a Bz]) [bdW (gcA X) a B] [some (.ref (a 0)), some (.int p0), some (.int x2), none] [] 17 := by
  unfold f_X0_removeThemeIfEmpty_17b at h
  refine g_iload_n (pc' := 18) C dX0_removeThemeIfEmpty_17 rfl rfl ?_
  refine g_aload_n (pc' := 19) C dX0_removeThemeIfEmpty_18 rfl rfl ?_
  refine gg_X0_0 (pc' := 22) (i := 0) C rfl hi_X0_removeThemeIfEmpty_X0 lk_X0_removeThemeIfEmpty_1 dX0_removeThemeIfEmpty_19 rfl ?_
  refine g_icmp_ge (pc' := 25) (tgt := 51) C dX0_removeThemeIfEmpty_22 (by decide) rfl h (fun c h => ?_) (fun c h => ?_)
  · refine g_iload_n (pc' := 52) C dX0_removeThemeIfEmpty_51 rfl rfl ?_
    refine g_istore_n (pc' := 53) C dX0_removeThemeIfEmpty_52 (Nat.le_of_ble_eq_true rfl) rfl (L' := [some (.ref (a 0)), some (.int p0), some (.int p0), none]) rfl ?_
    exact G_loc (lle_s (lle_s (lle_s (lle_n lle_0)))) (L_X0_removeThemeIfEmpty_53 C a p0 Bz 1000 p0 B h)
  · refine g_aload_n (pc' := 26) C dX0_removeThemeIfEmpty_25 rfl rfl ?_
    refine gg_X0_3 (pc' := 29) (i := 0) C rfl hi_X0_removeThemeIfEmpty_X0 lk_X0_removeThemeIfEmpty_2 dX0_removeThemeIfEmpty_26 rfl ?_
    refine g_iload_n (pc' := 30) C dX0_removeThemeIfEmpty_29 rfl rfl ?_
    refine g_iald (pc' := 31) (i := 0) (j := 3) C rfl rfl dX0_removeThemeIfEmpty_30 rfl h (fun h => ?_)
    refine g_iload_n (pc' := 32) C dX0_removeThemeIfEmpty_31 rfl rfl ?_
    refine g_icmp_le (pc' := 35) (tgt := 45) C dX0_removeThemeIfEmpty_32 (by decide) rfl h (fun c h => ?_) (fun c h => ?_)
    · exact G_loc (lle_s (lle_s (lle_s (lle_n lle_0)))) (B_X0_removeThemeIfEmpty_45 C a p0 Bz k17 hk17 x2 B h)
    · refine g_aload_n (pc' := 36) C dX0_removeThemeIfEmpty_35 rfl rfl ?_
      refine gg_X0_3 (pc' := 39) (i := 0) C rfl hi_X0_removeThemeIfEmpty_X0 lk_X0_removeThemeIfEmpty_2 dX0_removeThemeIfEmpty_36 rfl ?_
      refine g_iload_n (pc' := 40) C dX0_removeThemeIfEmpty_39 rfl rfl ?_
      refine g_dup2 (pc' := 41) C dX0_removeThemeIfEmpty_40 rfl rfl rfl ?_
      refine g_iald (pc' := 42) (i := 0) (j := 3) C rfl rfl dX0_removeThemeIfEmpty_41 rfl h (fun h => ?_)
      refine g_iconst (pc' := 43) (v := 1) C dX0_removeThemeIfEmpty_42 (by decide) rfl ?_
      refine g_isub (pc' := 44) C dX0_removeThemeIfEmpty_43 rfl ?_
      refine g_iast (pc' := 45) (i := 0) (j := 3) (w' := bdW (gcA X) a (va_up B 3 (upd (B 3) x2.toNatClampNeg ((B 3 x2.toNatClampNeg) - (1 : Int32))))) C rfl rfl rfl dX0_removeThemeIfEmpty_44 rfl h (fun h => ?_)
      exact G_loc (lle_s (lle_s (lle_s (lle_n lle_0)))) (B_X0_removeThemeIfEmpty_45 C a p0 Bz k17 hk17 x2 (va_up B 3 (upd (B 3) x2.toNatClampNeg ((B 3 x2.toNatClampNeg) - (1 : Int32)))) h)
set_option maxRecDepth 100000 in
set_option maxHeartbeats 4000000 in
theorem L_X0_removeThemeIfEmpty_17 {X : gX} (C : cx X RX0 cX0_removeThemeIfEmpty 4 none wsX0_removeThemeIfEmpty 1 23) (a : Nat → Nat) (p0 : Int32) (Bz : tS)  : ∀ (n : Nat) (x2 : Int32) (B : tS), f_X0_removeThemeIfEmpty_17 p0  n x2 B = some Bz → G X (QV X [bdW (gcA X) a Bz]) [bdW (gcA X) a B] [some (.ref (a 0)), some (.int p0), some (.int x2), none] [] 17 := by
  intro n
  induction n with
  | zero => intro x2 B h; have h : (none : Option (tS)) = some Bz := h; cases h
  | succ n ih => intro x2 B h; exact B_X0_removeThemeIfEmpty_17b C a p0 Bz  (f_X0_removeThemeIfEmpty_17 p0  n) ih x2 B h
def f_X0_removeThemeIfEmpty (B : tS) (p0 : Int32) : Option (tS) := (if p0 = (-5 : Int32) then some B else (bd (f_X0_notesOfTheme B p0) (fun r1 => (if r1 ≤ 0 then f_X0_removeThemeIfEmpty_17 p0 1000 (0 : Int32) B else some B))))
set_option maxRecDepth 100000 in
set_option maxHeartbeats 4000000 in
theorem B_X0_removeThemeIfEmpty {X : gX} (C : cx X RX0 cX0_removeThemeIfEmpty 4 none wsX0_removeThemeIfEmpty 1 23) (a : Nat → Nat) (B : tS) (p0 : Int32) (Bz : tS) (h : f_X0_removeThemeIfEmpty B p0 = some Bz) : G X (QV X [bdW (gcA X) a Bz]) [bdW (gcA X) a B] [some (.ref (a 0)), some (.int p0), none, none] [] 0 := by
  unfold f_X0_removeThemeIfEmpty at h
  refine g_iload_n (pc' := 1) C dX0_removeThemeIfEmpty_0 rfl rfl ?_
  refine g_bipush (pc' := 3) (v := -5) C dX0_removeThemeIfEmpty_1 (by decide) rfl ?_
  refine g_icmp_eq (pc' := 6) (tgt := 14) C dX0_removeThemeIfEmpty_3 (by decide) rfl h (fun c h => ?_) (fun c h => ?_)
  · obtain rfl := Option.some.inj h
    exact g_vret C dX0_removeThemeIfEmpty_14
  · refine g_aload_n (pc' := 7) C dX0_removeThemeIfEmpty_6 rfl rfl ?_
    refine g_iload_n (pc' := 8) C dX0_removeThemeIfEmpty_7 rfl rfl ?_
    refine k_X0_notesOfTheme (pc' := 11) C a B p0 [0] rfl (by decide) gX0_removeThemeIfEmpty_X0_notesOfTheme ⟨Nat.le_of_ble_eq_true rfl, Nat.le_of_ble_eq_true rfl⟩ (Nat.le_of_ble_eq_true rfl) rfl dX0_removeThemeIfEmpty_8 rfl h (fun r1 h => ?_)
    refine g_if_le (pc' := 14) (tgt := 15) C dX0_removeThemeIfEmpty_11 (by decide) rfl h (fun c h => ?_) (fun c h => ?_)
    · refine g_iconst (pc' := 16) (v := 0) C dX0_removeThemeIfEmpty_15 (by decide) rfl ?_
      refine g_istore_n (pc' := 17) C dX0_removeThemeIfEmpty_16 (Nat.le_of_ble_eq_true rfl) rfl (L' := [some (.ref (a 0)), some (.int p0), some (.int (0 : Int32)), none]) rfl ?_
      exact G_loc (lle_s (lle_s (lle_s (lle_n lle_0)))) (L_X0_removeThemeIfEmpty_17 C a p0 Bz 1000 (0 : Int32) B h)
    · obtain rfl := Option.some.inj h
      exact g_vret C dX0_removeThemeIfEmpty_14
set_option maxRecDepth 100000 in
set_option maxHeartbeats 4000000 in
theorem c_X0_removeThemeIfEmpty (l : Launch) (D : va_G) (cA : Nat → ClassId) (a : Nat → Nat) (B : tS) (p0 : Int32) (Bz : tS) (h : f_X0_removeThemeIfEmpty B p0 = some Bz) : MV l D cA yX0_removeThemeIfEmpty wsX0_removeThemeIfEmpty 1 23 [.ref (a 0), .int p0] [bdW cA a B]  [bdW cA a Bz] := MV_of (cc := cX0_removeThemeIfEmpty) (maxL := 4) (by decide +kernel) rfl (List.forall_mem_cons.mpr ⟨rfl, List.forall_mem_cons.mpr ⟨rfl, List.forall_mem_nil _⟩⟩) (Nat.le_of_ble_eq_true rfl) (fun X e1 e2 e3 C => by subst e1; subst e2; subst e3; exact B_X0_removeThemeIfEmpty C a B p0 Bz h)
set_option maxRecDepth 100000 in
set_option maxHeartbeats 4000000 in
theorem nd_X0_removeThemeIfEmpty : nd yX0_removeThemeIfEmpty 1 := ⟨by decide +kernel, by decide +kernel, by decide +kernel⟩
set_option maxRecDepth 100000 in
set_option maxHeartbeats 4000000 in
theorem k_X0_removeThemeIfEmpty {X : gX} {own : String} {cc : ByteArray} {nL : Nat} {ret : Option FieldType} {Ts : List Cond} {fr lm : Nat} {Q : State → Prop} {ms : List va_W} {L : List (Option Value)} {st : List Value} {pc pc' idx : Nat} {ρ : Type} {T : tS → Option ρ} {res : ρ} (C : cx X own cc nL ret Ts fr lm) (a : Nat → Nat) (B : tS) (p0 : Int32) (is : List Nat) (hC : is.map (fun i => ms[i]?) = [some (bdW (gcA X) a B)]) (hn : is.Nodup) (hG : GoodIn Ts (wsV own idx RX0 yX0_removeThemeIfEmpty wsX0_removeThemeIfEmpty)) (hR : 1 + 1 ≤ fr ∧ 8 + (4 + 11) + 23 ≤ lm) (hst : (st.map fun v => v.category).sum ≤ 8) (hLn : L.length = nL) (d : decode cc pc = .ok (.invokevirtual idx, 3)) (hp : pc + 3 = pc') (h : bd (f_X0_removeThemeIfEmpty B p0) T = some res) (kk : ∀ (Bz : tS), T Bz = some res → G X Q (rpl ms is [bdW (gcA X) a Bz]) L (st) pc') : G X Q ms L (.int p0 :: .ref (a 0) :: st) pc := by
  obtain ⟨Bz, h1, h⟩ := ob h
  exact G_callVV C (As := [.int p0]) (c_X0_removeThemeIfEmpty (gl X) (gD X) (gcA X) a B p0 Bz h1) hG rfl nd_X0_removeThemeIfEmpty hR (q0 := 0) rfl rfl hC hn rfl rfl hst hLn d hp (kk Bz h)
theorem hi_X0_removeNote_X0 : ∀ w ∈ wsX00, w ∈ wsX0_removeNote := fun w h => List.mem_cons_of_mem _ (List.mem_append_right _ h)
theorem lk_X0_removeNote_1 : Cond.fieldLink RX0 22 "NoteThemes$Board" "themeOf" "[I" ∈ wsX0_removeNote := List.mem_of_getElem? (i := 1) rfl
theorem lk_X0_removeNote_2 : Cond.fieldLink RX0 9 "NoteThemes$Board" "notes" "I" ∈ wsX0_removeNote := List.mem_of_getElem? (i := 2) rfl
def f_X0_removeNote_9b (p0 : Int32)  (k9 : Int32 → Int32 → tS → Option (tS)) (x2 : Int32) (x3 : Int32) (B : tS) : Option (tS) := (if ((B 0 0) - (1 : Int32)) ≤ x3 then (bd (f_X0_removeThemeIfEmpty (va_up B 0 (fun _ => ((B 0 0) - (1 : Int32)))) x2) (fun B1 => some B1)) else (bd (f_X0_copyNote B (x3 + (1 : Int32)) x3) (fun B2 => k9 x2 (x3 + 1) B2)))
def f_X0_removeNote_9 (p0 : Int32)  : Nat → Int32 → Int32 → tS → Option (tS)
  | 0 => fun _ _ _ => none
  | n + 1 => f_X0_removeNote_9b p0  (f_X0_removeNote_9 p0  n)
set_option maxRecDepth 100000 in
set_option maxHeartbeats 4000000 in
theorem B_X0_removeNote_9b {X : gX} (C : cx X RX0 cX0_removeNote 4 none wsX0_removeNote 2 46) (a : Nat → Nat) (p0 : Int32) (Bz : tS)  (k9 : Int32 → Int32 → tS → Option (tS)) (hk9 : ∀ (x2 : Int32) (x3 : Int32) (B : tS), k9 x2 x3 B = some Bz → G X (QV X [bdW (gcA X) a Bz]) [bdW (gcA X) a B] [some (.ref (a 0)), some (.int p0), some (.int x2), some (.int x3)] [] 9) (x2 : Int32) (x3 : Int32) (B : tS) (h : f_X0_removeNote_9b p0  k9 x2 x3 B = some Bz) : G X (QV X [bdW (gcA X) a Bz]) [bdW (gcA X) a B] [some (.ref (a 0)), some (.int p0), some (.int x2), some (.int x3)] [] 9 := by
  unfold f_X0_removeNote_9b at h
  refine g_iload_n (pc' := 10) C dX0_removeNote_9 rfl rfl ?_
  refine g_aload_n (pc' := 11) C dX0_removeNote_10 rfl rfl ?_
  refine gg_X0_0 (pc' := 14) (i := 0) C rfl hi_X0_removeNote_X0 lk_X0_removeNote_2 dX0_removeNote_11 rfl ?_
  refine g_iconst (pc' := 15) (v := 1) C dX0_removeNote_14 (by decide) rfl ?_
  refine g_isub (pc' := 16) C dX0_removeNote_15 rfl ?_
  refine g_icmp_ge (pc' := 19) (tgt := 33) C dX0_removeNote_16 (by decide) rfl h (fun c h => ?_) (fun c h => ?_)
  · refine g_aload_n (pc' := 34) C dX0_removeNote_33 rfl rfl ?_
    refine g_dup (pc' := 35) C dX0_removeNote_34 rfl rfl ?_
    refine gg_X0_0 (pc' := 38) (i := 0) C rfl hi_X0_removeNote_X0 lk_X0_removeNote_2 dX0_removeNote_35 rfl ?_
    refine g_iconst (pc' := 39) (v := 1) C dX0_removeNote_38 (by decide) rfl ?_
    refine g_isub (pc' := 40) C dX0_removeNote_39 rfl ?_
    refine gp_X0_0 (pc' := 43) (i := 0) C rfl hi_X0_removeNote_X0 lk_X0_removeNote_2 dX0_removeNote_40 rfl ?_
    refine g_aload_n (pc' := 44) C dX0_removeNote_43 rfl rfl ?_
    refine g_iload_n (pc' := 45) C dX0_removeNote_44 rfl rfl ?_
    refine k_X0_removeThemeIfEmpty (pc' := 48) C a (va_up B 0 (fun _ => ((B 0 0) - (1 : Int32)))) x2 [0] rfl (by decide) gX0_removeNote_X0_removeThemeIfEmpty ⟨Nat.le_of_ble_eq_true rfl, Nat.le_of_ble_eq_true rfl⟩ (Nat.le_of_ble_eq_true rfl) rfl dX0_removeNote_45 rfl h (fun B1 h => ?_)
    obtain rfl := Option.some.inj h
    exact g_vret C dX0_removeNote_48
  · refine g_aload_n (pc' := 20) C dX0_removeNote_19 rfl rfl ?_
    refine g_iload_n (pc' := 21) C dX0_removeNote_20 rfl rfl ?_
    refine g_iconst (pc' := 22) (v := 1) C dX0_removeNote_21 (by decide) rfl ?_
    refine g_iadd (pc' := 23) C dX0_removeNote_22 rfl ?_
    refine g_iload_n (pc' := 24) C dX0_removeNote_23 rfl rfl ?_
    refine k_X0_copyNote (pc' := 27) C a B (x3 + (1 : Int32)) x3 [0] rfl (by decide) gX0_removeNote_X0_copyNote ⟨Nat.le_of_ble_eq_true rfl, Nat.le_of_ble_eq_true rfl⟩ (Nat.le_of_ble_eq_true rfl) rfl dX0_removeNote_24 rfl h (fun B2 h => ?_)
    refine g_iinc (pc' := 30) (v := (x3 + 1)) C dX0_removeNote_27 rfl rfl rfl (L' := [some (.ref (a 0)), some (.int p0), some (.int x2), some (.int (x3 + 1))]) rfl ?_
    refine g_goto (pc' := 9) C dX0_removeNote_30 (by decide) ?_
    exact G_loc (lle_s (lle_s (lle_s (lle_s lle_0)))) (hk9 x2 (x3 + 1) B2 h)
set_option maxRecDepth 100000 in
set_option maxHeartbeats 4000000 in
theorem L_X0_removeNote_9 {X : gX} (C : cx X RX0 cX0_removeNote 4 none wsX0_removeNote 2 46) (a : Nat → Nat) (p0 : Int32) (Bz : tS)  : ∀ (n : Nat) (x2 : Int32) (x3 : Int32) (B : tS), f_X0_removeNote_9 p0  n x2 x3 B = some Bz → G X (QV X [bdW (gcA X) a Bz]) [bdW (gcA X) a B] [some (.ref (a 0)), some (.int p0), some (.int x2), some (.int x3)] [] 9 := by
  intro n
  induction n with
  | zero => intro x2 x3 B h; have h : (none : Option (tS)) = some Bz := h; cases h
  | succ n ih => intro x2 x3 B h; exact B_X0_removeNote_9b C a p0 Bz  (f_X0_removeNote_9 p0  n) ih x2 x3 B h
def f_X0_removeNote (B : tS) (p0 : Int32) : Option (tS) := (if p0 < 0 ∨ 20 ≤ p0.toNatClampNeg then none else f_X0_removeNote_9 p0 1000 (B 3 p0.toNatClampNeg) p0 B)
set_option maxRecDepth 100000 in
set_option maxHeartbeats 4000000 in
theorem B_X0_removeNote {X : gX} (C : cx X RX0 cX0_removeNote 4 none wsX0_removeNote 2 46) (a : Nat → Nat) (B : tS) (p0 : Int32) (Bz : tS) (h : f_X0_removeNote B p0 = some Bz) : G X (QV X [bdW (gcA X) a Bz]) [bdW (gcA X) a B] [some (.ref (a 0)), some (.int p0), none, none] [] 0 := by
  unfold f_X0_removeNote at h
  refine g_aload_n (pc' := 1) C dX0_removeNote_0 rfl rfl ?_
  refine gg_X0_3 (pc' := 4) (i := 0) C rfl hi_X0_removeNote_X0 lk_X0_removeNote_1 dX0_removeNote_1 rfl ?_
  refine g_iload_n (pc' := 5) C dX0_removeNote_4 rfl rfl ?_
  refine g_iald (pc' := 6) (i := 0) (j := 3) C rfl rfl dX0_removeNote_5 rfl h (fun h => ?_)
  refine g_istore_n (pc' := 7) C dX0_removeNote_6 (Nat.le_of_ble_eq_true rfl) rfl (L' := [some (.ref (a 0)), some (.int p0), some (.int (B 3 p0.toNatClampNeg)), none]) rfl ?_
  refine g_iload_n (pc' := 8) C dX0_removeNote_7 rfl rfl ?_
  refine g_istore_n (pc' := 9) C dX0_removeNote_8 (Nat.le_of_ble_eq_true rfl) rfl (L' := [some (.ref (a 0)), some (.int p0), some (.int (B 3 p0.toNatClampNeg)), some (.int p0)]) rfl ?_
  exact G_loc (lle_s (lle_s (lle_s (lle_s lle_0)))) (L_X0_removeNote_9 C a p0 Bz 1000 (B 3 p0.toNatClampNeg) p0 B h)
set_option maxRecDepth 100000 in
set_option maxHeartbeats 4000000 in
theorem c_X0_removeNote (l : Launch) (D : va_G) (cA : Nat → ClassId) (a : Nat → Nat) (B : tS) (p0 : Int32) (Bz : tS) (h : f_X0_removeNote B p0 = some Bz) : MV l D cA yX0_removeNote wsX0_removeNote 2 46 [.ref (a 0), .int p0] [bdW cA a B]  [bdW cA a Bz] := MV_of (cc := cX0_removeNote) (maxL := 4) (by decide +kernel) rfl (List.forall_mem_cons.mpr ⟨rfl, List.forall_mem_cons.mpr ⟨rfl, List.forall_mem_nil _⟩⟩) (Nat.le_of_ble_eq_true rfl) (fun X e1 e2 e3 C => by subst e1; subst e2; subst e3; exact B_X0_removeNote C a B p0 Bz h)
set_option maxRecDepth 100000 in
set_option maxHeartbeats 4000000 in
theorem nd_X0_removeNote : nd yX0_removeNote 1 := ⟨by decide +kernel, by decide +kernel, by decide +kernel⟩
set_option maxRecDepth 100000 in
set_option maxHeartbeats 4000000 in
theorem k_X0_removeNote {X : gX} {own : String} {cc : ByteArray} {nL : Nat} {ret : Option FieldType} {Ts : List Cond} {fr lm : Nat} {Q : State → Prop} {ms : List va_W} {L : List (Option Value)} {st : List Value} {pc pc' idx : Nat} {ρ : Type} {T : tS → Option ρ} {res : ρ} (C : cx X own cc nL ret Ts fr lm) (a : Nat → Nat) (B : tS) (p0 : Int32) (is : List Nat) (hC : is.map (fun i => ms[i]?) = [some (bdW (gcA X) a B)]) (hn : is.Nodup) (hG : GoodIn Ts (wsV own idx RX0 yX0_removeNote wsX0_removeNote)) (hR : 2 + 1 ≤ fr ∧ 8 + (4 + 11) + 46 ≤ lm) (hst : (st.map fun v => v.category).sum ≤ 8) (hLn : L.length = nL) (d : decode cc pc = .ok (.invokevirtual idx, 3)) (hp : pc + 3 = pc') (h : bd (f_X0_removeNote B p0) T = some res) (kk : ∀ (Bz : tS), T Bz = some res → G X Q (rpl ms is [bdW (gcA X) a Bz]) L (st) pc') : G X Q ms L (.int p0 :: .ref (a 0) :: st) pc := by
  obtain ⟨Bz, h1, h⟩ := ob h
  exact G_callVV C (As := [.int p0]) (c_X0_removeNote (gl X) (gD X) (gcA X) a B p0 Bz h1) hG rfl nd_X0_removeNote hR (q0 := 0) rfl rfl hC hn rfl rfl hst hLn d hp (kk Bz h)
theorem hi_X0_distance_X0 : ∀ w ∈ wsX00, w ∈ wsX0_distance := fun w h => List.mem_cons_of_mem _ (List.mem_append_right _ h)
theorem lk_X0_distance_1 : Cond.fieldLink RX0 15 "NoteThemes$Board" "columnOf" "[I" ∈ wsX0_distance := List.mem_of_getElem? (i := 1) rfl
theorem lk_X0_distance_2 : Cond.methodLink RX0 58 Lib.Math.abs.name ∈ wsX0_distance := List.mem_of_getElem? (i := 2) rfl
theorem lk_X0_distance_3 : Cond.static Lib.Math.abs.name ∈ wsX0_distance := List.mem_of_getElem? (i := 3) rfl
theorem lk_X0_distance_4 : Cond.initialized "java/lang/Math" ∈ wsX0_distance := List.mem_of_getElem? (i := 4) rfl
theorem lk_X0_distance_5 : Cond.code Lib.Math.abs.name Lib.Math.abs.code 1 (some .int) ∈ wsX0_distance := List.mem_of_getElem? (i := 5) rfl
theorem lk_X0_distance_6 : Cond.fieldLink RX0 19 "NoteThemes$Board" "rowOf" "[I" ∈ wsX0_distance := List.mem_of_getElem? (i := 6) rfl
def f_X0_distance (B : tS) (p0 : Int32) (p1 : Int32) : Option (Int32) := (if p0 < 0 ∨ 20 ≤ p0.toNatClampNeg then none else (if p1 < 0 ∨ 20 ≤ p1.toNatClampNeg then none else (if p0 < 0 ∨ 20 ≤ p0.toNatClampNeg then none else (if p1 < 0 ∨ 20 ≤ p1.toNatClampNeg then none else some ((if 0 ≤ ((B 1 p0.toNatClampNeg) - (B 1 p1.toNatClampNeg)) then ((B 1 p0.toNatClampNeg) - (B 1 p1.toNatClampNeg)) else 0 - ((B 1 p0.toNatClampNeg) - (B 1 p1.toNatClampNeg))) + (if 0 ≤ ((B 2 p0.toNatClampNeg) - (B 2 p1.toNatClampNeg)) then ((B 2 p0.toNatClampNeg) - (B 2 p1.toNatClampNeg)) else 0 - ((B 2 p0.toNatClampNeg) - (B 2 p1.toNatClampNeg))))))))
set_option maxRecDepth 100000 in
set_option maxHeartbeats 4000000 in
theorem B_X0_distance {X : gX} (C : cx X RX0 cX0_distance 3 (some .int) wsX0_distance 1 21) (a : Nat → Nat) (B : tS) (p0 : Int32) (p1 : Int32) (r : Int32) (h : f_X0_distance B p0 p1 = some r) : G X (QI X r [bdW (gcA X) a B]) [bdW (gcA X) a B] [some (.ref (a 0)), some (.int p0), some (.int p1)] [] 0 := by
  unfold f_X0_distance at h
  refine g_aload_n (pc' := 1) C dX0_distance_0 rfl rfl ?_
  refine gg_X0_1 (pc' := 4) (i := 0) C rfl hi_X0_distance_X0 lk_X0_distance_1 dX0_distance_1 rfl ?_
  refine g_iload_n (pc' := 5) C dX0_distance_4 rfl rfl ?_
  refine g_iald (pc' := 6) (i := 0) (j := 1) C rfl rfl dX0_distance_5 rfl h (fun h => ?_)
  refine g_aload_n (pc' := 7) C dX0_distance_6 rfl rfl ?_
  refine gg_X0_1 (pc' := 10) (i := 0) C rfl hi_X0_distance_X0 lk_X0_distance_1 dX0_distance_7 rfl ?_
  refine g_iload_n (pc' := 11) C dX0_distance_10 rfl rfl ?_
  refine g_iald (pc' := 12) (i := 0) (j := 1) C rfl rfl dX0_distance_11 rfl h (fun h => ?_)
  refine g_isub (pc' := 13) C dX0_distance_12 rfl ?_
  refine g_mabs (pc' := 16) C lk_X0_distance_2 lk_X0_distance_3 lk_X0_distance_4 lk_X0_distance_5 ⟨Nat.le_of_ble_eq_true rfl, Nat.le_of_ble_eq_true rfl⟩ rfl dX0_distance_13 rfl ?_
  refine g_aload_n (pc' := 17) C dX0_distance_16 rfl rfl ?_
  refine gg_X0_2 (pc' := 20) (i := 0) C rfl hi_X0_distance_X0 lk_X0_distance_6 dX0_distance_17 rfl ?_
  refine g_iload_n (pc' := 21) C dX0_distance_20 rfl rfl ?_
  refine g_iald (pc' := 22) (i := 0) (j := 2) C rfl rfl dX0_distance_21 rfl h (fun h => ?_)
  refine g_aload_n (pc' := 23) C dX0_distance_22 rfl rfl ?_
  refine gg_X0_2 (pc' := 26) (i := 0) C rfl hi_X0_distance_X0 lk_X0_distance_6 dX0_distance_23 rfl ?_
  refine g_iload_n (pc' := 27) C dX0_distance_26 rfl rfl ?_
  refine g_iald (pc' := 28) (i := 0) (j := 2) C rfl rfl dX0_distance_27 rfl h (fun h => ?_)
  refine g_isub (pc' := 29) C dX0_distance_28 rfl ?_
  refine g_mabs (pc' := 32) C lk_X0_distance_2 lk_X0_distance_3 lk_X0_distance_4 lk_X0_distance_5 ⟨Nat.le_of_ble_eq_true rfl, Nat.le_of_ble_eq_true rfl⟩ rfl dX0_distance_29 rfl ?_
  refine g_iadd (pc' := 33) C dX0_distance_32 rfl ?_
  obtain rfl := Option.some.inj h
  exact g_iret C dX0_distance_33
set_option maxRecDepth 100000 in
set_option maxHeartbeats 4000000 in
theorem c_X0_distance (l : Launch) (D : va_G) (cA : Nat → ClassId) (a : Nat → Nat) (B : tS) (p0 : Int32) (p1 : Int32) (r : Int32) (h : f_X0_distance B p0 p1 = some r) : MI l D cA yX0_distance wsX0_distance 1 21 [.ref (a 0), .int p0, .int p1] [bdW cA a B] r [bdW cA a B] := MI_of (cc := cX0_distance) (maxL := 3) (rt := some .int) (by decide +kernel) rfl (List.forall_mem_cons.mpr ⟨rfl, List.forall_mem_cons.mpr ⟨rfl, List.forall_mem_cons.mpr ⟨rfl, List.forall_mem_nil _⟩⟩⟩) (Nat.le_of_ble_eq_true rfl) (fun X e1 e2 e3 C => by subst e1; subst e2; subst e3; exact B_X0_distance C a B p0 p1 r h)
set_option maxRecDepth 100000 in
set_option maxHeartbeats 4000000 in
theorem nd_X0_distance : nd yX0_distance 2 := ⟨by decide +kernel, by decide +kernel, by decide +kernel⟩
set_option maxRecDepth 100000 in
set_option maxHeartbeats 4000000 in
theorem k_X0_distance {X : gX} {own : String} {cc : ByteArray} {nL : Nat} {ret : Option FieldType} {Ts : List Cond} {fr lm : Nat} {Q : State → Prop} {ms : List va_W} {L : List (Option Value)} {st : List Value} {pc pc' idx : Nat} {ρ : Type} {T : Int32 → Option ρ} {res : ρ} (C : cx X own cc nL ret Ts fr lm) (a : Nat → Nat) (B : tS) (p0 : Int32) (p1 : Int32) (is : List Nat) (hC : is.map (fun i => ms[i]?) = [some (bdW (gcA X) a B)]) (hn : is.Nodup) (hG : GoodIn Ts (wsV own idx RX0 yX0_distance wsX0_distance)) (hR : 1 + 1 ≤ fr ∧ 8 + (3 + 11) + 21 ≤ lm) (hst : (st.map fun v => v.category).sum ≤ 8) (hLn : L.length = nL) (d : decode cc pc = .ok (.invokevirtual idx, 3)) (hp : pc + 3 = pc') (h : bd (f_X0_distance B p0 p1) T = some res) (kk : ∀ (r : Int32), T r = some res → G X Q (ms) L (.int r :: st) pc') : G X Q ms L (.int p1 :: .int p0 :: .ref (a 0) :: st) pc := by
  obtain ⟨r, h1, h⟩ := ob h
  exact G_callVI C (As := [.int p0, .int p1]) (c_X0_distance (gl X) (gD X) (gcA X) a B p0 p1 r h1) hG rfl nd_X0_distance hR (q0 := 0) rfl rfl hC hn rfl rfl hst hLn d hp (G_ms (rpl_same (mc := [bdW (gcA X) a B]) hC) (kk r h))
theorem hi_X0_addTheme_X0 : ∀ w ∈ wsX00, w ∈ wsX0_addTheme := fun w h => List.mem_cons_of_mem _ (List.mem_append_right _ h)
theorem lk_X0_addTheme_1 : Cond.fieldLink RX0 28 "NoteThemes$Board" "themes" "I" ∈ wsX0_addTheme := List.mem_of_getElem? (i := 1) rfl
def f_X0_addTheme_17b   (k17 : Int32 → Int32 → tS → Option (Int32 × tS)) (x1 : Int32) (x2 : Int32) (B : tS) : Option (Int32 × tS) := (if (6 : Int32) ≤ x2 then some (x1, B) else (bd (f_X0_setVote B x2 x1 (-5 : Int32)) (fun B1 => k17 x1 (x2 + 1) B1)))
def f_X0_addTheme_17   : Nat → Int32 → Int32 → tS → Option (Int32 × tS)
  | 0 => fun _ _ _ => none
  | n + 1 => f_X0_addTheme_17b   (f_X0_addTheme_17   n)
set_option maxRecDepth 100000 in
set_option maxHeartbeats 4000000 in
theorem B_X0_addTheme_17b {X : gX} (C : cx X RX0 cX0_addTheme 3 (some .int) wsX0_addTheme 1 23) (a : Nat → Nat)  (r : Int32) (Bz : tS)  (k17 : Int32 → Int32 → tS → Option (Int32 × tS)) (hk17 : ∀ (x1 : Int32) (x2 : Int32) (B : tS), k17 x1 x2 B = some (r, Bz) → G X (QI X r [bdW (gcA X) a Bz]) [bdW (gcA X) a B] [some (.ref (a 0)), some (.int x1), some (.int x2)] [] 17) (x1 : Int32) (x2 : Int32) (B : tS) (h : f_X0_addTheme_17b   k17 x1 x2 B = some (r, Bz)) : G X (QI X r [bdW (gcA X) a Bz]) [bdW (gcA X) a B] [some (.ref (a 0)), some (.int x1), some (.int x2)] [] 17 := by
  unfold f_X0_addTheme_17b at h
  refine g_iload_n (pc' := 18) C dX0_addTheme_17 rfl rfl ?_
  refine g_bipush (pc' := 20) (v := 6) C dX0_addTheme_18 (by decide) rfl ?_
  refine g_icmp_ge (pc' := 23) (tgt := 37) C dX0_addTheme_20 (by decide) rfl h (fun c h => ?_) (fun c h => ?_)
  · refine g_iload_n (pc' := 38) C dX0_addTheme_37 rfl rfl ?_
    obtain ⟨rfl, rfl⟩ := pj2 (Option.some.inj h)
    exact g_iret C dX0_addTheme_38
  · refine g_aload_n (pc' := 24) C dX0_addTheme_23 rfl rfl ?_
    refine g_iload_n (pc' := 25) C dX0_addTheme_24 rfl rfl ?_
    refine g_iload_n (pc' := 26) C dX0_addTheme_25 rfl rfl ?_
    refine g_bipush (pc' := 28) (v := -5) C dX0_addTheme_26 (by decide) rfl ?_
    refine k_X0_setVote (pc' := 31) C a B x2 x1 (-5 : Int32) [0] rfl (by decide) gX0_addTheme_X0_setVote ⟨Nat.le_of_ble_eq_true rfl, Nat.le_of_ble_eq_true rfl⟩ (Nat.le_of_ble_eq_true rfl) rfl dX0_addTheme_28 rfl h (fun B1 h => ?_)
    refine g_iinc (pc' := 34) (v := (x2 + 1)) C dX0_addTheme_31 rfl rfl rfl (L' := [some (.ref (a 0)), some (.int x1), some (.int (x2 + 1))]) rfl ?_
    refine g_goto (pc' := 17) C dX0_addTheme_34 (by decide) ?_
    exact G_loc (lle_s (lle_s (lle_s lle_0))) (hk17 x1 (x2 + 1) B1 h)
set_option maxRecDepth 100000 in
set_option maxHeartbeats 4000000 in
theorem L_X0_addTheme_17 {X : gX} (C : cx X RX0 cX0_addTheme 3 (some .int) wsX0_addTheme 1 23) (a : Nat → Nat)  (r : Int32) (Bz : tS)  : ∀ (n : Nat) (x1 : Int32) (x2 : Int32) (B : tS), f_X0_addTheme_17   n x1 x2 B = some (r, Bz) → G X (QI X r [bdW (gcA X) a Bz]) [bdW (gcA X) a B] [some (.ref (a 0)), some (.int x1), some (.int x2)] [] 17 := by
  intro n
  induction n with
  | zero => intro x1 x2 B h; have h : (none : Option (Int32 × tS)) = some (r, Bz) := h; cases h
  | succ n ih => intro x1 x2 B h; exact B_X0_addTheme_17b C a  r Bz  (f_X0_addTheme_17   n) ih x1 x2 B h
def f_X0_addTheme (B : tS)  : Option (Int32 × tS) := f_X0_addTheme_17 1000 (B 5 0) (0 : Int32) (va_up B 5 (fun _ => ((B 5 0) + (1 : Int32))))
set_option maxRecDepth 100000 in
set_option maxHeartbeats 4000000 in
theorem B_X0_addTheme {X : gX} (C : cx X RX0 cX0_addTheme 3 (some .int) wsX0_addTheme 1 23) (a : Nat → Nat) (B : tS)  (r : Int32) (Bz : tS) (h : f_X0_addTheme B = some (r, Bz)) : G X (QI X r [bdW (gcA X) a Bz]) [bdW (gcA X) a B] [some (.ref (a 0)), none, none] [] 0 := by
  unfold f_X0_addTheme at h
  refine g_aload_n (pc' := 1) C dX0_addTheme_0 rfl rfl ?_
  refine gg_X0_5 (pc' := 4) (i := 0) C rfl hi_X0_addTheme_X0 lk_X0_addTheme_1 dX0_addTheme_1 rfl ?_
  refine g_istore_n (pc' := 5) C dX0_addTheme_4 (Nat.le_of_ble_eq_true rfl) rfl (L' := [some (.ref (a 0)), some (.int (B 5 0)), none]) rfl ?_
  refine g_aload_n (pc' := 6) C dX0_addTheme_5 rfl rfl ?_
  refine g_dup (pc' := 7) C dX0_addTheme_6 rfl rfl ?_
  refine gg_X0_5 (pc' := 10) (i := 0) C rfl hi_X0_addTheme_X0 lk_X0_addTheme_1 dX0_addTheme_7 rfl ?_
  refine g_iconst (pc' := 11) (v := 1) C dX0_addTheme_10 (by decide) rfl ?_
  refine g_iadd (pc' := 12) C dX0_addTheme_11 rfl ?_
  refine gp_X0_5 (pc' := 15) (i := 0) C rfl hi_X0_addTheme_X0 lk_X0_addTheme_1 dX0_addTheme_12 rfl ?_
  refine g_iconst (pc' := 16) (v := 0) C dX0_addTheme_15 (by decide) rfl ?_
  refine g_istore_n (pc' := 17) C dX0_addTheme_16 (Nat.le_of_ble_eq_true rfl) rfl (L' := [some (.ref (a 0)), some (.int (B 5 0)), some (.int (0 : Int32))]) rfl ?_
  exact G_loc (lle_s (lle_s (lle_s lle_0))) (L_X0_addTheme_17 C a r Bz 1000 (B 5 0) (0 : Int32) (va_up B 5 (fun _ => ((B 5 0) + (1 : Int32)))) h)
set_option maxRecDepth 100000 in
set_option maxHeartbeats 4000000 in
theorem c_X0_addTheme (l : Launch) (D : va_G) (cA : Nat → ClassId) (a : Nat → Nat) (B : tS)  (r : Int32) (Bz : tS) (h : f_X0_addTheme B = some (r, Bz)) : MI l D cA yX0_addTheme wsX0_addTheme 1 23 [.ref (a 0)] [bdW cA a B] r [bdW cA a Bz] := MI_of (cc := cX0_addTheme) (maxL := 3) (rt := some .int) (by decide +kernel) rfl (List.forall_mem_cons.mpr ⟨rfl, List.forall_mem_nil _⟩) (Nat.le_of_ble_eq_true rfl) (fun X e1 e2 e3 C => by subst e1; subst e2; subst e3; exact B_X0_addTheme C a B r Bz h)
set_option maxRecDepth 100000 in
set_option maxHeartbeats 4000000 in
theorem nd_X0_addTheme : nd yX0_addTheme 0 := ⟨by decide +kernel, by decide +kernel, by decide +kernel⟩
set_option maxRecDepth 100000 in
set_option maxHeartbeats 4000000 in
theorem k_X0_addTheme {X : gX} {own : String} {cc : ByteArray} {nL : Nat} {ret : Option FieldType} {Ts : List Cond} {fr lm : Nat} {Q : State → Prop} {ms : List va_W} {L : List (Option Value)} {st : List Value} {pc pc' idx : Nat} {ρ : Type} {T : Int32 → tS → Option ρ} {res : ρ} (C : cx X own cc nL ret Ts fr lm) (a : Nat → Nat) (B : tS)  (is : List Nat) (hC : is.map (fun i => ms[i]?) = [some (bdW (gcA X) a B)]) (hn : is.Nodup) (hG : GoodIn Ts (wsV own idx RX0 yX0_addTheme wsX0_addTheme)) (hR : 1 + 1 ≤ fr ∧ 8 + (3 + 11) + 23 ≤ lm) (hst : (st.map fun v => v.category).sum ≤ 8) (hLn : L.length = nL) (d : decode cc pc = .ok (.invokevirtual idx, 3)) (hp : pc + 3 = pc') (h : bd2 (f_X0_addTheme B) T = some res) (kk : ∀ (r : Int32) (Bz : tS), T r Bz = some res → G X Q (rpl ms is [bdW (gcA X) a Bz]) L (.int r :: st) pc') : G X Q ms L (.ref (a 0) :: st) pc := by
  obtain ⟨r, Bz, h1, h⟩ := ob2 h
  exact G_callVI C (As := []) (c_X0_addTheme (gl X) (gD X) (gcA X) a B r Bz h1) hG rfl nd_X0_addTheme hR (q0 := 0) rfl rfl hC hn rfl rfl hst hLn d hp (kk r Bz h)
theorem hi_X0_hasTheme_X0 : ∀ w ∈ wsX00, w ∈ wsX0_hasTheme := fun w h => List.mem_cons_of_mem _ (List.mem_append_right _ h)
theorem lk_X0_hasTheme_1 : Cond.fieldLink RX0 28 "NoteThemes$Board" "themes" "I" ∈ wsX0_hasTheme := List.mem_of_getElem? (i := 1) rfl
def f_X0_hasTheme (B : tS) (p0 : Int32) : Option (Int32) := (if p0 < 0 then some (0 : Int32) else (if (B 5 0) ≤ p0 then some (0 : Int32) else some (1 : Int32)))
set_option maxRecDepth 100000 in
set_option maxHeartbeats 4000000 in
theorem B_X0_hasTheme {X : gX} (C : cx X RX0 cX0_hasTheme 2 (some .boolean) wsX0_hasTheme 0 0) (a : Nat → Nat) (B : tS) (p0 : Int32) (r : Int32) (h : f_X0_hasTheme B p0 = some r) : G X (QI X r [bdW (gcA X) a B]) [bdW (gcA X) a B] [some (.ref (a 0)), some (.int p0)] [] 0 := by
  unfold f_X0_hasTheme at h
  refine g_iload_n (pc' := 1) C dX0_hasTheme_0 rfl rfl ?_
  refine g_if_lt (pc' := 4) (tgt := 16) C dX0_hasTheme_1 (by decide) rfl h (fun c h => ?_) (fun c h => ?_)
  · refine g_iconst (pc' := 17) (v := 0) C dX0_hasTheme_16 (by decide) rfl ?_
    obtain rfl := Option.some.inj h
    exact g_zret0 C rfl dX0_hasTheme_17
  · refine g_iload_n (pc' := 5) C dX0_hasTheme_4 rfl rfl ?_
    refine g_aload_n (pc' := 6) C dX0_hasTheme_5 rfl rfl ?_
    refine gg_X0_5 (pc' := 9) (i := 0) C rfl hi_X0_hasTheme_X0 lk_X0_hasTheme_1 dX0_hasTheme_6 rfl ?_
    refine g_icmp_ge (pc' := 12) (tgt := 16) C dX0_hasTheme_9 (by decide) rfl h (fun c h => ?_) (fun c h => ?_)
    · refine g_iconst (pc' := 17) (v := 0) C dX0_hasTheme_16 (by decide) rfl ?_
      obtain rfl := Option.some.inj h
      exact g_zret0 C rfl dX0_hasTheme_17
    · refine g_iconst (pc' := 13) (v := 1) C dX0_hasTheme_12 (by decide) rfl ?_
      refine g_goto (pc' := 17) C dX0_hasTheme_13 (by decide) ?_
      obtain rfl := Option.some.inj h
      exact g_zret0 C rfl dX0_hasTheme_17
set_option maxRecDepth 100000 in
set_option maxHeartbeats 4000000 in
theorem c_X0_hasTheme (l : Launch) (D : va_G) (cA : Nat → ClassId) (a : Nat → Nat) (B : tS) (p0 : Int32) (r : Int32) (h : f_X0_hasTheme B p0 = some r) : MI l D cA yX0_hasTheme wsX0_hasTheme 0 0 [.ref (a 0), .int p0] [bdW cA a B] r [bdW cA a B] := MI_of (cc := cX0_hasTheme) (maxL := 2) (rt := some .boolean) (by decide +kernel) rfl (List.forall_mem_cons.mpr ⟨rfl, List.forall_mem_cons.mpr ⟨rfl, List.forall_mem_nil _⟩⟩) (Nat.le_of_ble_eq_true rfl) (fun X e1 e2 e3 C => by subst e1; subst e2; subst e3; exact B_X0_hasTheme C a B p0 r h)
set_option maxRecDepth 100000 in
set_option maxHeartbeats 4000000 in
theorem nd_X0_hasTheme : nd yX0_hasTheme 1 := ⟨by decide +kernel, by decide +kernel, by decide +kernel⟩
set_option maxRecDepth 100000 in
set_option maxHeartbeats 4000000 in
theorem k_X0_hasTheme {X : gX} {own : String} {cc : ByteArray} {nL : Nat} {ret : Option FieldType} {Ts : List Cond} {fr lm : Nat} {Q : State → Prop} {ms : List va_W} {L : List (Option Value)} {st : List Value} {pc pc' idx : Nat} {ρ : Type} {T : Int32 → Option ρ} {res : ρ} (C : cx X own cc nL ret Ts fr lm) (a : Nat → Nat) (B : tS) (p0 : Int32) (is : List Nat) (hC : is.map (fun i => ms[i]?) = [some (bdW (gcA X) a B)]) (hn : is.Nodup) (hG : GoodIn Ts (wsV own idx RX0 yX0_hasTheme wsX0_hasTheme)) (hR : 0 + 1 ≤ fr ∧ 8 + (2 + 11) + 0 ≤ lm) (hst : (st.map fun v => v.category).sum ≤ 8) (hLn : L.length = nL) (d : decode cc pc = .ok (.invokevirtual idx, 3)) (hp : pc + 3 = pc') (h : bd (f_X0_hasTheme B p0) T = some res) (kk : ∀ (r : Int32), T r = some res → G X Q (ms) L (.int r :: st) pc') : G X Q ms L (.int p0 :: .ref (a 0) :: st) pc := by
  obtain ⟨r, h1, h⟩ := ob h
  exact G_callVI C (As := [.int p0]) (c_X0_hasTheme (gl X) (gD X) (gcA X) a B p0 r h1) hG rfl nd_X0_hasTheme hR (q0 := 0) rfl rfl hC hn rfl rfl hst hLn d hp (G_ms (rpl_same (mc := [bdW (gcA X) a B]) hC) (kk r h))
theorem hi_X0_mergeThemes_X0 : ∀ w ∈ wsX00, w ∈ wsX0_mergeThemes := fun w h => List.mem_cons_of_mem _ (List.mem_append_right _ h)
theorem lk_X0_mergeThemes_1 : Cond.fieldLink RX0 9 "NoteThemes$Board" "notes" "I" ∈ wsX0_mergeThemes := List.mem_of_getElem? (i := 1) rfl
theorem lk_X0_mergeThemes_2 : Cond.fieldLink RX0 22 "NoteThemes$Board" "themeOf" "[I" ∈ wsX0_mergeThemes := List.mem_of_getElem? (i := 2) rfl
def f_X0_mergeThemes_64 (p0 : Int32) (p1 : Int32) (k35 : Int32 → tS → Option (tS)) (x3 : Int32) (B : tS) : Option (tS) := k35 (x3 + 1) B
set_option maxRecDepth 100000 in
set_option maxHeartbeats 4000000 in
theorem B_X0_mergeThemes_64 {X : gX} (C : cx X RX0 cX0_mergeThemes 4 none wsX0_mergeThemes 2 46) (a : Nat → Nat) (p0 : Int32) (p1 : Int32) (Bz : tS) (k35 : Int32 → tS → Option (tS)) (hk35 : ∀ (x3 : Int32) (B : tS), k35 x3 B = some Bz → G X (QV X [bdW (gcA X) a Bz]) [bdW (gcA X) a B] [some (.ref (a 0)), some (.int p0), some (.int p1), some (.int x3)] [] 35) (x3 : Int32) (B : tS) (h : f_X0_mergeThemes_64 p0 p1 k35 x3 B = some Bz) : G X (QV X [bdW (gcA X) a Bz]) [bdW (gcA X) a B] [some (.ref (a 0)), some (.int p0), some (.int p1), some (.int x3)] [] 64 := by
  unfold f_X0_mergeThemes_64 at h
  refine g_iinc (pc' := 67) (v := (x3 + 1)) C dX0_mergeThemes_64 rfl rfl rfl (L' := [some (.ref (a 0)), some (.int p0), some (.int p1), some (.int (x3 + 1))]) rfl ?_
  refine g_goto (pc' := 35) C dX0_mergeThemes_67 (by decide) ?_
  exact G_loc (lle_s (lle_s (lle_s (lle_s lle_0)))) (hk35 (x3 + 1) B h)
def f_X0_mergeThemes_35b (p0 : Int32) (p1 : Int32)  (k35 : Int32 → tS → Option (tS)) (x3 : Int32) (B : tS) : Option (tS) := (if (6 : Int32) ≤ x3 then (bd (f_X0_removeThemeIfEmpty B p1) (fun B1 => some B1)) else (bd (f_X0_voteOf B x3 p0) (fun r2 => (if r2 = (-5 : Int32) then (bd (f_X0_voteOf B x3 p1) (fun r3 => (bd (f_X0_setVote B x3 p0 r3) (fun B4 => f_X0_mergeThemes_64 p0 p1 k35 x3 B4)))) else f_X0_mergeThemes_64 p0 p1 k35 x3 B))))
def f_X0_mergeThemes_35 (p0 : Int32) (p1 : Int32)  : Nat → Int32 → tS → Option (tS)
  | 0 => fun _ _ => none
  | n + 1 => f_X0_mergeThemes_35b p0 p1  (f_X0_mergeThemes_35 p0 p1  n)
set_option maxRecDepth 100000 in
set_option maxHeartbeats 4000000 in
theorem B_X0_mergeThemes_35b {X : gX} (C : cx X RX0 cX0_mergeThemes 4 none wsX0_mergeThemes 2 46) (a : Nat → Nat) (p0 : Int32) (p1 : Int32) (Bz : tS)  (k35 : Int32 → tS → Option (tS)) (hk35 : ∀ (x3 : Int32) (B : tS), k35 x3 B = some Bz → G X (QV X [bdW (gcA X) a Bz]) [bdW (gcA X) a B] [some (.ref (a 0)), some (.int p0), some (.int p1), some (.int x3)] [] 35) (x3 : Int32) (B : tS) (h : f_X0_mergeThemes_35b p0 p1  k35 x3 B = some Bz) : G X (QV X [bdW (gcA X) a Bz]) [bdW (gcA X) a B] [some (.ref (a 0)), some (.int p0), some (.int p1), some (.int x3)] [] 35 := by
  unfold f_X0_mergeThemes_35b at h
  refine g_iload_n (pc' := 36) C dX0_mergeThemes_35 rfl rfl ?_
  refine g_bipush (pc' := 38) (v := 6) C dX0_mergeThemes_36 (by decide) rfl ?_
  refine g_icmp_ge (pc' := 41) (tgt := 70) C dX0_mergeThemes_38 (by decide) rfl h (fun c h => ?_) (fun c h => ?_)
  · refine g_aload_n (pc' := 71) C dX0_mergeThemes_70 rfl rfl ?_
    refine g_iload_n (pc' := 72) C dX0_mergeThemes_71 rfl rfl ?_
    refine k_X0_removeThemeIfEmpty (pc' := 75) C a B p1 [0] rfl (by decide) gX0_mergeThemes_X0_removeThemeIfEmpty ⟨Nat.le_of_ble_eq_true rfl, Nat.le_of_ble_eq_true rfl⟩ (Nat.le_of_ble_eq_true rfl) rfl dX0_mergeThemes_72 rfl h (fun B1 h => ?_)
    obtain rfl := Option.some.inj h
    exact g_vret C dX0_mergeThemes_75
  · refine g_aload_n (pc' := 42) C dX0_mergeThemes_41 rfl rfl ?_
    refine g_iload_n (pc' := 43) C dX0_mergeThemes_42 rfl rfl ?_
    refine g_iload_n (pc' := 44) C dX0_mergeThemes_43 rfl rfl ?_
    refine k_X0_voteOf (pc' := 47) C a B x3 p0 [0] rfl (by decide) gX0_mergeThemes_X0_voteOf ⟨Nat.le_of_ble_eq_true rfl, Nat.le_of_ble_eq_true rfl⟩ (Nat.le_of_ble_eq_true rfl) rfl dX0_mergeThemes_44 rfl h (fun r2 h => ?_)
    refine g_bipush (pc' := 49) (v := -5) C dX0_mergeThemes_47 (by decide) rfl ?_
    refine g_icmp_ne (pc' := 52) (tgt := 64) C dX0_mergeThemes_49 (by decide) rfl h (fun c h => ?_) (fun c h => ?_)
    · refine g_aload_n (pc' := 53) C dX0_mergeThemes_52 rfl rfl ?_
      refine g_iload_n (pc' := 54) C dX0_mergeThemes_53 rfl rfl ?_
      refine g_iload_n (pc' := 55) C dX0_mergeThemes_54 rfl rfl ?_
      refine g_aload_n (pc' := 56) C dX0_mergeThemes_55 rfl rfl ?_
      refine g_iload_n (pc' := 57) C dX0_mergeThemes_56 rfl rfl ?_
      refine g_iload_n (pc' := 58) C dX0_mergeThemes_57 rfl rfl ?_
      refine k_X0_voteOf (pc' := 61) C a B x3 p1 [0] rfl (by decide) gX0_mergeThemes_X0_voteOf ⟨Nat.le_of_ble_eq_true rfl, Nat.le_of_ble_eq_true rfl⟩ (Nat.le_of_ble_eq_true rfl) rfl dX0_mergeThemes_58 rfl h (fun r3 h => ?_)
      refine k_X0_setVote (pc' := 64) C a B x3 p0 r3 [0] rfl (by decide) gX0_mergeThemes_X0_setVote ⟨Nat.le_of_ble_eq_true rfl, Nat.le_of_ble_eq_true rfl⟩ (Nat.le_of_ble_eq_true rfl) rfl dX0_mergeThemes_61 rfl h (fun B4 h => ?_)
      exact G_loc (lle_s (lle_s (lle_s (lle_s lle_0)))) (B_X0_mergeThemes_64 C a p0 p1 Bz k35 hk35 x3 B4 h)
    · exact G_loc (lle_s (lle_s (lle_s (lle_s lle_0)))) (B_X0_mergeThemes_64 C a p0 p1 Bz k35 hk35 x3 B h)
set_option maxRecDepth 100000 in
set_option maxHeartbeats 4000000 in
theorem L_X0_mergeThemes_35 {X : gX} (C : cx X RX0 cX0_mergeThemes 4 none wsX0_mergeThemes 2 46) (a : Nat → Nat) (p0 : Int32) (p1 : Int32) (Bz : tS)  : ∀ (n : Nat) (x3 : Int32) (B : tS), f_X0_mergeThemes_35 p0 p1  n x3 B = some Bz → G X (QV X [bdW (gcA X) a Bz]) [bdW (gcA X) a B] [some (.ref (a 0)), some (.int p0), some (.int p1), some (.int x3)] [] 35 := by
  intro n
  induction n with
  | zero => intro x3 B h; have h : (none : Option (tS)) = some Bz := h; cases h
  | succ n ih => intro x3 B h; exact B_X0_mergeThemes_35b C a p0 p1 Bz  (f_X0_mergeThemes_35 p0 p1  n) ih x3 B h
def f_X0_mergeThemes_27 (p0 : Int32) (p1 : Int32) (k2 : Int32 → tS → Option (tS)) (x3 : Int32) (B : tS) : Option (tS) := k2 (x3 + 1) B
set_option maxRecDepth 100000 in
set_option maxHeartbeats 4000000 in
theorem B_X0_mergeThemes_27 {X : gX} (C : cx X RX0 cX0_mergeThemes 4 none wsX0_mergeThemes 2 46) (a : Nat → Nat) (p0 : Int32) (p1 : Int32) (Bz : tS) (k2 : Int32 → tS → Option (tS)) (hk2 : ∀ (x3 : Int32) (B : tS), k2 x3 B = some Bz → G X (QV X [bdW (gcA X) a Bz]) [bdW (gcA X) a B] [some (.ref (a 0)), some (.int p0), some (.int p1), some (.int x3)] [] 2) (x3 : Int32) (B : tS) (h : f_X0_mergeThemes_27 p0 p1 k2 x3 B = some Bz) : G X (QV X [bdW (gcA X) a Bz]) [bdW (gcA X) a B] [some (.ref (a 0)), some (.int p0), some (.int p1), some (.int x3)] [] 27 := by
  unfold f_X0_mergeThemes_27 at h
  refine g_iinc (pc' := 30) (v := (x3 + 1)) C dX0_mergeThemes_27 rfl rfl rfl (L' := [some (.ref (a 0)), some (.int p0), some (.int p1), some (.int (x3 + 1))]) rfl ?_
  refine g_goto (pc' := 2) C dX0_mergeThemes_30 (by decide) ?_
  exact G_loc (lle_s (lle_s (lle_s (lle_s lle_0)))) (hk2 (x3 + 1) B h)
def f_X0_mergeThemes_2b (p0 : Int32) (p1 : Int32)  (k2 : Int32 → tS → Option (tS)) (x3 : Int32) (B : tS) : Option (tS) := (if (B 0 0) ≤ x3 then f_X0_mergeThemes_35 p0 p1 1000 (0 : Int32) B else (if x3 < 0 ∨ 20 ≤ x3.toNatClampNeg then none else (if (B 3 x3.toNatClampNeg) = p1 then (if x3 < 0 ∨ 20 ≤ x3.toNatClampNeg then none else f_X0_mergeThemes_27 p0 p1 k2 x3 (va_up B 3 (upd (B 3) x3.toNatClampNeg p0))) else f_X0_mergeThemes_27 p0 p1 k2 x3 B)))
def f_X0_mergeThemes_2 (p0 : Int32) (p1 : Int32)  : Nat → Int32 → tS → Option (tS)
  | 0 => fun _ _ => none
  | n + 1 => f_X0_mergeThemes_2b p0 p1  (f_X0_mergeThemes_2 p0 p1  n)
set_option maxRecDepth 100000 in
set_option maxHeartbeats 4000000 in
theorem B_X0_mergeThemes_2b {X : gX} (C : cx X RX0 cX0_mergeThemes 4 none wsX0_mergeThemes 2 46) (a : Nat → Nat) (p0 : Int32) (p1 : Int32) (Bz : tS)  (k2 : Int32 → tS → Option (tS)) (hk2 : ∀ (x3 : Int32) (B : tS), k2 x3 B = some Bz → G X (QV X [bdW (gcA X) a Bz]) [bdW (gcA X) a B] [some (.ref (a 0)), some (.int p0), some (.int p1), some (.int x3)] [] 2) (x3 : Int32) (B : tS) (h : f_X0_mergeThemes_2b p0 p1  k2 x3 B = some Bz) : G X (QV X [bdW (gcA X) a Bz]) [bdW (gcA X) a B] [some (.ref (a 0)), some (.int p0), some (.int p1), some (.int x3)] [] 2 := by
  unfold f_X0_mergeThemes_2b at h
  refine g_iload_n (pc' := 3) C dX0_mergeThemes_2 rfl rfl ?_
  refine g_aload_n (pc' := 4) C dX0_mergeThemes_3 rfl rfl ?_
  refine gg_X0_0 (pc' := 7) (i := 0) C rfl hi_X0_mergeThemes_X0 lk_X0_mergeThemes_1 dX0_mergeThemes_4 rfl ?_
  refine g_icmp_ge (pc' := 10) (tgt := 33) C dX0_mergeThemes_7 (by decide) rfl h (fun c h => ?_) (fun c h => ?_)
  · refine g_iconst (pc' := 34) (v := 0) C dX0_mergeThemes_33 (by decide) rfl ?_
    refine g_istore_n (pc' := 35) C dX0_mergeThemes_34 (Nat.le_of_ble_eq_true rfl) rfl (L' := [some (.ref (a 0)), some (.int p0), some (.int p1), some (.int (0 : Int32))]) rfl ?_
    exact G_loc (lle_s (lle_s (lle_s (lle_s lle_0)))) (L_X0_mergeThemes_35 C a p0 p1 Bz 1000 (0 : Int32) B h)
  · refine g_aload_n (pc' := 11) C dX0_mergeThemes_10 rfl rfl ?_
    refine gg_X0_3 (pc' := 14) (i := 0) C rfl hi_X0_mergeThemes_X0 lk_X0_mergeThemes_2 dX0_mergeThemes_11 rfl ?_
    refine g_iload_n (pc' := 15) C dX0_mergeThemes_14 rfl rfl ?_
    refine g_iald (pc' := 16) (i := 0) (j := 3) C rfl rfl dX0_mergeThemes_15 rfl h (fun h => ?_)
    refine g_iload_n (pc' := 17) C dX0_mergeThemes_16 rfl rfl ?_
    refine g_icmp_ne (pc' := 20) (tgt := 27) C dX0_mergeThemes_17 (by decide) rfl h (fun c h => ?_) (fun c h => ?_)
    · refine g_aload_n (pc' := 21) C dX0_mergeThemes_20 rfl rfl ?_
      refine gg_X0_3 (pc' := 24) (i := 0) C rfl hi_X0_mergeThemes_X0 lk_X0_mergeThemes_2 dX0_mergeThemes_21 rfl ?_
      refine g_iload_n (pc' := 25) C dX0_mergeThemes_24 rfl rfl ?_
      refine g_iload_n (pc' := 26) C dX0_mergeThemes_25 rfl rfl ?_
      refine g_iast (pc' := 27) (i := 0) (j := 3) (w' := bdW (gcA X) a (va_up B 3 (upd (B 3) x3.toNatClampNeg p0))) C rfl rfl rfl dX0_mergeThemes_26 rfl h (fun h => ?_)
      exact G_loc (lle_s (lle_s (lle_s (lle_s lle_0)))) (B_X0_mergeThemes_27 C a p0 p1 Bz k2 hk2 x3 (va_up B 3 (upd (B 3) x3.toNatClampNeg p0)) h)
    · exact G_loc (lle_s (lle_s (lle_s (lle_s lle_0)))) (B_X0_mergeThemes_27 C a p0 p1 Bz k2 hk2 x3 B h)
set_option maxRecDepth 100000 in
set_option maxHeartbeats 4000000 in
theorem L_X0_mergeThemes_2 {X : gX} (C : cx X RX0 cX0_mergeThemes 4 none wsX0_mergeThemes 2 46) (a : Nat → Nat) (p0 : Int32) (p1 : Int32) (Bz : tS)  : ∀ (n : Nat) (x3 : Int32) (B : tS), f_X0_mergeThemes_2 p0 p1  n x3 B = some Bz → G X (QV X [bdW (gcA X) a Bz]) [bdW (gcA X) a B] [some (.ref (a 0)), some (.int p0), some (.int p1), some (.int x3)] [] 2 := by
  intro n
  induction n with
  | zero => intro x3 B h; have h : (none : Option (tS)) = some Bz := h; cases h
  | succ n ih => intro x3 B h; exact B_X0_mergeThemes_2b C a p0 p1 Bz  (f_X0_mergeThemes_2 p0 p1  n) ih x3 B h
def f_X0_mergeThemes (B : tS) (p0 : Int32) (p1 : Int32) : Option (tS) := f_X0_mergeThemes_2 p0 p1 1000 (0 : Int32) B
set_option maxRecDepth 100000 in
set_option maxHeartbeats 4000000 in
theorem B_X0_mergeThemes {X : gX} (C : cx X RX0 cX0_mergeThemes 4 none wsX0_mergeThemes 2 46) (a : Nat → Nat) (B : tS) (p0 : Int32) (p1 : Int32) (Bz : tS) (h : f_X0_mergeThemes B p0 p1 = some Bz) : G X (QV X [bdW (gcA X) a Bz]) [bdW (gcA X) a B] [some (.ref (a 0)), some (.int p0), some (.int p1), none] [] 0 := by
  unfold f_X0_mergeThemes at h
  refine g_iconst (pc' := 1) (v := 0) C dX0_mergeThemes_0 (by decide) rfl ?_
  refine g_istore_n (pc' := 2) C dX0_mergeThemes_1 (Nat.le_of_ble_eq_true rfl) rfl (L' := [some (.ref (a 0)), some (.int p0), some (.int p1), some (.int (0 : Int32))]) rfl ?_
  exact G_loc (lle_s (lle_s (lle_s (lle_s lle_0)))) (L_X0_mergeThemes_2 C a p0 p1 Bz 1000 (0 : Int32) B h)
set_option maxRecDepth 100000 in
set_option maxHeartbeats 4000000 in
theorem c_X0_mergeThemes (l : Launch) (D : va_G) (cA : Nat → ClassId) (a : Nat → Nat) (B : tS) (p0 : Int32) (p1 : Int32) (Bz : tS) (h : f_X0_mergeThemes B p0 p1 = some Bz) : MV l D cA yX0_mergeThemes wsX0_mergeThemes 2 46 [.ref (a 0), .int p0, .int p1] [bdW cA a B]  [bdW cA a Bz] := MV_of (cc := cX0_mergeThemes) (maxL := 4) (by decide +kernel) rfl (List.forall_mem_cons.mpr ⟨rfl, List.forall_mem_cons.mpr ⟨rfl, List.forall_mem_cons.mpr ⟨rfl, List.forall_mem_nil _⟩⟩⟩) (Nat.le_of_ble_eq_true rfl) (fun X e1 e2 e3 C => by subst e1; subst e2; subst e3; exact B_X0_mergeThemes C a B p0 p1 Bz h)
set_option maxRecDepth 100000 in
set_option maxHeartbeats 4000000 in
theorem nd_X0_mergeThemes : nd yX0_mergeThemes 2 := ⟨by decide +kernel, by decide +kernel, by decide +kernel⟩
set_option maxRecDepth 100000 in
set_option maxHeartbeats 4000000 in
theorem k_X0_mergeThemes {X : gX} {own : String} {cc : ByteArray} {nL : Nat} {ret : Option FieldType} {Ts : List Cond} {fr lm : Nat} {Q : State → Prop} {ms : List va_W} {L : List (Option Value)} {st : List Value} {pc pc' idx : Nat} {ρ : Type} {T : tS → Option ρ} {res : ρ} (C : cx X own cc nL ret Ts fr lm) (a : Nat → Nat) (B : tS) (p0 : Int32) (p1 : Int32) (is : List Nat) (hC : is.map (fun i => ms[i]?) = [some (bdW (gcA X) a B)]) (hn : is.Nodup) (hG : GoodIn Ts (wsV own idx RX0 yX0_mergeThemes wsX0_mergeThemes)) (hR : 2 + 1 ≤ fr ∧ 8 + (4 + 11) + 46 ≤ lm) (hst : (st.map fun v => v.category).sum ≤ 8) (hLn : L.length = nL) (d : decode cc pc = .ok (.invokevirtual idx, 3)) (hp : pc + 3 = pc') (h : bd (f_X0_mergeThemes B p0 p1) T = some res) (kk : ∀ (Bz : tS), T Bz = some res → G X Q (rpl ms is [bdW (gcA X) a Bz]) L (st) pc') : G X Q ms L (.int p1 :: .int p0 :: .ref (a 0) :: st) pc := by
  obtain ⟨Bz, h1, h⟩ := ob h
  exact G_callVV C (As := [.int p0, .int p1]) (c_X0_mergeThemes (gl X) (gD X) (gcA X) a B p0 p1 Bz h1) hG rfl nd_X0_mergeThemes hR (q0 := 0) rfl rfl hC hn rfl rfl hst hLn d hp (kk Bz h)
def f_X0_votesFor_26 (B : tS) (p0 : Int32) (p1 : Int32) (k5 : Int32 → Int32 → Option (Int32)) (x3 : Int32) (x4 : Int32) : Option (Int32) := k5 x3 (x4 + 1)
set_option maxRecDepth 100000 in
set_option maxHeartbeats 4000000 in
theorem B_X0_votesFor_26 {X : gX} (C : cx X RX0 cX0_votesFor 5 (some .int) wsX0_votesFor 1 22) (a : Nat → Nat) (B : tS) (p0 : Int32) (p1 : Int32) (r : Int32) (k5 : Int32 → Int32 → Option (Int32)) (hk5 : ∀ (x3 : Int32) (x4 : Int32), k5 x3 x4 = some r → G X (QI X r [bdW (gcA X) a B]) [bdW (gcA X) a B] [some (.ref (a 0)), some (.int p0), some (.int p1), some (.int x3), some (.int x4)] [] 5) (x3 : Int32) (x4 : Int32) (h : f_X0_votesFor_26 B p0 p1 k5 x3 x4 = some r) : G X (QI X r [bdW (gcA X) a B]) [bdW (gcA X) a B] [some (.ref (a 0)), some (.int p0), some (.int p1), some (.int x3), some (.int x4)] [] 26 := by
  unfold f_X0_votesFor_26 at h
  refine g_iinc (pc' := 29) (v := (x4 + 1)) C dX0_votesFor_26 rfl rfl rfl (L' := [some (.ref (a 0)), some (.int p0), some (.int p1), some (.int x3), some (.int (x4 + 1))]) rfl ?_
  refine g_goto (pc' := 5) C dX0_votesFor_29 (by decide) ?_
  exact G_loc (lle_s (lle_s (lle_s (lle_s (lle_s lle_0))))) (hk5 x3 (x4 + 1) h)
def f_X0_votesFor_5b (B : tS) (p0 : Int32) (p1 : Int32)  (k5 : Int32 → Int32 → Option (Int32)) (x3 : Int32) (x4 : Int32) : Option (Int32) := (if (6 : Int32) ≤ x4 then some x3 else (bd (f_X0_voteOf B x4 p0) (fun r1 => (if r1 = p1 then f_X0_votesFor_26 B p0 p1 k5 (x3 + 1) x4 else f_X0_votesFor_26 B p0 p1 k5 x3 x4))))
def f_X0_votesFor_5 (B : tS) (p0 : Int32) (p1 : Int32)  : Nat → Int32 → Int32 → Option (Int32)
  | 0 => fun _ _ => none
  | n + 1 => f_X0_votesFor_5b B p0 p1  (f_X0_votesFor_5 B p0 p1  n)
set_option maxRecDepth 100000 in
set_option maxHeartbeats 4000000 in
theorem B_X0_votesFor_5b {X : gX} (C : cx X RX0 cX0_votesFor 5 (some .int) wsX0_votesFor 1 22) (a : Nat → Nat) (B : tS) (p0 : Int32) (p1 : Int32) (r : Int32)  (k5 : Int32 → Int32 → Option (Int32)) (hk5 : ∀ (x3 : Int32) (x4 : Int32), k5 x3 x4 = some r → G X (QI X r [bdW (gcA X) a B]) [bdW (gcA X) a B] [some (.ref (a 0)), some (.int p0), some (.int p1), some (.int x3), some (.int x4)] [] 5) (x3 : Int32) (x4 : Int32) (h : f_X0_votesFor_5b B p0 p1  k5 x3 x4 = some r) : G X (QI X r [bdW (gcA X) a B]) [bdW (gcA X) a B] [some (.ref (a 0)), some (.int p0), some (.int p1), some (.int x3), some (.int x4)] [] 5 := by
  unfold f_X0_votesFor_5b at h
  refine g_iload (pc' := 7) C dX0_votesFor_5 rfl rfl ?_
  refine g_bipush (pc' := 9) (v := 6) C dX0_votesFor_7 (by decide) rfl ?_
  refine g_icmp_ge (pc' := 12) (tgt := 32) C dX0_votesFor_9 (by decide) rfl h (fun c h => ?_) (fun c h => ?_)
  · refine g_iload_n (pc' := 33) C dX0_votesFor_32 rfl rfl ?_
    obtain rfl := Option.some.inj h
    exact g_iret C dX0_votesFor_33
  · refine g_aload_n (pc' := 13) C dX0_votesFor_12 rfl rfl ?_
    refine g_iload (pc' := 15) C dX0_votesFor_13 rfl rfl ?_
    refine g_iload_n (pc' := 16) C dX0_votesFor_15 rfl rfl ?_
    refine k_X0_voteOf (pc' := 19) C a B x4 p0 [0] rfl (by decide) gX0_votesFor_X0_voteOf ⟨Nat.le_of_ble_eq_true rfl, Nat.le_of_ble_eq_true rfl⟩ (Nat.le_of_ble_eq_true rfl) rfl dX0_votesFor_16 rfl h (fun r1 h => ?_)
    refine g_iload_n (pc' := 20) C dX0_votesFor_19 rfl rfl ?_
    refine g_icmp_ne (pc' := 23) (tgt := 26) C dX0_votesFor_20 (by decide) rfl h (fun c h => ?_) (fun c h => ?_)
    · refine g_iinc (pc' := 26) (v := (x3 + 1)) C dX0_votesFor_23 rfl rfl rfl (L' := [some (.ref (a 0)), some (.int p0), some (.int p1), some (.int (x3 + 1)), some (.int x4)]) rfl ?_
      exact G_loc (lle_s (lle_s (lle_s (lle_s (lle_s lle_0))))) (B_X0_votesFor_26 C a B p0 p1 r k5 hk5 (x3 + 1) x4 h)
    · exact G_loc (lle_s (lle_s (lle_s (lle_s (lle_s lle_0))))) (B_X0_votesFor_26 C a B p0 p1 r k5 hk5 x3 x4 h)
set_option maxRecDepth 100000 in
set_option maxHeartbeats 4000000 in
theorem L_X0_votesFor_5 {X : gX} (C : cx X RX0 cX0_votesFor 5 (some .int) wsX0_votesFor 1 22) (a : Nat → Nat) (B : tS) (p0 : Int32) (p1 : Int32) (r : Int32)  : ∀ (n : Nat) (x3 : Int32) (x4 : Int32), f_X0_votesFor_5 B p0 p1  n x3 x4 = some r → G X (QI X r [bdW (gcA X) a B]) [bdW (gcA X) a B] [some (.ref (a 0)), some (.int p0), some (.int p1), some (.int x3), some (.int x4)] [] 5 := by
  intro n
  induction n with
  | zero => intro x3 x4 h; have h : (none : Option (Int32)) = some r := h; cases h
  | succ n ih => intro x3 x4 h; exact B_X0_votesFor_5b C a B p0 p1 r  (f_X0_votesFor_5 B p0 p1  n) ih x3 x4 h
def f_X0_votesFor (B : tS) (p0 : Int32) (p1 : Int32) : Option (Int32) := f_X0_votesFor_5 B p0 p1 1000 (0 : Int32) (0 : Int32)
set_option maxRecDepth 100000 in
set_option maxHeartbeats 4000000 in
theorem B_X0_votesFor {X : gX} (C : cx X RX0 cX0_votesFor 5 (some .int) wsX0_votesFor 1 22) (a : Nat → Nat) (B : tS) (p0 : Int32) (p1 : Int32) (r : Int32) (h : f_X0_votesFor B p0 p1 = some r) : G X (QI X r [bdW (gcA X) a B]) [bdW (gcA X) a B] [some (.ref (a 0)), some (.int p0), some (.int p1), none, none] [] 0 := by
  unfold f_X0_votesFor at h
  refine g_iconst (pc' := 1) (v := 0) C dX0_votesFor_0 (by decide) rfl ?_
  refine g_istore_n (pc' := 2) C dX0_votesFor_1 (Nat.le_of_ble_eq_true rfl) rfl (L' := [some (.ref (a 0)), some (.int p0), some (.int p1), some (.int (0 : Int32)), none]) rfl ?_
  refine g_iconst (pc' := 3) (v := 0) C dX0_votesFor_2 (by decide) rfl ?_
  refine g_istore (pc' := 5) C dX0_votesFor_3 (Nat.le_of_ble_eq_true rfl) rfl (L' := [some (.ref (a 0)), some (.int p0), some (.int p1), some (.int (0 : Int32)), some (.int (0 : Int32))]) rfl ?_
  exact G_loc (lle_s (lle_s (lle_s (lle_s (lle_s lle_0))))) (L_X0_votesFor_5 C a B p0 p1 r 1000 (0 : Int32) (0 : Int32) h)
set_option maxRecDepth 100000 in
set_option maxHeartbeats 4000000 in
theorem c_X0_votesFor (l : Launch) (D : va_G) (cA : Nat → ClassId) (a : Nat → Nat) (B : tS) (p0 : Int32) (p1 : Int32) (r : Int32) (h : f_X0_votesFor B p0 p1 = some r) : MI l D cA yX0_votesFor wsX0_votesFor 1 22 [.ref (a 0), .int p0, .int p1] [bdW cA a B] r [bdW cA a B] := MI_of (cc := cX0_votesFor) (maxL := 5) (rt := some .int) (by decide +kernel) rfl (List.forall_mem_cons.mpr ⟨rfl, List.forall_mem_cons.mpr ⟨rfl, List.forall_mem_cons.mpr ⟨rfl, List.forall_mem_nil _⟩⟩⟩) (Nat.le_of_ble_eq_true rfl) (fun X e1 e2 e3 C => by subst e1; subst e2; subst e3; exact B_X0_votesFor C a B p0 p1 r h)
set_option maxRecDepth 100000 in
set_option maxHeartbeats 4000000 in
theorem nd_X0_votesFor : nd yX0_votesFor 2 := ⟨by decide +kernel, by decide +kernel, by decide +kernel⟩
set_option maxRecDepth 100000 in
set_option maxHeartbeats 4000000 in
theorem k_X0_votesFor {X : gX} {own : String} {cc : ByteArray} {nL : Nat} {ret : Option FieldType} {Ts : List Cond} {fr lm : Nat} {Q : State → Prop} {ms : List va_W} {L : List (Option Value)} {st : List Value} {pc pc' idx : Nat} {ρ : Type} {T : Int32 → Option ρ} {res : ρ} (C : cx X own cc nL ret Ts fr lm) (a : Nat → Nat) (B : tS) (p0 : Int32) (p1 : Int32) (is : List Nat) (hC : is.map (fun i => ms[i]?) = [some (bdW (gcA X) a B)]) (hn : is.Nodup) (hG : GoodIn Ts (wsV own idx RX0 yX0_votesFor wsX0_votesFor)) (hR : 1 + 1 ≤ fr ∧ 8 + (5 + 11) + 22 ≤ lm) (hst : (st.map fun v => v.category).sum ≤ 8) (hLn : L.length = nL) (d : decode cc pc = .ok (.invokevirtual idx, 3)) (hp : pc + 3 = pc') (h : bd (f_X0_votesFor B p0 p1) T = some res) (kk : ∀ (r : Int32), T r = some res → G X Q (ms) L (.int r :: st) pc') : G X Q ms L (.int p1 :: .int p0 :: .ref (a 0) :: st) pc := by
  obtain ⟨r, h1, h⟩ := ob h
  exact G_callVI C (As := [.int p0, .int p1]) (c_X0_votesFor (gl X) (gD X) (gcA X) a B p0 p1 r h1) hG rfl nd_X0_votesFor hR (q0 := 0) rfl rfl hC hn rfl rfl hst hLn d hp (G_ms (rpl_same (mc := [bdW (gcA X) a B]) hC) (kk r h))
theorem hi_X0_notesNear_X0 : ∀ w ∈ wsX00, w ∈ wsX0_notesNear := fun w h => List.mem_cons_of_mem _ (List.mem_append_right _ h)
theorem lk_X0_notesNear_1 : Cond.fieldLink RX0 9 "NoteThemes$Board" "notes" "I" ∈ wsX0_notesNear := List.mem_of_getElem? (i := 1) rfl
theorem lk_X0_notesNear_2 : Cond.fieldLink RX0 34 "NoteThemes$Board" "settings" "[I" ∈ wsX0_notesNear := List.mem_of_getElem? (i := 2) rfl
def f_X0_notesNear_35 (B : tS) (p0 : Int32) (k4 : Int32 → Int32 → Option (Int32)) (x2 : Int32) (x3 : Int32) : Option (Int32) := k4 x2 (x3 + 1)
set_option maxRecDepth 100000 in
set_option maxHeartbeats 4000000 in
theorem B_X0_notesNear_35 {X : gX} (C : cx X RX0 cX0_notesNear 4 (some .int) wsX0_notesNear 2 43) (a : Nat → Nat) (B : tS) (p0 : Int32) (r : Int32) (k4 : Int32 → Int32 → Option (Int32)) (hk4 : ∀ (x2 : Int32) (x3 : Int32), k4 x2 x3 = some r → G X (QI X r [bdW (gcA X) a B]) [bdW (gcA X) a B] [some (.ref (a 0)), some (.int p0), some (.int x2), some (.int x3)] [] 4) (x2 : Int32) (x3 : Int32) (h : f_X0_notesNear_35 B p0 k4 x2 x3 = some r) : G X (QI X r [bdW (gcA X) a B]) [bdW (gcA X) a B] [some (.ref (a 0)), some (.int p0), some (.int x2), some (.int x3)] [] 35 := by
  unfold f_X0_notesNear_35 at h
  refine g_iinc (pc' := 38) (v := (x3 + 1)) C dX0_notesNear_35 rfl rfl rfl (L' := [some (.ref (a 0)), some (.int p0), some (.int x2), some (.int (x3 + 1))]) rfl ?_
  refine g_goto (pc' := 4) C dX0_notesNear_38 (by decide) ?_
  exact G_loc (lle_s (lle_s (lle_s (lle_s lle_0)))) (hk4 x2 (x3 + 1) h)
def f_X0_notesNear_4b (B : tS) (p0 : Int32)  (k4 : Int32 → Int32 → Option (Int32)) (x2 : Int32) (x3 : Int32) : Option (Int32) := (if (B 0 0) ≤ x3 then some x2 else (if x3 = p0 then f_X0_notesNear_35 B p0 k4 x2 x3 else (bd (f_X0_distance B p0 x3) (fun r1 => (if (B 7 (0 : Int32).toNatClampNeg) < r1 then f_X0_notesNear_35 B p0 k4 x2 x3 else f_X0_notesNear_35 B p0 k4 (x2 + 1) x3)))))
def f_X0_notesNear_4 (B : tS) (p0 : Int32)  : Nat → Int32 → Int32 → Option (Int32)
  | 0 => fun _ _ => none
  | n + 1 => f_X0_notesNear_4b B p0  (f_X0_notesNear_4 B p0  n)
set_option maxRecDepth 100000 in
set_option maxHeartbeats 4000000 in
theorem B_X0_notesNear_4b {X : gX} (C : cx X RX0 cX0_notesNear 4 (some .int) wsX0_notesNear 2 43) (a : Nat → Nat) (B : tS) (p0 : Int32) (r : Int32)  (k4 : Int32 → Int32 → Option (Int32)) (hk4 : ∀ (x2 : Int32) (x3 : Int32), k4 x2 x3 = some r → G X (QI X r [bdW (gcA X) a B]) [bdW (gcA X) a B] [some (.ref (a 0)), some (.int p0), some (.int x2), some (.int x3)] [] 4) (x2 : Int32) (x3 : Int32) (h : f_X0_notesNear_4b B p0  k4 x2 x3 = some r) : G X (QI X r [bdW (gcA X) a B]) [bdW (gcA X) a B] [some (.ref (a 0)), some (.int p0), some (.int x2), some (.int x3)] [] 4 := by
  unfold f_X0_notesNear_4b at h
  refine g_iload_n (pc' := 5) C dX0_notesNear_4 rfl rfl ?_
  refine g_aload_n (pc' := 6) C dX0_notesNear_5 rfl rfl ?_
  refine gg_X0_0 (pc' := 9) (i := 0) C rfl hi_X0_notesNear_X0 lk_X0_notesNear_1 dX0_notesNear_6 rfl ?_
  refine g_icmp_ge (pc' := 12) (tgt := 41) C dX0_notesNear_9 (by decide) rfl h (fun c h => ?_) (fun c h => ?_)
  · refine g_iload_n (pc' := 42) C dX0_notesNear_41 rfl rfl ?_
    obtain rfl := Option.some.inj h
    exact g_iret C dX0_notesNear_42
  · refine g_iload_n (pc' := 13) C dX0_notesNear_12 rfl rfl ?_
    refine g_iload_n (pc' := 14) C dX0_notesNear_13 rfl rfl ?_
    refine g_icmp_eq (pc' := 17) (tgt := 35) C dX0_notesNear_14 (by decide) rfl h (fun c h => ?_) (fun c h => ?_)
    · exact G_loc (lle_s (lle_s (lle_s (lle_s lle_0)))) (B_X0_notesNear_35 C a B p0 r k4 hk4 x2 x3 h)
    · refine g_aload_n (pc' := 18) C dX0_notesNear_17 rfl rfl ?_
      refine g_iload_n (pc' := 19) C dX0_notesNear_18 rfl rfl ?_
      refine g_iload_n (pc' := 20) C dX0_notesNear_19 rfl rfl ?_
      refine k_X0_distance (pc' := 23) C a B p0 x3 [0] rfl (by decide) gX0_notesNear_X0_distance ⟨Nat.le_of_ble_eq_true rfl, Nat.le_of_ble_eq_true rfl⟩ (Nat.le_of_ble_eq_true rfl) rfl dX0_notesNear_20 rfl h (fun r1 h => ?_)
      refine g_aload_n (pc' := 24) C dX0_notesNear_23 rfl rfl ?_
      refine gg_X0_7 (pc' := 27) (i := 0) C rfl hi_X0_notesNear_X0 lk_X0_notesNear_2 dX0_notesNear_24 rfl ?_
      refine g_iconst (pc' := 28) (v := 0) C dX0_notesNear_27 (by decide) rfl ?_
      refine g_iald0 (pc' := 29) (i := 0) (j := 6) C rfl rfl dX0_notesNear_28 rfl (by unfold vp_in; decide) ?_
      refine g_icmp_gt (pc' := 32) (tgt := 35) C dX0_notesNear_29 (by decide) rfl h (fun c h => ?_) (fun c h => ?_)
      · exact G_loc (lle_s (lle_s (lle_s (lle_s lle_0)))) (B_X0_notesNear_35 C a B p0 r k4 hk4 x2 x3 h)
      · refine g_iinc (pc' := 35) (v := (x2 + 1)) C dX0_notesNear_32 rfl rfl rfl (L' := [some (.ref (a 0)), some (.int p0), some (.int (x2 + 1)), some (.int x3)]) rfl ?_
        exact G_loc (lle_s (lle_s (lle_s (lle_s lle_0)))) (B_X0_notesNear_35 C a B p0 r k4 hk4 (x2 + 1) x3 h)
set_option maxRecDepth 100000 in
set_option maxHeartbeats 4000000 in
theorem L_X0_notesNear_4 {X : gX} (C : cx X RX0 cX0_notesNear 4 (some .int) wsX0_notesNear 2 43) (a : Nat → Nat) (B : tS) (p0 : Int32) (r : Int32)  : ∀ (n : Nat) (x2 : Int32) (x3 : Int32), f_X0_notesNear_4 B p0  n x2 x3 = some r → G X (QI X r [bdW (gcA X) a B]) [bdW (gcA X) a B] [some (.ref (a 0)), some (.int p0), some (.int x2), some (.int x3)] [] 4 := by
  intro n
  induction n with
  | zero => intro x2 x3 h; have h : (none : Option (Int32)) = some r := h; cases h
  | succ n ih => intro x2 x3 h; exact B_X0_notesNear_4b C a B p0 r  (f_X0_notesNear_4 B p0  n) ih x2 x3 h
def f_X0_notesNear (B : tS) (p0 : Int32) : Option (Int32) := f_X0_notesNear_4 B p0 1000 (0 : Int32) (0 : Int32)
set_option maxRecDepth 100000 in
set_option maxHeartbeats 4000000 in
theorem B_X0_notesNear {X : gX} (C : cx X RX0 cX0_notesNear 4 (some .int) wsX0_notesNear 2 43) (a : Nat → Nat) (B : tS) (p0 : Int32) (r : Int32) (h : f_X0_notesNear B p0 = some r) : G X (QI X r [bdW (gcA X) a B]) [bdW (gcA X) a B] [some (.ref (a 0)), some (.int p0), none, none] [] 0 := by
  unfold f_X0_notesNear at h
  refine g_iconst (pc' := 1) (v := 0) C dX0_notesNear_0 (by decide) rfl ?_
  refine g_istore_n (pc' := 2) C dX0_notesNear_1 (Nat.le_of_ble_eq_true rfl) rfl (L' := [some (.ref (a 0)), some (.int p0), some (.int (0 : Int32)), none]) rfl ?_
  refine g_iconst (pc' := 3) (v := 0) C dX0_notesNear_2 (by decide) rfl ?_
  refine g_istore_n (pc' := 4) C dX0_notesNear_3 (Nat.le_of_ble_eq_true rfl) rfl (L' := [some (.ref (a 0)), some (.int p0), some (.int (0 : Int32)), some (.int (0 : Int32))]) rfl ?_
  exact G_loc (lle_s (lle_s (lle_s (lle_s lle_0)))) (L_X0_notesNear_4 C a B p0 r 1000 (0 : Int32) (0 : Int32) h)
set_option maxRecDepth 100000 in
set_option maxHeartbeats 4000000 in
theorem c_X0_notesNear (l : Launch) (D : va_G) (cA : Nat → ClassId) (a : Nat → Nat) (B : tS) (p0 : Int32) (r : Int32) (h : f_X0_notesNear B p0 = some r) : MI l D cA yX0_notesNear wsX0_notesNear 2 43 [.ref (a 0), .int p0] [bdW cA a B] r [bdW cA a B] := MI_of (cc := cX0_notesNear) (maxL := 4) (rt := some .int) (by decide +kernel) rfl (List.forall_mem_cons.mpr ⟨rfl, List.forall_mem_cons.mpr ⟨rfl, List.forall_mem_nil _⟩⟩) (Nat.le_of_ble_eq_true rfl) (fun X e1 e2 e3 C => by subst e1; subst e2; subst e3; exact B_X0_notesNear C a B p0 r h)
set_option maxRecDepth 100000 in
set_option maxHeartbeats 4000000 in
theorem nd_X0_notesNear : nd yX0_notesNear 1 := ⟨by decide +kernel, by decide +kernel, by decide +kernel⟩
set_option maxRecDepth 100000 in
set_option maxHeartbeats 4000000 in
theorem k_X0_notesNear {X : gX} {own : String} {cc : ByteArray} {nL : Nat} {ret : Option FieldType} {Ts : List Cond} {fr lm : Nat} {Q : State → Prop} {ms : List va_W} {L : List (Option Value)} {st : List Value} {pc pc' idx : Nat} {ρ : Type} {T : Int32 → Option ρ} {res : ρ} (C : cx X own cc nL ret Ts fr lm) (a : Nat → Nat) (B : tS) (p0 : Int32) (is : List Nat) (hC : is.map (fun i => ms[i]?) = [some (bdW (gcA X) a B)]) (hn : is.Nodup) (hG : GoodIn Ts (wsV own idx RX0 yX0_notesNear wsX0_notesNear)) (hR : 2 + 1 ≤ fr ∧ 8 + (4 + 11) + 43 ≤ lm) (hst : (st.map fun v => v.category).sum ≤ 8) (hLn : L.length = nL) (d : decode cc pc = .ok (.invokevirtual idx, 3)) (hp : pc + 3 = pc') (h : bd (f_X0_notesNear B p0) T = some res) (kk : ∀ (r : Int32), T r = some res → G X Q (ms) L (.int r :: st) pc') : G X Q ms L (.int p0 :: .ref (a 0) :: st) pc := by
  obtain ⟨r, h1, h⟩ := ob h
  exact G_callVI C (As := [.int p0]) (c_X0_notesNear (gl X) (gD X) (gcA X) a B p0 r h1) hG rfl nd_X0_notesNear hR (q0 := 0) rfl rfl hC hn rfl rfl hst hLn d hp (G_ms (rpl_same (mc := [bdW (gcA X) a B]) hC) (kk r h))
theorem hi_X0_dotsOfTheme_X0 : ∀ w ∈ wsX00, w ∈ wsX0_dotsOfTheme := fun w h => List.mem_cons_of_mem _ (List.mem_append_right _ h)
theorem lk_X0_dotsOfTheme_1 : Cond.fieldLink RX0 9 "NoteThemes$Board" "notes" "I" ∈ wsX0_dotsOfTheme := List.mem_of_getElem? (i := 1) rfl
theorem lk_X0_dotsOfTheme_2 : Cond.fieldLink RX0 22 "NoteThemes$Board" "themeOf" "[I" ∈ wsX0_dotsOfTheme := List.mem_of_getElem? (i := 2) rfl
def f_X0_dotsOfTheme_30 (B : tS) (p0 : Int32) (k4 : Int32 → Int32 → Option (Int32)) (x2 : Int32) (x3 : Int32) : Option (Int32) := k4 x2 (x3 + 1)
set_option maxRecDepth 100000 in
set_option maxHeartbeats 4000000 in
theorem B_X0_dotsOfTheme_30 {X : gX} (C : cx X RX0 cX0_dotsOfTheme 4 (some .int) wsX0_dotsOfTheme 2 45) (a : Nat → Nat) (B : tS) (p0 : Int32) (r : Int32) (k4 : Int32 → Int32 → Option (Int32)) (hk4 : ∀ (x2 : Int32) (x3 : Int32), k4 x2 x3 = some r → G X (QI X r [bdW (gcA X) a B]) [bdW (gcA X) a B] [some (.ref (a 0)), some (.int p0), some (.int x2), some (.int x3)] [] 4) (x2 : Int32) (x3 : Int32) (h : f_X0_dotsOfTheme_30 B p0 k4 x2 x3 = some r) : G X (QI X r [bdW (gcA X) a B]) [bdW (gcA X) a B] [some (.ref (a 0)), some (.int p0), some (.int x2), some (.int x3)] [] 30 := by
  unfold f_X0_dotsOfTheme_30 at h
  refine g_iinc (pc' := 33) (v := (x3 + 1)) C dX0_dotsOfTheme_30 rfl rfl rfl (L' := [some (.ref (a 0)), some (.int p0), some (.int x2), some (.int (x3 + 1))]) rfl ?_
  refine g_goto (pc' := 4) C dX0_dotsOfTheme_33 (by decide) ?_
  exact G_loc (lle_s (lle_s (lle_s (lle_s lle_0)))) (hk4 x2 (x3 + 1) h)
def f_X0_dotsOfTheme_4b (B : tS) (p0 : Int32)  (k4 : Int32 → Int32 → Option (Int32)) (x2 : Int32) (x3 : Int32) : Option (Int32) := (if (B 0 0) ≤ x3 then some x2 else (if x3 < 0 ∨ 20 ≤ x3.toNatClampNeg then none else (if (B 3 x3.toNatClampNeg) = p0 then (bd (f_X0_dotsOn B x3) (fun r1 => f_X0_dotsOfTheme_30 B p0 k4 (x2 + r1) x3)) else f_X0_dotsOfTheme_30 B p0 k4 x2 x3)))
def f_X0_dotsOfTheme_4 (B : tS) (p0 : Int32)  : Nat → Int32 → Int32 → Option (Int32)
  | 0 => fun _ _ => none
  | n + 1 => f_X0_dotsOfTheme_4b B p0  (f_X0_dotsOfTheme_4 B p0  n)
set_option maxRecDepth 100000 in
set_option maxHeartbeats 4000000 in
theorem B_X0_dotsOfTheme_4b {X : gX} (C : cx X RX0 cX0_dotsOfTheme 4 (some .int) wsX0_dotsOfTheme 2 45) (a : Nat → Nat) (B : tS) (p0 : Int32) (r : Int32)  (k4 : Int32 → Int32 → Option (Int32)) (hk4 : ∀ (x2 : Int32) (x3 : Int32), k4 x2 x3 = some r → G X (QI X r [bdW (gcA X) a B]) [bdW (gcA X) a B] [some (.ref (a 0)), some (.int p0), some (.int x2), some (.int x3)] [] 4) (x2 : Int32) (x3 : Int32) (h : f_X0_dotsOfTheme_4b B p0  k4 x2 x3 = some r) : G X (QI X r [bdW (gcA X) a B]) [bdW (gcA X) a B] [some (.ref (a 0)), some (.int p0), some (.int x2), some (.int x3)] [] 4 := by
  unfold f_X0_dotsOfTheme_4b at h
  refine g_iload_n (pc' := 5) C dX0_dotsOfTheme_4 rfl rfl ?_
  refine g_aload_n (pc' := 6) C dX0_dotsOfTheme_5 rfl rfl ?_
  refine gg_X0_0 (pc' := 9) (i := 0) C rfl hi_X0_dotsOfTheme_X0 lk_X0_dotsOfTheme_1 dX0_dotsOfTheme_6 rfl ?_
  refine g_icmp_ge (pc' := 12) (tgt := 36) C dX0_dotsOfTheme_9 (by decide) rfl h (fun c h => ?_) (fun c h => ?_)
  · refine g_iload_n (pc' := 37) C dX0_dotsOfTheme_36 rfl rfl ?_
    obtain rfl := Option.some.inj h
    exact g_iret C dX0_dotsOfTheme_37
  · refine g_aload_n (pc' := 13) C dX0_dotsOfTheme_12 rfl rfl ?_
    refine gg_X0_3 (pc' := 16) (i := 0) C rfl hi_X0_dotsOfTheme_X0 lk_X0_dotsOfTheme_2 dX0_dotsOfTheme_13 rfl ?_
    refine g_iload_n (pc' := 17) C dX0_dotsOfTheme_16 rfl rfl ?_
    refine g_iald (pc' := 18) (i := 0) (j := 3) C rfl rfl dX0_dotsOfTheme_17 rfl h (fun h => ?_)
    refine g_iload_n (pc' := 19) C dX0_dotsOfTheme_18 rfl rfl ?_
    refine g_icmp_ne (pc' := 22) (tgt := 30) C dX0_dotsOfTheme_19 (by decide) rfl h (fun c h => ?_) (fun c h => ?_)
    · refine g_iload_n (pc' := 23) C dX0_dotsOfTheme_22 rfl rfl ?_
      refine g_aload_n (pc' := 24) C dX0_dotsOfTheme_23 rfl rfl ?_
      refine g_iload_n (pc' := 25) C dX0_dotsOfTheme_24 rfl rfl ?_
      refine k_X0_dotsOn (pc' := 28) C a B x3 [0] rfl (by decide) gX0_dotsOfTheme_X0_dotsOn ⟨Nat.le_of_ble_eq_true rfl, Nat.le_of_ble_eq_true rfl⟩ (Nat.le_of_ble_eq_true rfl) rfl dX0_dotsOfTheme_25 rfl h (fun r1 h => ?_)
      refine g_iadd (pc' := 29) C dX0_dotsOfTheme_28 rfl ?_
      refine g_istore_n (pc' := 30) C dX0_dotsOfTheme_29 (Nat.le_of_ble_eq_true rfl) rfl (L' := [some (.ref (a 0)), some (.int p0), some (.int (x2 + r1)), some (.int x3)]) rfl ?_
      exact G_loc (lle_s (lle_s (lle_s (lle_s lle_0)))) (B_X0_dotsOfTheme_30 C a B p0 r k4 hk4 (x2 + r1) x3 h)
    · exact G_loc (lle_s (lle_s (lle_s (lle_s lle_0)))) (B_X0_dotsOfTheme_30 C a B p0 r k4 hk4 x2 x3 h)
set_option maxRecDepth 100000 in
set_option maxHeartbeats 4000000 in
theorem L_X0_dotsOfTheme_4 {X : gX} (C : cx X RX0 cX0_dotsOfTheme 4 (some .int) wsX0_dotsOfTheme 2 45) (a : Nat → Nat) (B : tS) (p0 : Int32) (r : Int32)  : ∀ (n : Nat) (x2 : Int32) (x3 : Int32), f_X0_dotsOfTheme_4 B p0  n x2 x3 = some r → G X (QI X r [bdW (gcA X) a B]) [bdW (gcA X) a B] [some (.ref (a 0)), some (.int p0), some (.int x2), some (.int x3)] [] 4 := by
  intro n
  induction n with
  | zero => intro x2 x3 h; have h : (none : Option (Int32)) = some r := h; cases h
  | succ n ih => intro x2 x3 h; exact B_X0_dotsOfTheme_4b C a B p0 r  (f_X0_dotsOfTheme_4 B p0  n) ih x2 x3 h
def f_X0_dotsOfTheme (B : tS) (p0 : Int32) : Option (Int32) := f_X0_dotsOfTheme_4 B p0 1000 (0 : Int32) (0 : Int32)
set_option maxRecDepth 100000 in
set_option maxHeartbeats 4000000 in
theorem B_X0_dotsOfTheme {X : gX} (C : cx X RX0 cX0_dotsOfTheme 4 (some .int) wsX0_dotsOfTheme 2 45) (a : Nat → Nat) (B : tS) (p0 : Int32) (r : Int32) (h : f_X0_dotsOfTheme B p0 = some r) : G X (QI X r [bdW (gcA X) a B]) [bdW (gcA X) a B] [some (.ref (a 0)), some (.int p0), none, none] [] 0 := by
  unfold f_X0_dotsOfTheme at h
  refine g_iconst (pc' := 1) (v := 0) C dX0_dotsOfTheme_0 (by decide) rfl ?_
  refine g_istore_n (pc' := 2) C dX0_dotsOfTheme_1 (Nat.le_of_ble_eq_true rfl) rfl (L' := [some (.ref (a 0)), some (.int p0), some (.int (0 : Int32)), none]) rfl ?_
  refine g_iconst (pc' := 3) (v := 0) C dX0_dotsOfTheme_2 (by decide) rfl ?_
  refine g_istore_n (pc' := 4) C dX0_dotsOfTheme_3 (Nat.le_of_ble_eq_true rfl) rfl (L' := [some (.ref (a 0)), some (.int p0), some (.int (0 : Int32)), some (.int (0 : Int32))]) rfl ?_
  exact G_loc (lle_s (lle_s (lle_s (lle_s lle_0)))) (L_X0_dotsOfTheme_4 C a B p0 r 1000 (0 : Int32) (0 : Int32) h)
set_option maxRecDepth 100000 in
set_option maxHeartbeats 4000000 in
theorem c_X0_dotsOfTheme (l : Launch) (D : va_G) (cA : Nat → ClassId) (a : Nat → Nat) (B : tS) (p0 : Int32) (r : Int32) (h : f_X0_dotsOfTheme B p0 = some r) : MI l D cA yX0_dotsOfTheme wsX0_dotsOfTheme 2 45 [.ref (a 0), .int p0] [bdW cA a B] r [bdW cA a B] := MI_of (cc := cX0_dotsOfTheme) (maxL := 4) (rt := some .int) (by decide +kernel) rfl (List.forall_mem_cons.mpr ⟨rfl, List.forall_mem_cons.mpr ⟨rfl, List.forall_mem_nil _⟩⟩) (Nat.le_of_ble_eq_true rfl) (fun X e1 e2 e3 C => by subst e1; subst e2; subst e3; exact B_X0_dotsOfTheme C a B p0 r h)
set_option maxRecDepth 100000 in
set_option maxHeartbeats 4000000 in
theorem nd_X0_dotsOfTheme : nd yX0_dotsOfTheme 1 := ⟨by decide +kernel, by decide +kernel, by decide +kernel⟩
set_option maxRecDepth 100000 in
set_option maxHeartbeats 4000000 in
theorem k_X0_dotsOfTheme {X : gX} {own : String} {cc : ByteArray} {nL : Nat} {ret : Option FieldType} {Ts : List Cond} {fr lm : Nat} {Q : State → Prop} {ms : List va_W} {L : List (Option Value)} {st : List Value} {pc pc' idx : Nat} {ρ : Type} {T : Int32 → Option ρ} {res : ρ} (C : cx X own cc nL ret Ts fr lm) (a : Nat → Nat) (B : tS) (p0 : Int32) (is : List Nat) (hC : is.map (fun i => ms[i]?) = [some (bdW (gcA X) a B)]) (hn : is.Nodup) (hG : GoodIn Ts (wsV own idx RX0 yX0_dotsOfTheme wsX0_dotsOfTheme)) (hR : 2 + 1 ≤ fr ∧ 8 + (4 + 11) + 45 ≤ lm) (hst : (st.map fun v => v.category).sum ≤ 8) (hLn : L.length = nL) (d : decode cc pc = .ok (.invokevirtual idx, 3)) (hp : pc + 3 = pc') (h : bd (f_X0_dotsOfTheme B p0) T = some res) (kk : ∀ (r : Int32), T r = some res → G X Q (ms) L (.int r :: st) pc') : G X Q ms L (.int p0 :: .ref (a 0) :: st) pc := by
  obtain ⟨r, h1, h⟩ := ob h
  exact G_callVI C (As := [.int p0]) (c_X0_dotsOfTheme (gl X) (gD X) (gcA X) a B p0 r h1) hG rfl nd_X0_dotsOfTheme hR (q0 := 0) rfl rfl hC hn rfl rfl hst hLn d hp (G_ms (rpl_same (mc := [bdW (gcA X) a B]) hC) (kk r h))
def f_X0_votersOf (B : tS) (p0 : Int32) : Option (Int32) := (bd (f_X0_votesFor B p0 (-5 : Int32)) (fun r1 => some ((6 : Int32) - r1)))
set_option maxRecDepth 100000 in
set_option maxHeartbeats 4000000 in
theorem B_X0_votersOf {X : gX} (C : cx X RX0 cX0_votersOf 2 (some .int) wsX0_votersOf 2 46) (a : Nat → Nat) (B : tS) (p0 : Int32) (r : Int32) (h : f_X0_votersOf B p0 = some r) : G X (QI X r [bdW (gcA X) a B]) [bdW (gcA X) a B] [some (.ref (a 0)), some (.int p0)] [] 0 := by
  unfold f_X0_votersOf at h
  refine g_bipush (pc' := 2) (v := 6) C dX0_votersOf_0 (by decide) rfl ?_
  refine g_aload_n (pc' := 3) C dX0_votersOf_2 rfl rfl ?_
  refine g_iload_n (pc' := 4) C dX0_votersOf_3 rfl rfl ?_
  refine g_bipush (pc' := 6) (v := -5) C dX0_votersOf_4 (by decide) rfl ?_
  refine k_X0_votesFor (pc' := 9) C a B p0 (-5 : Int32) [0] rfl (by decide) gX0_votersOf_X0_votesFor ⟨Nat.le_of_ble_eq_true rfl, Nat.le_of_ble_eq_true rfl⟩ (Nat.le_of_ble_eq_true rfl) rfl dX0_votersOf_6 rfl h (fun r1 h => ?_)
  refine g_isub (pc' := 10) C dX0_votersOf_9 rfl ?_
  obtain rfl := Option.some.inj h
  exact g_iret C dX0_votersOf_10
set_option maxRecDepth 100000 in
set_option maxHeartbeats 4000000 in
theorem c_X0_votersOf (l : Launch) (D : va_G) (cA : Nat → ClassId) (a : Nat → Nat) (B : tS) (p0 : Int32) (r : Int32) (h : f_X0_votersOf B p0 = some r) : MI l D cA yX0_votersOf wsX0_votersOf 2 46 [.ref (a 0), .int p0] [bdW cA a B] r [bdW cA a B] := MI_of (cc := cX0_votersOf) (maxL := 2) (rt := some .int) (by decide +kernel) rfl (List.forall_mem_cons.mpr ⟨rfl, List.forall_mem_cons.mpr ⟨rfl, List.forall_mem_nil _⟩⟩) (Nat.le_of_ble_eq_true rfl) (fun X e1 e2 e3 C => by subst e1; subst e2; subst e3; exact B_X0_votersOf C a B p0 r h)
set_option maxRecDepth 100000 in
set_option maxHeartbeats 4000000 in
theorem nd_X0_votersOf : nd yX0_votersOf 1 := ⟨by decide +kernel, by decide +kernel, by decide +kernel⟩
set_option maxRecDepth 100000 in
set_option maxHeartbeats 4000000 in
theorem k_X0_votersOf {X : gX} {own : String} {cc : ByteArray} {nL : Nat} {ret : Option FieldType} {Ts : List Cond} {fr lm : Nat} {Q : State → Prop} {ms : List va_W} {L : List (Option Value)} {st : List Value} {pc pc' idx : Nat} {ρ : Type} {T : Int32 → Option ρ} {res : ρ} (C : cx X own cc nL ret Ts fr lm) (a : Nat → Nat) (B : tS) (p0 : Int32) (is : List Nat) (hC : is.map (fun i => ms[i]?) = [some (bdW (gcA X) a B)]) (hn : is.Nodup) (hG : GoodIn Ts (wsV own idx RX0 yX0_votersOf wsX0_votersOf)) (hR : 2 + 1 ≤ fr ∧ 8 + (2 + 11) + 46 ≤ lm) (hst : (st.map fun v => v.category).sum ≤ 8) (hLn : L.length = nL) (d : decode cc pc = .ok (.invokevirtual idx, 3)) (hp : pc + 3 = pc') (h : bd (f_X0_votersOf B p0) T = some res) (kk : ∀ (r : Int32), T r = some res → G X Q (ms) L (.int r :: st) pc') : G X Q ms L (.int p0 :: .ref (a 0) :: st) pc := by
  obtain ⟨r, h1, h⟩ := ob h
  exact G_callVI C (As := [.int p0]) (c_X0_votersOf (gl X) (gD X) (gcA X) a B p0 r h1) hG rfl nd_X0_votersOf hR (q0 := 0) rfl rfl hC hn rfl rfl hst hLn d hp (G_ms (rpl_same (mc := [bdW (gcA X) a B]) hC) (kk r h))
theorem hi_X0_allDotsStuck_X0 : ∀ w ∈ wsX00, w ∈ wsX0_allDotsStuck := fun w h => List.mem_cons_of_mem _ (List.mem_append_right _ h)
theorem lk_X0_allDotsStuck_1 : Cond.fieldLink RX0 9 "NoteThemes$Board" "notes" "I" ∈ wsX0_allDotsStuck := List.mem_of_getElem? (i := 1) rfl
def f_X0_allDotsStuck_4b (B : tS)  (k4 : Int32 → Int32 → Option (Int32)) (x1 : Int32) (x2 : Int32) : Option (Int32) := (if (B 0 0) ≤ x2 then some x1 else (bd (f_X0_dotsOn B x2) (fun r1 => k4 (x1 + r1) (x2 + 1))))
def f_X0_allDotsStuck_4 (B : tS)  : Nat → Int32 → Int32 → Option (Int32)
  | 0 => fun _ _ => none
  | n + 1 => f_X0_allDotsStuck_4b B  (f_X0_allDotsStuck_4 B  n)
set_option maxRecDepth 100000 in
set_option maxHeartbeats 4000000 in
theorem B_X0_allDotsStuck_4b {X : gX} (C : cx X RX0 cX0_allDotsStuck 3 (some .int) wsX0_allDotsStuck 2 45) (a : Nat → Nat) (B : tS) (r : Int32)  (k4 : Int32 → Int32 → Option (Int32)) (hk4 : ∀ (x1 : Int32) (x2 : Int32), k4 x1 x2 = some r → G X (QI X r [bdW (gcA X) a B]) [bdW (gcA X) a B] [some (.ref (a 0)), some (.int x1), some (.int x2)] [] 4) (x1 : Int32) (x2 : Int32) (h : f_X0_allDotsStuck_4b B  k4 x1 x2 = some r) : G X (QI X r [bdW (gcA X) a B]) [bdW (gcA X) a B] [some (.ref (a 0)), some (.int x1), some (.int x2)] [] 4 := by
  unfold f_X0_allDotsStuck_4b at h
  refine g_iload_n (pc' := 5) C dX0_allDotsStuck_4 rfl rfl ?_
  refine g_aload_n (pc' := 6) C dX0_allDotsStuck_5 rfl rfl ?_
  refine gg_X0_0 (pc' := 9) (i := 0) C rfl hi_X0_allDotsStuck_X0 lk_X0_allDotsStuck_1 dX0_allDotsStuck_6 rfl ?_
  refine g_icmp_ge (pc' := 12) (tgt := 26) C dX0_allDotsStuck_9 (by decide) rfl h (fun c h => ?_) (fun c h => ?_)
  · refine g_iload_n (pc' := 27) C dX0_allDotsStuck_26 rfl rfl ?_
    obtain rfl := Option.some.inj h
    exact g_iret C dX0_allDotsStuck_27
  · refine g_iload_n (pc' := 13) C dX0_allDotsStuck_12 rfl rfl ?_
    refine g_aload_n (pc' := 14) C dX0_allDotsStuck_13 rfl rfl ?_
    refine g_iload_n (pc' := 15) C dX0_allDotsStuck_14 rfl rfl ?_
    refine k_X0_dotsOn (pc' := 18) C a B x2 [0] rfl (by decide) gX0_allDotsStuck_X0_dotsOn ⟨Nat.le_of_ble_eq_true rfl, Nat.le_of_ble_eq_true rfl⟩ (Nat.le_of_ble_eq_true rfl) rfl dX0_allDotsStuck_15 rfl h (fun r1 h => ?_)
    refine g_iadd (pc' := 19) C dX0_allDotsStuck_18 rfl ?_
    refine g_istore_n (pc' := 20) C dX0_allDotsStuck_19 (Nat.le_of_ble_eq_true rfl) rfl (L' := [some (.ref (a 0)), some (.int (x1 + r1)), some (.int x2)]) rfl ?_
    refine g_iinc (pc' := 23) (v := (x2 + 1)) C dX0_allDotsStuck_20 rfl rfl rfl (L' := [some (.ref (a 0)), some (.int (x1 + r1)), some (.int (x2 + 1))]) rfl ?_
    refine g_goto (pc' := 4) C dX0_allDotsStuck_23 (by decide) ?_
    exact G_loc (lle_s (lle_s (lle_s lle_0))) (hk4 (x1 + r1) (x2 + 1) h)
set_option maxRecDepth 100000 in
set_option maxHeartbeats 4000000 in
theorem L_X0_allDotsStuck_4 {X : gX} (C : cx X RX0 cX0_allDotsStuck 3 (some .int) wsX0_allDotsStuck 2 45) (a : Nat → Nat) (B : tS) (r : Int32)  : ∀ (n : Nat) (x1 : Int32) (x2 : Int32), f_X0_allDotsStuck_4 B  n x1 x2 = some r → G X (QI X r [bdW (gcA X) a B]) [bdW (gcA X) a B] [some (.ref (a 0)), some (.int x1), some (.int x2)] [] 4 := by
  intro n
  induction n with
  | zero => intro x1 x2 h; have h : (none : Option (Int32)) = some r := h; cases h
  | succ n ih => intro x1 x2 h; exact B_X0_allDotsStuck_4b C a B r  (f_X0_allDotsStuck_4 B  n) ih x1 x2 h
def f_X0_allDotsStuck (B : tS)  : Option (Int32) := f_X0_allDotsStuck_4 B 1000 (0 : Int32) (0 : Int32)
set_option maxRecDepth 100000 in
set_option maxHeartbeats 4000000 in
theorem B_X0_allDotsStuck {X : gX} (C : cx X RX0 cX0_allDotsStuck 3 (some .int) wsX0_allDotsStuck 2 45) (a : Nat → Nat) (B : tS)  (r : Int32) (h : f_X0_allDotsStuck B = some r) : G X (QI X r [bdW (gcA X) a B]) [bdW (gcA X) a B] [some (.ref (a 0)), none, none] [] 0 := by
  unfold f_X0_allDotsStuck at h
  refine g_iconst (pc' := 1) (v := 0) C dX0_allDotsStuck_0 (by decide) rfl ?_
  refine g_istore_n (pc' := 2) C dX0_allDotsStuck_1 (Nat.le_of_ble_eq_true rfl) rfl (L' := [some (.ref (a 0)), some (.int (0 : Int32)), none]) rfl ?_
  refine g_iconst (pc' := 3) (v := 0) C dX0_allDotsStuck_2 (by decide) rfl ?_
  refine g_istore_n (pc' := 4) C dX0_allDotsStuck_3 (Nat.le_of_ble_eq_true rfl) rfl (L' := [some (.ref (a 0)), some (.int (0 : Int32)), some (.int (0 : Int32))]) rfl ?_
  exact G_loc (lle_s (lle_s (lle_s lle_0))) (L_X0_allDotsStuck_4 C a B r 1000 (0 : Int32) (0 : Int32) h)
set_option maxRecDepth 100000 in
set_option maxHeartbeats 4000000 in
theorem c_X0_allDotsStuck (l : Launch) (D : va_G) (cA : Nat → ClassId) (a : Nat → Nat) (B : tS)  (r : Int32) (h : f_X0_allDotsStuck B = some r) : MI l D cA yX0_allDotsStuck wsX0_allDotsStuck 2 45 [.ref (a 0)] [bdW cA a B] r [bdW cA a B] := MI_of (cc := cX0_allDotsStuck) (maxL := 3) (rt := some .int) (by decide +kernel) rfl (List.forall_mem_cons.mpr ⟨rfl, List.forall_mem_nil _⟩) (Nat.le_of_ble_eq_true rfl) (fun X e1 e2 e3 C => by subst e1; subst e2; subst e3; exact B_X0_allDotsStuck C a B r h)
set_option maxRecDepth 100000 in
set_option maxHeartbeats 4000000 in
theorem nd_X0_allDotsStuck : nd yX0_allDotsStuck 0 := ⟨by decide +kernel, by decide +kernel, by decide +kernel⟩
set_option maxRecDepth 100000 in
set_option maxHeartbeats 4000000 in
theorem k_X0_allDotsStuck {X : gX} {own : String} {cc : ByteArray} {nL : Nat} {ret : Option FieldType} {Ts : List Cond} {fr lm : Nat} {Q : State → Prop} {ms : List va_W} {L : List (Option Value)} {st : List Value} {pc pc' idx : Nat} {ρ : Type} {T : Int32 → Option ρ} {res : ρ} (C : cx X own cc nL ret Ts fr lm) (a : Nat → Nat) (B : tS)  (is : List Nat) (hC : is.map (fun i => ms[i]?) = [some (bdW (gcA X) a B)]) (hn : is.Nodup) (hG : GoodIn Ts (wsV own idx RX0 yX0_allDotsStuck wsX0_allDotsStuck)) (hR : 2 + 1 ≤ fr ∧ 8 + (3 + 11) + 45 ≤ lm) (hst : (st.map fun v => v.category).sum ≤ 8) (hLn : L.length = nL) (d : decode cc pc = .ok (.invokevirtual idx, 3)) (hp : pc + 3 = pc') (h : bd (f_X0_allDotsStuck B) T = some res) (kk : ∀ (r : Int32), T r = some res → G X Q (ms) L (.int r :: st) pc') : G X Q ms L (.ref (a 0) :: st) pc := by
  obtain ⟨r, h1, h⟩ := ob h
  exact G_callVI C (As := []) (c_X0_allDotsStuck (gl X) (gD X) (gcA X) a B r h1) hG rfl nd_X0_allDotsStuck hR (q0 := 0) rfl rfl hC hn rfl rfl hst hLn d hp (G_ms (rpl_same (mc := [bdW (gcA X) a B]) hC) (kk r h))
def f_X0_allDotsLeft_4b (B : tS)  (k4 : Int32 → Int32 → Option (Int32)) (x1 : Int32) (x2 : Int32) : Option (Int32) := (if (6 : Int32) ≤ x2 then some x1 else (bd (f_X0_dotsLeft B x2) (fun r1 => k4 (x1 + r1) (x2 + 1))))
def f_X0_allDotsLeft_4 (B : tS)  : Nat → Int32 → Int32 → Option (Int32)
  | 0 => fun _ _ => none
  | n + 1 => f_X0_allDotsLeft_4b B  (f_X0_allDotsLeft_4 B  n)
set_option maxRecDepth 100000 in
set_option maxHeartbeats 4000000 in
theorem B_X0_allDotsLeft_4b {X : gX} (C : cx X RX0 cX0_allDotsLeft 3 (some .int) wsX0_allDotsLeft 2 45) (a : Nat → Nat) (B : tS) (r : Int32)  (k4 : Int32 → Int32 → Option (Int32)) (hk4 : ∀ (x1 : Int32) (x2 : Int32), k4 x1 x2 = some r → G X (QI X r [bdW (gcA X) a B]) [bdW (gcA X) a B] [some (.ref (a 0)), some (.int x1), some (.int x2)] [] 4) (x1 : Int32) (x2 : Int32) (h : f_X0_allDotsLeft_4b B  k4 x1 x2 = some r) : G X (QI X r [bdW (gcA X) a B]) [bdW (gcA X) a B] [some (.ref (a 0)), some (.int x1), some (.int x2)] [] 4 := by
  unfold f_X0_allDotsLeft_4b at h
  refine g_iload_n (pc' := 5) C dX0_allDotsLeft_4 rfl rfl ?_
  refine g_bipush (pc' := 7) (v := 6) C dX0_allDotsLeft_5 (by decide) rfl ?_
  refine g_icmp_ge (pc' := 10) (tgt := 24) C dX0_allDotsLeft_7 (by decide) rfl h (fun c h => ?_) (fun c h => ?_)
  · refine g_iload_n (pc' := 25) C dX0_allDotsLeft_24 rfl rfl ?_
    obtain rfl := Option.some.inj h
    exact g_iret C dX0_allDotsLeft_25
  · refine g_iload_n (pc' := 11) C dX0_allDotsLeft_10 rfl rfl ?_
    refine g_aload_n (pc' := 12) C dX0_allDotsLeft_11 rfl rfl ?_
    refine g_iload_n (pc' := 13) C dX0_allDotsLeft_12 rfl rfl ?_
    refine k_X0_dotsLeft (pc' := 16) C a B x2 [0] rfl (by decide) gX0_allDotsLeft_X0_dotsLeft ⟨Nat.le_of_ble_eq_true rfl, Nat.le_of_ble_eq_true rfl⟩ (Nat.le_of_ble_eq_true rfl) rfl dX0_allDotsLeft_13 rfl h (fun r1 h => ?_)
    refine g_iadd (pc' := 17) C dX0_allDotsLeft_16 rfl ?_
    refine g_istore_n (pc' := 18) C dX0_allDotsLeft_17 (Nat.le_of_ble_eq_true rfl) rfl (L' := [some (.ref (a 0)), some (.int (x1 + r1)), some (.int x2)]) rfl ?_
    refine g_iinc (pc' := 21) (v := (x2 + 1)) C dX0_allDotsLeft_18 rfl rfl rfl (L' := [some (.ref (a 0)), some (.int (x1 + r1)), some (.int (x2 + 1))]) rfl ?_
    refine g_goto (pc' := 4) C dX0_allDotsLeft_21 (by decide) ?_
    exact G_loc (lle_s (lle_s (lle_s lle_0))) (hk4 (x1 + r1) (x2 + 1) h)
set_option maxRecDepth 100000 in
set_option maxHeartbeats 4000000 in
theorem L_X0_allDotsLeft_4 {X : gX} (C : cx X RX0 cX0_allDotsLeft 3 (some .int) wsX0_allDotsLeft 2 45) (a : Nat → Nat) (B : tS) (r : Int32)  : ∀ (n : Nat) (x1 : Int32) (x2 : Int32), f_X0_allDotsLeft_4 B  n x1 x2 = some r → G X (QI X r [bdW (gcA X) a B]) [bdW (gcA X) a B] [some (.ref (a 0)), some (.int x1), some (.int x2)] [] 4 := by
  intro n
  induction n with
  | zero => intro x1 x2 h; have h : (none : Option (Int32)) = some r := h; cases h
  | succ n ih => intro x1 x2 h; exact B_X0_allDotsLeft_4b C a B r  (f_X0_allDotsLeft_4 B  n) ih x1 x2 h
def f_X0_allDotsLeft (B : tS)  : Option (Int32) := f_X0_allDotsLeft_4 B 1000 (0 : Int32) (0 : Int32)
set_option maxRecDepth 100000 in
set_option maxHeartbeats 4000000 in
theorem B_X0_allDotsLeft {X : gX} (C : cx X RX0 cX0_allDotsLeft 3 (some .int) wsX0_allDotsLeft 2 45) (a : Nat → Nat) (B : tS)  (r : Int32) (h : f_X0_allDotsLeft B = some r) : G X (QI X r [bdW (gcA X) a B]) [bdW (gcA X) a B] [some (.ref (a 0)), none, none] [] 0 := by
  unfold f_X0_allDotsLeft at h
  refine g_iconst (pc' := 1) (v := 0) C dX0_allDotsLeft_0 (by decide) rfl ?_
  refine g_istore_n (pc' := 2) C dX0_allDotsLeft_1 (Nat.le_of_ble_eq_true rfl) rfl (L' := [some (.ref (a 0)), some (.int (0 : Int32)), none]) rfl ?_
  refine g_iconst (pc' := 3) (v := 0) C dX0_allDotsLeft_2 (by decide) rfl ?_
  refine g_istore_n (pc' := 4) C dX0_allDotsLeft_3 (Nat.le_of_ble_eq_true rfl) rfl (L' := [some (.ref (a 0)), some (.int (0 : Int32)), some (.int (0 : Int32))]) rfl ?_
  exact G_loc (lle_s (lle_s (lle_s lle_0))) (L_X0_allDotsLeft_4 C a B r 1000 (0 : Int32) (0 : Int32) h)
set_option maxRecDepth 100000 in
set_option maxHeartbeats 4000000 in
theorem c_X0_allDotsLeft (l : Launch) (D : va_G) (cA : Nat → ClassId) (a : Nat → Nat) (B : tS)  (r : Int32) (h : f_X0_allDotsLeft B = some r) : MI l D cA yX0_allDotsLeft wsX0_allDotsLeft 2 45 [.ref (a 0)] [bdW cA a B] r [bdW cA a B] := MI_of (cc := cX0_allDotsLeft) (maxL := 3) (rt := some .int) (by decide +kernel) rfl (List.forall_mem_cons.mpr ⟨rfl, List.forall_mem_nil _⟩) (Nat.le_of_ble_eq_true rfl) (fun X e1 e2 e3 C => by subst e1; subst e2; subst e3; exact B_X0_allDotsLeft C a B r h)
set_option maxRecDepth 100000 in
set_option maxHeartbeats 4000000 in
theorem nd_X0_allDotsLeft : nd yX0_allDotsLeft 0 := ⟨by decide +kernel, by decide +kernel, by decide +kernel⟩
set_option maxRecDepth 100000 in
set_option maxHeartbeats 4000000 in
theorem k_X0_allDotsLeft {X : gX} {own : String} {cc : ByteArray} {nL : Nat} {ret : Option FieldType} {Ts : List Cond} {fr lm : Nat} {Q : State → Prop} {ms : List va_W} {L : List (Option Value)} {st : List Value} {pc pc' idx : Nat} {ρ : Type} {T : Int32 → Option ρ} {res : ρ} (C : cx X own cc nL ret Ts fr lm) (a : Nat → Nat) (B : tS)  (is : List Nat) (hC : is.map (fun i => ms[i]?) = [some (bdW (gcA X) a B)]) (hn : is.Nodup) (hG : GoodIn Ts (wsV own idx RX0 yX0_allDotsLeft wsX0_allDotsLeft)) (hR : 2 + 1 ≤ fr ∧ 8 + (3 + 11) + 45 ≤ lm) (hst : (st.map fun v => v.category).sum ≤ 8) (hLn : L.length = nL) (d : decode cc pc = .ok (.invokevirtual idx, 3)) (hp : pc + 3 = pc') (h : bd (f_X0_allDotsLeft B) T = some res) (kk : ∀ (r : Int32), T r = some res → G X Q (ms) L (.int r :: st) pc') : G X Q ms L (.ref (a 0) :: st) pc := by
  obtain ⟨r, h1, h⟩ := ob h
  exact G_callVI C (As := []) (c_X0_allDotsLeft (gl X) (gD X) (gcA X) a B r h1) hG rfl nd_X0_allDotsLeft hR (q0 := 0) rfl rfl hC hn rfl rfl hst hLn d hp (G_ms (rpl_same (mc := [bdW (gcA X) a B]) hC) (kk r h))
end
