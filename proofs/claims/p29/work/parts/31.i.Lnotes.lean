set_option maxRecDepth 100000 in
set_option maxHeartbeats 4000000 in
theorem B_L_notes_593 {X : gX} (C : cx X RL cL_notes 17 (some .boolean) wsL_notes 6 134) (pa : Nat → Nat → Nat) (N : Nat) (Tn : tS) (p1 : Int32) (p2 : Int32) (r : Int32) (Bz : tS) (Hsz : tH) (Trz : tS) (Ez : tS) (Fz : tS) (Nmz : tS)  (B : tS) (Hs : tH) (Tr : tS) (E : tS) (F : tS) (Nm : tS) (h : f_L_notes_593 N Tn p1 p2  B Hs Tr E F Nm = some (r, Bz, Hsz, Trz, Ez, Fz, Nmz)) : G X (QI X r [ntW pa Tn, bdW (gcA X) (pa 1) Bz, hsW (gcA X) (pa 2) (fun j => pa (10 + j)) Hsz, bdW (gcA X) (pa 5) Trz, heW (gcA X) (pa 6) Ez, heW (gcA X) (pa 7) Fz, nmW (gcA X) (pa 8) Nmz]) [ntW pa Tn, bdW (gcA X) (pa 1) B, hsW (gcA X) (pa 2) (fun j => pa (10 + j)) Hs, bdW (gcA X) (pa 5) Tr, heW (gcA X) (pa 6) E, heW (gcA X) (pa 7) F, nmW (gcA X) (pa 8) Nm] [some (.ref (pa 0 0)), some (.int p1), some (.int p2), none, none, none, none, none, none, none, none, none, none, none, none, none, none] [] 593 := by
  unfold f_L_notes_593 at h
  refine g_iconst (pc' := 594) (v := 1) C dL_notes_593 (by decide) rfl ?_
  refine g_goto (pc' := 598) C dL_notes_594 (by decide) ?_
  obtain ⟨rfl, rfl, rfl, rfl, rfl, rfl, rfl⟩ := pj7 (Option.some.inj h)
  exact g_zret0 C rfl dL_notes_598
set_option maxRecDepth 100000 in
set_option maxHeartbeats 4000000 in
theorem B_L_notes_543 {X : gX} (C : cx X RL cL_notes 17 (some .boolean) wsL_notes 6 134) (pa : Nat → Nat → Nat) (N : Nat) (Tn : tS) (p1 : Int32) (p2 : Int32) (r : Int32) (Bz : tS) (Hsz : tH) (Trz : tS) (Ez : tS) (Fz : tS) (Nmz : tS)  (x9 : Int32) (x11 : Int32) (x13 : Int32) (x14 : Int32) (x15 : Int32) (x16 : Int32) (B : tS) (Hs : tH) (Tr : tS) (E : tS) (F : tS) (Nm : tS) (h : f_L_notes_543 N Tn p1 p2  x9 x11 x13 x14 x15 x16 B Hs Tr E F Nm = some (r, Bz, Hsz, Trz, Ez, Fz, Nmz)) : G X (QI X r [ntW pa Tn, bdW (gcA X) (pa 1) Bz, hsW (gcA X) (pa 2) (fun j => pa (10 + j)) Hsz, bdW (gcA X) (pa 5) Trz, heW (gcA X) (pa 6) Ez, heW (gcA X) (pa 7) Fz, nmW (gcA X) (pa 8) Nmz]) [ntW pa Tn, bdW (gcA X) (pa 1) B, hsW (gcA X) (pa 2) (fun j => pa (10 + j)) Hs, bdW (gcA X) (pa 5) Tr, heW (gcA X) (pa 6) E, heW (gcA X) (pa 7) F, nmW (gcA X) (pa 8) Nm] [some (.ref (pa 0 0)), some (.int p1), some (.int p2), none, none, none, none, none, none, some (.int x9), none, some (.int x11), none, some (.int x13), some (.int x14), some (.int x15), some (.int x16)] [] 543 := by
  unfold f_L_notes_543 at h
  refine g_iload (pc' := 545) C dL_notes_543 rfl rfl ?_
  refine g_aload_n (pc' := 546) C dL_notes_545 rfl rfl ?_
  refine g_iconst (pc' := 547) (v := 1) C dL_notes_546 (by decide) rfl ?_
  refine k_X5_count (pc' := 550) C pa N Tn B Hs E Nm (1 : Int32) [0, 1, 2, 4, 6] rfl (by decide) gL_notes_X5_count ⟨Nat.le_of_ble_eq_true rfl, Nat.le_of_ble_eq_true rfl⟩ (Nat.le_of_ble_eq_true rfl) rfl dL_notes_547 rfl h (fun r1 E1 Nm1 h => ?_)
  show G X _ [ntW pa Tn, bdW (gcA X) (pa 1) B, hsW (gcA X) (pa 2) (fun j => pa (10 + j)) Hs, bdW (gcA X) (pa 5) Tr, heW (gcA X) (pa 6) E1, heW (gcA X) (pa 7) F, nmW (gcA X) (pa 8) Nm1] _ _ _
  refine g_icmp_ne (pc' := 553) (tgt := 597) C dL_notes_550 (by decide) rfl h (fun c h => ?_) (fun c h => ?_)
  · refine g_iload (pc' := 555) C dL_notes_553 rfl rfl ?_
    refine g_iload (pc' := 557) C dL_notes_555 rfl rfl ?_
    refine g_icmp_gt (pc' := 560) (tgt := 597) C dL_notes_557 (by decide) rfl h (fun c h => ?_) (fun c h => ?_)
    · refine g_iconst (pc' := 598) (v := 0) C dL_notes_597 (by decide) rfl ?_
      obtain ⟨rfl, rfl, rfl, rfl, rfl, rfl, rfl⟩ := pj7 (Option.some.inj h)
      exact g_zret0 C rfl dL_notes_598
    · refine g_aload_n (pc' := 561) C dL_notes_560 rfl rfl ?_
      refine g_iload (pc' := 563) C dL_notes_561 rfl rfl ?_
      refine g_iconst (pc' := 564) (v := 0) C dL_notes_563 (by decide) rfl ?_
      refine k_X5_note (pc' := 567) C pa N Tn B Tr E1 F x13 (0 : Int32) [0, 1, 3, 4, 5] rfl (by decide) gL_notes_X5_note ⟨Nat.le_of_ble_eq_true rfl, Nat.le_of_ble_eq_true rfl⟩ (Nat.le_of_ble_eq_true rfl) rfl dL_notes_564 rfl h (fun r2 Tr2 E2 F2 h => ?_)
      show G X _ [ntW pa Tn, bdW (gcA X) (pa 1) B, hsW (gcA X) (pa 2) (fun j => pa (10 + j)) Hs, bdW (gcA X) (pa 5) Tr2, heW (gcA X) (pa 6) E2, heW (gcA X) (pa 7) F2, nmW (gcA X) (pa 8) Nm1] _ _ _
      refine g_iload (pc' := 569) C dL_notes_567 rfl rfl ?_
      refine g_iload (pc' := 571) C dL_notes_569 rfl rfl ?_
      refine g_iadd (pc' := 572) C dL_notes_571 rfl ?_
      refine g_icmp_ne (pc' := 575) (tgt := 597) C dL_notes_572 (by decide) rfl h (fun c h => ?_) (fun c h => ?_)
      · refine g_aload_n (pc' := 576) C dL_notes_575 rfl rfl ?_
        refine g_aload_n (pc' := 577) C dL_notes_576 rfl rfl ?_
        refine g_iload (pc' := 579) C dL_notes_577 rfl rfl ?_
        refine g_iconst (pc' := 580) (v := 3) C dL_notes_579 (by decide) rfl ?_
        refine k_X5_note (pc' := 583) C pa N Tn B Tr2 E2 F2 x13 (3 : Int32) [0, 1, 3, 4, 5] rfl (by decide) gL_notes_X5_note ⟨Nat.le_of_ble_eq_true rfl, Nat.le_of_ble_eq_true rfl⟩ (Nat.le_of_ble_eq_true rfl) rfl dL_notes_580 rfl h (fun r3 Tr3 E3 F3 h => ?_)
        show G X _ [ntW pa Tn, bdW (gcA X) (pa 1) B, hsW (gcA X) (pa 2) (fun j => pa (10 + j)) Hs, bdW (gcA X) (pa 5) Tr3, heW (gcA X) (pa 6) E3, heW (gcA X) (pa 7) F3, nmW (gcA X) (pa 8) Nm1] _ _ _
        refine g_bipush (pc' := 585) (v := 6) C dL_notes_583 (by decide) rfl ?_
        refine k_X5_heap (pc' := 588) C pa N Tn B E3 r3 (6 : Int32) [0, 1, 4] rfl (by decide) gL_notes_X5_heap ⟨Nat.le_of_ble_eq_true rfl, Nat.le_of_ble_eq_true rfl⟩ (Nat.le_of_ble_eq_true rfl) rfl dL_notes_585 rfl h (fun r4 E4 h => ?_)
        show G X _ [ntW pa Tn, bdW (gcA X) (pa 1) B, hsW (gcA X) (pa 2) (fun j => pa (10 + j)) Hs, bdW (gcA X) (pa 5) Tr3, heW (gcA X) (pa 6) E4, heW (gcA X) (pa 7) F3, nmW (gcA X) (pa 8) Nm1] _ _ _
        refine g_iload (pc' := 590) C dL_notes_588 rfl rfl ?_
        refine g_icmp_lt (pc' := 593) (tgt := 597) C dL_notes_590 (by decide) rfl h (fun c h => ?_) (fun c h => ?_)
        · refine g_iconst (pc' := 598) (v := 0) C dL_notes_597 (by decide) rfl ?_
          obtain ⟨rfl, rfl, rfl, rfl, rfl, rfl, rfl⟩ := pj7 (Option.some.inj h)
          exact g_zret0 C rfl dL_notes_598
        · exact G_loc (lle_s (lle_s (lle_s (lle_n (lle_n (lle_n (lle_n (lle_n (lle_n (lle_n (lle_n (lle_n (lle_n (lle_n (lle_n (lle_n (lle_n lle_0))))))))))))))))) (B_L_notes_593 C pa N Tn p1 p2 r Bz Hsz Trz Ez Fz Nmz B Hs Tr3 E4 F3 Nm1 h)
      · refine g_iconst (pc' := 598) (v := 0) C dL_notes_597 (by decide) rfl ?_
        obtain ⟨rfl, rfl, rfl, rfl, rfl, rfl, rfl⟩ := pj7 (Option.some.inj h)
        exact g_zret0 C rfl dL_notes_598
  · refine g_iconst (pc' := 598) (v := 0) C dL_notes_597 (by decide) rfl ?_
    obtain ⟨rfl, rfl, rfl, rfl, rfl, rfl, rfl⟩ := pj7 (Option.some.inj h)
    exact g_zret0 C rfl dL_notes_598
set_option maxRecDepth 100000 in
set_option maxHeartbeats 4000000 in
theorem B_L_notes_481 {X : gX} (C : cx X RL cL_notes 17 (some .boolean) wsL_notes 6 134) (pa : Nat → Nat → Nat) (N : Nat) (Tn : tS) (p1 : Int32) (p2 : Int32) (r : Int32) (Bz : tS) (Hsz : tH) (Trz : tS) (Ez : tS) (Fz : tS) (Nmz : tS)  (x9 : Int32) (x10 : Int32) (x11 : Int32) (x12 : Int32) (x13 : Int32) (x14 : Int32) (t0 : Int32) (B : tS) (Hs : tH) (Tr : tS) (E : tS) (F : tS) (Nm : tS) (h : f_L_notes_481 N Tn p1 p2  x9 x10 x11 x12 x13 x14 t0 B Hs Tr E F Nm = some (r, Bz, Hsz, Trz, Ez, Fz, Nmz)) : G X (QI X r [ntW pa Tn, bdW (gcA X) (pa 1) Bz, hsW (gcA X) (pa 2) (fun j => pa (10 + j)) Hsz, bdW (gcA X) (pa 5) Trz, heW (gcA X) (pa 6) Ez, heW (gcA X) (pa 7) Fz, nmW (gcA X) (pa 8) Nmz]) [ntW pa Tn, bdW (gcA X) (pa 1) B, hsW (gcA X) (pa 2) (fun j => pa (10 + j)) Hs, bdW (gcA X) (pa 5) Tr, heW (gcA X) (pa 6) E, heW (gcA X) (pa 7) F, nmW (gcA X) (pa 8) Nm] [some (.ref (pa 0 0)), some (.int p1), some (.int p2), none, none, none, none, none, none, some (.int x9), some (.int x10), some (.int x11), some (.int x12), some (.int x13), some (.int x14), none, none] [.int t0] 481 := by
  unfold f_L_notes_481 at h
  refine g_istore (pc' := 483) C dL_notes_481 (Nat.le_of_ble_eq_true rfl) rfl (L' := [some (.ref (pa 0 0)), some (.int p1), some (.int p2), none, none, none, none, none, none, some (.int x9), some (.int x10), some (.int x11), some (.int x12), some (.int x13), some (.int x14), some (.int t0), none]) rfl ?_
  refine g_aload_n (pc' := 484) C dL_notes_483 rfl rfl ?_
  refine g_iload (pc' := 486) C dL_notes_484 rfl rfl ?_
  refine g_iload (pc' := 488) C dL_notes_486 rfl rfl ?_
  refine g_iload (pc' := 490) C dL_notes_488 rfl rfl ?_
  refine k_X5_dragHeap (pc' := 493) C pa N Tn B Hs E x10 x11 x12 [0, 1, 2, 4] rfl (by decide) gL_notes_X5_dragHeap ⟨Nat.le_of_ble_eq_true rfl, Nat.le_of_ble_eq_true rfl⟩ (Nat.le_of_ble_eq_true rfl) rfl dL_notes_490 rfl h (fun r1 B1 Hs1 E1 h => ?_)
  show G X _ [ntW pa Tn, bdW (gcA X) (pa 1) B1, hsW (gcA X) (pa 2) (fun j => pa (10 + j)) Hs1, bdW (gcA X) (pa 5) Tr, heW (gcA X) (pa 6) E1, heW (gcA X) (pa 7) F, nmW (gcA X) (pa 8) Nm] _ _ _
  refine g_istore (pc' := 495) C dL_notes_493 (Nat.le_of_ble_eq_true rfl) rfl (L' := [some (.ref (pa 0 0)), some (.int p1), some (.int p2), none, none, none, none, none, none, some (.int x9), some (.int x10), some (.int x11), some (.int x12), some (.int x13), some (.int x14), some (.int t0), some (.int r1)]) rfl ?_
  refine g_iload (pc' := 497) C dL_notes_495 rfl rfl ?_
  refine g_iload (pc' := 499) C dL_notes_497 rfl rfl ?_
  refine g_icmp_ne (pc' := 502) (tgt := 516) C dL_notes_499 (by decide) rfl h (fun c h => ?_) (fun c h => ?_)
  · refine g_iload (pc' := 504) C dL_notes_502 rfl rfl ?_
    refine g_iconst (pc' := 505) (v := -1) C dL_notes_504 (by decide) rfl ?_
    refine g_icmp_ne (pc' := 508) (tgt := 512) C dL_notes_505 (by decide) rfl h (fun c h => ?_) (fun c h => ?_)
    · refine g_iconst (pc' := 509) (v := 1) C dL_notes_508 (by decide) rfl ?_
      refine g_goto (pc' := 598) C dL_notes_509 (by decide) ?_
      obtain ⟨rfl, rfl, rfl, rfl, rfl, rfl, rfl⟩ := pj7 (Option.some.inj h)
      exact g_zret0 C rfl dL_notes_598
    · refine g_iconst (pc' := 513) (v := 0) C dL_notes_512 (by decide) rfl ?_
      refine g_goto (pc' := 598) C dL_notes_513 (by decide) ?_
      obtain ⟨rfl, rfl, rfl, rfl, rfl, rfl, rfl⟩ := pj7 (Option.some.inj h)
      exact g_zret0 C rfl dL_notes_598
  · refine g_iload (pc' := 518) C dL_notes_516 rfl rfl ?_
    refine g_bipush (pc' := 520) (v := -4) C dL_notes_518 (by decide) rfl ?_
    refine g_icmp_eq (pc' := 523) (tgt := 593) C dL_notes_520 (by decide) rfl h (fun c h => ?_) (fun c h => ?_)
    · exact G_loc (lle_s (lle_s (lle_s (lle_n (lle_n (lle_n (lle_n (lle_n (lle_n (lle_n (lle_n (lle_n (lle_n (lle_n (lle_n (lle_n (lle_n lle_0))))))))))))))))) (B_L_notes_593 C pa N Tn p1 p2 r Bz Hsz Trz Ez Fz Nmz B1 Hs1 Tr E1 F Nm h)
    · refine g_iload (pc' := 525) C dL_notes_523 rfl rfl ?_
      refine g_if_ne (pc' := 528) (tgt := 543) C dL_notes_525 (by decide) rfl h (fun c h => ?_) (fun c h => ?_)
      · refine g_iload (pc' := 530) C dL_notes_528 rfl rfl ?_
        refine g_if_ne (pc' := 533) (tgt := 543) C dL_notes_530 (by decide) rfl h (fun c h => ?_) (fun c h => ?_)
        · refine g_iload (pc' := 535) C dL_notes_533 rfl rfl ?_
          refine g_bipush (pc' := 537) (v := -5) C dL_notes_535 (by decide) rfl ?_
          refine g_icmp_ne (pc' := 540) (tgt := 597) C dL_notes_537 (by decide) rfl h (fun c h => ?_) (fun c h => ?_)
          · refine g_goto (pc' := 593) C dL_notes_540 (by decide) ?_
            exact G_loc (lle_s (lle_s (lle_s (lle_n (lle_n (lle_n (lle_n (lle_n (lle_n (lle_n (lle_n (lle_n (lle_n (lle_n (lle_n (lle_n (lle_n lle_0))))))))))))))))) (B_L_notes_593 C pa N Tn p1 p2 r Bz Hsz Trz Ez Fz Nmz B1 Hs1 Tr E1 F Nm h)
          · refine g_iconst (pc' := 598) (v := 0) C dL_notes_597 (by decide) rfl ?_
            obtain ⟨rfl, rfl, rfl, rfl, rfl, rfl, rfl⟩ := pj7 (Option.some.inj h)
            exact g_zret0 C rfl dL_notes_598
        · exact G_loc (lle_s (lle_s (lle_s (lle_n (lle_n (lle_n (lle_n (lle_n (lle_n (lle_s (lle_n (lle_s (lle_n (lle_s (lle_s (lle_s (lle_s lle_0))))))))))))))))) (B_L_notes_543 C pa N Tn p1 p2 r Bz Hsz Trz Ez Fz Nmz x9 x11 x13 x14 t0 r1 B1 Hs1 Tr E1 F Nm h)
      · exact G_loc (lle_s (lle_s (lle_s (lle_n (lle_n (lle_n (lle_n (lle_n (lle_n (lle_s (lle_n (lle_s (lle_n (lle_s (lle_s (lle_s (lle_s lle_0))))))))))))))))) (B_L_notes_543 C pa N Tn p1 p2 r Bz Hsz Trz Ez Fz Nmz x9 x11 x13 x14 t0 r1 B1 Hs1 Tr E1 F Nm h)
set_option maxRecDepth 100000 in
set_option maxHeartbeats 4000000 in
theorem B_L_notes_460 {X : gX} (C : cx X RL cL_notes 17 (some .boolean) wsL_notes 6 134) (pa : Nat → Nat → Nat) (N : Nat) (Tn : tS) (p1 : Int32) (p2 : Int32) (r : Int32) (Bz : tS) (Hsz : tH) (Trz : tS) (Ez : tS) (Fz : tS) (Nmz : tS)  (x9 : Int32) (x10 : Int32) (x11 : Int32) (x12 : Int32) (x13 : Int32) (t0 : Int32) (B : tS) (Hs : tH) (Tr : tS) (E : tS) (F : tS) (Nm : tS) (h : f_L_notes_460 N Tn p1 p2  x9 x10 x11 x12 x13 t0 B Hs Tr E F Nm = some (r, Bz, Hsz, Trz, Ez, Fz, Nmz)) : G X (QI X r [ntW pa Tn, bdW (gcA X) (pa 1) Bz, hsW (gcA X) (pa 2) (fun j => pa (10 + j)) Hsz, bdW (gcA X) (pa 5) Trz, heW (gcA X) (pa 6) Ez, heW (gcA X) (pa 7) Fz, nmW (gcA X) (pa 8) Nmz]) [ntW pa Tn, bdW (gcA X) (pa 1) B, hsW (gcA X) (pa 2) (fun j => pa (10 + j)) Hs, bdW (gcA X) (pa 5) Tr, heW (gcA X) (pa 6) E, heW (gcA X) (pa 7) F, nmW (gcA X) (pa 8) Nm] [some (.ref (pa 0 0)), some (.int p1), some (.int p2), none, none, none, none, none, none, some (.int x9), some (.int x10), some (.int x11), some (.int x12), some (.int x13), none, none, none] [.int t0] 460 := by
  unfold f_L_notes_460 at h
  refine g_istore (pc' := 462) C dL_notes_460 (Nat.le_of_ble_eq_true rfl) rfl (L' := [some (.ref (pa 0 0)), some (.int p1), some (.int p2), none, none, none, none, none, none, some (.int x9), some (.int x10), some (.int x11), some (.int x12), some (.int x13), some (.int t0), none, none]) rfl ?_
  refine g_iload (pc' := 464) C dL_notes_462 rfl rfl ?_
  refine g_iload (pc' := 466) C dL_notes_464 rfl rfl ?_
  refine g_icmp_ne (pc' := 469) (tgt := 473) C dL_notes_466 (by decide) rfl h (fun c h => ?_) (fun c h => ?_)
  · refine g_iconst (pc' := 470) (v := 0) C dL_notes_469 (by decide) rfl ?_
    refine g_goto (pc' := 481) C dL_notes_470 (by decide) ?_
    exact G_loc (lle_s (lle_s (lle_s (lle_n (lle_n (lle_n (lle_n (lle_n (lle_n (lle_s (lle_s (lle_s (lle_s (lle_s (lle_s (lle_n (lle_n lle_0))))))))))))))))) (B_L_notes_481 C pa N Tn p1 p2 r Bz Hsz Trz Ez Fz Nmz x9 x10 x11 x12 x13 t0 (0 : Int32) B Hs Tr E F Nm h)
  · refine g_aload_n (pc' := 474) C dL_notes_473 rfl rfl ?_
    refine g_iload (pc' := 476) C dL_notes_474 rfl rfl ?_
    refine g_bipush (pc' := 478) (v := 6) C dL_notes_476 (by decide) rfl ?_
    refine k_X5_heap (pc' := 481) C pa N Tn B E x10 (6 : Int32) [0, 1, 4] rfl (by decide) gL_notes_X5_heap ⟨Nat.le_of_ble_eq_true rfl, Nat.le_of_ble_eq_true rfl⟩ (Nat.le_of_ble_eq_true rfl) rfl dL_notes_478 rfl h (fun r1 E1 h => ?_)
    show G X _ [ntW pa Tn, bdW (gcA X) (pa 1) B, hsW (gcA X) (pa 2) (fun j => pa (10 + j)) Hs, bdW (gcA X) (pa 5) Tr, heW (gcA X) (pa 6) E1, heW (gcA X) (pa 7) F, nmW (gcA X) (pa 8) Nm] _ _ _
    exact G_loc (lle_s (lle_s (lle_s (lle_n (lle_n (lle_n (lle_n (lle_n (lle_n (lle_s (lle_s (lle_s (lle_s (lle_s (lle_s (lle_n (lle_n lle_0))))))))))))))))) (B_L_notes_481 C pa N Tn p1 p2 r Bz Hsz Trz Ez Fz Nmz x9 x10 x11 x12 x13 t0 r1 B Hs Tr E1 F Nm h)
set_option maxRecDepth 100000 in
set_option maxHeartbeats 4000000 in
theorem B_L_notes_440 {X : gX} (C : cx X RL cL_notes 17 (some .boolean) wsL_notes 6 134) (pa : Nat → Nat → Nat) (N : Nat) (Tn : tS) (p1 : Int32) (p2 : Int32) (r : Int32) (Bz : tS) (Hsz : tH) (Trz : tS) (Ez : tS) (Fz : tS) (Nmz : tS)  (x9 : Int32) (x10 : Int32) (x11 : Int32) (x12 : Int32) (t0 : Int32) (B : tS) (Hs : tH) (Tr : tS) (E : tS) (F : tS) (Nm : tS) (h : f_L_notes_440 N Tn p1 p2  x9 x10 x11 x12 t0 B Hs Tr E F Nm = some (r, Bz, Hsz, Trz, Ez, Fz, Nmz)) : G X (QI X r [ntW pa Tn, bdW (gcA X) (pa 1) Bz, hsW (gcA X) (pa 2) (fun j => pa (10 + j)) Hsz, bdW (gcA X) (pa 5) Trz, heW (gcA X) (pa 6) Ez, heW (gcA X) (pa 7) Fz, nmW (gcA X) (pa 8) Nmz]) [ntW pa Tn, bdW (gcA X) (pa 1) B, hsW (gcA X) (pa 2) (fun j => pa (10 + j)) Hs, bdW (gcA X) (pa 5) Tr, heW (gcA X) (pa 6) E, heW (gcA X) (pa 7) F, nmW (gcA X) (pa 8) Nm] [some (.ref (pa 0 0)), some (.int p1), some (.int p2), none, none, none, none, none, none, some (.int x9), some (.int x10), some (.int x11), some (.int x12), none, none, none, none] [.int t0] 440 := by
  unfold f_L_notes_440 at h
  refine g_istore (pc' := 442) C dL_notes_440 (Nat.le_of_ble_eq_true rfl) rfl (L' := [some (.ref (pa 0 0)), some (.int p1), some (.int p2), none, none, none, none, none, none, some (.int x9), some (.int x10), some (.int x11), some (.int x12), some (.int t0), none, none, none]) rfl ?_
  refine g_iload (pc' := 444) C dL_notes_442 rfl rfl ?_
  refine g_iload (pc' := 446) C dL_notes_444 rfl rfl ?_
  refine g_icmp_ne (pc' := 449) (tgt := 453) C dL_notes_446 (by decide) rfl h (fun c h => ?_) (fun c h => ?_)
  · refine g_iconst (pc' := 450) (v := 0) C dL_notes_449 (by decide) rfl ?_
    refine g_goto (pc' := 460) C dL_notes_450 (by decide) ?_
    exact G_loc (lle_s (lle_s (lle_s (lle_n (lle_n (lle_n (lle_n (lle_n (lle_n (lle_s (lle_s (lle_s (lle_s (lle_s (lle_n (lle_n (lle_n lle_0))))))))))))))))) (B_L_notes_460 C pa N Tn p1 p2 r Bz Hsz Trz Ez Fz Nmz x9 x10 x11 x12 t0 (0 : Int32) B Hs Tr E F Nm h)
  · refine g_aload_n (pc' := 454) C dL_notes_453 rfl rfl ?_
    refine g_iload (pc' := 456) C dL_notes_454 rfl rfl ?_
    refine g_iconst (pc' := 457) (v := 0) C dL_notes_456 (by decide) rfl ?_
    refine k_X5_note (pc' := 460) C pa N Tn B Tr E F t0 (0 : Int32) [0, 1, 3, 4, 5] rfl (by decide) gL_notes_X5_note ⟨Nat.le_of_ble_eq_true rfl, Nat.le_of_ble_eq_true rfl⟩ (Nat.le_of_ble_eq_true rfl) rfl dL_notes_457 rfl h (fun r1 Tr1 E1 F1 h => ?_)
    show G X _ [ntW pa Tn, bdW (gcA X) (pa 1) B, hsW (gcA X) (pa 2) (fun j => pa (10 + j)) Hs, bdW (gcA X) (pa 5) Tr1, heW (gcA X) (pa 6) E1, heW (gcA X) (pa 7) F1, nmW (gcA X) (pa 8) Nm] _ _ _
    exact G_loc (lle_s (lle_s (lle_s (lle_n (lle_n (lle_n (lle_n (lle_n (lle_n (lle_s (lle_s (lle_s (lle_s (lle_s (lle_n (lle_n (lle_n lle_0))))))))))))))))) (B_L_notes_460 C pa N Tn p1 p2 r Bz Hsz Trz Ez Fz Nmz x9 x10 x11 x12 t0 r1 B Hs Tr1 E1 F1 Nm h)
set_option maxRecDepth 100000 in
set_option maxHeartbeats 4000000 in
theorem B_L_notes_370 {X : gX} (C : cx X RL cL_notes 17 (some .boolean) wsL_notes 6 134) (pa : Nat → Nat → Nat) (N : Nat) (Tn : tS) (p1 : Int32) (p2 : Int32) (r : Int32) (Bz : tS) (Hsz : tH) (Trz : tS) (Ez : tS) (Fz : tS) (Nmz : tS)  (t0 : Int32) (t1 : Int32) (t2 : Int32) (B : tS) (Hs : tH) (Tr : tS) (E : tS) (F : tS) (Nm : tS) (h : f_L_notes_370 N Tn p1 p2  t0 t1 t2 B Hs Tr E F Nm = some (r, Bz, Hsz, Trz, Ez, Fz, Nmz)) : G X (QI X r [ntW pa Tn, bdW (gcA X) (pa 1) Bz, hsW (gcA X) (pa 2) (fun j => pa (10 + j)) Hsz, bdW (gcA X) (pa 5) Trz, heW (gcA X) (pa 6) Ez, heW (gcA X) (pa 7) Fz, nmW (gcA X) (pa 8) Nmz]) [ntW pa Tn, bdW (gcA X) (pa 1) B, hsW (gcA X) (pa 2) (fun j => pa (10 + j)) Hs, bdW (gcA X) (pa 5) Tr, heW (gcA X) (pa 6) E, heW (gcA X) (pa 7) F, nmW (gcA X) (pa 8) Nm] [some (.ref (pa 0 0)), some (.int p1), some (.int p2), none, none, none, none, none, none, none, none, none, none, none, none, none, none] [.int t0, .int t1, .int t2] 370 := by
  unfold f_L_notes_370 at h
  refine g_isub (pc' := 371) C dL_notes_370 rfl ?_
  refine g_icmp_ne (pc' := 374) (tgt := 378) C dL_notes_371 (by decide) rfl h (fun c h => ?_) (fun c h => ?_)
  · refine g_iconst (pc' := 375) (v := 1) C dL_notes_374 (by decide) rfl ?_
    refine g_goto (pc' := 379) C dL_notes_375 (by decide) ?_
    obtain ⟨rfl, rfl, rfl, rfl, rfl, rfl, rfl⟩ := pj7 (Option.some.inj h)
    exact g_zret0 C rfl dL_notes_379
  · refine g_iconst (pc' := 379) (v := 0) C dL_notes_378 (by decide) rfl ?_
    obtain ⟨rfl, rfl, rfl, rfl, rfl, rfl, rfl⟩ := pj7 (Option.some.inj h)
    exact g_zret0 C rfl dL_notes_379
set_option maxRecDepth 100000 in
set_option maxHeartbeats 4000000 in
theorem B_L_notes_351 {X : gX} (C : cx X RL cL_notes 17 (some .boolean) wsL_notes 6 134) (pa : Nat → Nat → Nat) (N : Nat) (Tn : tS) (p1 : Int32) (p2 : Int32) (r : Int32) (Bz : tS) (Hsz : tH) (Trz : tS) (Ez : tS) (Fz : tS) (Nmz : tS)  (x3 : Int32) (x5 : Int32) (t0 : Int32) (t1 : Int32) (B : tS) (Hs : tH) (Tr : tS) (E : tS) (F : tS) (Nm : tS) (h : f_L_notes_351 N Tn p1 p2  x3 x5 t0 t1 B Hs Tr E F Nm = some (r, Bz, Hsz, Trz, Ez, Fz, Nmz)) : G X (QI X r [ntW pa Tn, bdW (gcA X) (pa 1) Bz, hsW (gcA X) (pa 2) (fun j => pa (10 + j)) Hsz, bdW (gcA X) (pa 5) Trz, heW (gcA X) (pa 6) Ez, heW (gcA X) (pa 7) Fz, nmW (gcA X) (pa 8) Nmz]) [ntW pa Tn, bdW (gcA X) (pa 1) B, hsW (gcA X) (pa 2) (fun j => pa (10 + j)) Hs, bdW (gcA X) (pa 5) Tr, heW (gcA X) (pa 6) E, heW (gcA X) (pa 7) F, nmW (gcA X) (pa 8) Nm] [some (.ref (pa 0 0)), some (.int p1), some (.int p2), some (.int x3), none, some (.int x5), none, none, none, none, none, none, none, none, none, none, none] [.int t0, .int t1] 351 := by
  unfold f_L_notes_351 at h
  refine g_icmp_ne (pc' := 354) (tgt := 378) C dL_notes_351 (by decide) rfl h (fun c h => ?_) (fun c h => ?_)
  · refine g_aload_n (pc' := 355) C dL_notes_354 rfl rfl ?_
    refine g_iconst (pc' := 356) (v := 0) C dL_notes_355 (by decide) rfl ?_
    refine k_X5_count (pc' := 359) C pa N Tn B Hs E Nm (0 : Int32) [0, 1, 2, 4, 6] rfl (by decide) gL_notes_X5_count ⟨Nat.le_of_ble_eq_true rfl, Nat.le_of_ble_eq_true rfl⟩ (Nat.le_of_ble_eq_true rfl) rfl dL_notes_356 rfl h (fun r1 E1 Nm1 h => ?_)
    show G X _ [ntW pa Tn, bdW (gcA X) (pa 1) B, hsW (gcA X) (pa 2) (fun j => pa (10 + j)) Hs, bdW (gcA X) (pa 5) Tr, heW (gcA X) (pa 6) E1, heW (gcA X) (pa 7) F, nmW (gcA X) (pa 8) Nm1] _ _ _
    refine g_iload_n (pc' := 360) C dL_notes_359 rfl rfl ?_
    refine g_iload (pc' := 362) C dL_notes_360 rfl rfl ?_
    refine g_if_eq (pc' := 365) (tgt := 369) C dL_notes_362 (by decide) rfl h (fun c h => ?_) (fun c h => ?_)
    · refine g_iconst (pc' := 370) (v := 1) C dL_notes_369 (by decide) rfl ?_
      exact G_loc (lle_s (lle_s (lle_s (lle_n (lle_n (lle_n (lle_n (lle_n (lle_n (lle_n (lle_n (lle_n (lle_n (lle_n (lle_n (lle_n (lle_n lle_0))))))))))))))))) (B_L_notes_370 C pa N Tn p1 p2 r Bz Hsz Trz Ez Fz Nmz (1 : Int32) x3 r1 B Hs Tr E1 F Nm1 h)
    · refine g_iconst (pc' := 366) (v := 0) C dL_notes_365 (by decide) rfl ?_
      refine g_goto (pc' := 370) C dL_notes_366 (by decide) ?_
      exact G_loc (lle_s (lle_s (lle_s (lle_n (lle_n (lle_n (lle_n (lle_n (lle_n (lle_n (lle_n (lle_n (lle_n (lle_n (lle_n (lle_n (lle_n lle_0))))))))))))))))) (B_L_notes_370 C pa N Tn p1 p2 r Bz Hsz Trz Ez Fz Nmz (0 : Int32) x3 r1 B Hs Tr E1 F Nm1 h)
  · refine g_iconst (pc' := 379) (v := 0) C dL_notes_378 (by decide) rfl ?_
    obtain ⟨rfl, rfl, rfl, rfl, rfl, rfl, rfl⟩ := pj7 (Option.some.inj h)
    exact g_zret0 C rfl dL_notes_379
set_option maxRecDepth 100000 in
set_option maxHeartbeats 4000000 in
theorem B_L_notes_332 {X : gX} (C : cx X RL cL_notes 17 (some .boolean) wsL_notes 6 134) (pa : Nat → Nat → Nat) (N : Nat) (Tn : tS) (p1 : Int32) (p2 : Int32) (r : Int32) (Bz : tS) (Hsz : tH) (Trz : tS) (Ez : tS) (Fz : tS) (Nmz : tS)  (x3 : Int32) (x4 : Int32) (x5 : Int32) (t0 : Int32) (B : tS) (Hs : tH) (Tr : tS) (E : tS) (F : tS) (Nm : tS) (h : f_L_notes_332 N Tn p1 p2  x3 x4 x5 t0 B Hs Tr E F Nm = some (r, Bz, Hsz, Trz, Ez, Fz, Nmz)) : G X (QI X r [ntW pa Tn, bdW (gcA X) (pa 1) Bz, hsW (gcA X) (pa 2) (fun j => pa (10 + j)) Hsz, bdW (gcA X) (pa 5) Trz, heW (gcA X) (pa 6) Ez, heW (gcA X) (pa 7) Fz, nmW (gcA X) (pa 8) Nmz]) [ntW pa Tn, bdW (gcA X) (pa 1) B, hsW (gcA X) (pa 2) (fun j => pa (10 + j)) Hs, bdW (gcA X) (pa 5) Tr, heW (gcA X) (pa 6) E, heW (gcA X) (pa 7) F, nmW (gcA X) (pa 8) Nm] [some (.ref (pa 0 0)), some (.int p1), some (.int p2), some (.int x3), some (.int x4), some (.int x5), none, none, none, none, none, none, none, none, none, none, none] [.int t0] 332 := by
  unfold f_L_notes_332 at h
  refine g_istore (pc' := 334) C dL_notes_332 (Nat.le_of_ble_eq_true rfl) rfl (L' := [some (.ref (pa 0 0)), some (.int p1), some (.int p2), some (.int x3), some (.int x4), some (.int x5), none, none, none, some (.int t0), none, none, none, none, none, none, none]) rfl ?_
  refine g_aload_n (pc' := 335) C dL_notes_334 rfl rfl ?_
  refine g_iload (pc' := 337) C dL_notes_335 rfl rfl ?_
  refine k_X5_takeOff (pc' := 340) C pa N Tn B Hs x4 [0, 1, 2] rfl (by decide) gL_notes_X5_takeOff ⟨Nat.le_of_ble_eq_true rfl, Nat.le_of_ble_eq_true rfl⟩ (Nat.le_of_ble_eq_true rfl) rfl dL_notes_337 rfl h (fun r1 B1 Hs1 h => ?_)
  show G X _ [ntW pa Tn, bdW (gcA X) (pa 1) B1, hsW (gcA X) (pa 2) (fun j => pa (10 + j)) Hs1, bdW (gcA X) (pa 5) Tr, heW (gcA X) (pa 6) E, heW (gcA X) (pa 7) F, nmW (gcA X) (pa 8) Nm] _ _ _
  refine g_iload (pc' := 342) C dL_notes_340 rfl rfl ?_
  refine g_if_eq (pc' := 345) (tgt := 349) C dL_notes_342 (by decide) rfl h (fun c h => ?_) (fun c h => ?_)
  · refine g_iload (pc' := 351) C dL_notes_349 rfl rfl ?_
    exact G_loc (lle_s (lle_s (lle_s (lle_s (lle_n (lle_s (lle_n (lle_n (lle_n (lle_n (lle_n (lle_n (lle_n (lle_n (lle_n (lle_n (lle_n lle_0))))))))))))))))) (B_L_notes_351 C pa N Tn p1 p2 r Bz Hsz Trz Ez Fz Nmz x3 x5 t0 r1 B1 Hs1 Tr E F Nm h)
  · refine g_iconst (pc' := 346) (v := -1) C dL_notes_345 (by decide) rfl ?_
    refine g_goto (pc' := 351) C dL_notes_346 (by decide) ?_
    exact G_loc (lle_s (lle_s (lle_s (lle_s (lle_n (lle_s (lle_n (lle_n (lle_n (lle_n (lle_n (lle_n (lle_n (lle_n (lle_n (lle_n (lle_n lle_0))))))))))))))))) (B_L_notes_351 C pa N Tn p1 p2 r Bz Hsz Trz Ez Fz Nmz x3 x5 (-1 : Int32) r1 B1 Hs1 Tr E F Nm h)
set_option maxRecDepth 100000 in
set_option maxHeartbeats 4000000 in
theorem B_L_notes_304 {X : gX} (C : cx X RL cL_notes 17 (some .boolean) wsL_notes 6 134) (pa : Nat → Nat → Nat) (N : Nat) (Tn : tS) (p1 : Int32) (p2 : Int32) (r : Int32) (Bz : tS) (Hsz : tH) (Trz : tS) (Ez : tS) (Fz : tS) (Nmz : tS)  (B : tS) (Hs : tH) (Tr : tS) (E : tS) (F : tS) (Nm : tS) (h : f_L_notes_304 N Tn p1 p2  B Hs Tr E F Nm = some (r, Bz, Hsz, Trz, Ez, Fz, Nmz)) : G X (QI X r [ntW pa Tn, bdW (gcA X) (pa 1) Bz, hsW (gcA X) (pa 2) (fun j => pa (10 + j)) Hsz, bdW (gcA X) (pa 5) Trz, heW (gcA X) (pa 6) Ez, heW (gcA X) (pa 7) Fz, nmW (gcA X) (pa 8) Nmz]) [ntW pa Tn, bdW (gcA X) (pa 1) B, hsW (gcA X) (pa 2) (fun j => pa (10 + j)) Hs, bdW (gcA X) (pa 5) Tr, heW (gcA X) (pa 6) E, heW (gcA X) (pa 7) F, nmW (gcA X) (pa 8) Nm] [some (.ref (pa 0 0)), some (.int p1), some (.int p2), none, none, none, none, none, none, none, none, none, none, none, none, none, none] [] 304 := by
  unfold f_L_notes_304 at h
  refine g_iconst (pc' := 305) (v := 1) C dL_notes_304 (by decide) rfl ?_
  refine g_goto (pc' := 309) C dL_notes_305 (by decide) ?_
  obtain ⟨rfl, rfl, rfl, rfl, rfl, rfl, rfl⟩ := pj7 (Option.some.inj h)
  exact g_zret0 C rfl dL_notes_309
set_option maxRecDepth 100000 in
set_option maxHeartbeats 4000000 in
theorem B_L_notes_272 {X : gX} (C : cx X RL cL_notes 17 (some .boolean) wsL_notes 6 134) (pa : Nat → Nat → Nat) (N : Nat) (Tn : tS) (p1 : Int32) (p2 : Int32) (r : Int32) (Bz : tS) (Hsz : tH) (Trz : tS) (Ez : tS) (Fz : tS) (Nmz : tS)  (x4 : Int32) (x6 : Int32) (x7 : Int32) (x10 : Int32) (t0 : Int32) (t1 : Int32) (B : tS) (Hs : tH) (Tr : tS) (E : tS) (F : tS) (Nm : tS) (h : f_L_notes_272 N Tn p1 p2  x4 x6 x7 x10 t0 t1 B Hs Tr E F Nm = some (r, Bz, Hsz, Trz, Ez, Fz, Nmz)) : G X (QI X r [ntW pa Tn, bdW (gcA X) (pa 1) Bz, hsW (gcA X) (pa 2) (fun j => pa (10 + j)) Hsz, bdW (gcA X) (pa 5) Trz, heW (gcA X) (pa 6) Ez, heW (gcA X) (pa 7) Fz, nmW (gcA X) (pa 8) Nmz]) [ntW pa Tn, bdW (gcA X) (pa 1) B, hsW (gcA X) (pa 2) (fun j => pa (10 + j)) Hs, bdW (gcA X) (pa 5) Tr, heW (gcA X) (pa 6) E, heW (gcA X) (pa 7) F, nmW (gcA X) (pa 8) Nm] [some (.ref (pa 0 0)), some (.int p1), some (.int p2), none, some (.int x4), none, some (.int x6), some (.int x7), none, none, some (.int x10), none, none, none, none, none, none] [.int t0, .int t1] 272 := by
  unfold f_L_notes_272 at h
  refine g_icmp_ne (pc' := 275) (tgt := 308) C dL_notes_272 (by decide) rfl h (fun c h => ?_) (fun c h => ?_)
  · refine g_iload (pc' := 277) C dL_notes_275 rfl rfl ?_
    refine g_if_lt (pc' := 280) (tgt := 304) C dL_notes_277 (by decide) rfl h (fun c h => ?_) (fun c h => ?_)
    · exact G_loc (lle_s (lle_s (lle_s (lle_n (lle_n (lle_n (lle_n (lle_n (lle_n (lle_n (lle_n (lle_n (lle_n (lle_n (lle_n (lle_n (lle_n lle_0))))))))))))))))) (B_L_notes_304 C pa N Tn p1 p2 r Bz Hsz Trz Ez Fz Nmz B Hs Tr E F Nm h)
    · refine g_aload_n (pc' := 281) C dL_notes_280 rfl rfl ?_
      refine g_iload (pc' := 283) C dL_notes_281 rfl rfl ?_
      refine g_iconst (pc' := 284) (v := 0) C dL_notes_283 (by decide) rfl ?_
      refine k_X5_note (pc' := 287) C pa N Tn B Tr E F x4 (0 : Int32) [0, 1, 3, 4, 5] rfl (by decide) gL_notes_X5_note ⟨Nat.le_of_ble_eq_true rfl, Nat.le_of_ble_eq_true rfl⟩ (Nat.le_of_ble_eq_true rfl) rfl dL_notes_284 rfl h (fun r1 Tr1 E1 F1 h => ?_)
      show G X _ [ntW pa Tn, bdW (gcA X) (pa 1) B, hsW (gcA X) (pa 2) (fun j => pa (10 + j)) Hs, bdW (gcA X) (pa 5) Tr1, heW (gcA X) (pa 6) E1, heW (gcA X) (pa 7) F1, nmW (gcA X) (pa 8) Nm] _ _ _
      refine g_iload (pc' := 289) C dL_notes_287 rfl rfl ?_
      refine g_icmp_ne (pc' := 292) (tgt := 308) C dL_notes_289 (by decide) rfl h (fun c h => ?_) (fun c h => ?_)
      · refine g_aload_n (pc' := 293) C dL_notes_292 rfl rfl ?_
        refine g_iload (pc' := 295) C dL_notes_293 rfl rfl ?_
        refine g_iconst (pc' := 296) (v := 1) C dL_notes_295 (by decide) rfl ?_
        refine k_X5_note (pc' := 299) C pa N Tn B Tr1 E1 F1 x4 (1 : Int32) [0, 1, 3, 4, 5] rfl (by decide) gL_notes_X5_note ⟨Nat.le_of_ble_eq_true rfl, Nat.le_of_ble_eq_true rfl⟩ (Nat.le_of_ble_eq_true rfl) rfl dL_notes_296 rfl h (fun r2 Tr2 E2 F2 h => ?_)
        show G X _ [ntW pa Tn, bdW (gcA X) (pa 1) B, hsW (gcA X) (pa 2) (fun j => pa (10 + j)) Hs, bdW (gcA X) (pa 5) Tr2, heW (gcA X) (pa 6) E2, heW (gcA X) (pa 7) F2, nmW (gcA X) (pa 8) Nm] _ _ _
        refine g_iload (pc' := 301) C dL_notes_299 rfl rfl ?_
        refine g_icmp_ne (pc' := 304) (tgt := 308) C dL_notes_301 (by decide) rfl h (fun c h => ?_) (fun c h => ?_)
        · exact G_loc (lle_s (lle_s (lle_s (lle_n (lle_n (lle_n (lle_n (lle_n (lle_n (lle_n (lle_n (lle_n (lle_n (lle_n (lle_n (lle_n (lle_n lle_0))))))))))))))))) (B_L_notes_304 C pa N Tn p1 p2 r Bz Hsz Trz Ez Fz Nmz B Hs Tr2 E2 F2 Nm h)
        · refine g_iconst (pc' := 309) (v := 0) C dL_notes_308 (by decide) rfl ?_
          obtain ⟨rfl, rfl, rfl, rfl, rfl, rfl, rfl⟩ := pj7 (Option.some.inj h)
          exact g_zret0 C rfl dL_notes_309
      · refine g_iconst (pc' := 309) (v := 0) C dL_notes_308 (by decide) rfl ?_
        obtain ⟨rfl, rfl, rfl, rfl, rfl, rfl, rfl⟩ := pj7 (Option.some.inj h)
        exact g_zret0 C rfl dL_notes_309
  · refine g_iconst (pc' := 309) (v := 0) C dL_notes_308 (by decide) rfl ?_
    obtain ⟨rfl, rfl, rfl, rfl, rfl, rfl, rfl⟩ := pj7 (Option.some.inj h)
    exact g_zret0 C rfl dL_notes_309
set_option maxRecDepth 100000 in
set_option maxHeartbeats 4000000 in
theorem B_L_notes_253 {X : gX} (C : cx X RL cL_notes 17 (some .boolean) wsL_notes 6 134) (pa : Nat → Nat → Nat) (N : Nat) (Tn : tS) (p1 : Int32) (p2 : Int32) (r : Int32) (Bz : tS) (Hsz : tH) (Trz : tS) (Ez : tS) (Fz : tS) (Nmz : tS)  (x4 : Int32) (x6 : Int32) (x7 : Int32) (x10 : Int32) (t0 : Int32) (B : tS) (Hs : tH) (Tr : tS) (E : tS) (F : tS) (Nm : tS) (h : f_L_notes_253 N Tn p1 p2  x4 x6 x7 x10 t0 B Hs Tr E F Nm = some (r, Bz, Hsz, Trz, Ez, Fz, Nmz)) : G X (QI X r [ntW pa Tn, bdW (gcA X) (pa 1) Bz, hsW (gcA X) (pa 2) (fun j => pa (10 + j)) Hsz, bdW (gcA X) (pa 5) Trz, heW (gcA X) (pa 6) Ez, heW (gcA X) (pa 7) Fz, nmW (gcA X) (pa 8) Nmz]) [ntW pa Tn, bdW (gcA X) (pa 1) B, hsW (gcA X) (pa 2) (fun j => pa (10 + j)) Hs, bdW (gcA X) (pa 5) Tr, heW (gcA X) (pa 6) E, heW (gcA X) (pa 7) F, nmW (gcA X) (pa 8) Nm] [some (.ref (pa 0 0)), some (.int p1), some (.int p2), none, some (.int x4), none, some (.int x6), some (.int x7), none, none, some (.int x10), none, none, none, none, none, none] [.int t0] 253 := by
  unfold f_L_notes_253 at h
  refine g_iconst (pc' := 254) (v := -1) C dL_notes_253 (by decide) rfl ?_
  refine g_goto (pc' := 272) C dL_notes_254 (by decide) ?_
  exact G_loc (lle_s (lle_s (lle_s (lle_n (lle_s (lle_n (lle_s (lle_s (lle_n (lle_n (lle_s (lle_n (lle_n (lle_n (lle_n (lle_n (lle_n lle_0))))))))))))))))) (B_L_notes_272 C pa N Tn p1 p2 r Bz Hsz Trz Ez Fz Nmz x4 x6 x7 x10 (-1 : Int32) t0 B Hs Tr E F Nm h)
set_option maxRecDepth 100000 in
set_option maxHeartbeats 4000000 in
theorem B_L_notes_227 {X : gX} (C : cx X RL cL_notes 17 (some .boolean) wsL_notes 6 134) (pa : Nat → Nat → Nat) (N : Nat) (Tn : tS) (p1 : Int32) (p2 : Int32) (r : Int32) (Bz : tS) (Hsz : tH) (Trz : tS) (Ez : tS) (Fz : tS) (Nmz : tS)  (x4 : Int32) (x5 : Int32) (x6 : Int32) (x7 : Int32) (x8 : Int32) (t0 : Int32) (B : tS) (Hs : tH) (Tr : tS) (E : tS) (F : tS) (Nm : tS) (h : f_L_notes_227 N Tn p1 p2  x4 x5 x6 x7 x8 t0 B Hs Tr E F Nm = some (r, Bz, Hsz, Trz, Ez, Fz, Nmz)) : G X (QI X r [ntW pa Tn, bdW (gcA X) (pa 1) Bz, hsW (gcA X) (pa 2) (fun j => pa (10 + j)) Hsz, bdW (gcA X) (pa 5) Trz, heW (gcA X) (pa 6) Ez, heW (gcA X) (pa 7) Fz, nmW (gcA X) (pa 8) Nmz]) [ntW pa Tn, bdW (gcA X) (pa 1) B, hsW (gcA X) (pa 2) (fun j => pa (10 + j)) Hs, bdW (gcA X) (pa 5) Tr, heW (gcA X) (pa 6) E, heW (gcA X) (pa 7) F, nmW (gcA X) (pa 8) Nm] [some (.ref (pa 0 0)), some (.int p1), some (.int p2), none, some (.int x4), some (.int x5), some (.int x6), some (.int x7), some (.int x8), none, none, none, none, none, none, none, none] [.int t0] 227 := by
  unfold f_L_notes_227 at h
  refine g_istore (pc' := 229) C dL_notes_227 (Nat.le_of_ble_eq_true rfl) rfl (L' := [some (.ref (pa 0 0)), some (.int p1), some (.int p2), none, some (.int x4), some (.int x5), some (.int x6), some (.int x7), some (.int x8), some (.int t0), none, none, none, none, none, none, none]) rfl ?_
  refine g_aload_n (pc' := 230) C dL_notes_229 rfl rfl ?_
  refine g_iload (pc' := 232) C dL_notes_230 rfl rfl ?_
  refine g_iload (pc' := 234) C dL_notes_232 rfl rfl ?_
  refine g_iload (pc' := 236) C dL_notes_234 rfl rfl ?_
  refine k_X5_drag (pc' := 239) C pa N Tn B Hs E x4 x6 x7 [0, 1, 2, 4] rfl (by decide) gL_notes_X5_drag ⟨Nat.le_of_ble_eq_true rfl, Nat.le_of_ble_eq_true rfl⟩ (Nat.le_of_ble_eq_true rfl) rfl dL_notes_236 rfl h (fun r1 B1 Hs1 E1 h => ?_)
  show G X _ [ntW pa Tn, bdW (gcA X) (pa 1) B1, hsW (gcA X) (pa 2) (fun j => pa (10 + j)) Hs1, bdW (gcA X) (pa 5) Tr, heW (gcA X) (pa 6) E1, heW (gcA X) (pa 7) F, nmW (gcA X) (pa 8) Nm] _ _ _
  refine g_istore (pc' := 241) C dL_notes_239 (Nat.le_of_ble_eq_true rfl) rfl (L' := [some (.ref (pa 0 0)), some (.int p1), some (.int p2), none, some (.int x4), some (.int x5), some (.int x6), some (.int x7), some (.int x8), some (.int t0), some (.int r1), none, none, none, none, none, none]) rfl ?_
  refine g_iload (pc' := 243) C dL_notes_241 rfl rfl ?_
  refine g_iload (pc' := 245) C dL_notes_243 rfl rfl ?_
  refine g_if_ne (pc' := 248) (tgt := 253) C dL_notes_245 (by decide) rfl h (fun c h => ?_) (fun c h => ?_)
  · refine g_iload (pc' := 250) C dL_notes_248 rfl rfl ?_
    refine g_if_eq (pc' := 253) (tgt := 257) C dL_notes_250 (by decide) rfl h (fun c h => ?_) (fun c h => ?_)
    · refine g_iload (pc' := 259) C dL_notes_257 rfl rfl ?_
      refine g_if_eq (pc' := 262) (tgt := 267) C dL_notes_259 (by decide) rfl h (fun c h => ?_) (fun c h => ?_)
      · refine g_aload_n (pc' := 268) C dL_notes_267 rfl rfl ?_
        refine g_iconst (pc' := 269) (v := 1) C dL_notes_268 (by decide) rfl ?_
        refine k_X5_count (pc' := 272) C pa N Tn B1 Hs1 E1 Nm (1 : Int32) [0, 1, 2, 4, 6] rfl (by decide) gL_notes_X5_count ⟨Nat.le_of_ble_eq_true rfl, Nat.le_of_ble_eq_true rfl⟩ (Nat.le_of_ble_eq_true rfl) rfl dL_notes_269 rfl h (fun r2 E2 Nm2 h => ?_)
        show G X _ [ntW pa Tn, bdW (gcA X) (pa 1) B1, hsW (gcA X) (pa 2) (fun j => pa (10 + j)) Hs1, bdW (gcA X) (pa 5) Tr, heW (gcA X) (pa 6) E2, heW (gcA X) (pa 7) F, nmW (gcA X) (pa 8) Nm2] _ _ _
        exact G_loc (lle_s (lle_s (lle_s (lle_n (lle_s (lle_n (lle_s (lle_s (lle_n (lle_n (lle_s (lle_n (lle_n (lle_n (lle_n (lle_n (lle_n lle_0))))))))))))))))) (B_L_notes_272 C pa N Tn p1 p2 r Bz Hsz Trz Ez Fz Nmz x4 x6 x7 r1 r2 r1 B1 Hs1 Tr E2 F Nm2 h)
      · refine g_bipush (pc' := 264) (v := -5) C dL_notes_262 (by decide) rfl ?_
        refine g_goto (pc' := 272) C dL_notes_264 (by decide) ?_
        exact G_loc (lle_s (lle_s (lle_s (lle_n (lle_s (lle_n (lle_s (lle_s (lle_n (lle_n (lle_s (lle_n (lle_n (lle_n (lle_n (lle_n (lle_n lle_0))))))))))))))))) (B_L_notes_272 C pa N Tn p1 p2 r Bz Hsz Trz Ez Fz Nmz x4 x6 x7 r1 (-5 : Int32) r1 B1 Hs1 Tr E1 F Nm h)
    · exact G_loc (lle_s (lle_s (lle_s (lle_n (lle_s (lle_n (lle_s (lle_s (lle_n (lle_n (lle_s (lle_n (lle_n (lle_n (lle_n (lle_n (lle_n lle_0))))))))))))))))) (B_L_notes_253 C pa N Tn p1 p2 r Bz Hsz Trz Ez Fz Nmz x4 x6 x7 r1 r1 B1 Hs1 Tr E1 F Nm h)
  · exact G_loc (lle_s (lle_s (lle_s (lle_n (lle_s (lle_n (lle_s (lle_s (lle_n (lle_n (lle_s (lle_n (lle_n (lle_n (lle_n (lle_n (lle_n lle_0))))))))))))))))) (B_L_notes_253 C pa N Tn p1 p2 r Bz Hsz Trz Ez Fz Nmz x4 x6 x7 r1 r1 B1 Hs1 Tr E1 F Nm h)
set_option maxRecDepth 100000 in
set_option maxHeartbeats 4000000 in
theorem B_L_notes_226 {X : gX} (C : cx X RL cL_notes 17 (some .boolean) wsL_notes 6 134) (pa : Nat → Nat → Nat) (N : Nat) (Tn : tS) (p1 : Int32) (p2 : Int32) (r : Int32) (Bz : tS) (Hsz : tH) (Trz : tS) (Ez : tS) (Fz : tS) (Nmz : tS)  (x4 : Int32) (x5 : Int32) (x6 : Int32) (x7 : Int32) (x8 : Int32) (B : tS) (Hs : tH) (Tr : tS) (E : tS) (F : tS) (Nm : tS) (h : f_L_notes_226 N Tn p1 p2  x4 x5 x6 x7 x8 B Hs Tr E F Nm = some (r, Bz, Hsz, Trz, Ez, Fz, Nmz)) : G X (QI X r [ntW pa Tn, bdW (gcA X) (pa 1) Bz, hsW (gcA X) (pa 2) (fun j => pa (10 + j)) Hsz, bdW (gcA X) (pa 5) Trz, heW (gcA X) (pa 6) Ez, heW (gcA X) (pa 7) Fz, nmW (gcA X) (pa 8) Nmz]) [ntW pa Tn, bdW (gcA X) (pa 1) B, hsW (gcA X) (pa 2) (fun j => pa (10 + j)) Hs, bdW (gcA X) (pa 5) Tr, heW (gcA X) (pa 6) E, heW (gcA X) (pa 7) F, nmW (gcA X) (pa 8) Nm] [some (.ref (pa 0 0)), some (.int p1), some (.int p2), none, some (.int x4), some (.int x5), some (.int x6), some (.int x7), some (.int x8), none, none, none, none, none, none, none, none] [] 226 := by
  unfold f_L_notes_226 at h
  refine g_iconst (pc' := 227) (v := 0) C dL_notes_226 (by decide) rfl ?_
  exact G_loc (lle_s (lle_s (lle_s (lle_n (lle_s (lle_s (lle_s (lle_s (lle_s (lle_n (lle_n (lle_n (lle_n (lle_n (lle_n (lle_n (lle_n lle_0))))))))))))))))) (B_L_notes_227 C pa N Tn p1 p2 r Bz Hsz Trz Ez Fz Nmz x4 x5 x6 x7 x8 (0 : Int32) B Hs Tr E F Nm h)
set_option maxRecDepth 100000 in
set_option maxHeartbeats 4000000 in
theorem B_L_notes_181 {X : gX} (C : cx X RL cL_notes 17 (some .boolean) wsL_notes 6 134) (pa : Nat → Nat → Nat) (N : Nat) (Tn : tS) (p1 : Int32) (p2 : Int32) (r : Int32) (Bz : tS) (Hsz : tH) (Trz : tS) (Ez : tS) (Fz : tS) (Nmz : tS)  (B : tS) (Hs : tH) (Tr : tS) (E : tS) (F : tS) (Nm : tS) (h : f_L_notes_181 N Tn p1 p2  B Hs Tr E F Nm = some (r, Bz, Hsz, Trz, Ez, Fz, Nmz)) : G X (QI X r [ntW pa Tn, bdW (gcA X) (pa 1) Bz, hsW (gcA X) (pa 2) (fun j => pa (10 + j)) Hsz, bdW (gcA X) (pa 5) Trz, heW (gcA X) (pa 6) Ez, heW (gcA X) (pa 7) Fz, nmW (gcA X) (pa 8) Nmz]) [ntW pa Tn, bdW (gcA X) (pa 1) B, hsW (gcA X) (pa 2) (fun j => pa (10 + j)) Hs, bdW (gcA X) (pa 5) Tr, heW (gcA X) (pa 6) E, heW (gcA X) (pa 7) F, nmW (gcA X) (pa 8) Nm] [some (.ref (pa 0 0)), some (.int p1), some (.int p2), none, none, none, none, none, none, none, none, none, none, none, none, none, none] [] 181 := by
  unfold f_L_notes_181 at h
  refine g_iconst (pc' := 182) (v := 1) C dL_notes_181 (by decide) rfl ?_
  refine g_goto (pc' := 186) C dL_notes_182 (by decide) ?_
  obtain ⟨rfl, rfl, rfl, rfl, rfl, rfl, rfl⟩ := pj7 (Option.some.inj h)
  exact g_zret0 C rfl dL_notes_186
set_option maxRecDepth 100000 in
set_option maxHeartbeats 4000000 in
theorem B_L_notes_136 {X : gX} (C : cx X RL cL_notes 17 (some .boolean) wsL_notes 6 134) (pa : Nat → Nat → Nat) (N : Nat) (Tn : tS) (p1 : Int32) (p2 : Int32) (r : Int32) (Bz : tS) (Hsz : tH) (Trz : tS) (Ez : tS) (Fz : tS) (Nmz : tS)  (x3 : Int32) (x6 : Int32) (x8 : Int32) (t0 : Int32) (t1 : Int32) (B : tS) (Hs : tH) (Tr : tS) (E : tS) (F : tS) (Nm : tS) (h : f_L_notes_136 N Tn p1 p2  x3 x6 x8 t0 t1 B Hs Tr E F Nm = some (r, Bz, Hsz, Trz, Ez, Fz, Nmz)) : G X (QI X r [ntW pa Tn, bdW (gcA X) (pa 1) Bz, hsW (gcA X) (pa 2) (fun j => pa (10 + j)) Hsz, bdW (gcA X) (pa 5) Trz, heW (gcA X) (pa 6) Ez, heW (gcA X) (pa 7) Fz, nmW (gcA X) (pa 8) Nmz]) [ntW pa Tn, bdW (gcA X) (pa 1) B, hsW (gcA X) (pa 2) (fun j => pa (10 + j)) Hs, bdW (gcA X) (pa 5) Tr, heW (gcA X) (pa 6) E, heW (gcA X) (pa 7) F, nmW (gcA X) (pa 8) Nm] [some (.ref (pa 0 0)), some (.int p1), some (.int p2), some (.int x3), none, none, some (.int x6), none, some (.int x8), none, none, none, none, none, none, none, none] [.int t0, .int t1] 136 := by
  unfold f_L_notes_136 at h
  refine g_icmp_ne (pc' := 139) (tgt := 185) C dL_notes_136 (by decide) rfl h (fun c h => ?_) (fun c h => ?_)
  · refine g_iload (pc' := 141) C dL_notes_139 rfl rfl ?_
    refine g_if_ne (pc' := 144) (tgt := 181) C dL_notes_141 (by decide) rfl h (fun c h => ?_) (fun c h => ?_)
    · refine g_iload_n (pc' := 145) C dL_notes_144 rfl rfl ?_
      refine g_bipush (pc' := 147) (v := 20) C dL_notes_145 (by decide) rfl ?_
      refine g_icmp_eq (pc' := 150) (tgt := 181) C dL_notes_147 (by decide) rfl h (fun c h => ?_) (fun c h => ?_)
      · exact G_loc (lle_s (lle_s (lle_s (lle_n (lle_n (lle_n (lle_n (lle_n (lle_n (lle_n (lle_n (lle_n (lle_n (lle_n (lle_n (lle_n (lle_n lle_0))))))))))))))))) (B_L_notes_181 C pa N Tn p1 p2 r Bz Hsz Trz Ez Fz Nmz B Hs Tr E F Nm h)
      · refine g_aload_n (pc' := 151) C dL_notes_150 rfl rfl ?_
        refine g_iload_n (pc' := 152) C dL_notes_151 rfl rfl ?_
        refine g_iconst (pc' := 153) (v := 0) C dL_notes_152 (by decide) rfl ?_
        refine k_X5_note (pc' := 156) C pa N Tn B Tr E F x3 (0 : Int32) [0, 1, 3, 4, 5] rfl (by decide) gL_notes_X5_note ⟨Nat.le_of_ble_eq_true rfl, Nat.le_of_ble_eq_true rfl⟩ (Nat.le_of_ble_eq_true rfl) rfl dL_notes_153 rfl h (fun r1 Tr1 E1 F1 h => ?_)
        show G X _ [ntW pa Tn, bdW (gcA X) (pa 1) B, hsW (gcA X) (pa 2) (fun j => pa (10 + j)) Hs, bdW (gcA X) (pa 5) Tr1, heW (gcA X) (pa 6) E1, heW (gcA X) (pa 7) F1, nmW (gcA X) (pa 8) Nm] _ _ _
        refine g_iload (pc' := 158) C dL_notes_156 rfl rfl ?_
        refine g_icmp_ne (pc' := 161) (tgt := 185) C dL_notes_158 (by decide) rfl h (fun c h => ?_) (fun c h => ?_)
        · refine g_aload_n (pc' := 162) C dL_notes_161 rfl rfl ?_
          refine g_iload_n (pc' := 163) C dL_notes_162 rfl rfl ?_
          refine g_iconst (pc' := 164) (v := 4) C dL_notes_163 (by decide) rfl ?_
          refine k_X5_note (pc' := 167) C pa N Tn B Tr1 E1 F1 x3 (4 : Int32) [0, 1, 3, 4, 5] rfl (by decide) gL_notes_X5_note ⟨Nat.le_of_ble_eq_true rfl, Nat.le_of_ble_eq_true rfl⟩ (Nat.le_of_ble_eq_true rfl) rfl dL_notes_164 rfl h (fun r2 Tr2 E2 F2 h => ?_)
          show G X _ [ntW pa Tn, bdW (gcA X) (pa 1) B, hsW (gcA X) (pa 2) (fun j => pa (10 + j)) Hs, bdW (gcA X) (pa 5) Tr2, heW (gcA X) (pa 6) E2, heW (gcA X) (pa 7) F2, nmW (gcA X) (pa 8) Nm] _ _ _
          refine g_bipush (pc' := 169) (v := -5) C dL_notes_167 (by decide) rfl ?_
          refine g_icmp_ne (pc' := 172) (tgt := 185) C dL_notes_169 (by decide) rfl h (fun c h => ?_) (fun c h => ?_)
          · refine g_aload_n (pc' := 173) C dL_notes_172 rfl rfl ?_
            refine g_iload_n (pc' := 174) C dL_notes_173 rfl rfl ?_
            refine g_iconst (pc' := 175) (v := 2) C dL_notes_174 (by decide) rfl ?_
            refine k_X5_note (pc' := 178) C pa N Tn B Tr2 E2 F2 x3 (2 : Int32) [0, 1, 3, 4, 5] rfl (by decide) gL_notes_X5_note ⟨Nat.le_of_ble_eq_true rfl, Nat.le_of_ble_eq_true rfl⟩ (Nat.le_of_ble_eq_true rfl) rfl dL_notes_175 rfl h (fun r3 Tr3 E3 F3 h => ?_)
            show G X _ [ntW pa Tn, bdW (gcA X) (pa 1) B, hsW (gcA X) (pa 2) (fun j => pa (10 + j)) Hs, bdW (gcA X) (pa 5) Tr3, heW (gcA X) (pa 6) E3, heW (gcA X) (pa 7) F3, nmW (gcA X) (pa 8) Nm] _ _ _
            refine g_if_ne (pc' := 181) (tgt := 185) C dL_notes_178 (by decide) rfl h (fun c h => ?_) (fun c h => ?_)
            · exact G_loc (lle_s (lle_s (lle_s (lle_n (lle_n (lle_n (lle_n (lle_n (lle_n (lle_n (lle_n (lle_n (lle_n (lle_n (lle_n (lle_n (lle_n lle_0))))))))))))))))) (B_L_notes_181 C pa N Tn p1 p2 r Bz Hsz Trz Ez Fz Nmz B Hs Tr3 E3 F3 Nm h)
            · refine g_iconst (pc' := 186) (v := 0) C dL_notes_185 (by decide) rfl ?_
              obtain ⟨rfl, rfl, rfl, rfl, rfl, rfl, rfl⟩ := pj7 (Option.some.inj h)
              exact g_zret0 C rfl dL_notes_186
          · refine g_iconst (pc' := 186) (v := 0) C dL_notes_185 (by decide) rfl ?_
            obtain ⟨rfl, rfl, rfl, rfl, rfl, rfl, rfl⟩ := pj7 (Option.some.inj h)
            exact g_zret0 C rfl dL_notes_186
        · refine g_iconst (pc' := 186) (v := 0) C dL_notes_185 (by decide) rfl ?_
          obtain ⟨rfl, rfl, rfl, rfl, rfl, rfl, rfl⟩ := pj7 (Option.some.inj h)
          exact g_zret0 C rfl dL_notes_186
    · exact G_loc (lle_s (lle_s (lle_s (lle_n (lle_n (lle_n (lle_n (lle_n (lle_n (lle_n (lle_n (lle_n (lle_n (lle_n (lle_n (lle_n (lle_n lle_0))))))))))))))))) (B_L_notes_181 C pa N Tn p1 p2 r Bz Hsz Trz Ez Fz Nmz B Hs Tr E F Nm h)
  · refine g_iconst (pc' := 186) (v := 0) C dL_notes_185 (by decide) rfl ?_
    obtain ⟨rfl, rfl, rfl, rfl, rfl, rfl, rfl⟩ := pj7 (Option.some.inj h)
    exact g_zret0 C rfl dL_notes_186
set_option maxRecDepth 100000 in
set_option maxHeartbeats 4000000 in
theorem B_L_notes_100 {X : gX} (C : cx X RL cL_notes 17 (some .boolean) wsL_notes 6 134) (pa : Nat → Nat → Nat) (N : Nat) (Tn : tS) (p1 : Int32) (p2 : Int32) (r : Int32) (Bz : tS) (Hsz : tH) (Trz : tS) (Ez : tS) (Fz : tS) (Nmz : tS)  (x3 : Int32) (x4 : Int32) (x5 : Int32) (x6 : Int32) (x7 : Int32) (t0 : Int32) (B : tS) (Hs : tH) (Tr : tS) (E : tS) (F : tS) (Nm : tS) (h : f_L_notes_100 N Tn p1 p2  x3 x4 x5 x6 x7 t0 B Hs Tr E F Nm = some (r, Bz, Hsz, Trz, Ez, Fz, Nmz)) : G X (QI X r [ntW pa Tn, bdW (gcA X) (pa 1) Bz, hsW (gcA X) (pa 2) (fun j => pa (10 + j)) Hsz, bdW (gcA X) (pa 5) Trz, heW (gcA X) (pa 6) Ez, heW (gcA X) (pa 7) Fz, nmW (gcA X) (pa 8) Nmz]) [ntW pa Tn, bdW (gcA X) (pa 1) B, hsW (gcA X) (pa 2) (fun j => pa (10 + j)) Hs, bdW (gcA X) (pa 5) Tr, heW (gcA X) (pa 6) E, heW (gcA X) (pa 7) F, nmW (gcA X) (pa 8) Nm] [some (.ref (pa 0 0)), some (.int p1), some (.int p2), some (.int x3), some (.int x4), some (.int x5), some (.int x6), some (.int x7), none, none, none, none, none, none, none, none, none] [.int t0] 100 := by
  unfold f_L_notes_100 at h
  refine g_istore (pc' := 102) C dL_notes_100 (Nat.le_of_ble_eq_true rfl) rfl (L' := [some (.ref (pa 0 0)), some (.int p1), some (.int p2), some (.int x3), some (.int x4), some (.int x5), some (.int x6), some (.int x7), some (.int t0), none, none, none, none, none, none, none, none]) rfl ?_
  refine g_iload_n (pc' := 103) C dL_notes_102 rfl rfl ?_
  refine g_iconst (pc' := 104) (v := 4) C dL_notes_103 (by decide) rfl ?_
  refine g_icmp_ge (pc' := 107) (tgt := 187) C dL_notes_104 (by decide) rfl h (fun c h => ?_) (fun c h => ?_)
  · refine g_iload_n (pc' := 188) C dL_notes_187 rfl rfl ?_
    refine g_bipush (pc' := 190) (v := 6) C dL_notes_188 (by decide) rfl ?_
    refine g_icmp_ge (pc' := 193) (tgt := 310) C dL_notes_190 (by decide) rfl h (fun c h => ?_) (fun c h => ?_)
    · refine g_iload_n (pc' := 311) C dL_notes_310 rfl rfl ?_
      refine g_bipush (pc' := 313) (v := 6) C dL_notes_311 (by decide) rfl ?_
      refine g_icmp_ne (pc' := 316) (tgt := 380) C dL_notes_313 (by decide) rfl h (fun c h => ?_) (fun c h => ?_)
      · refine g_iload (pc' := 318) C dL_notes_316 rfl rfl ?_
        refine g_if_eq (pc' := 321) (tgt := 325) C dL_notes_318 (by decide) rfl h (fun c h => ?_) (fun c h => ?_)
        · refine g_aload_n (pc' := 326) C dL_notes_325 rfl rfl ?_
          refine g_iload (pc' := 328) C dL_notes_326 rfl rfl ?_
          refine g_iconst (pc' := 329) (v := 2) C dL_notes_328 (by decide) rfl ?_
          refine k_X5_note (pc' := 332) C pa N Tn B Tr E F x4 (2 : Int32) [0, 1, 3, 4, 5] rfl (by decide) gL_notes_X5_note ⟨Nat.le_of_ble_eq_true rfl, Nat.le_of_ble_eq_true rfl⟩ (Nat.le_of_ble_eq_true rfl) rfl dL_notes_329 rfl h (fun r6 Tr6 E6 F6 h => ?_)
          show G X _ [ntW pa Tn, bdW (gcA X) (pa 1) B, hsW (gcA X) (pa 2) (fun j => pa (10 + j)) Hs, bdW (gcA X) (pa 5) Tr6, heW (gcA X) (pa 6) E6, heW (gcA X) (pa 7) F6, nmW (gcA X) (pa 8) Nm] _ _ _
          exact G_loc (lle_s (lle_s (lle_s (lle_s (lle_s (lle_s (lle_n (lle_n (lle_n (lle_n (lle_n (lle_n (lle_n (lle_n (lle_n (lle_n (lle_n lle_0))))))))))))))))) (B_L_notes_332 C pa N Tn p1 p2 r Bz Hsz Trz Ez Fz Nmz x3 x4 x5 r6 B Hs Tr6 E6 F6 Nm h)
        · refine g_iconst (pc' := 322) (v := 0) C dL_notes_321 (by decide) rfl ?_
          refine g_goto (pc' := 332) C dL_notes_322 (by decide) ?_
          exact G_loc (lle_s (lle_s (lle_s (lle_s (lle_s (lle_s (lle_n (lle_n (lle_n (lle_n (lle_n (lle_n (lle_n (lle_n (lle_n (lle_n (lle_n lle_0))))))))))))))))) (B_L_notes_332 C pa N Tn p1 p2 r Bz Hsz Trz Ez Fz Nmz x3 x4 x5 (0 : Int32) B Hs Tr E F Nm h)
      · refine g_aload_n (pc' := 381) C dL_notes_380 rfl rfl ?_
        refine g_iconst (pc' := 382) (v := 1) C dL_notes_381 (by decide) rfl ?_
        refine k_X5_count (pc' := 385) C pa N Tn B Hs E Nm (1 : Int32) [0, 1, 2, 4, 6] rfl (by decide) gL_notes_X5_count ⟨Nat.le_of_ble_eq_true rfl, Nat.le_of_ble_eq_true rfl⟩ (Nat.le_of_ble_eq_true rfl) rfl dL_notes_382 rfl h (fun r1 E1 Nm1 h => ?_)
        show G X _ [ntW pa Tn, bdW (gcA X) (pa 1) B, hsW (gcA X) (pa 2) (fun j => pa (10 + j)) Hs, bdW (gcA X) (pa 5) Tr, heW (gcA X) (pa 6) E1, heW (gcA X) (pa 7) F, nmW (gcA X) (pa 8) Nm1] _ _ _
        refine g_istore (pc' := 387) C dL_notes_385 (Nat.le_of_ble_eq_true rfl) rfl (L' := [some (.ref (pa 0 0)), some (.int p1), some (.int p2), some (.int x3), some (.int x4), some (.int x5), some (.int x6), some (.int x7), some (.int t0), some (.int r1), none, none, none, none, none, none, none]) rfl ?_
        refine g_iload_n (pc' := 388) C dL_notes_387 rfl rfl ?_
        refine g_iload (pc' := 390) C dL_notes_388 rfl rfl ?_
        refine g_iconst (pc' := 391) (v := 1) C dL_notes_390 (by decide) rfl ?_
        refine g_iadd (pc' := 392) C dL_notes_391 rfl ?_
        refine k_L_low (pc' := 395) C N p2 (r1 + (1 : Int32)) [] rfl (by decide) gL_notes_L_low ⟨Nat.le_of_ble_eq_true rfl, Nat.le_of_ble_eq_true rfl⟩ (Nat.le_of_ble_eq_true rfl) rfl dL_notes_392 rfl h (fun r2 h => ?_)
        refine g_istore (pc' := 397) C dL_notes_395 (Nat.le_of_ble_eq_true rfl) rfl (L' := [some (.ref (pa 0 0)), some (.int p1), some (.int p2), some (.int x3), some (.int x4), some (.int x5), some (.int x6), some (.int x7), some (.int t0), some (.int r1), some (.int r2), none, none, none, none, none, none]) rfl ?_
        refine g_iload_n (pc' := 398) C dL_notes_397 rfl rfl ?_
        refine g_iconst (pc' := 399) (v := 5) C dL_notes_398 (by decide) rfl ?_
        refine g_ishr (pc' := 400) C dL_notes_399 rfl ?_
        refine g_bipush (pc' := 402) (v := 9) C dL_notes_400 (by decide) rfl ?_
        refine k_L_low (pc' := 405) C N (p2 >>> ((5 : Int32) &&& 31)) (9 : Int32) [] rfl (by decide) gL_notes_L_low ⟨Nat.le_of_ble_eq_true rfl, Nat.le_of_ble_eq_true rfl⟩ (Nat.le_of_ble_eq_true rfl) rfl dL_notes_402 rfl h (fun r3 h => ?_)
        refine g_iconst (pc' := 406) (v := 4) C dL_notes_405 (by decide) rfl ?_
        refine g_isub (pc' := 407) C dL_notes_406 rfl ?_
        refine g_istore (pc' := 409) C dL_notes_407 (Nat.le_of_ble_eq_true rfl) rfl (L' := [some (.ref (pa 0 0)), some (.int p1), some (.int p2), some (.int x3), some (.int x4), some (.int x5), some (.int x6), some (.int x7), some (.int t0), some (.int r1), some (.int r2), some (.int (r3 - (4 : Int32))), none, none, none, none, none]) rfl ?_
        refine g_iload_n (pc' := 410) C dL_notes_409 rfl rfl ?_
        refine g_bipush (pc' := 412) (v := 9) C dL_notes_410 (by decide) rfl ?_
        refine g_ishr (pc' := 413) C dL_notes_412 rfl ?_
        refine g_bipush (pc' := 415) (v := 9) C dL_notes_413 (by decide) rfl ?_
        refine k_L_low (pc' := 418) C N (p2 >>> ((9 : Int32) &&& 31)) (9 : Int32) [] rfl (by decide) gL_notes_L_low ⟨Nat.le_of_ble_eq_true rfl, Nat.le_of_ble_eq_true rfl⟩ (Nat.le_of_ble_eq_true rfl) rfl dL_notes_415 rfl h (fun r4 h => ?_)
        refine g_iconst (pc' := 419) (v := 4) C dL_notes_418 (by decide) rfl ?_
        refine g_isub (pc' := 420) C dL_notes_419 rfl ?_
        refine g_istore (pc' := 422) C dL_notes_420 (Nat.le_of_ble_eq_true rfl) rfl (L' := [some (.ref (pa 0 0)), some (.int p1), some (.int p2), some (.int x3), some (.int x4), some (.int x5), some (.int x6), some (.int x7), some (.int t0), some (.int r1), some (.int r2), some (.int (r3 - (4 : Int32))), some (.int (r4 - (4 : Int32))), none, none, none, none]) rfl ?_
        refine g_iload (pc' := 424) C dL_notes_422 rfl rfl ?_
        refine g_iload (pc' := 426) C dL_notes_424 rfl rfl ?_
        refine g_icmp_ne (pc' := 429) (tgt := 433) C dL_notes_426 (by decide) rfl h (fun c h => ?_) (fun c h => ?_)
        · refine g_iconst (pc' := 430) (v := 0) C dL_notes_429 (by decide) rfl ?_
          refine g_goto (pc' := 440) C dL_notes_430 (by decide) ?_
          exact G_loc (lle_s (lle_s (lle_s (lle_n (lle_n (lle_n (lle_n (lle_n (lle_n (lle_s (lle_s (lle_s (lle_s (lle_n (lle_n (lle_n (lle_n lle_0))))))))))))))))) (B_L_notes_440 C pa N Tn p1 p2 r Bz Hsz Trz Ez Fz Nmz r1 r2 (r3 - (4 : Int32)) (r4 - (4 : Int32)) (0 : Int32) B Hs Tr E1 F Nm1 h)
        · refine g_aload_n (pc' := 434) C dL_notes_433 rfl rfl ?_
          refine g_iload (pc' := 436) C dL_notes_434 rfl rfl ?_
          refine g_iconst (pc' := 437) (v := 1) C dL_notes_436 (by decide) rfl ?_
          refine k_X5_heap (pc' := 440) C pa N Tn B E1 r2 (1 : Int32) [0, 1, 4] rfl (by decide) gL_notes_X5_heap ⟨Nat.le_of_ble_eq_true rfl, Nat.le_of_ble_eq_true rfl⟩ (Nat.le_of_ble_eq_true rfl) rfl dL_notes_437 rfl h (fun r5 E5 h => ?_)
          show G X _ [ntW pa Tn, bdW (gcA X) (pa 1) B, hsW (gcA X) (pa 2) (fun j => pa (10 + j)) Hs, bdW (gcA X) (pa 5) Tr, heW (gcA X) (pa 6) E5, heW (gcA X) (pa 7) F, nmW (gcA X) (pa 8) Nm1] _ _ _
          exact G_loc (lle_s (lle_s (lle_s (lle_n (lle_n (lle_n (lle_n (lle_n (lle_n (lle_s (lle_s (lle_s (lle_s (lle_n (lle_n (lle_n (lle_n lle_0))))))))))))))))) (B_L_notes_440 C pa N Tn p1 p2 r Bz Hsz Trz Ez Fz Nmz r1 r2 (r3 - (4 : Int32)) (r4 - (4 : Int32)) r5 B Hs Tr E5 F Nm1 h)
    · refine g_iload (pc' := 195) C dL_notes_193 rfl rfl ?_
      refine g_if_ne (pc' := 198) (tgt := 226) C dL_notes_195 (by decide) rfl h (fun c h => ?_) (fun c h => ?_)
      · refine g_aload_n (pc' := 199) C dL_notes_198 rfl rfl ?_
        refine g_iload (pc' := 201) C dL_notes_199 rfl rfl ?_
        refine g_iconst (pc' := 202) (v := 0) C dL_notes_201 (by decide) rfl ?_
        refine k_X5_note (pc' := 205) C pa N Tn B Tr E F x4 (0 : Int32) [0, 1, 3, 4, 5] rfl (by decide) gL_notes_X5_note ⟨Nat.le_of_ble_eq_true rfl, Nat.le_of_ble_eq_true rfl⟩ (Nat.le_of_ble_eq_true rfl) rfl dL_notes_202 rfl h (fun r7 Tr7 E7 F7 h => ?_)
        show G X _ [ntW pa Tn, bdW (gcA X) (pa 1) B, hsW (gcA X) (pa 2) (fun j => pa (10 + j)) Hs, bdW (gcA X) (pa 5) Tr7, heW (gcA X) (pa 6) E7, heW (gcA X) (pa 7) F7, nmW (gcA X) (pa 8) Nm] _ _ _
        refine g_iload (pc' := 207) C dL_notes_205 rfl rfl ?_
        refine g_icmp_ne (pc' := 210) (tgt := 226) C dL_notes_207 (by decide) rfl h (fun c h => ?_) (fun c h => ?_)
        · refine g_aload_n (pc' := 211) C dL_notes_210 rfl rfl ?_
          refine g_iload (pc' := 213) C dL_notes_211 rfl rfl ?_
          refine g_iconst (pc' := 214) (v := 1) C dL_notes_213 (by decide) rfl ?_
          refine k_X5_note (pc' := 217) C pa N Tn B Tr7 E7 F7 x4 (1 : Int32) [0, 1, 3, 4, 5] rfl (by decide) gL_notes_X5_note ⟨Nat.le_of_ble_eq_true rfl, Nat.le_of_ble_eq_true rfl⟩ (Nat.le_of_ble_eq_true rfl) rfl dL_notes_214 rfl h (fun r8 Tr8 E8 F8 h => ?_)
          show G X _ [ntW pa Tn, bdW (gcA X) (pa 1) B, hsW (gcA X) (pa 2) (fun j => pa (10 + j)) Hs, bdW (gcA X) (pa 5) Tr8, heW (gcA X) (pa 6) E8, heW (gcA X) (pa 7) F8, nmW (gcA X) (pa 8) Nm] _ _ _
          refine g_iload (pc' := 219) C dL_notes_217 rfl rfl ?_
          refine g_icmp_ne (pc' := 222) (tgt := 226) C dL_notes_219 (by decide) rfl h (fun c h => ?_) (fun c h => ?_)
          · refine g_iconst (pc' := 223) (v := 1) C dL_notes_222 (by decide) rfl ?_
            refine g_goto (pc' := 227) C dL_notes_223 (by decide) ?_
            exact G_loc (lle_s (lle_s (lle_s (lle_n (lle_s (lle_s (lle_s (lle_s (lle_s (lle_n (lle_n (lle_n (lle_n (lle_n (lle_n (lle_n (lle_n lle_0))))))))))))))))) (B_L_notes_227 C pa N Tn p1 p2 r Bz Hsz Trz Ez Fz Nmz x4 x5 x6 x7 t0 (1 : Int32) B Hs Tr8 E8 F8 Nm h)
          · exact G_loc (lle_s (lle_s (lle_s (lle_n (lle_s (lle_s (lle_s (lle_s (lle_s (lle_n (lle_n (lle_n (lle_n (lle_n (lle_n (lle_n (lle_n lle_0))))))))))))))))) (B_L_notes_226 C pa N Tn p1 p2 r Bz Hsz Trz Ez Fz Nmz x4 x5 x6 x7 t0 B Hs Tr8 E8 F8 Nm h)
        · exact G_loc (lle_s (lle_s (lle_s (lle_n (lle_s (lle_s (lle_s (lle_s (lle_s (lle_n (lle_n (lle_n (lle_n (lle_n (lle_n (lle_n (lle_n lle_0))))))))))))))))) (B_L_notes_226 C pa N Tn p1 p2 r Bz Hsz Trz Ez Fz Nmz x4 x5 x6 x7 t0 B Hs Tr7 E7 F7 Nm h)
      · exact G_loc (lle_s (lle_s (lle_s (lle_n (lle_s (lle_s (lle_s (lle_s (lle_s (lle_n (lle_n (lle_n (lle_n (lle_n (lle_n (lle_n (lle_n lle_0))))))))))))))))) (B_L_notes_226 C pa N Tn p1 p2 r Bz Hsz Trz Ez Fz Nmz x4 x5 x6 x7 t0 B Hs Tr E F Nm h)
  · refine g_aload_n (pc' := 108) C dL_notes_107 rfl rfl ?_
    refine g_iload (pc' := 110) C dL_notes_108 rfl rfl ?_
    refine g_iload (pc' := 112) C dL_notes_110 rfl rfl ?_
    refine k_X5_put (pc' := 115) C pa N Tn B Hs x6 x7 [0, 1, 2] rfl (by decide) gL_notes_X5_put ⟨Nat.le_of_ble_eq_true rfl, Nat.le_of_ble_eq_true rfl⟩ (Nat.le_of_ble_eq_true rfl) rfl dL_notes_112 rfl h (fun r9 B9 Hs9 h => ?_)
    show G X _ [ntW pa Tn, bdW (gcA X) (pa 1) B9, hsW (gcA X) (pa 2) (fun j => pa (10 + j)) Hs9, bdW (gcA X) (pa 5) Tr, heW (gcA X) (pa 6) E, heW (gcA X) (pa 7) F, nmW (gcA X) (pa 8) Nm] _ _ _
    refine g_iload (pc' := 117) C dL_notes_115 rfl rfl ?_
    refine g_if_eq (pc' := 120) (tgt := 124) C dL_notes_117 (by decide) rfl h (fun c h => ?_) (fun c h => ?_)
    · refine g_iload_n (pc' := 125) C dL_notes_124 rfl rfl ?_
      refine g_bipush (pc' := 127) (v := 20) C dL_notes_125 (by decide) rfl ?_
      refine g_icmp_ne (pc' := 130) (tgt := 135) C dL_notes_127 (by decide) rfl h (fun c h => ?_) (fun c h => ?_)
      · refine g_bipush (pc' := 132) (v := -3) C dL_notes_130 (by decide) rfl ?_
        refine g_goto (pc' := 136) C dL_notes_132 (by decide) ?_
        exact G_loc (lle_s (lle_s (lle_s (lle_s (lle_n (lle_n (lle_s (lle_n (lle_s (lle_n (lle_n (lle_n (lle_n (lle_n (lle_n (lle_n (lle_n lle_0))))))))))))))))) (B_L_notes_136 C pa N Tn p1 p2 r Bz Hsz Trz Ez Fz Nmz x3 x6 t0 (-3 : Int32) r9 B9 Hs9 Tr E F Nm h)
      · refine g_iload_n (pc' := 136) C dL_notes_135 rfl rfl ?_
        exact G_loc (lle_s (lle_s (lle_s (lle_s (lle_n (lle_n (lle_s (lle_n (lle_s (lle_n (lle_n (lle_n (lle_n (lle_n (lle_n (lle_n (lle_n lle_0))))))))))))))))) (B_L_notes_136 C pa N Tn p1 p2 r Bz Hsz Trz Ez Fz Nmz x3 x6 t0 x3 r9 B9 Hs9 Tr E F Nm h)
    · refine g_iconst (pc' := 121) (v := -1) C dL_notes_120 (by decide) rfl ?_
      refine g_goto (pc' := 136) C dL_notes_121 (by decide) ?_
      exact G_loc (lle_s (lle_s (lle_s (lle_s (lle_n (lle_n (lle_s (lle_n (lle_s (lle_n (lle_n (lle_n (lle_n (lle_n (lle_n (lle_n (lle_n lle_0))))))))))))))))) (B_L_notes_136 C pa N Tn p1 p2 r Bz Hsz Trz Ez Fz Nmz x3 x6 t0 (-1 : Int32) r9 B9 Hs9 Tr E F Nm h)
set_option maxRecDepth 100000 in
set_option maxHeartbeats 4000000 in
theorem B_L_notes_95 {X : gX} (C : cx X RL cL_notes 17 (some .boolean) wsL_notes 6 134) (pa : Nat → Nat → Nat) (N : Nat) (Tn : tS) (p1 : Int32) (p2 : Int32) (r : Int32) (Bz : tS) (Hsz : tH) (Trz : tS) (Ez : tS) (Fz : tS) (Nmz : tS)  (x3 : Int32) (x4 : Int32) (x5 : Int32) (x6 : Int32) (x7 : Int32) (B : tS) (Hs : tH) (Tr : tS) (E : tS) (F : tS) (Nm : tS) (h : f_L_notes_95 N Tn p1 p2  x3 x4 x5 x6 x7 B Hs Tr E F Nm = some (r, Bz, Hsz, Trz, Ez, Fz, Nmz)) : G X (QI X r [ntW pa Tn, bdW (gcA X) (pa 1) Bz, hsW (gcA X) (pa 2) (fun j => pa (10 + j)) Hsz, bdW (gcA X) (pa 5) Trz, heW (gcA X) (pa 6) Ez, heW (gcA X) (pa 7) Fz, nmW (gcA X) (pa 8) Nmz]) [ntW pa Tn, bdW (gcA X) (pa 1) B, hsW (gcA X) (pa 2) (fun j => pa (10 + j)) Hs, bdW (gcA X) (pa 5) Tr, heW (gcA X) (pa 6) E, heW (gcA X) (pa 7) F, nmW (gcA X) (pa 8) Nm] [some (.ref (pa 0 0)), some (.int p1), some (.int p2), some (.int x3), some (.int x4), some (.int x5), some (.int x6), some (.int x7), none, none, none, none, none, none, none, none, none] [] 95 := by
  unfold f_L_notes_95 at h
  refine g_iconst (pc' := 96) (v := 1) C dL_notes_95 (by decide) rfl ?_
  refine g_goto (pc' := 100) C dL_notes_96 (by decide) ?_
  exact G_loc (lle_s (lle_s (lle_s (lle_s (lle_s (lle_s (lle_s (lle_s (lle_n (lle_n (lle_n (lle_n (lle_n (lle_n (lle_n (lle_n (lle_n lle_0))))))))))))))))) (B_L_notes_100 C pa N Tn p1 p2 r Bz Hsz Trz Ez Fz Nmz x3 x4 x5 x6 x7 (1 : Int32) B Hs Tr E F Nm h)
set_option maxRecDepth 100000 in
set_option maxHeartbeats 4000000 in
theorem B_L_notes_76 {X : gX} (C : cx X RL cL_notes 17 (some .boolean) wsL_notes 6 134) (pa : Nat → Nat → Nat) (N : Nat) (Tn : tS) (p1 : Int32) (p2 : Int32) (r : Int32) (Bz : tS) (Hsz : tH) (Trz : tS) (Ez : tS) (Fz : tS) (Nmz : tS)  (x3 : Int32) (x4 : Int32) (x5 : Int32) (x6 : Int32) (t0 : Int32) (t1 : Int32) (B : tS) (Hs : tH) (Tr : tS) (E : tS) (F : tS) (Nm : tS) (h : f_L_notes_76 N Tn p1 p2  x3 x4 x5 x6 t0 t1 B Hs Tr E F Nm = some (r, Bz, Hsz, Trz, Ez, Fz, Nmz)) : G X (QI X r [ntW pa Tn, bdW (gcA X) (pa 1) Bz, hsW (gcA X) (pa 2) (fun j => pa (10 + j)) Hsz, bdW (gcA X) (pa 5) Trz, heW (gcA X) (pa 6) Ez, heW (gcA X) (pa 7) Fz, nmW (gcA X) (pa 8) Nmz]) [ntW pa Tn, bdW (gcA X) (pa 1) B, hsW (gcA X) (pa 2) (fun j => pa (10 + j)) Hs, bdW (gcA X) (pa 5) Tr, heW (gcA X) (pa 6) E, heW (gcA X) (pa 7) F, nmW (gcA X) (pa 8) Nm] [some (.ref (pa 0 0)), some (.int p1), some (.int p2), some (.int x3), some (.int x4), some (.int x5), some (.int x6), none, none, none, none, none, none, none, none, none, none] [.int t0, .int t1] 76 := by
  unfold f_L_notes_76 at h
  refine k_L_low (pc' := 79) C N t1 t0 [] rfl (by decide) gL_notes_L_low ⟨Nat.le_of_ble_eq_true rfl, Nat.le_of_ble_eq_true rfl⟩ (Nat.le_of_ble_eq_true rfl) rfl dL_notes_76 rfl h (fun r1 h => ?_)
  refine g_istore (pc' := 81) C dL_notes_79 (Nat.le_of_ble_eq_true rfl) rfl (L' := [some (.ref (pa 0 0)), some (.int p1), some (.int p2), some (.int x3), some (.int x4), some (.int x5), some (.int x6), some (.int r1), none, none, none, none, none, none, none, none, none]) rfl ?_
  refine g_iload (pc' := 83) C dL_notes_81 rfl rfl ?_
  refine g_bipush (pc' := 85) (v := 30) C dL_notes_83 (by decide) rfl ?_
  refine g_icmp_eq (pc' := 88) (tgt := 95) C dL_notes_85 (by decide) rfl h (fun c h => ?_) (fun c h => ?_)
  · exact G_loc (lle_s (lle_s (lle_s (lle_s (lle_s (lle_s (lle_s (lle_s (lle_n (lle_n (lle_n (lle_n (lle_n (lle_n (lle_n (lle_n (lle_n lle_0))))))))))))))))) (B_L_notes_95 C pa N Tn p1 p2 r Bz Hsz Trz Ez Fz Nmz x3 x4 x5 x6 r1 B Hs Tr E F Nm h)
  · refine g_iload (pc' := 90) C dL_notes_88 rfl rfl ?_
    refine g_bipush (pc' := 92) (v := 20) C dL_notes_90 (by decide) rfl ?_
    refine g_icmp_ne (pc' := 95) (tgt := 99) C dL_notes_92 (by decide) rfl h (fun c h => ?_) (fun c h => ?_)
    · exact G_loc (lle_s (lle_s (lle_s (lle_s (lle_s (lle_s (lle_s (lle_s (lle_n (lle_n (lle_n (lle_n (lle_n (lle_n (lle_n (lle_n (lle_n lle_0))))))))))))))))) (B_L_notes_95 C pa N Tn p1 p2 r Bz Hsz Trz Ez Fz Nmz x3 x4 x5 x6 r1 B Hs Tr E F Nm h)
    · refine g_iconst (pc' := 100) (v := 0) C dL_notes_99 (by decide) rfl ?_
      exact G_loc (lle_s (lle_s (lle_s (lle_s (lle_s (lle_s (lle_s (lle_s (lle_n (lle_n (lle_n (lle_n (lle_n (lle_n (lle_n (lle_n (lle_n lle_0))))))))))))))))) (B_L_notes_100 C pa N Tn p1 p2 r Bz Hsz Trz Ez Fz Nmz x3 x4 x5 x6 r1 (0 : Int32) B Hs Tr E F Nm h)
set_option maxRecDepth 100000 in
set_option maxHeartbeats 4000000 in
theorem B_L_notes_49 {X : gX} (C : cx X RL cL_notes 17 (some .boolean) wsL_notes 6 134) (pa : Nat → Nat → Nat) (N : Nat) (Tn : tS) (p1 : Int32) (p2 : Int32) (r : Int32) (Bz : tS) (Hsz : tH) (Trz : tS) (Ez : tS) (Fz : tS) (Nmz : tS)  (x3 : Int32) (x4 : Int32) (x5 : Int32) (t0 : Int32) (t1 : Int32) (B : tS) (Hs : tH) (Tr : tS) (E : tS) (F : tS) (Nm : tS) (h : f_L_notes_49 N Tn p1 p2  x3 x4 x5 t0 t1 B Hs Tr E F Nm = some (r, Bz, Hsz, Trz, Ez, Fz, Nmz)) : G X (QI X r [ntW pa Tn, bdW (gcA X) (pa 1) Bz, hsW (gcA X) (pa 2) (fun j => pa (10 + j)) Hsz, bdW (gcA X) (pa 5) Trz, heW (gcA X) (pa 6) Ez, heW (gcA X) (pa 7) Fz, nmW (gcA X) (pa 8) Nmz]) [ntW pa Tn, bdW (gcA X) (pa 1) B, hsW (gcA X) (pa 2) (fun j => pa (10 + j)) Hs, bdW (gcA X) (pa 5) Tr, heW (gcA X) (pa 6) E, heW (gcA X) (pa 7) F, nmW (gcA X) (pa 8) Nm] [some (.ref (pa 0 0)), some (.int p1), some (.int p2), some (.int x3), some (.int x4), some (.int x5), none, none, none, none, none, none, none, none, none, none, none] [.int t0, .int t1] 49 := by
  unfold f_L_notes_49 at h
  refine k_L_low (pc' := 52) C N t1 t0 [] rfl (by decide) gL_notes_L_low ⟨Nat.le_of_ble_eq_true rfl, Nat.le_of_ble_eq_true rfl⟩ (Nat.le_of_ble_eq_true rfl) rfl dL_notes_49 rfl h (fun r1 h => ?_)
  refine g_istore (pc' := 54) C dL_notes_52 (Nat.le_of_ble_eq_true rfl) rfl (L' := [some (.ref (pa 0 0)), some (.int p1), some (.int p2), some (.int x3), some (.int x4), some (.int x5), some (.int r1), none, none, none, none, none, none, none, none, none, none]) rfl ?_
  refine g_iload_n (pc' := 55) C dL_notes_54 rfl rfl ?_
  refine g_bipush (pc' := 57) (v := 10) C dL_notes_55 (by decide) rfl ?_
  refine g_ishr (pc' := 58) C dL_notes_57 rfl ?_
  refine g_iload_n (pc' := 59) C dL_notes_58 rfl rfl ?_
  refine g_bipush (pc' := 61) (v := 18) C dL_notes_59 (by decide) rfl ?_
  refine g_ishr (pc' := 62) C dL_notes_61 rfl ?_
  refine g_iconst (pc' := 63) (v := 3) C dL_notes_62 (by decide) rfl ?_
  refine k_L_low (pc' := 66) C N (p2 >>> ((18 : Int32) &&& 31)) (3 : Int32) [] rfl (by decide) gL_notes_L_low ⟨Nat.le_of_ble_eq_true rfl, Nat.le_of_ble_eq_true rfl⟩ (Nat.le_of_ble_eq_true rfl) rfl dL_notes_63 rfl h (fun r2 h => ?_)
  refine g_if_ne (pc' := 69) (tgt := 74) C dL_notes_66 (by decide) rfl h (fun c h => ?_) (fun c h => ?_)
  · refine g_bipush (pc' := 71) (v := 21) C dL_notes_69 (by decide) rfl ?_
    refine g_goto (pc' := 76) C dL_notes_71 (by decide) ?_
    exact G_loc (lle_s (lle_s (lle_s (lle_s (lle_s (lle_s (lle_s (lle_n (lle_n (lle_n (lle_n (lle_n (lle_n (lle_n (lle_n (lle_n (lle_n lle_0))))))))))))))))) (B_L_notes_76 C pa N Tn p1 p2 r Bz Hsz Trz Ez Fz Nmz x3 x4 x5 r1 (21 : Int32) (p2 >>> ((10 : Int32) &&& 31)) B Hs Tr E F Nm h)
  · refine g_bipush (pc' := 76) (v := 8) C dL_notes_74 (by decide) rfl ?_
    exact G_loc (lle_s (lle_s (lle_s (lle_s (lle_s (lle_s (lle_s (lle_n (lle_n (lle_n (lle_n (lle_n (lle_n (lle_n (lle_n (lle_n (lle_n lle_0))))))))))))))))) (B_L_notes_76 C pa N Tn p1 p2 r Bz Hsz Trz Ez Fz Nmz x3 x4 x5 r1 (8 : Int32) (p2 >>> ((10 : Int32) &&& 31)) B Hs Tr E F Nm h)
set_option maxRecDepth 100000 in
set_option maxHeartbeats 4000000 in
theorem B_L_notes_26 {X : gX} (C : cx X RL cL_notes 17 (some .boolean) wsL_notes 6 134) (pa : Nat → Nat → Nat) (N : Nat) (Tn : tS) (p1 : Int32) (p2 : Int32) (r : Int32) (Bz : tS) (Hsz : tH) (Trz : tS) (Ez : tS) (Fz : tS) (Nmz : tS)  (x3 : Int32) (x4 : Int32) (t0 : Int32) (B : tS) (Hs : tH) (Tr : tS) (E : tS) (F : tS) (Nm : tS) (h : f_L_notes_26 N Tn p1 p2  x3 x4 t0 B Hs Tr E F Nm = some (r, Bz, Hsz, Trz, Ez, Fz, Nmz)) : G X (QI X r [ntW pa Tn, bdW (gcA X) (pa 1) Bz, hsW (gcA X) (pa 2) (fun j => pa (10 + j)) Hsz, bdW (gcA X) (pa 5) Trz, heW (gcA X) (pa 6) Ez, heW (gcA X) (pa 7) Fz, nmW (gcA X) (pa 8) Nmz]) [ntW pa Tn, bdW (gcA X) (pa 1) B, hsW (gcA X) (pa 2) (fun j => pa (10 + j)) Hs, bdW (gcA X) (pa 5) Tr, heW (gcA X) (pa 6) E, heW (gcA X) (pa 7) F, nmW (gcA X) (pa 8) Nm] [some (.ref (pa 0 0)), some (.int p1), some (.int p2), some (.int x3), some (.int x4), none, none, none, none, none, none, none, none, none, none, none, none] [.int t0] 26 := by
  unfold f_L_notes_26 at h
  refine g_istore (pc' := 28) C dL_notes_26 (Nat.le_of_ble_eq_true rfl) rfl (L' := [some (.ref (pa 0 0)), some (.int p1), some (.int p2), some (.int x3), some (.int x4), some (.int t0), none, none, none, none, none, none, none, none, none, none, none]) rfl ?_
  refine g_iload_n (pc' := 29) C dL_notes_28 rfl rfl ?_
  refine g_iconst (pc' := 30) (v := 5) C dL_notes_29 (by decide) rfl ?_
  refine g_ishr (pc' := 31) C dL_notes_30 rfl ?_
  refine g_iload_n (pc' := 32) C dL_notes_31 rfl rfl ?_
  refine g_bipush (pc' := 34) (v := 17) C dL_notes_32 (by decide) rfl ?_
  refine g_ishr (pc' := 35) C dL_notes_34 rfl ?_
  refine g_iconst (pc' := 36) (v := 3) C dL_notes_35 (by decide) rfl ?_
  refine k_L_low (pc' := 39) C N (p2 >>> ((17 : Int32) &&& 31)) (3 : Int32) [] rfl (by decide) gL_notes_L_low ⟨Nat.le_of_ble_eq_true rfl, Nat.le_of_ble_eq_true rfl⟩ (Nat.le_of_ble_eq_true rfl) rfl dL_notes_36 rfl h (fun r1 h => ?_)
  refine g_if_ne (pc' := 42) (tgt := 47) C dL_notes_39 (by decide) rfl h (fun c h => ?_) (fun c h => ?_)
  · refine g_bipush (pc' := 44) (v := 31) C dL_notes_42 (by decide) rfl ?_
    refine g_goto (pc' := 49) C dL_notes_44 (by decide) ?_
    exact G_loc (lle_s (lle_s (lle_s (lle_s (lle_s (lle_s (lle_n (lle_n (lle_n (lle_n (lle_n (lle_n (lle_n (lle_n (lle_n (lle_n (lle_n lle_0))))))))))))))))) (B_L_notes_49 C pa N Tn p1 p2 r Bz Hsz Trz Ez Fz Nmz x3 x4 t0 (31 : Int32) (p2 >>> ((5 : Int32) &&& 31)) B Hs Tr E F Nm h)
  · refine g_bipush (pc' := 49) (v := 12) C dL_notes_47 (by decide) rfl ?_
    exact G_loc (lle_s (lle_s (lle_s (lle_s (lle_s (lle_s (lle_n (lle_n (lle_n (lle_n (lle_n (lle_n (lle_n (lle_n (lle_n (lle_n (lle_n lle_0))))))))))))))))) (B_L_notes_49 C pa N Tn p1 p2 r Bz Hsz Trz Ez Fz Nmz x3 x4 t0 (12 : Int32) (p2 >>> ((5 : Int32) &&& 31)) B Hs Tr E F Nm h)
set_option maxRecDepth 100000 in
set_option maxHeartbeats 4000000 in
theorem B_L_notes {X : gX} (C : cx X RL cL_notes 17 (some .boolean) wsL_notes 6 134) (pa : Nat → Nat → Nat) (N : Nat) (Tn : tS) (B : tS) (Hs : tH) (Tr : tS) (E : tS) (F : tS) (Nm : tS) (p1 : Int32) (p2 : Int32) (r : Int32) (Bz : tS) (Hsz : tH) (Trz : tS) (Ez : tS) (Fz : tS) (Nmz : tS) (h : f_L_notes N Tn B Hs Tr E F Nm p1 p2 = some (r, Bz, Hsz, Trz, Ez, Fz, Nmz)) : G X (QI X r [ntW pa Tn, bdW (gcA X) (pa 1) Bz, hsW (gcA X) (pa 2) (fun j => pa (10 + j)) Hsz, bdW (gcA X) (pa 5) Trz, heW (gcA X) (pa 6) Ez, heW (gcA X) (pa 7) Fz, nmW (gcA X) (pa 8) Nmz]) [ntW pa Tn, bdW (gcA X) (pa 1) B, hsW (gcA X) (pa 2) (fun j => pa (10 + j)) Hs, bdW (gcA X) (pa 5) Tr, heW (gcA X) (pa 6) E, heW (gcA X) (pa 7) F, nmW (gcA X) (pa 8) Nm] [some (.ref (pa 0 0)), some (.int p1), some (.int p2), none, none, none, none, none, none, none, none, none, none, none, none, none, none] [] 0 := by
  unfold f_L_notes at h
  refine g_aload_n (pc' := 1) C dL_notes_0 rfl rfl ?_
  refine g_iconst (pc' := 2) (v := 0) C dL_notes_1 (by decide) rfl ?_
  refine k_X5_count (pc' := 5) C pa N Tn B Hs E Nm (0 : Int32) [0, 1, 2, 4, 6] rfl (by decide) gL_notes_X5_count ⟨Nat.le_of_ble_eq_true rfl, Nat.le_of_ble_eq_true rfl⟩ (Nat.le_of_ble_eq_true rfl) rfl dL_notes_2 rfl h (fun r1 E1 Nm1 h => ?_)
  show G X _ [ntW pa Tn, bdW (gcA X) (pa 1) B, hsW (gcA X) (pa 2) (fun j => pa (10 + j)) Hs, bdW (gcA X) (pa 5) Tr, heW (gcA X) (pa 6) E1, heW (gcA X) (pa 7) F, nmW (gcA X) (pa 8) Nm1] _ _ _
  refine g_istore_n (pc' := 6) C dL_notes_5 (Nat.le_of_ble_eq_true rfl) rfl (L' := [some (.ref (pa 0 0)), some (.int p1), some (.int p2), some (.int r1), none, none, none, none, none, none, none, none, none, none, none, none, none]) rfl ?_
  refine g_iload_n (pc' := 7) C dL_notes_6 rfl rfl ?_
  refine g_iload_n (pc' := 8) C dL_notes_7 rfl rfl ?_
  refine g_iconst (pc' := 9) (v := 1) C dL_notes_8 (by decide) rfl ?_
  refine g_iadd (pc' := 10) C dL_notes_9 rfl ?_
  refine k_L_low (pc' := 13) C N p2 (r1 + (1 : Int32)) [] rfl (by decide) gL_notes_L_low ⟨Nat.le_of_ble_eq_true rfl, Nat.le_of_ble_eq_true rfl⟩ (Nat.le_of_ble_eq_true rfl) rfl dL_notes_10 rfl h (fun r2 h => ?_)
  refine g_istore (pc' := 15) C dL_notes_13 (Nat.le_of_ble_eq_true rfl) rfl (L' := [some (.ref (pa 0 0)), some (.int p1), some (.int p2), some (.int r1), some (.int r2), none, none, none, none, none, none, none, none, none, none, none, none]) rfl ?_
  refine g_iload (pc' := 17) C dL_notes_15 rfl rfl ?_
  refine g_iload_n (pc' := 18) C dL_notes_17 rfl rfl ?_
  refine g_icmp_ne (pc' := 21) (tgt := 25) C dL_notes_18 (by decide) rfl h (fun c h => ?_) (fun c h => ?_)
  · refine g_iconst (pc' := 22) (v := 1) C dL_notes_21 (by decide) rfl ?_
    refine g_goto (pc' := 26) C dL_notes_22 (by decide) ?_
    exact G_loc (lle_s (lle_s (lle_s (lle_s (lle_s (lle_n (lle_n (lle_n (lle_n (lle_n (lle_n (lle_n (lle_n (lle_n (lle_n (lle_n (lle_n lle_0))))))))))))))))) (B_L_notes_26 C pa N Tn p1 p2 r Bz Hsz Trz Ez Fz Nmz r1 r2 (1 : Int32) B Hs Tr E1 F Nm1 h)
  · refine g_iconst (pc' := 26) (v := 0) C dL_notes_25 (by decide) rfl ?_
    exact G_loc (lle_s (lle_s (lle_s (lle_s (lle_s (lle_n (lle_n (lle_n (lle_n (lle_n (lle_n (lle_n (lle_n (lle_n (lle_n (lle_n (lle_n lle_0))))))))))))))))) (B_L_notes_26 C pa N Tn p1 p2 r Bz Hsz Trz Ez Fz Nmz r1 r2 (0 : Int32) B Hs Tr E1 F Nm1 h)
set_option maxRecDepth 100000 in
set_option maxHeartbeats 4000000 in
theorem c_L_notes (l : Launch) (D : va_G) (cA : Nat → ClassId) (pa : Nat → Nat → Nat) (N : Nat) (Tn : tS) (B : tS) (Hs : tH) (Tr : tS) (E : tS) (F : tS) (Nm : tS) (p1 : Int32) (p2 : Int32) (r : Int32) (Bz : tS) (Hsz : tH) (Trz : tS) (Ez : tS) (Fz : tS) (Nmz : tS) (h : f_L_notes N Tn B Hs Tr E F Nm p1 p2 = some (r, Bz, Hsz, Trz, Ez, Fz, Nmz)) : MI l D cA yL_notes wsL_notes 6 134 [.ref (pa 0 0), .int p1, .int p2] [ntW pa Tn, bdW cA (pa 1) B, hsW cA (pa 2) (fun j => pa (10 + j)) Hs, bdW cA (pa 5) Tr, heW cA (pa 6) E, heW cA (pa 7) F, nmW cA (pa 8) Nm] r [ntW pa Tn, bdW cA (pa 1) Bz, hsW cA (pa 2) (fun j => pa (10 + j)) Hsz, bdW cA (pa 5) Trz, heW cA (pa 6) Ez, heW cA (pa 7) Fz, nmW cA (pa 8) Nmz] := MI_of (cc := cL_notes) (maxL := 17) (rt := some .boolean) (by decide +kernel) rfl (List.forall_mem_cons.mpr ⟨rfl, List.forall_mem_cons.mpr ⟨rfl, List.forall_mem_cons.mpr ⟨rfl, List.forall_mem_nil _⟩⟩⟩) (Nat.le_of_ble_eq_true rfl) (fun X e1 e2 e3 C => by subst e1; subst e2; subst e3; exact B_L_notes C pa N Tn B Hs Tr E F Nm p1 p2 r Bz Hsz Trz Ez Fz Nmz h)
set_option maxRecDepth 100000 in
set_option maxHeartbeats 4000000 in
theorem nd_L_notes : nd yL_notes 3 := ⟨by decide +kernel, by decide +kernel, by decide +kernel⟩
set_option maxRecDepth 100000 in
set_option maxHeartbeats 4000000 in
theorem k_L_notes {X : gX} {own : String} {cc : ByteArray} {nL : Nat} {ret : Option FieldType} {Ts : List Cond} {fr lm : Nat} {Q : State → Prop} {ms : List va_W} {L : List (Option Value)} {st : List Value} {pc pc' idx : Nat} {ρ : Type} {T : Int32 → tS → tH → tS → tS → tS → tS → Option ρ} {res : ρ} (C : cx X own cc nL ret Ts fr lm) (pa : Nat → Nat → Nat) (N : Nat) (Tn : tS) (B : tS) (Hs : tH) (Tr : tS) (E : tS) (F : tS) (Nm : tS) (p1 : Int32) (p2 : Int32) (is : List Nat) (hC : is.map (fun i => ms[i]?) = [some (ntW pa Tn), some (bdW (gcA X) (pa 1) B), some (hsW (gcA X) (pa 2) (fun j => pa (10 + j)) Hs), some (bdW (gcA X) (pa 5) Tr), some (heW (gcA X) (pa 6) E), some (heW (gcA X) (pa 7) F), some (nmW (gcA X) (pa 8) Nm)]) (hn : is.Nodup) (hG : GoodIn Ts (va_wsS own idx yL_notes wsL_notes)) (hR : 6 + 1 ≤ fr ∧ 8 + (17 + 11) + 134 ≤ lm) (hst : (st.map fun v => v.category).sum ≤ 8) (hLn : L.length = nL) (d : decode cc pc = .ok (.invokestatic idx, 3)) (hp : pc + 3 = pc') (h : bd7 (f_L_notes N Tn B Hs Tr E F Nm p1 p2) T = some res) (kk : ∀ (r : Int32) (Bz : tS) (Hsz : tH) (Trz : tS) (Ez : tS) (Fz : tS) (Nmz : tS), T r Bz Hsz Trz Ez Fz Nmz = some res → G X Q (rpl ms is [ntW pa Tn, bdW (gcA X) (pa 1) Bz, hsW (gcA X) (pa 2) (fun j => pa (10 + j)) Hsz, bdW (gcA X) (pa 5) Trz, heW (gcA X) (pa 6) Ez, heW (gcA X) (pa 7) Fz, nmW (gcA X) (pa 8) Nmz]) L (.int r :: st) pc') : G X Q ms L (.int p2 :: .int p1 :: .ref (pa 0 0) :: st) pc := by
  obtain ⟨r, Bz, Hsz, Trz, Ez, Fz, Nmz, h1, h⟩ := ob7 h
  exact G_callSI C (As := [.ref (pa 0 0), .int p1, .int p2]) (c_L_notes (gl X) (gD X) (gcA X) pa N Tn B Hs Tr E F Nm p1 p2 r Bz Hsz Trz Ez Fz Nmz h1) hG rfl nd_L_notes hR hC hn rfl rfl hst hLn d hp (kk r Bz Hsz Trz Ez Fz Nmz h)
