set_option maxRecDepth 100000 in
set_option maxHeartbeats 4000000 in
theorem B_L_themes_725 {X : gX} (C : cx X RL cL_themes 13 (some .boolean) wsL_themes 6 136) (pa : Nat → Nat → Nat) (N : Nat) (Tn : tS) (p1 : Int32) (p2 : Int32) (r : Int32) (Bz : tS) (Hsz : tH) (Trz : tS) (Ez : tS) (Fz : tS) (Nmz : tS)  (B : tS) (Hs : tH) (Tr : tS) (E : tS) (F : tS) (Nm : tS) (h : f_L_themes_725 N Tn p1 p2  B Hs Tr E F Nm = some (r, Bz, Hsz, Trz, Ez, Fz, Nmz)) : G X (QI X r [ntW pa Tn, bdW (gcA X) (pa 1) Bz, hsW (gcA X) (pa 2) (fun j => pa (10 + j)) Hsz, bdW (gcA X) (pa 5) Trz, heW (gcA X) (pa 6) Ez, heW (gcA X) (pa 7) Fz, nmW (gcA X) (pa 8) Nmz]) [ntW pa Tn, bdW (gcA X) (pa 1) B, hsW (gcA X) (pa 2) (fun j => pa (10 + j)) Hs, bdW (gcA X) (pa 5) Tr, heW (gcA X) (pa 6) E, heW (gcA X) (pa 7) F, nmW (gcA X) (pa 8) Nm] [some (.ref (pa 0 0)), some (.int p1), some (.int p2), none, none, none, none, none, none, none, none, none, none] [] 725 := by
  unfold f_L_themes_725 at h
  refine g_iconst (pc' := 726) (v := 1) C dL_themes_725 (by decide) rfl ?_
  refine g_goto (pc' := 730) C dL_themes_726 (by decide) ?_
  obtain ⟨rfl, rfl, rfl, rfl, rfl, rfl, rfl⟩ := pj7 (Option.some.inj h)
  exact g_zret0 C rfl dL_themes_730
set_option maxRecDepth 100000 in
set_option maxHeartbeats 4000000 in
theorem B_L_themes_685 {X : gX} (C : cx X RL cL_themes 13 (some .boolean) wsL_themes 6 136) (pa : Nat → Nat → Nat) (N : Nat) (Tn : tS) (p1 : Int32) (p2 : Int32) (r : Int32) (Bz : tS) (Hsz : tH) (Trz : tS) (Ez : tS) (Fz : tS) (Nmz : tS)  (x4 : Int32) (x7 : Int32) (x10 : Int32) (x11 : Int32) (t0 : Int32) (t1 : Int32) (B : tS) (Hs : tH) (Tr : tS) (E : tS) (F : tS) (Nm : tS) (h : f_L_themes_685 N Tn p1 p2  x4 x7 x10 x11 t0 t1 B Hs Tr E F Nm = some (r, Bz, Hsz, Trz, Ez, Fz, Nmz)) : G X (QI X r [ntW pa Tn, bdW (gcA X) (pa 1) Bz, hsW (gcA X) (pa 2) (fun j => pa (10 + j)) Hsz, bdW (gcA X) (pa 5) Trz, heW (gcA X) (pa 6) Ez, heW (gcA X) (pa 7) Fz, nmW (gcA X) (pa 8) Nmz]) [ntW pa Tn, bdW (gcA X) (pa 1) B, hsW (gcA X) (pa 2) (fun j => pa (10 + j)) Hs, bdW (gcA X) (pa 5) Tr, heW (gcA X) (pa 6) E, heW (gcA X) (pa 7) F, nmW (gcA X) (pa 8) Nm] [some (.ref (pa 0 0)), some (.int p1), some (.int p2), none, some (.int x4), none, none, some (.int x7), none, none, some (.int x10), some (.int x11), none] [.int t0, .int t1] 685 := by
  unfold f_L_themes_685 at h
  refine g_icmp_ne (pc' := 688) (tgt := 729) C dL_themes_685 (by decide) rfl h (fun c h => ?_) (fun c h => ?_)
  · refine g_iload (pc' := 690) C dL_themes_688 rfl rfl ?_
    refine g_if_ge (pc' := 693) (tgt := 710) C dL_themes_690 (by decide) rfl h (fun c h => ?_) (fun c h => ?_)
    · refine g_aload_n (pc' := 711) C dL_themes_710 rfl rfl ?_
      refine g_iload (pc' := 713) C dL_themes_711 rfl rfl ?_
      refine g_iload (pc' := 715) C dL_themes_713 rfl rfl ?_
      refine k_X5_votes (pc' := 718) C pa N Tn B x4 x7 [0, 1] rfl (by decide) gL_themes_X5_votes ⟨Nat.le_of_ble_eq_true rfl, Nat.le_of_ble_eq_true rfl⟩ (Nat.le_of_ble_eq_true rfl) rfl dL_themes_715 rfl h (fun r1 h => ?_)
      refine g_iload (pc' := 720) C dL_themes_718 rfl rfl ?_
      refine g_iconst (pc' := 721) (v := 1) C dL_themes_720 (by decide) rfl ?_
      refine g_iadd (pc' := 722) C dL_themes_721 rfl ?_
      refine g_icmp_ne (pc' := 725) (tgt := 729) C dL_themes_722 (by decide) rfl h (fun c h => ?_) (fun c h => ?_)
      · exact G_loc (lle_s (lle_s (lle_s (lle_n (lle_n (lle_n (lle_n (lle_n (lle_n (lle_n (lle_n (lle_n (lle_n lle_0))))))))))))) (B_L_themes_725 C pa N Tn p1 p2 r Bz Hsz Trz Ez Fz Nmz B Hs Tr E F Nm h)
      · refine g_iconst (pc' := 730) (v := 0) C dL_themes_729 (by decide) rfl ?_
        obtain ⟨rfl, rfl, rfl, rfl, rfl, rfl, rfl⟩ := pj7 (Option.some.inj h)
        exact g_zret0 C rfl dL_themes_730
    · refine g_aload_n (pc' := 694) C dL_themes_693 rfl rfl ?_
      refine g_iload (pc' := 696) C dL_themes_694 rfl rfl ?_
      refine g_iconst (pc' := 697) (v := 5) C dL_themes_696 (by decide) rfl ?_
      refine k_X5_theme (pc' := 700) C pa N Tn B E Nm x4 (5 : Int32) [0, 1, 4, 6] rfl (by decide) gL_themes_X5_theme ⟨Nat.le_of_ble_eq_true rfl, Nat.le_of_ble_eq_true rfl⟩ (Nat.le_of_ble_eq_true rfl) rfl dL_themes_697 rfl h (fun r2 E2 Nm2 h => ?_)
      show G X _ [ntW pa Tn, bdW (gcA X) (pa 1) B, hsW (gcA X) (pa 2) (fun j => pa (10 + j)) Hs, bdW (gcA X) (pa 5) Tr, heW (gcA X) (pa 6) E2, heW (gcA X) (pa 7) F, nmW (gcA X) (pa 8) Nm2] _ _ _
      refine g_iload (pc' := 702) C dL_themes_700 rfl rfl ?_
      refine g_iconst (pc' := 703) (v := 1) C dL_themes_702 (by decide) rfl ?_
      refine g_isub (pc' := 704) C dL_themes_703 rfl ?_
      refine g_icmp_ne (pc' := 707) (tgt := 729) C dL_themes_704 (by decide) rfl h (fun c h => ?_) (fun c h => ?_)
      · refine g_goto (pc' := 725) C dL_themes_707 (by decide) ?_
        exact G_loc (lle_s (lle_s (lle_s (lle_n (lle_n (lle_n (lle_n (lle_n (lle_n (lle_n (lle_n (lle_n (lle_n lle_0))))))))))))) (B_L_themes_725 C pa N Tn p1 p2 r Bz Hsz Trz Ez Fz Nmz B Hs Tr E2 F Nm2 h)
      · refine g_iconst (pc' := 730) (v := 0) C dL_themes_729 (by decide) rfl ?_
        obtain ⟨rfl, rfl, rfl, rfl, rfl, rfl, rfl⟩ := pj7 (Option.some.inj h)
        exact g_zret0 C rfl dL_themes_730
  · refine g_iconst (pc' := 730) (v := 0) C dL_themes_729 (by decide) rfl ?_
    obtain ⟨rfl, rfl, rfl, rfl, rfl, rfl, rfl⟩ := pj7 (Option.some.inj h)
    exact g_zret0 C rfl dL_themes_730
set_option maxRecDepth 100000 in
set_option maxHeartbeats 4000000 in
theorem B_L_themes_577 {X : gX} (C : cx X RL cL_themes 13 (some .boolean) wsL_themes 6 136) (pa : Nat → Nat → Nat) (N : Nat) (Tn : tS) (p1 : Int32) (p2 : Int32) (r : Int32) (Bz : tS) (Hsz : tH) (Trz : tS) (Ez : tS) (Fz : tS) (Nmz : tS)  (x4 : Int32) (x5 : Int32) (x7 : Int32) (x8 : Int32) (x9 : Int32) (x10 : Int32) (t0 : Int32) (B : tS) (Hs : tH) (Tr : tS) (E : tS) (F : tS) (Nm : tS) (h : f_L_themes_577 N Tn p1 p2  x4 x5 x7 x8 x9 x10 t0 B Hs Tr E F Nm = some (r, Bz, Hsz, Trz, Ez, Fz, Nmz)) : G X (QI X r [ntW pa Tn, bdW (gcA X) (pa 1) Bz, hsW (gcA X) (pa 2) (fun j => pa (10 + j)) Hsz, bdW (gcA X) (pa 5) Trz, heW (gcA X) (pa 6) Ez, heW (gcA X) (pa 7) Fz, nmW (gcA X) (pa 8) Nmz]) [ntW pa Tn, bdW (gcA X) (pa 1) B, hsW (gcA X) (pa 2) (fun j => pa (10 + j)) Hs, bdW (gcA X) (pa 5) Tr, heW (gcA X) (pa 6) E, heW (gcA X) (pa 7) F, nmW (gcA X) (pa 8) Nm] [some (.ref (pa 0 0)), some (.int p1), some (.int p2), none, some (.int x4), some (.int x5), none, some (.int x7), some (.int x8), some (.int x9), some (.int x10), none, none] [.int t0] 577 := by
  unfold f_L_themes_577 at h
  refine g_istore (pc' := 579) C dL_themes_577 (Nat.le_of_ble_eq_true rfl) rfl (L' := [some (.ref (pa 0 0)), some (.int p1), some (.int p2), none, some (.int x4), some (.int x5), none, some (.int x7), some (.int x8), some (.int x9), some (.int x10), some (.int t0), none]) rfl ?_
  refine g_aload_n (pc' := 580) C dL_themes_579 rfl rfl ?_
  refine g_iload (pc' := 582) C dL_themes_580 rfl rfl ?_
  refine g_iload (pc' := 584) C dL_themes_582 rfl rfl ?_
  refine g_iload (pc' := 586) C dL_themes_584 rfl rfl ?_
  refine k_X5_vote (pc' := 589) C pa N Tn B Hs Nm x5 x4 x8 [0, 1, 2, 6] rfl (by decide) gL_themes_X5_vote ⟨Nat.le_of_ble_eq_true rfl, Nat.le_of_ble_eq_true rfl⟩ (Nat.le_of_ble_eq_true rfl) rfl dL_themes_586 rfl h (fun r1 B1 Hs1 Nm1 h => ?_)
  show G X _ [ntW pa Tn, bdW (gcA X) (pa 1) B1, hsW (gcA X) (pa 2) (fun j => pa (10 + j)) Hs1, bdW (gcA X) (pa 5) Tr, heW (gcA X) (pa 6) E, heW (gcA X) (pa 7) F, nmW (gcA X) (pa 8) Nm1] _ _ _
  refine g_istore (pc' := 591) C dL_themes_589 (Nat.le_of_ble_eq_true rfl) rfl (L' := [some (.ref (pa 0 0)), some (.int p1), some (.int p2), none, some (.int x4), some (.int x5), none, some (.int x7), some (.int x8), some (.int x9), some (.int x10), some (.int t0), some (.int r1)]) rfl ?_
  refine g_iload (pc' := 593) C dL_themes_591 rfl rfl ?_
  refine g_if_eq (pc' := 596) (tgt := 610) C dL_themes_593 (by decide) rfl h (fun c h => ?_) (fun c h => ?_)
  · refine g_iload (pc' := 612) C dL_themes_610 rfl rfl ?_
    refine g_bipush (pc' := 614) (v := 10) C dL_themes_612 (by decide) rfl ?_
    refine g_icmp_ne (pc' := 617) (tgt := 632) C dL_themes_614 (by decide) rfl h (fun c h => ?_) (fun c h => ?_)
    · refine g_iload (pc' := 619) C dL_themes_617 rfl rfl ?_
      refine g_bipush (pc' := 621) (v := -2) C dL_themes_619 (by decide) rfl ?_
      refine g_icmp_ne (pc' := 624) (tgt := 628) C dL_themes_621 (by decide) rfl h (fun c h => ?_) (fun c h => ?_)
      · refine g_iconst (pc' := 625) (v := 1) C dL_themes_624 (by decide) rfl ?_
        refine g_goto (pc' := 730) C dL_themes_625 (by decide) ?_
        obtain ⟨rfl, rfl, rfl, rfl, rfl, rfl, rfl⟩ := pj7 (Option.some.inj h)
        exact g_zret0 C rfl dL_themes_730
      · refine g_iconst (pc' := 629) (v := 0) C dL_themes_628 (by decide) rfl ?_
        refine g_goto (pc' := 730) C dL_themes_629 (by decide) ?_
        obtain ⟨rfl, rfl, rfl, rfl, rfl, rfl, rfl⟩ := pj7 (Option.some.inj h)
        exact g_zret0 C rfl dL_themes_730
    · refine g_iload (pc' := 634) C dL_themes_632 rfl rfl ?_
      refine g_bipush (pc' := 636) (v := -5) C dL_themes_634 (by decide) rfl ?_
      refine g_icmp_ne (pc' := 639) (tgt := 659) C dL_themes_636 (by decide) rfl h (fun c h => ?_) (fun c h => ?_)
      · refine g_iload (pc' := 641) C dL_themes_639 rfl rfl ?_
        refine g_aload_n (pc' := 642) C dL_themes_641 rfl rfl ?_
        refine g_iload (pc' := 644) C dL_themes_642 rfl rfl ?_
        refine g_iconst (pc' := 645) (v := 5) C dL_themes_644 (by decide) rfl ?_
        refine k_X5_theme (pc' := 648) C pa N Tn B1 E Nm1 x4 (5 : Int32) [0, 1, 4, 6] rfl (by decide) gL_themes_X5_theme ⟨Nat.le_of_ble_eq_true rfl, Nat.le_of_ble_eq_true rfl⟩ (Nat.le_of_ble_eq_true rfl) rfl dL_themes_645 rfl h (fun r4 E4 Nm4 h => ?_)
        show G X _ [ntW pa Tn, bdW (gcA X) (pa 1) B1, hsW (gcA X) (pa 2) (fun j => pa (10 + j)) Hs1, bdW (gcA X) (pa 5) Tr, heW (gcA X) (pa 6) E4, heW (gcA X) (pa 7) F, nmW (gcA X) (pa 8) Nm4] _ _ _
        refine g_icmp_ne (pc' := 651) (tgt := 655) C dL_themes_648 (by decide) rfl h (fun c h => ?_) (fun c h => ?_)
        · refine g_iconst (pc' := 652) (v := 1) C dL_themes_651 (by decide) rfl ?_
          refine g_goto (pc' := 730) C dL_themes_652 (by decide) ?_
          obtain ⟨rfl, rfl, rfl, rfl, rfl, rfl, rfl⟩ := pj7 (Option.some.inj h)
          exact g_zret0 C rfl dL_themes_730
        · refine g_iconst (pc' := 656) (v := 0) C dL_themes_655 (by decide) rfl ?_
          refine g_goto (pc' := 730) C dL_themes_656 (by decide) ?_
          obtain ⟨rfl, rfl, rfl, rfl, rfl, rfl, rfl⟩ := pj7 (Option.some.inj h)
          exact g_zret0 C rfl dL_themes_730
      · refine g_iload (pc' := 661) C dL_themes_659 rfl rfl ?_
        refine g_aload_n (pc' := 662) C dL_themes_661 rfl rfl ?_
        refine g_iload (pc' := 664) C dL_themes_662 rfl rfl ?_
        refine g_iconst (pc' := 665) (v := 2) C dL_themes_664 (by decide) rfl ?_
        refine k_X5_theme (pc' := 668) C pa N Tn B1 E Nm1 x4 (2 : Int32) [0, 1, 4, 6] rfl (by decide) gL_themes_X5_theme ⟨Nat.le_of_ble_eq_true rfl, Nat.le_of_ble_eq_true rfl⟩ (Nat.le_of_ble_eq_true rfl) rfl dL_themes_665 rfl h (fun r2 E2 Nm2 h => ?_)
        show G X _ [ntW pa Tn, bdW (gcA X) (pa 1) B1, hsW (gcA X) (pa 2) (fun j => pa (10 + j)) Hs1, bdW (gcA X) (pa 5) Tr, heW (gcA X) (pa 6) E2, heW (gcA X) (pa 7) F, nmW (gcA X) (pa 8) Nm2] _ _ _
        refine g_bipush (pc' := 670) (v := -5) C dL_themes_668 (by decide) rfl ?_
        refine g_icmp_ne (pc' := 673) (tgt := 678) C dL_themes_670 (by decide) rfl h (fun c h => ?_) (fun c h => ?_)
        · refine g_bipush (pc' := 675) (v := 10) C dL_themes_673 (by decide) rfl ?_
          refine g_goto (pc' := 685) C dL_themes_675 (by decide) ?_
          exact G_loc (lle_s (lle_s (lle_s (lle_n (lle_s (lle_n (lle_n (lle_s (lle_n (lle_n (lle_s (lle_s (lle_n lle_0))))))))))))) (B_L_themes_685 C pa N Tn p1 p2 r Bz Hsz Trz Ez Fz Nmz x4 x7 x10 t0 (10 : Int32) r1 B1 Hs1 Tr E2 F Nm2 h)
        · refine g_aload_n (pc' := 679) C dL_themes_678 rfl rfl ?_
          refine g_iload (pc' := 681) C dL_themes_679 rfl rfl ?_
          refine g_iconst (pc' := 682) (v := 2) C dL_themes_681 (by decide) rfl ?_
          refine k_X5_theme (pc' := 685) C pa N Tn B1 E2 Nm2 x4 (2 : Int32) [0, 1, 4, 6] rfl (by decide) gL_themes_X5_theme ⟨Nat.le_of_ble_eq_true rfl, Nat.le_of_ble_eq_true rfl⟩ (Nat.le_of_ble_eq_true rfl) rfl dL_themes_682 rfl h (fun r3 E3 Nm3 h => ?_)
          show G X _ [ntW pa Tn, bdW (gcA X) (pa 1) B1, hsW (gcA X) (pa 2) (fun j => pa (10 + j)) Hs1, bdW (gcA X) (pa 5) Tr, heW (gcA X) (pa 6) E3, heW (gcA X) (pa 7) F, nmW (gcA X) (pa 8) Nm3] _ _ _
          exact G_loc (lle_s (lle_s (lle_s (lle_n (lle_s (lle_n (lle_n (lle_s (lle_n (lle_n (lle_s (lle_s (lle_n lle_0))))))))))))) (B_L_themes_685 C pa N Tn p1 p2 r Bz Hsz Trz Ez Fz Nmz x4 x7 x10 t0 r3 r1 B1 Hs1 Tr E3 F Nm3 h)
  · refine g_iload (pc' := 598) C dL_themes_596 rfl rfl ?_
    refine g_iconst (pc' := 599) (v := -1) C dL_themes_598 (by decide) rfl ?_
    refine g_icmp_ne (pc' := 602) (tgt := 606) C dL_themes_599 (by decide) rfl h (fun c h => ?_) (fun c h => ?_)
    · refine g_iconst (pc' := 603) (v := 1) C dL_themes_602 (by decide) rfl ?_
      refine g_goto (pc' := 730) C dL_themes_603 (by decide) ?_
      obtain ⟨rfl, rfl, rfl, rfl, rfl, rfl, rfl⟩ := pj7 (Option.some.inj h)
      exact g_zret0 C rfl dL_themes_730
    · refine g_iconst (pc' := 607) (v := 0) C dL_themes_606 (by decide) rfl ?_
      refine g_goto (pc' := 730) C dL_themes_607 (by decide) ?_
      obtain ⟨rfl, rfl, rfl, rfl, rfl, rfl, rfl⟩ := pj7 (Option.some.inj h)
      exact g_zret0 C rfl dL_themes_730
set_option maxRecDepth 100000 in
set_option maxHeartbeats 4000000 in
theorem B_L_themes_559 {X : gX} (C : cx X RL cL_themes 13 (some .boolean) wsL_themes 6 136) (pa : Nat → Nat → Nat) (N : Nat) (Tn : tS) (p1 : Int32) (p2 : Int32) (r : Int32) (Bz : tS) (Hsz : tH) (Trz : tS) (Ez : tS) (Fz : tS) (Nmz : tS)  (x4 : Int32) (x5 : Int32) (x6 : Int32) (x7 : Int32) (x8 : Int32) (x9 : Int32) (t0 : Int32) (B : tS) (Hs : tH) (Tr : tS) (E : tS) (F : tS) (Nm : tS) (h : f_L_themes_559 N Tn p1 p2  x4 x5 x6 x7 x8 x9 t0 B Hs Tr E F Nm = some (r, Bz, Hsz, Trz, Ez, Fz, Nmz)) : G X (QI X r [ntW pa Tn, bdW (gcA X) (pa 1) Bz, hsW (gcA X) (pa 2) (fun j => pa (10 + j)) Hsz, bdW (gcA X) (pa 5) Trz, heW (gcA X) (pa 6) Ez, heW (gcA X) (pa 7) Fz, nmW (gcA X) (pa 8) Nmz]) [ntW pa Tn, bdW (gcA X) (pa 1) B, hsW (gcA X) (pa 2) (fun j => pa (10 + j)) Hs, bdW (gcA X) (pa 5) Tr, heW (gcA X) (pa 6) E, heW (gcA X) (pa 7) F, nmW (gcA X) (pa 8) Nm] [some (.ref (pa 0 0)), some (.int p1), some (.int p2), none, some (.int x4), some (.int x5), some (.int x6), some (.int x7), some (.int x8), some (.int x9), none, none, none] [.int t0] 559 := by
  unfold f_L_themes_559 at h
  refine g_istore (pc' := 561) C dL_themes_559 (Nat.le_of_ble_eq_true rfl) rfl (L' := [some (.ref (pa 0 0)), some (.int p1), some (.int p2), none, some (.int x4), some (.int x5), some (.int x6), some (.int x7), some (.int x8), some (.int x9), some (.int t0), none, none]) rfl ?_
  refine g_iload (pc' := 563) C dL_themes_561 rfl rfl ?_
  refine g_if_eq (pc' := 566) (tgt := 570) C dL_themes_563 (by decide) rfl h (fun c h => ?_) (fun c h => ?_)
  · refine g_aload_n (pc' := 571) C dL_themes_570 rfl rfl ?_
    refine g_iload (pc' := 573) C dL_themes_571 rfl rfl ?_
    refine g_iconst (pc' := 574) (v := 5) C dL_themes_573 (by decide) rfl ?_
    refine k_X5_theme (pc' := 577) C pa N Tn B E Nm x4 (5 : Int32) [0, 1, 4, 6] rfl (by decide) gL_themes_X5_theme ⟨Nat.le_of_ble_eq_true rfl, Nat.le_of_ble_eq_true rfl⟩ (Nat.le_of_ble_eq_true rfl) rfl dL_themes_574 rfl h (fun r1 E1 Nm1 h => ?_)
    show G X _ [ntW pa Tn, bdW (gcA X) (pa 1) B, hsW (gcA X) (pa 2) (fun j => pa (10 + j)) Hs, bdW (gcA X) (pa 5) Tr, heW (gcA X) (pa 6) E1, heW (gcA X) (pa 7) F, nmW (gcA X) (pa 8) Nm1] _ _ _
    exact G_loc (lle_s (lle_s (lle_s (lle_n (lle_s (lle_s (lle_n (lle_s (lle_s (lle_s (lle_s (lle_n (lle_n lle_0))))))))))))) (B_L_themes_577 C pa N Tn p1 p2 r Bz Hsz Trz Ez Fz Nmz x4 x5 x7 x8 x9 t0 r1 B Hs Tr E1 F Nm1 h)
  · refine g_iconst (pc' := 567) (v := 0) C dL_themes_566 (by decide) rfl ?_
    refine g_goto (pc' := 577) C dL_themes_567 (by decide) ?_
    exact G_loc (lle_s (lle_s (lle_s (lle_n (lle_s (lle_s (lle_n (lle_s (lle_s (lle_s (lle_s (lle_n (lle_n lle_0))))))))))))) (B_L_themes_577 C pa N Tn p1 p2 r Bz Hsz Trz Ez Fz Nmz x4 x5 x7 x8 x9 t0 (0 : Int32) B Hs Tr E F Nm h)
set_option maxRecDepth 100000 in
set_option maxHeartbeats 4000000 in
theorem B_L_themes_547 {X : gX} (C : cx X RL cL_themes 13 (some .boolean) wsL_themes 6 136) (pa : Nat → Nat → Nat) (N : Nat) (Tn : tS) (p1 : Int32) (p2 : Int32) (r : Int32) (Bz : tS) (Hsz : tH) (Trz : tS) (Ez : tS) (Fz : tS) (Nmz : tS)  (x4 : Int32) (x5 : Int32) (x6 : Int32) (x7 : Int32) (x8 : Int32) (x9 : Int32) (B : tS) (Hs : tH) (Tr : tS) (E : tS) (F : tS) (Nm : tS) (h : f_L_themes_547 N Tn p1 p2  x4 x5 x6 x7 x8 x9 B Hs Tr E F Nm = some (r, Bz, Hsz, Trz, Ez, Fz, Nmz)) : G X (QI X r [ntW pa Tn, bdW (gcA X) (pa 1) Bz, hsW (gcA X) (pa 2) (fun j => pa (10 + j)) Hsz, bdW (gcA X) (pa 5) Trz, heW (gcA X) (pa 6) Ez, heW (gcA X) (pa 7) Fz, nmW (gcA X) (pa 8) Nmz]) [ntW pa Tn, bdW (gcA X) (pa 1) B, hsW (gcA X) (pa 2) (fun j => pa (10 + j)) Hs, bdW (gcA X) (pa 5) Tr, heW (gcA X) (pa 6) E, heW (gcA X) (pa 7) F, nmW (gcA X) (pa 8) Nm] [some (.ref (pa 0 0)), some (.int p1), some (.int p2), none, some (.int x4), some (.int x5), some (.int x6), some (.int x7), some (.int x8), some (.int x9), none, none, none] [] 547 := by
  unfold f_L_themes_547 at h
  refine g_iconst (pc' := 548) (v := 0) C dL_themes_547 (by decide) rfl ?_
  refine g_goto (pc' := 559) C dL_themes_548 (by decide) ?_
  exact G_loc (lle_s (lle_s (lle_s (lle_n (lle_s (lle_s (lle_s (lle_s (lle_s (lle_s (lle_n (lle_n (lle_n lle_0))))))))))))) (B_L_themes_559 C pa N Tn p1 p2 r Bz Hsz Trz Ez Fz Nmz x4 x5 x6 x7 x8 x9 (0 : Int32) B Hs Tr E F Nm h)
set_option maxRecDepth 100000 in
set_option maxHeartbeats 4000000 in
theorem B_L_themes_528 {X : gX} (C : cx X RL cL_themes 13 (some .boolean) wsL_themes 6 136) (pa : Nat → Nat → Nat) (N : Nat) (Tn : tS) (p1 : Int32) (p2 : Int32) (r : Int32) (Bz : tS) (Hsz : tH) (Trz : tS) (Ez : tS) (Fz : tS) (Nmz : tS)  (x4 : Int32) (x5 : Int32) (x6 : Int32) (x7 : Int32) (x8 : Int32) (t0 : Int32) (B : tS) (Hs : tH) (Tr : tS) (E : tS) (F : tS) (Nm : tS) (h : f_L_themes_528 N Tn p1 p2  x4 x5 x6 x7 x8 t0 B Hs Tr E F Nm = some (r, Bz, Hsz, Trz, Ez, Fz, Nmz)) : G X (QI X r [ntW pa Tn, bdW (gcA X) (pa 1) Bz, hsW (gcA X) (pa 2) (fun j => pa (10 + j)) Hsz, bdW (gcA X) (pa 5) Trz, heW (gcA X) (pa 6) Ez, heW (gcA X) (pa 7) Fz, nmW (gcA X) (pa 8) Nmz]) [ntW pa Tn, bdW (gcA X) (pa 1) B, hsW (gcA X) (pa 2) (fun j => pa (10 + j)) Hs, bdW (gcA X) (pa 5) Tr, heW (gcA X) (pa 6) E, heW (gcA X) (pa 7) F, nmW (gcA X) (pa 8) Nm] [some (.ref (pa 0 0)), some (.int p1), some (.int p2), none, some (.int x4), some (.int x5), some (.int x6), some (.int x7), some (.int x8), none, none, none, none] [.int t0] 528 := by
  unfold f_L_themes_528 at h
  refine g_istore (pc' := 530) C dL_themes_528 (Nat.le_of_ble_eq_true rfl) rfl (L' := [some (.ref (pa 0 0)), some (.int p1), some (.int p2), none, some (.int x4), some (.int x5), some (.int x6), some (.int x7), some (.int x8), some (.int t0), none, none, none]) rfl ?_
  refine g_iload (pc' := 532) C dL_themes_530 rfl rfl ?_
  refine g_if_ne (pc' := 535) (tgt := 547) C dL_themes_532 (by decide) rfl h (fun c h => ?_) (fun c h => ?_)
  · refine g_iload (pc' := 537) C dL_themes_535 rfl rfl ?_
    refine g_if_lt (pc' := 540) (tgt := 547) C dL_themes_537 (by decide) rfl h (fun c h => ?_) (fun c h => ?_)
    · exact G_loc (lle_s (lle_s (lle_s (lle_n (lle_s (lle_s (lle_s (lle_s (lle_s (lle_s (lle_n (lle_n (lle_n lle_0))))))))))))) (B_L_themes_547 C pa N Tn p1 p2 r Bz Hsz Trz Ez Fz Nmz x4 x5 x6 x7 x8 t0 B Hs Tr E F Nm h)
    · refine g_iload (pc' := 542) C dL_themes_540 rfl rfl ?_
      refine g_bipush (pc' := 544) (v := 10) C dL_themes_542 (by decide) rfl ?_
      refine g_icmp_ne (pc' := 547) (tgt := 551) C dL_themes_544 (by decide) rfl h (fun c h => ?_) (fun c h => ?_)
      · exact G_loc (lle_s (lle_s (lle_s (lle_n (lle_s (lle_s (lle_s (lle_s (lle_s (lle_s (lle_n (lle_n (lle_n lle_0))))))))))))) (B_L_themes_547 C pa N Tn p1 p2 r Bz Hsz Trz Ez Fz Nmz x4 x5 x6 x7 x8 t0 B Hs Tr E F Nm h)
      · refine g_aload_n (pc' := 552) C dL_themes_551 rfl rfl ?_
        refine g_iload (pc' := 554) C dL_themes_552 rfl rfl ?_
        refine g_iload (pc' := 556) C dL_themes_554 rfl rfl ?_
        refine k_X5_votes (pc' := 559) C pa N Tn B x4 x7 [0, 1] rfl (by decide) gL_themes_X5_votes ⟨Nat.le_of_ble_eq_true rfl, Nat.le_of_ble_eq_true rfl⟩ (Nat.le_of_ble_eq_true rfl) rfl dL_themes_556 rfl h (fun r1 h => ?_)
        exact G_loc (lle_s (lle_s (lle_s (lle_n (lle_s (lle_s (lle_s (lle_s (lle_s (lle_s (lle_n (lle_n (lle_n lle_0))))))))))))) (B_L_themes_559 C pa N Tn p1 p2 r Bz Hsz Trz Ez Fz Nmz x4 x5 x6 x7 x8 t0 r1 B Hs Tr E F Nm h)
  · exact G_loc (lle_s (lle_s (lle_s (lle_n (lle_s (lle_s (lle_s (lle_s (lle_s (lle_s (lle_n (lle_n (lle_n lle_0))))))))))))) (B_L_themes_547 C pa N Tn p1 p2 r Bz Hsz Trz Ez Fz Nmz x4 x5 x6 x7 x8 t0 B Hs Tr E F Nm h)
set_option maxRecDepth 100000 in
set_option maxHeartbeats 4000000 in
theorem B_L_themes_523 {X : gX} (C : cx X RL cL_themes 13 (some .boolean) wsL_themes 6 136) (pa : Nat → Nat → Nat) (N : Nat) (Tn : tS) (p1 : Int32) (p2 : Int32) (r : Int32) (Bz : tS) (Hsz : tH) (Trz : tS) (Ez : tS) (Fz : tS) (Nmz : tS)  (x4 : Int32) (x5 : Int32) (x6 : Int32) (x7 : Int32) (x8 : Int32) (B : tS) (Hs : tH) (Tr : tS) (E : tS) (F : tS) (Nm : tS) (h : f_L_themes_523 N Tn p1 p2  x4 x5 x6 x7 x8 B Hs Tr E F Nm = some (r, Bz, Hsz, Trz, Ez, Fz, Nmz)) : G X (QI X r [ntW pa Tn, bdW (gcA X) (pa 1) Bz, hsW (gcA X) (pa 2) (fun j => pa (10 + j)) Hsz, bdW (gcA X) (pa 5) Trz, heW (gcA X) (pa 6) Ez, heW (gcA X) (pa 7) Fz, nmW (gcA X) (pa 8) Nmz]) [ntW pa Tn, bdW (gcA X) (pa 1) B, hsW (gcA X) (pa 2) (fun j => pa (10 + j)) Hs, bdW (gcA X) (pa 5) Tr, heW (gcA X) (pa 6) E, heW (gcA X) (pa 7) F, nmW (gcA X) (pa 8) Nm] [some (.ref (pa 0 0)), some (.int p1), some (.int p2), none, some (.int x4), some (.int x5), some (.int x6), some (.int x7), some (.int x8), none, none, none, none] [] 523 := by
  unfold f_L_themes_523 at h
  refine g_iconst (pc' := 524) (v := 1) C dL_themes_523 (by decide) rfl ?_
  refine g_goto (pc' := 528) C dL_themes_524 (by decide) ?_
  exact G_loc (lle_s (lle_s (lle_s (lle_n (lle_s (lle_s (lle_s (lle_s (lle_s (lle_n (lle_n (lle_n (lle_n lle_0))))))))))))) (B_L_themes_528 C pa N Tn p1 p2 r Bz Hsz Trz Ez Fz Nmz x4 x5 x6 x7 x8 (1 : Int32) B Hs Tr E F Nm h)
set_option maxRecDepth 100000 in
set_option maxHeartbeats 4000000 in
theorem B_L_themes_509 {X : gX} (C : cx X RL cL_themes 13 (some .boolean) wsL_themes 6 136) (pa : Nat → Nat → Nat) (N : Nat) (Tn : tS) (p1 : Int32) (p2 : Int32) (r : Int32) (Bz : tS) (Hsz : tH) (Trz : tS) (Ez : tS) (Fz : tS) (Nmz : tS)  (x4 : Int32) (x5 : Int32) (x6 : Int32) (x7 : Int32) (t0 : Int32) (B : tS) (Hs : tH) (Tr : tS) (E : tS) (F : tS) (Nm : tS) (h : f_L_themes_509 N Tn p1 p2  x4 x5 x6 x7 t0 B Hs Tr E F Nm = some (r, Bz, Hsz, Trz, Ez, Fz, Nmz)) : G X (QI X r [ntW pa Tn, bdW (gcA X) (pa 1) Bz, hsW (gcA X) (pa 2) (fun j => pa (10 + j)) Hsz, bdW (gcA X) (pa 5) Trz, heW (gcA X) (pa 6) Ez, heW (gcA X) (pa 7) Fz, nmW (gcA X) (pa 8) Nmz]) [ntW pa Tn, bdW (gcA X) (pa 1) B, hsW (gcA X) (pa 2) (fun j => pa (10 + j)) Hs, bdW (gcA X) (pa 5) Tr, heW (gcA X) (pa 6) E, heW (gcA X) (pa 7) F, nmW (gcA X) (pa 8) Nm] [some (.ref (pa 0 0)), some (.int p1), some (.int p2), none, some (.int x4), some (.int x5), some (.int x6), some (.int x7), none, none, none, none, none] [.int t0] 509 := by
  unfold f_L_themes_509 at h
  refine g_istore (pc' := 511) C dL_themes_509 (Nat.le_of_ble_eq_true rfl) rfl (L' := [some (.ref (pa 0 0)), some (.int p1), some (.int p2), none, some (.int x4), some (.int x5), some (.int x6), some (.int x7), some (.int t0), none, none, none, none]) rfl ?_
  refine g_iload (pc' := 513) C dL_themes_511 rfl rfl ?_
  refine g_if_ne (pc' := 516) (tgt := 523) C dL_themes_513 (by decide) rfl h (fun c h => ?_) (fun c h => ?_)
  · refine g_iload (pc' := 518) C dL_themes_516 rfl rfl ?_
    refine g_bipush (pc' := 520) (v := 6) C dL_themes_518 (by decide) rfl ?_
    refine g_icmp_ne (pc' := 523) (tgt := 527) C dL_themes_520 (by decide) rfl h (fun c h => ?_) (fun c h => ?_)
    · exact G_loc (lle_s (lle_s (lle_s (lle_n (lle_s (lle_s (lle_s (lle_s (lle_s (lle_n (lle_n (lle_n (lle_n lle_0))))))))))))) (B_L_themes_523 C pa N Tn p1 p2 r Bz Hsz Trz Ez Fz Nmz x4 x5 x6 x7 t0 B Hs Tr E F Nm h)
    · refine g_iconst (pc' := 528) (v := 0) C dL_themes_527 (by decide) rfl ?_
      exact G_loc (lle_s (lle_s (lle_s (lle_n (lle_s (lle_s (lle_s (lle_s (lle_s (lle_n (lle_n (lle_n (lle_n lle_0))))))))))))) (B_L_themes_528 C pa N Tn p1 p2 r Bz Hsz Trz Ez Fz Nmz x4 x5 x6 x7 t0 (0 : Int32) B Hs Tr E F Nm h)
  · exact G_loc (lle_s (lle_s (lle_s (lle_n (lle_s (lle_s (lle_s (lle_s (lle_s (lle_n (lle_n (lle_n (lle_n lle_0))))))))))))) (B_L_themes_523 C pa N Tn p1 p2 r Bz Hsz Trz Ez Fz Nmz x4 x5 x6 x7 t0 B Hs Tr E F Nm h)
set_option maxRecDepth 100000 in
set_option maxHeartbeats 4000000 in
theorem B_L_themes_470 {X : gX} (C : cx X RL cL_themes 13 (some .boolean) wsL_themes 6 136) (pa : Nat → Nat → Nat) (N : Nat) (Tn : tS) (p1 : Int32) (p2 : Int32) (r : Int32) (Bz : tS) (Hsz : tH) (Trz : tS) (Ez : tS) (Fz : tS) (Nmz : tS)  (x3 : Int32) (x11 : Int32) (B : tS) (Hs : tH) (Tr : tS) (E : tS) (F : tS) (Nm : tS) (h : f_L_themes_470 N Tn p1 p2  x3 x11 B Hs Tr E F Nm = some (r, Bz, Hsz, Trz, Ez, Fz, Nmz)) : G X (QI X r [ntW pa Tn, bdW (gcA X) (pa 1) Bz, hsW (gcA X) (pa 2) (fun j => pa (10 + j)) Hsz, bdW (gcA X) (pa 5) Trz, heW (gcA X) (pa 6) Ez, heW (gcA X) (pa 7) Fz, nmW (gcA X) (pa 8) Nmz]) [ntW pa Tn, bdW (gcA X) (pa 1) B, hsW (gcA X) (pa 2) (fun j => pa (10 + j)) Hs, bdW (gcA X) (pa 5) Tr, heW (gcA X) (pa 6) E, heW (gcA X) (pa 7) F, nmW (gcA X) (pa 8) Nm] [some (.ref (pa 0 0)), some (.int p1), some (.int p2), some (.int x3), none, none, none, none, none, none, none, some (.int x11), none] [] 470 := by
  unfold f_L_themes_470 at h
  refine g_iload (pc' := 472) C dL_themes_470 rfl rfl ?_
  refine g_iload_n (pc' := 473) C dL_themes_472 rfl rfl ?_
  refine g_iconst (pc' := 474) (v := 1) C dL_themes_473 (by decide) rfl ?_
  refine g_isub (pc' := 475) C dL_themes_474 rfl ?_
  refine g_icmp_lt (pc' := 478) (tgt := 482) C dL_themes_475 (by decide) rfl h (fun c h => ?_) (fun c h => ?_)
  · refine g_iconst (pc' := 483) (v := 0) C dL_themes_482 (by decide) rfl ?_
    obtain ⟨rfl, rfl, rfl, rfl, rfl, rfl, rfl⟩ := pj7 (Option.some.inj h)
    exact g_zret0 C rfl dL_themes_483
  · refine g_iconst (pc' := 479) (v := 1) C dL_themes_478 (by decide) rfl ?_
    refine g_goto (pc' := 483) C dL_themes_479 (by decide) ?_
    obtain ⟨rfl, rfl, rfl, rfl, rfl, rfl, rfl⟩ := pj7 (Option.some.inj h)
    exact g_zret0 C rfl dL_themes_483
set_option maxRecDepth 100000 in
set_option maxHeartbeats 4000000 in
theorem B_L_themes_375 {X : gX} (C : cx X RL cL_themes 13 (some .boolean) wsL_themes 6 136) (pa : Nat → Nat → Nat) (N : Nat) (Tn : tS) (p1 : Int32) (p2 : Int32) (r : Int32) (Bz : tS) (Hsz : tH) (Trz : tS) (Ez : tS) (Fz : tS) (Nmz : tS)  (x3 : Int32) (x7 : Int32) (x8 : Int32) (x9 : Int32) (t0 : Int32) (B : tS) (Hs : tH) (Tr : tS) (E : tS) (F : tS) (Nm : tS) (h : f_L_themes_375 N Tn p1 p2  x3 x7 x8 x9 t0 B Hs Tr E F Nm = some (r, Bz, Hsz, Trz, Ez, Fz, Nmz)) : G X (QI X r [ntW pa Tn, bdW (gcA X) (pa 1) Bz, hsW (gcA X) (pa 2) (fun j => pa (10 + j)) Hsz, bdW (gcA X) (pa 5) Trz, heW (gcA X) (pa 6) Ez, heW (gcA X) (pa 7) Fz, nmW (gcA X) (pa 8) Nmz]) [ntW pa Tn, bdW (gcA X) (pa 1) B, hsW (gcA X) (pa 2) (fun j => pa (10 + j)) Hs, bdW (gcA X) (pa 5) Tr, heW (gcA X) (pa 6) E, heW (gcA X) (pa 7) F, nmW (gcA X) (pa 8) Nm] [some (.ref (pa 0 0)), some (.int p1), some (.int p2), some (.int x3), none, none, none, some (.int x7), some (.int x8), some (.int x9), none, none, none] [.int t0] 375 := by
  unfold f_L_themes_375 at h
  refine g_istore (pc' := 377) C dL_themes_375 (Nat.le_of_ble_eq_true rfl) rfl (L' := [some (.ref (pa 0 0)), some (.int p1), some (.int p2), some (.int x3), none, none, none, some (.int x7), some (.int x8), some (.int x9), some (.int t0), none, none]) rfl ?_
  refine g_aload_n (pc' := 378) C dL_themes_377 rfl rfl ?_
  refine g_iload (pc' := 380) C dL_themes_378 rfl rfl ?_
  refine g_iload (pc' := 382) C dL_themes_380 rfl rfl ?_
  refine k_X5_belong (pc' := 385) C pa N Tn B Hs x7 x8 [0, 1, 2] rfl (by decide) gL_themes_X5_belong ⟨Nat.le_of_ble_eq_true rfl, Nat.le_of_ble_eq_true rfl⟩ (Nat.le_of_ble_eq_true rfl) rfl dL_themes_382 rfl h (fun r1 B1 Hs1 h => ?_)
  show G X _ [ntW pa Tn, bdW (gcA X) (pa 1) B1, hsW (gcA X) (pa 2) (fun j => pa (10 + j)) Hs1, bdW (gcA X) (pa 5) Tr, heW (gcA X) (pa 6) E, heW (gcA X) (pa 7) F, nmW (gcA X) (pa 8) Nm] _ _ _
  refine g_istore (pc' := 387) C dL_themes_385 (Nat.le_of_ble_eq_true rfl) rfl (L' := [some (.ref (pa 0 0)), some (.int p1), some (.int p2), some (.int x3), none, none, none, some (.int x7), some (.int x8), some (.int x9), some (.int t0), some (.int r1), none]) rfl ?_
  refine g_iload (pc' := 389) C dL_themes_387 rfl rfl ?_
  refine g_if_eq (pc' := 392) (tgt := 406) C dL_themes_389 (by decide) rfl h (fun c h => ?_) (fun c h => ?_)
  · refine g_iload (pc' := 408) C dL_themes_406 rfl rfl ?_
    refine g_iload (pc' := 410) C dL_themes_408 rfl rfl ?_
    refine g_icmp_ne (pc' := 413) (tgt := 428) C dL_themes_410 (by decide) rfl h (fun c h => ?_) (fun c h => ?_)
    · refine g_iload (pc' := 415) C dL_themes_413 rfl rfl ?_
      refine g_bipush (pc' := 417) (v := -5) C dL_themes_415 (by decide) rfl ?_
      refine g_icmp_ne (pc' := 420) (tgt := 424) C dL_themes_417 (by decide) rfl h (fun c h => ?_) (fun c h => ?_)
      · refine g_iconst (pc' := 421) (v := 1) C dL_themes_420 (by decide) rfl ?_
        refine g_goto (pc' := 483) C dL_themes_421 (by decide) ?_
        obtain ⟨rfl, rfl, rfl, rfl, rfl, rfl, rfl⟩ := pj7 (Option.some.inj h)
        exact g_zret0 C rfl dL_themes_483
      · refine g_iconst (pc' := 425) (v := 0) C dL_themes_424 (by decide) rfl ?_
        refine g_goto (pc' := 483) C dL_themes_425 (by decide) ?_
        obtain ⟨rfl, rfl, rfl, rfl, rfl, rfl, rfl⟩ := pj7 (Option.some.inj h)
        exact g_zret0 C rfl dL_themes_483
    · refine g_iload (pc' := 430) C dL_themes_428 rfl rfl ?_
      refine g_aload_n (pc' := 431) C dL_themes_430 rfl rfl ?_
      refine g_iconst (pc' := 432) (v := 2) C dL_themes_431 (by decide) rfl ?_
      refine k_X5_count (pc' := 435) C pa N Tn B1 Hs1 E Nm (2 : Int32) [0, 1, 2, 4, 6] rfl (by decide) gL_themes_X5_count ⟨Nat.le_of_ble_eq_true rfl, Nat.le_of_ble_eq_true rfl⟩ (Nat.le_of_ble_eq_true rfl) rfl dL_themes_432 rfl h (fun r2 E2 Nm2 h => ?_)
      show G X _ [ntW pa Tn, bdW (gcA X) (pa 1) B1, hsW (gcA X) (pa 2) (fun j => pa (10 + j)) Hs1, bdW (gcA X) (pa 5) Tr, heW (gcA X) (pa 6) E2, heW (gcA X) (pa 7) F, nmW (gcA X) (pa 8) Nm2] _ _ _
      refine g_icmp_ne (pc' := 438) (tgt := 482) C dL_themes_435 (by decide) rfl h (fun c h => ?_) (fun c h => ?_)
      · refine g_iload (pc' := 440) C dL_themes_438 rfl rfl ?_
        refine g_bipush (pc' := 442) (v := -5) C dL_themes_440 (by decide) rfl ?_
        refine g_icmp_ne (pc' := 445) (tgt := 460) C dL_themes_442 (by decide) rfl h (fun c h => ?_) (fun c h => ?_)
        · refine g_aload_n (pc' := 446) C dL_themes_445 rfl rfl ?_
          refine g_iload (pc' := 448) C dL_themes_446 rfl rfl ?_
          refine g_iconst (pc' := 449) (v := 4) C dL_themes_448 (by decide) rfl ?_
          refine k_X5_note (pc' := 452) C pa N Tn B1 Tr E2 F x7 (4 : Int32) [0, 1, 3, 4, 5] rfl (by decide) gL_themes_X5_note ⟨Nat.le_of_ble_eq_true rfl, Nat.le_of_ble_eq_true rfl⟩ (Nat.le_of_ble_eq_true rfl) rfl dL_themes_449 rfl h (fun r4 Tr4 E4 F4 h => ?_)
          show G X _ [ntW pa Tn, bdW (gcA X) (pa 1) B1, hsW (gcA X) (pa 2) (fun j => pa (10 + j)) Hs1, bdW (gcA X) (pa 5) Tr4, heW (gcA X) (pa 6) E4, heW (gcA X) (pa 7) F4, nmW (gcA X) (pa 8) Nm2] _ _ _
          refine g_bipush (pc' := 454) (v := -5) C dL_themes_452 (by decide) rfl ?_
          refine g_icmp_ne (pc' := 457) (tgt := 482) C dL_themes_454 (by decide) rfl h (fun c h => ?_) (fun c h => ?_)
          · refine g_goto (pc' := 470) C dL_themes_457 (by decide) ?_
            exact G_loc (lle_s (lle_s (lle_s (lle_s (lle_n (lle_n (lle_n (lle_n (lle_n (lle_n (lle_n (lle_s (lle_n lle_0))))))))))))) (B_L_themes_470 C pa N Tn p1 p2 r Bz Hsz Trz Ez Fz Nmz x3 r1 B1 Hs1 Tr4 E4 F4 Nm2 h)
          · refine g_iconst (pc' := 483) (v := 0) C dL_themes_482 (by decide) rfl ?_
            obtain ⟨rfl, rfl, rfl, rfl, rfl, rfl, rfl⟩ := pj7 (Option.some.inj h)
            exact g_zret0 C rfl dL_themes_483
        · refine g_aload_n (pc' := 461) C dL_themes_460 rfl rfl ?_
          refine g_iload (pc' := 463) C dL_themes_461 rfl rfl ?_
          refine g_iconst (pc' := 464) (v := 4) C dL_themes_463 (by decide) rfl ?_
          refine k_X5_note (pc' := 467) C pa N Tn B1 Tr E2 F x7 (4 : Int32) [0, 1, 3, 4, 5] rfl (by decide) gL_themes_X5_note ⟨Nat.le_of_ble_eq_true rfl, Nat.le_of_ble_eq_true rfl⟩ (Nat.le_of_ble_eq_true rfl) rfl dL_themes_464 rfl h (fun r3 Tr3 E3 F3 h => ?_)
          show G X _ [ntW pa Tn, bdW (gcA X) (pa 1) B1, hsW (gcA X) (pa 2) (fun j => pa (10 + j)) Hs1, bdW (gcA X) (pa 5) Tr3, heW (gcA X) (pa 6) E3, heW (gcA X) (pa 7) F3, nmW (gcA X) (pa 8) Nm2] _ _ _
          refine g_if_lt (pc' := 470) (tgt := 482) C dL_themes_467 (by decide) rfl h (fun c h => ?_) (fun c h => ?_)
          · refine g_iconst (pc' := 483) (v := 0) C dL_themes_482 (by decide) rfl ?_
            obtain ⟨rfl, rfl, rfl, rfl, rfl, rfl, rfl⟩ := pj7 (Option.some.inj h)
            exact g_zret0 C rfl dL_themes_483
          · exact G_loc (lle_s (lle_s (lle_s (lle_s (lle_n (lle_n (lle_n (lle_n (lle_n (lle_n (lle_n (lle_s (lle_n lle_0))))))))))))) (B_L_themes_470 C pa N Tn p1 p2 r Bz Hsz Trz Ez Fz Nmz x3 r1 B1 Hs1 Tr3 E3 F3 Nm2 h)
      · refine g_iconst (pc' := 483) (v := 0) C dL_themes_482 (by decide) rfl ?_
        obtain ⟨rfl, rfl, rfl, rfl, rfl, rfl, rfl⟩ := pj7 (Option.some.inj h)
        exact g_zret0 C rfl dL_themes_483
  · refine g_iload (pc' := 394) C dL_themes_392 rfl rfl ?_
    refine g_iconst (pc' := 395) (v := -1) C dL_themes_394 (by decide) rfl ?_
    refine g_icmp_ne (pc' := 398) (tgt := 402) C dL_themes_395 (by decide) rfl h (fun c h => ?_) (fun c h => ?_)
    · refine g_iconst (pc' := 399) (v := 1) C dL_themes_398 (by decide) rfl ?_
      refine g_goto (pc' := 483) C dL_themes_399 (by decide) ?_
      obtain ⟨rfl, rfl, rfl, rfl, rfl, rfl, rfl⟩ := pj7 (Option.some.inj h)
      exact g_zret0 C rfl dL_themes_483
    · refine g_iconst (pc' := 403) (v := 0) C dL_themes_402 (by decide) rfl ?_
      refine g_goto (pc' := 483) C dL_themes_403 (by decide) ?_
      obtain ⟨rfl, rfl, rfl, rfl, rfl, rfl, rfl⟩ := pj7 (Option.some.inj h)
      exact g_zret0 C rfl dL_themes_483
set_option maxRecDepth 100000 in
set_option maxHeartbeats 4000000 in
theorem B_L_themes_357 {X : gX} (C : cx X RL cL_themes 13 (some .boolean) wsL_themes 6 136) (pa : Nat → Nat → Nat) (N : Nat) (Tn : tS) (p1 : Int32) (p2 : Int32) (r : Int32) (Bz : tS) (Hsz : tH) (Trz : tS) (Ez : tS) (Fz : tS) (Nmz : tS)  (x3 : Int32) (x7 : Int32) (x8 : Int32) (t0 : Int32) (B : tS) (Hs : tH) (Tr : tS) (E : tS) (F : tS) (Nm : tS) (h : f_L_themes_357 N Tn p1 p2  x3 x7 x8 t0 B Hs Tr E F Nm = some (r, Bz, Hsz, Trz, Ez, Fz, Nmz)) : G X (QI X r [ntW pa Tn, bdW (gcA X) (pa 1) Bz, hsW (gcA X) (pa 2) (fun j => pa (10 + j)) Hsz, bdW (gcA X) (pa 5) Trz, heW (gcA X) (pa 6) Ez, heW (gcA X) (pa 7) Fz, nmW (gcA X) (pa 8) Nmz]) [ntW pa Tn, bdW (gcA X) (pa 1) B, hsW (gcA X) (pa 2) (fun j => pa (10 + j)) Hs, bdW (gcA X) (pa 5) Tr, heW (gcA X) (pa 6) E, heW (gcA X) (pa 7) F, nmW (gcA X) (pa 8) Nm] [some (.ref (pa 0 0)), some (.int p1), some (.int p2), some (.int x3), none, none, none, some (.int x7), some (.int x8), none, none, none, none] [.int t0] 357 := by
  unfold f_L_themes_357 at h
  refine g_istore (pc' := 359) C dL_themes_357 (Nat.le_of_ble_eq_true rfl) rfl (L' := [some (.ref (pa 0 0)), some (.int p1), some (.int p2), some (.int x3), none, none, none, some (.int x7), some (.int x8), some (.int t0), none, none, none]) rfl ?_
  refine g_iload (pc' := 361) C dL_themes_359 rfl rfl ?_
  refine g_if_eq (pc' := 364) (tgt := 368) C dL_themes_361 (by decide) rfl h (fun c h => ?_) (fun c h => ?_)
  · refine g_aload_n (pc' := 369) C dL_themes_368 rfl rfl ?_
    refine g_iload (pc' := 371) C dL_themes_369 rfl rfl ?_
    refine g_iconst (pc' := 372) (v := 4) C dL_themes_371 (by decide) rfl ?_
    refine k_X5_note (pc' := 375) C pa N Tn B Tr E F x7 (4 : Int32) [0, 1, 3, 4, 5] rfl (by decide) gL_themes_X5_note ⟨Nat.le_of_ble_eq_true rfl, Nat.le_of_ble_eq_true rfl⟩ (Nat.le_of_ble_eq_true rfl) rfl dL_themes_372 rfl h (fun r1 Tr1 E1 F1 h => ?_)
    show G X _ [ntW pa Tn, bdW (gcA X) (pa 1) B, hsW (gcA X) (pa 2) (fun j => pa (10 + j)) Hs, bdW (gcA X) (pa 5) Tr1, heW (gcA X) (pa 6) E1, heW (gcA X) (pa 7) F1, nmW (gcA X) (pa 8) Nm] _ _ _
    exact G_loc (lle_s (lle_s (lle_s (lle_s (lle_n (lle_n (lle_n (lle_s (lle_s (lle_s (lle_n (lle_n (lle_n lle_0))))))))))))) (B_L_themes_375 C pa N Tn p1 p2 r Bz Hsz Trz Ez Fz Nmz x3 x7 x8 t0 r1 B Hs Tr1 E1 F1 Nm h)
  · refine g_iconst (pc' := 365) (v := 0) C dL_themes_364 (by decide) rfl ?_
    refine g_goto (pc' := 375) C dL_themes_365 (by decide) ?_
    exact G_loc (lle_s (lle_s (lle_s (lle_s (lle_n (lle_n (lle_n (lle_s (lle_s (lle_s (lle_n (lle_n (lle_n lle_0))))))))))))) (B_L_themes_375 C pa N Tn p1 p2 r Bz Hsz Trz Ez Fz Nmz x3 x7 x8 t0 (0 : Int32) B Hs Tr E F Nm h)
set_option maxRecDepth 100000 in
set_option maxHeartbeats 4000000 in
theorem B_L_themes_352 {X : gX} (C : cx X RL cL_themes 13 (some .boolean) wsL_themes 6 136) (pa : Nat → Nat → Nat) (N : Nat) (Tn : tS) (p1 : Int32) (p2 : Int32) (r : Int32) (Bz : tS) (Hsz : tH) (Trz : tS) (Ez : tS) (Fz : tS) (Nmz : tS)  (x3 : Int32) (x7 : Int32) (x8 : Int32) (B : tS) (Hs : tH) (Tr : tS) (E : tS) (F : tS) (Nm : tS) (h : f_L_themes_352 N Tn p1 p2  x3 x7 x8 B Hs Tr E F Nm = some (r, Bz, Hsz, Trz, Ez, Fz, Nmz)) : G X (QI X r [ntW pa Tn, bdW (gcA X) (pa 1) Bz, hsW (gcA X) (pa 2) (fun j => pa (10 + j)) Hsz, bdW (gcA X) (pa 5) Trz, heW (gcA X) (pa 6) Ez, heW (gcA X) (pa 7) Fz, nmW (gcA X) (pa 8) Nmz]) [ntW pa Tn, bdW (gcA X) (pa 1) B, hsW (gcA X) (pa 2) (fun j => pa (10 + j)) Hs, bdW (gcA X) (pa 5) Tr, heW (gcA X) (pa 6) E, heW (gcA X) (pa 7) F, nmW (gcA X) (pa 8) Nm] [some (.ref (pa 0 0)), some (.int p1), some (.int p2), some (.int x3), none, none, none, some (.int x7), some (.int x8), none, none, none, none] [] 352 := by
  unfold f_L_themes_352 at h
  refine g_iconst (pc' := 353) (v := 1) C dL_themes_352 (by decide) rfl ?_
  refine g_goto (pc' := 357) C dL_themes_353 (by decide) ?_
  exact G_loc (lle_s (lle_s (lle_s (lle_s (lle_n (lle_n (lle_n (lle_s (lle_s (lle_n (lle_n (lle_n (lle_n lle_0))))))))))))) (B_L_themes_357 C pa N Tn p1 p2 r Bz Hsz Trz Ez Fz Nmz x3 x7 x8 (1 : Int32) B Hs Tr E F Nm h)
set_option maxRecDepth 100000 in
set_option maxHeartbeats 4000000 in
theorem B_L_themes_334 {X : gX} (C : cx X RL cL_themes 13 (some .boolean) wsL_themes 6 136) (pa : Nat → Nat → Nat) (N : Nat) (Tn : tS) (p1 : Int32) (p2 : Int32) (r : Int32) (Bz : tS) (Hsz : tH) (Trz : tS) (Ez : tS) (Fz : tS) (Nmz : tS)  (x3 : Int32) (x7 : Int32) (t0 : Int32) (B : tS) (Hs : tH) (Tr : tS) (E : tS) (F : tS) (Nm : tS) (h : f_L_themes_334 N Tn p1 p2  x3 x7 t0 B Hs Tr E F Nm = some (r, Bz, Hsz, Trz, Ez, Fz, Nmz)) : G X (QI X r [ntW pa Tn, bdW (gcA X) (pa 1) Bz, hsW (gcA X) (pa 2) (fun j => pa (10 + j)) Hsz, bdW (gcA X) (pa 5) Trz, heW (gcA X) (pa 6) Ez, heW (gcA X) (pa 7) Fz, nmW (gcA X) (pa 8) Nmz]) [ntW pa Tn, bdW (gcA X) (pa 1) B, hsW (gcA X) (pa 2) (fun j => pa (10 + j)) Hs, bdW (gcA X) (pa 5) Tr, heW (gcA X) (pa 6) E, heW (gcA X) (pa 7) F, nmW (gcA X) (pa 8) Nm] [some (.ref (pa 0 0)), some (.int p1), some (.int p2), some (.int x3), none, none, none, some (.int x7), none, none, none, none, none] [.int t0] 334 := by
  unfold f_L_themes_334 at h
  refine g_istore (pc' := 336) C dL_themes_334 (Nat.le_of_ble_eq_true rfl) rfl (L' := [some (.ref (pa 0 0)), some (.int p1), some (.int p2), some (.int x3), none, none, none, some (.int x7), some (.int t0), none, none, none, none]) rfl ?_
  refine g_iload (pc' := 338) C dL_themes_336 rfl rfl ?_
  refine g_aload_n (pc' := 339) C dL_themes_338 rfl rfl ?_
  refine g_iconst (pc' := 340) (v := 0) C dL_themes_339 (by decide) rfl ?_
  refine k_X5_count (pc' := 343) C pa N Tn B Hs E Nm (0 : Int32) [0, 1, 2, 4, 6] rfl (by decide) gL_themes_X5_count ⟨Nat.le_of_ble_eq_true rfl, Nat.le_of_ble_eq_true rfl⟩ (Nat.le_of_ble_eq_true rfl) rfl dL_themes_340 rfl h (fun r1 E1 Nm1 h => ?_)
  show G X _ [ntW pa Tn, bdW (gcA X) (pa 1) B, hsW (gcA X) (pa 2) (fun j => pa (10 + j)) Hs, bdW (gcA X) (pa 5) Tr, heW (gcA X) (pa 6) E1, heW (gcA X) (pa 7) F, nmW (gcA X) (pa 8) Nm1] _ _ _
  refine g_icmp_eq (pc' := 346) (tgt := 352) C dL_themes_343 (by decide) rfl h (fun c h => ?_) (fun c h => ?_)
  · exact G_loc (lle_s (lle_s (lle_s (lle_s (lle_n (lle_n (lle_n (lle_s (lle_s (lle_n (lle_n (lle_n (lle_n lle_0))))))))))))) (B_L_themes_352 C pa N Tn p1 p2 r Bz Hsz Trz Ez Fz Nmz x3 x7 t0 B Hs Tr E1 F Nm1 h)
  · refine g_iload (pc' := 348) C dL_themes_346 rfl rfl ?_
    refine g_iload_n (pc' := 349) C dL_themes_348 rfl rfl ?_
    refine g_icmp_ne (pc' := 352) (tgt := 356) C dL_themes_349 (by decide) rfl h (fun c h => ?_) (fun c h => ?_)
    · exact G_loc (lle_s (lle_s (lle_s (lle_s (lle_n (lle_n (lle_n (lle_s (lle_s (lle_n (lle_n (lle_n (lle_n lle_0))))))))))))) (B_L_themes_352 C pa N Tn p1 p2 r Bz Hsz Trz Ez Fz Nmz x3 x7 t0 B Hs Tr E1 F Nm1 h)
    · refine g_iconst (pc' := 357) (v := 0) C dL_themes_356 (by decide) rfl ?_
      exact G_loc (lle_s (lle_s (lle_s (lle_s (lle_n (lle_n (lle_n (lle_s (lle_s (lle_n (lle_n (lle_n (lle_n lle_0))))))))))))) (B_L_themes_357 C pa N Tn p1 p2 r Bz Hsz Trz Ez Fz Nmz x3 x7 t0 (0 : Int32) B Hs Tr E1 F Nm1 h)
set_option maxRecDepth 100000 in
set_option maxHeartbeats 4000000 in
theorem B_L_themes_285 {X : gX} (C : cx X RL cL_themes 13 (some .boolean) wsL_themes 6 136) (pa : Nat → Nat → Nat) (N : Nat) (Tn : tS) (p1 : Int32) (p2 : Int32) (r : Int32) (Bz : tS) (Hsz : tH) (Trz : tS) (Ez : tS) (Fz : tS) (Nmz : tS)  (t0 : Int32) (t1 : Int32) (t2 : Int32) (B : tS) (Hs : tH) (Tr : tS) (E : tS) (F : tS) (Nm : tS) (h : f_L_themes_285 N Tn p1 p2  t0 t1 t2 B Hs Tr E F Nm = some (r, Bz, Hsz, Trz, Ez, Fz, Nmz)) : G X (QI X r [ntW pa Tn, bdW (gcA X) (pa 1) Bz, hsW (gcA X) (pa 2) (fun j => pa (10 + j)) Hsz, bdW (gcA X) (pa 5) Trz, heW (gcA X) (pa 6) Ez, heW (gcA X) (pa 7) Fz, nmW (gcA X) (pa 8) Nmz]) [ntW pa Tn, bdW (gcA X) (pa 1) B, hsW (gcA X) (pa 2) (fun j => pa (10 + j)) Hs, bdW (gcA X) (pa 5) Tr, heW (gcA X) (pa 6) E, heW (gcA X) (pa 7) F, nmW (gcA X) (pa 8) Nm] [some (.ref (pa 0 0)), some (.int p1), some (.int p2), none, none, none, none, none, none, none, none, none, none] [.int t0, .int t1, .int t2] 285 := by
  unfold f_L_themes_285 at h
  refine g_isub (pc' := 286) C dL_themes_285 rfl ?_
  refine g_icmp_ne (pc' := 289) (tgt := 293) C dL_themes_286 (by decide) rfl h (fun c h => ?_) (fun c h => ?_)
  · refine g_iconst (pc' := 290) (v := 1) C dL_themes_289 (by decide) rfl ?_
    refine g_goto (pc' := 294) C dL_themes_290 (by decide) ?_
    obtain ⟨rfl, rfl, rfl, rfl, rfl, rfl, rfl⟩ := pj7 (Option.some.inj h)
    exact g_zret0 C rfl dL_themes_294
  · refine g_iconst (pc' := 294) (v := 0) C dL_themes_293 (by decide) rfl ?_
    obtain ⟨rfl, rfl, rfl, rfl, rfl, rfl, rfl⟩ := pj7 (Option.some.inj h)
    exact g_zret0 C rfl dL_themes_294
set_option maxRecDepth 100000 in
set_option maxHeartbeats 4000000 in
theorem B_L_themes_280 {X : gX} (C : cx X RL cL_themes 13 (some .boolean) wsL_themes 6 136) (pa : Nat → Nat → Nat) (N : Nat) (Tn : tS) (p1 : Int32) (p2 : Int32) (r : Int32) (Bz : tS) (Hsz : tH) (Trz : tS) (Ez : tS) (Fz : tS) (Nmz : tS)  (t0 : Int32) (t1 : Int32) (B : tS) (Hs : tH) (Tr : tS) (E : tS) (F : tS) (Nm : tS) (h : f_L_themes_280 N Tn p1 p2  t0 t1 B Hs Tr E F Nm = some (r, Bz, Hsz, Trz, Ez, Fz, Nmz)) : G X (QI X r [ntW pa Tn, bdW (gcA X) (pa 1) Bz, hsW (gcA X) (pa 2) (fun j => pa (10 + j)) Hsz, bdW (gcA X) (pa 5) Trz, heW (gcA X) (pa 6) Ez, heW (gcA X) (pa 7) Fz, nmW (gcA X) (pa 8) Nmz]) [ntW pa Tn, bdW (gcA X) (pa 1) B, hsW (gcA X) (pa 2) (fun j => pa (10 + j)) Hs, bdW (gcA X) (pa 5) Tr, heW (gcA X) (pa 6) E, heW (gcA X) (pa 7) F, nmW (gcA X) (pa 8) Nm] [some (.ref (pa 0 0)), some (.int p1), some (.int p2), none, none, none, none, none, none, none, none, none, none] [.int t0, .int t1] 280 := by
  unfold f_L_themes_280 at h
  refine g_iconst (pc' := 281) (v := 0) C dL_themes_280 (by decide) rfl ?_
  refine g_goto (pc' := 285) C dL_themes_281 (by decide) ?_
  exact G_loc (lle_s (lle_s (lle_s (lle_n (lle_n (lle_n (lle_n (lle_n (lle_n (lle_n (lle_n (lle_n (lle_n lle_0))))))))))))) (B_L_themes_285 C pa N Tn p1 p2 r Bz Hsz Trz Ez Fz Nmz (0 : Int32) t0 t1 B Hs Tr E F Nm h)
set_option maxRecDepth 100000 in
set_option maxHeartbeats 4000000 in
theorem B_L_themes_253 {X : gX} (C : cx X RL cL_themes 13 (some .boolean) wsL_themes 6 136) (pa : Nat → Nat → Nat) (N : Nat) (Tn : tS) (p1 : Int32) (p2 : Int32) (r : Int32) (Bz : tS) (Hsz : tH) (Trz : tS) (Ez : tS) (Fz : tS) (Nmz : tS)  (x3 : Int32) (x4 : Int32) (x6 : Int32) (x7 : Int32) (t0 : Int32) (t1 : Int32) (B : tS) (Hs : tH) (Tr : tS) (E : tS) (F : tS) (Nm : tS) (h : f_L_themes_253 N Tn p1 p2  x3 x4 x6 x7 t0 t1 B Hs Tr E F Nm = some (r, Bz, Hsz, Trz, Ez, Fz, Nmz)) : G X (QI X r [ntW pa Tn, bdW (gcA X) (pa 1) Bz, hsW (gcA X) (pa 2) (fun j => pa (10 + j)) Hsz, bdW (gcA X) (pa 5) Trz, heW (gcA X) (pa 6) Ez, heW (gcA X) (pa 7) Fz, nmW (gcA X) (pa 8) Nmz]) [ntW pa Tn, bdW (gcA X) (pa 1) B, hsW (gcA X) (pa 2) (fun j => pa (10 + j)) Hs, bdW (gcA X) (pa 5) Tr, heW (gcA X) (pa 6) E, heW (gcA X) (pa 7) F, nmW (gcA X) (pa 8) Nm] [some (.ref (pa 0 0)), some (.int p1), some (.int p2), some (.int x3), some (.int x4), none, some (.int x6), some (.int x7), none, none, none, none, none] [.int t0, .int t1] 253 := by
  unfold f_L_themes_253 at h
  refine g_icmp_ne (pc' := 256) (tgt := 293) C dL_themes_253 (by decide) rfl h (fun c h => ?_) (fun c h => ?_)
  · refine g_aload_n (pc' := 257) C dL_themes_256 rfl rfl ?_
    refine g_iconst (pc' := 258) (v := 2) C dL_themes_257 (by decide) rfl ?_
    refine k_X5_count (pc' := 261) C pa N Tn B Hs E Nm (2 : Int32) [0, 1, 2, 4, 6] rfl (by decide) gL_themes_X5_count ⟨Nat.le_of_ble_eq_true rfl, Nat.le_of_ble_eq_true rfl⟩ (Nat.le_of_ble_eq_true rfl) rfl dL_themes_258 rfl h (fun r1 E1 Nm1 h => ?_)
    show G X _ [ntW pa Tn, bdW (gcA X) (pa 1) B, hsW (gcA X) (pa 2) (fun j => pa (10 + j)) Hs, bdW (gcA X) (pa 5) Tr, heW (gcA X) (pa 6) E1, heW (gcA X) (pa 7) F, nmW (gcA X) (pa 8) Nm1] _ _ _
    refine g_iload_n (pc' := 262) C dL_themes_261 rfl rfl ?_
    refine g_iload (pc' := 264) C dL_themes_262 rfl rfl ?_
    refine g_if_ne (pc' := 267) (tgt := 280) C dL_themes_264 (by decide) rfl h (fun c h => ?_) (fun c h => ?_)
    · refine g_iload (pc' := 269) C dL_themes_267 rfl rfl ?_
      refine g_iload_n (pc' := 270) C dL_themes_269 rfl rfl ?_
      refine g_icmp_eq (pc' := 273) (tgt := 280) C dL_themes_270 (by decide) rfl h (fun c h => ?_) (fun c h => ?_)
      · exact G_loc (lle_s (lle_s (lle_s (lle_n (lle_n (lle_n (lle_n (lle_n (lle_n (lle_n (lle_n (lle_n (lle_n lle_0))))))))))))) (B_L_themes_280 C pa N Tn p1 p2 r Bz Hsz Trz Ez Fz Nmz x3 r1 B Hs Tr E1 F Nm1 h)
      · refine g_iload (pc' := 275) C dL_themes_273 rfl rfl ?_
        refine g_iload (pc' := 277) C dL_themes_275 rfl rfl ?_
        refine g_icmp_ne (pc' := 280) (tgt := 284) C dL_themes_277 (by decide) rfl h (fun c h => ?_) (fun c h => ?_)
        · exact G_loc (lle_s (lle_s (lle_s (lle_n (lle_n (lle_n (lle_n (lle_n (lle_n (lle_n (lle_n (lle_n (lle_n lle_0))))))))))))) (B_L_themes_280 C pa N Tn p1 p2 r Bz Hsz Trz Ez Fz Nmz x3 r1 B Hs Tr E1 F Nm1 h)
        · refine g_iconst (pc' := 285) (v := 1) C dL_themes_284 (by decide) rfl ?_
          exact G_loc (lle_s (lle_s (lle_s (lle_n (lle_n (lle_n (lle_n (lle_n (lle_n (lle_n (lle_n (lle_n (lle_n lle_0))))))))))))) (B_L_themes_285 C pa N Tn p1 p2 r Bz Hsz Trz Ez Fz Nmz (1 : Int32) x3 r1 B Hs Tr E1 F Nm1 h)
    · exact G_loc (lle_s (lle_s (lle_s (lle_n (lle_n (lle_n (lle_n (lle_n (lle_n (lle_n (lle_n (lle_n (lle_n lle_0))))))))))))) (B_L_themes_280 C pa N Tn p1 p2 r Bz Hsz Trz Ez Fz Nmz x3 r1 B Hs Tr E1 F Nm1 h)
  · refine g_iconst (pc' := 294) (v := 0) C dL_themes_293 (by decide) rfl ?_
    obtain ⟨rfl, rfl, rfl, rfl, rfl, rfl, rfl⟩ := pj7 (Option.some.inj h)
    exact g_zret0 C rfl dL_themes_294
set_option maxRecDepth 100000 in
set_option maxHeartbeats 4000000 in
theorem B_L_themes_235 {X : gX} (C : cx X RL cL_themes 13 (some .boolean) wsL_themes 6 136) (pa : Nat → Nat → Nat) (N : Nat) (Tn : tS) (p1 : Int32) (p2 : Int32) (r : Int32) (Bz : tS) (Hsz : tH) (Trz : tS) (Ez : tS) (Fz : tS) (Nmz : tS)  (x3 : Int32) (x4 : Int32) (x6 : Int32) (x7 : Int32) (t0 : Int32) (B : tS) (Hs : tH) (Tr : tS) (E : tS) (F : tS) (Nm : tS) (h : f_L_themes_235 N Tn p1 p2  x3 x4 x6 x7 t0 B Hs Tr E F Nm = some (r, Bz, Hsz, Trz, Ez, Fz, Nmz)) : G X (QI X r [ntW pa Tn, bdW (gcA X) (pa 1) Bz, hsW (gcA X) (pa 2) (fun j => pa (10 + j)) Hsz, bdW (gcA X) (pa 5) Trz, heW (gcA X) (pa 6) Ez, heW (gcA X) (pa 7) Fz, nmW (gcA X) (pa 8) Nmz]) [ntW pa Tn, bdW (gcA X) (pa 1) B, hsW (gcA X) (pa 2) (fun j => pa (10 + j)) Hs, bdW (gcA X) (pa 5) Tr, heW (gcA X) (pa 6) E, heW (gcA X) (pa 7) F, nmW (gcA X) (pa 8) Nm] [some (.ref (pa 0 0)), some (.int p1), some (.int p2), some (.int x3), some (.int x4), none, some (.int x6), some (.int x7), none, none, none, none, none] [.int t0] 235 := by
  unfold f_L_themes_235 at h
  refine g_iconst (pc' := 236) (v := -1) C dL_themes_235 (by decide) rfl ?_
  refine g_goto (pc' := 253) C dL_themes_236 (by decide) ?_
  exact G_loc (lle_s (lle_s (lle_s (lle_s (lle_s (lle_n (lle_s (lle_s (lle_n (lle_n (lle_n (lle_n (lle_n lle_0))))))))))))) (B_L_themes_253 C pa N Tn p1 p2 r Bz Hsz Trz Ez Fz Nmz x3 x4 x6 x7 (-1 : Int32) t0 B Hs Tr E F Nm h)
set_option maxRecDepth 100000 in
set_option maxHeartbeats 4000000 in
theorem B_L_themes_214 {X : gX} (C : cx X RL cL_themes 13 (some .boolean) wsL_themes 6 136) (pa : Nat → Nat → Nat) (N : Nat) (Tn : tS) (p1 : Int32) (p2 : Int32) (r : Int32) (Bz : tS) (Hsz : tH) (Trz : tS) (Ez : tS) (Fz : tS) (Nmz : tS)  (x3 : Int32) (x4 : Int32) (x6 : Int32) (x7 : Int32) (t0 : Int32) (B : tS) (Hs : tH) (Tr : tS) (E : tS) (F : tS) (Nm : tS) (h : f_L_themes_214 N Tn p1 p2  x3 x4 x6 x7 t0 B Hs Tr E F Nm = some (r, Bz, Hsz, Trz, Ez, Fz, Nmz)) : G X (QI X r [ntW pa Tn, bdW (gcA X) (pa 1) Bz, hsW (gcA X) (pa 2) (fun j => pa (10 + j)) Hsz, bdW (gcA X) (pa 5) Trz, heW (gcA X) (pa 6) Ez, heW (gcA X) (pa 7) Fz, nmW (gcA X) (pa 8) Nmz]) [ntW pa Tn, bdW (gcA X) (pa 1) B, hsW (gcA X) (pa 2) (fun j => pa (10 + j)) Hs, bdW (gcA X) (pa 5) Tr, heW (gcA X) (pa 6) E, heW (gcA X) (pa 7) F, nmW (gcA X) (pa 8) Nm] [some (.ref (pa 0 0)), some (.int p1), some (.int p2), some (.int x3), some (.int x4), none, some (.int x6), some (.int x7), none, none, none, none, none] [.int t0] 214 := by
  unfold f_L_themes_214 at h
  refine g_istore (pc' := 216) C dL_themes_214 (Nat.le_of_ble_eq_true rfl) rfl (L' := [some (.ref (pa 0 0)), some (.int p1), some (.int p2), some (.int x3), some (.int x4), none, some (.int x6), some (.int x7), some (.int t0), none, none, none, none]) rfl ?_
  refine g_aload_n (pc' := 217) C dL_themes_216 rfl rfl ?_
  refine g_iload (pc' := 219) C dL_themes_217 rfl rfl ?_
  refine g_iload (pc' := 221) C dL_themes_219 rfl rfl ?_
  refine k_X5_merge (pc' := 224) C pa N Tn B Hs x4 x7 [0, 1, 2] rfl (by decide) gL_themes_X5_merge ⟨Nat.le_of_ble_eq_true rfl, Nat.le_of_ble_eq_true rfl⟩ (Nat.le_of_ble_eq_true rfl) rfl dL_themes_221 rfl h (fun r1 B1 Hs1 h => ?_)
  show G X _ [ntW pa Tn, bdW (gcA X) (pa 1) B1, hsW (gcA X) (pa 2) (fun j => pa (10 + j)) Hs1, bdW (gcA X) (pa 5) Tr, heW (gcA X) (pa 6) E, heW (gcA X) (pa 7) F, nmW (gcA X) (pa 8) Nm] _ _ _
  refine g_iload (pc' := 226) C dL_themes_224 rfl rfl ?_
  refine g_if_ne (pc' := 229) (tgt := 235) C dL_themes_226 (by decide) rfl h (fun c h => ?_) (fun c h => ?_)
  · refine g_iload (pc' := 231) C dL_themes_229 rfl rfl ?_
    refine g_iload_n (pc' := 232) C dL_themes_231 rfl rfl ?_
    refine g_icmp_ne (pc' := 235) (tgt := 239) C dL_themes_232 (by decide) rfl h (fun c h => ?_) (fun c h => ?_)
    · exact G_loc (lle_s (lle_s (lle_s (lle_s (lle_s (lle_n (lle_s (lle_s (lle_n (lle_n (lle_n (lle_n (lle_n lle_0))))))))))))) (B_L_themes_235 C pa N Tn p1 p2 r Bz Hsz Trz Ez Fz Nmz x3 x4 x6 x7 r1 B1 Hs1 Tr E F Nm h)
    · refine g_iload (pc' := 241) C dL_themes_239 rfl rfl ?_
      refine g_iload (pc' := 243) C dL_themes_241 rfl rfl ?_
      refine g_icmp_ne (pc' := 246) (tgt := 251) C dL_themes_243 (by decide) rfl h (fun c h => ?_) (fun c h => ?_)
      · refine g_bipush (pc' := 248) (v := -2) C dL_themes_246 (by decide) rfl ?_
        refine g_goto (pc' := 253) C dL_themes_248 (by decide) ?_
        exact G_loc (lle_s (lle_s (lle_s (lle_s (lle_s (lle_n (lle_s (lle_s (lle_n (lle_n (lle_n (lle_n (lle_n lle_0))))))))))))) (B_L_themes_253 C pa N Tn p1 p2 r Bz Hsz Trz Ez Fz Nmz x3 x4 x6 x7 (-2 : Int32) r1 B1 Hs1 Tr E F Nm h)
      · refine g_iload (pc' := 253) C dL_themes_251 rfl rfl ?_
        exact G_loc (lle_s (lle_s (lle_s (lle_s (lle_s (lle_n (lle_s (lle_s (lle_n (lle_n (lle_n (lle_n (lle_n lle_0))))))))))))) (B_L_themes_253 C pa N Tn p1 p2 r Bz Hsz Trz Ez Fz Nmz x3 x4 x6 x7 t0 r1 B1 Hs1 Tr E F Nm h)
  · exact G_loc (lle_s (lle_s (lle_s (lle_s (lle_s (lle_n (lle_s (lle_s (lle_n (lle_n (lle_n (lle_n (lle_n lle_0))))))))))))) (B_L_themes_235 C pa N Tn p1 p2 r Bz Hsz Trz Ez Fz Nmz x3 x4 x6 x7 r1 B1 Hs1 Tr E F Nm h)
set_option maxRecDepth 100000 in
set_option maxHeartbeats 4000000 in
theorem B_L_themes_195 {X : gX} (C : cx X RL cL_themes 13 (some .boolean) wsL_themes 6 136) (pa : Nat → Nat → Nat) (N : Nat) (Tn : tS) (p1 : Int32) (p2 : Int32) (r : Int32) (Bz : tS) (Hsz : tH) (Trz : tS) (Ez : tS) (Fz : tS) (Nmz : tS)  (x3 : Int32) (x4 : Int32) (x6 : Int32) (x7 : Int32) (B : tS) (Hs : tH) (Tr : tS) (E : tS) (F : tS) (Nm : tS) (h : f_L_themes_195 N Tn p1 p2  x3 x4 x6 x7 B Hs Tr E F Nm = some (r, Bz, Hsz, Trz, Ez, Fz, Nmz)) : G X (QI X r [ntW pa Tn, bdW (gcA X) (pa 1) Bz, hsW (gcA X) (pa 2) (fun j => pa (10 + j)) Hsz, bdW (gcA X) (pa 5) Trz, heW (gcA X) (pa 6) Ez, heW (gcA X) (pa 7) Fz, nmW (gcA X) (pa 8) Nmz]) [ntW pa Tn, bdW (gcA X) (pa 1) B, hsW (gcA X) (pa 2) (fun j => pa (10 + j)) Hs, bdW (gcA X) (pa 5) Tr, heW (gcA X) (pa 6) E, heW (gcA X) (pa 7) F, nmW (gcA X) (pa 8) Nm] [some (.ref (pa 0 0)), some (.int p1), some (.int p2), some (.int x3), some (.int x4), none, some (.int x6), some (.int x7), none, none, none, none, none] [] 195 := by
  unfold f_L_themes_195 at h
  refine g_iconst (pc' := 196) (v := 0) C dL_themes_195 (by decide) rfl ?_
  refine g_goto (pc' := 214) C dL_themes_196 (by decide) ?_
  exact G_loc (lle_s (lle_s (lle_s (lle_s (lle_s (lle_n (lle_s (lle_s (lle_n (lle_n (lle_n (lle_n (lle_n lle_0))))))))))))) (B_L_themes_214 C pa N Tn p1 p2 r Bz Hsz Trz Ez Fz Nmz x3 x4 x6 x7 (0 : Int32) B Hs Tr E F Nm h)
set_option maxRecDepth 100000 in
set_option maxHeartbeats 4000000 in
theorem B_L_themes_162 {X : gX} (C : cx X RL cL_themes 13 (some .boolean) wsL_themes 6 136) (pa : Nat → Nat → Nat) (N : Nat) (Tn : tS) (p1 : Int32) (p2 : Int32) (r : Int32) (Bz : tS) (Hsz : tH) (Trz : tS) (Ez : tS) (Fz : tS) (Nmz : tS)  (B : tS) (Hs : tH) (Tr : tS) (E : tS) (F : tS) (Nm : tS) (h : f_L_themes_162 N Tn p1 p2  B Hs Tr E F Nm = some (r, Bz, Hsz, Trz, Ez, Fz, Nmz)) : G X (QI X r [ntW pa Tn, bdW (gcA X) (pa 1) Bz, hsW (gcA X) (pa 2) (fun j => pa (10 + j)) Hsz, bdW (gcA X) (pa 5) Trz, heW (gcA X) (pa 6) Ez, heW (gcA X) (pa 7) Fz, nmW (gcA X) (pa 8) Nmz]) [ntW pa Tn, bdW (gcA X) (pa 1) B, hsW (gcA X) (pa 2) (fun j => pa (10 + j)) Hs, bdW (gcA X) (pa 5) Tr, heW (gcA X) (pa 6) E, heW (gcA X) (pa 7) F, nmW (gcA X) (pa 8) Nm] [some (.ref (pa 0 0)), some (.int p1), some (.int p2), none, none, none, none, none, none, none, none, none, none] [] 162 := by
  unfold f_L_themes_162 at h
  refine g_iconst (pc' := 163) (v := 1) C dL_themes_162 (by decide) rfl ?_
  refine g_goto (pc' := 167) C dL_themes_163 (by decide) ?_
  obtain ⟨rfl, rfl, rfl, rfl, rfl, rfl, rfl⟩ := pj7 (Option.some.inj h)
  exact g_zret0 C rfl dL_themes_167
set_option maxRecDepth 100000 in
set_option maxHeartbeats 4000000 in
theorem B_L_themes_132 {X : gX} (C : cx X RL cL_themes 13 (some .boolean) wsL_themes 6 136) (pa : Nat → Nat → Nat) (N : Nat) (Tn : tS) (p1 : Int32) (p2 : Int32) (r : Int32) (Bz : tS) (Hsz : tH) (Trz : tS) (Ez : tS) (Fz : tS) (Nmz : tS)  (x9 : Int32) (x10 : Int32) (t0 : Int32) (t1 : Int32) (B : tS) (Hs : tH) (Tr : tS) (E : tS) (F : tS) (Nm : tS) (h : f_L_themes_132 N Tn p1 p2  x9 x10 t0 t1 B Hs Tr E F Nm = some (r, Bz, Hsz, Trz, Ez, Fz, Nmz)) : G X (QI X r [ntW pa Tn, bdW (gcA X) (pa 1) Bz, hsW (gcA X) (pa 2) (fun j => pa (10 + j)) Hsz, bdW (gcA X) (pa 5) Trz, heW (gcA X) (pa 6) Ez, heW (gcA X) (pa 7) Fz, nmW (gcA X) (pa 8) Nmz]) [ntW pa Tn, bdW (gcA X) (pa 1) B, hsW (gcA X) (pa 2) (fun j => pa (10 + j)) Hs, bdW (gcA X) (pa 5) Tr, heW (gcA X) (pa 6) E, heW (gcA X) (pa 7) F, nmW (gcA X) (pa 8) Nm] [some (.ref (pa 0 0)), some (.int p1), some (.int p2), none, none, none, none, none, none, some (.int x9), some (.int x10), none, none] [.int t0, .int t1] 132 := by
  unfold f_L_themes_132 at h
  refine g_icmp_ne (pc' := 135) (tgt := 166) C dL_themes_132 (by decide) rfl h (fun c h => ?_) (fun c h => ?_)
  · refine g_iload (pc' := 137) C dL_themes_135 rfl rfl ?_
    refine g_if_lt (pc' := 140) (tgt := 162) C dL_themes_137 (by decide) rfl h (fun c h => ?_) (fun c h => ?_)
    · exact G_loc (lle_s (lle_s (lle_s (lle_n (lle_n (lle_n (lle_n (lle_n (lle_n (lle_n (lle_n (lle_n (lle_n lle_0))))))))))))) (B_L_themes_162 C pa N Tn p1 p2 r Bz Hsz Trz Ez Fz Nmz B Hs Tr E F Nm h)
    · refine g_aload_n (pc' := 141) C dL_themes_140 rfl rfl ?_
      refine g_iload (pc' := 143) C dL_themes_141 rfl rfl ?_
      refine g_iconst (pc' := 144) (v := 0) C dL_themes_143 (by decide) rfl ?_
      refine k_X5_theme (pc' := 147) C pa N Tn B E Nm x10 (0 : Int32) [0, 1, 4, 6] rfl (by decide) gL_themes_X5_theme ⟨Nat.le_of_ble_eq_true rfl, Nat.le_of_ble_eq_true rfl⟩ (Nat.le_of_ble_eq_true rfl) rfl dL_themes_144 rfl h (fun r1 E1 Nm1 h => ?_)
      show G X _ [ntW pa Tn, bdW (gcA X) (pa 1) B, hsW (gcA X) (pa 2) (fun j => pa (10 + j)) Hs, bdW (gcA X) (pa 5) Tr, heW (gcA X) (pa 6) E1, heW (gcA X) (pa 7) F, nmW (gcA X) (pa 8) Nm1] _ _ _
      refine g_iload (pc' := 149) C dL_themes_147 rfl rfl ?_
      refine g_icmp_ne (pc' := 152) (tgt := 166) C dL_themes_149 (by decide) rfl h (fun c h => ?_) (fun c h => ?_)
      · refine g_aload_n (pc' := 153) C dL_themes_152 rfl rfl ?_
        refine g_iload (pc' := 155) C dL_themes_153 rfl rfl ?_
        refine g_iconst (pc' := 156) (v := 5) C dL_themes_155 (by decide) rfl ?_
        refine k_X5_theme (pc' := 159) C pa N Tn B E1 Nm1 x10 (5 : Int32) [0, 1, 4, 6] rfl (by decide) gL_themes_X5_theme ⟨Nat.le_of_ble_eq_true rfl, Nat.le_of_ble_eq_true rfl⟩ (Nat.le_of_ble_eq_true rfl) rfl dL_themes_156 rfl h (fun r2 E2 Nm2 h => ?_)
        show G X _ [ntW pa Tn, bdW (gcA X) (pa 1) B, hsW (gcA X) (pa 2) (fun j => pa (10 + j)) Hs, bdW (gcA X) (pa 5) Tr, heW (gcA X) (pa 6) E2, heW (gcA X) (pa 7) F, nmW (gcA X) (pa 8) Nm2] _ _ _
        refine g_if_ne (pc' := 162) (tgt := 166) C dL_themes_159 (by decide) rfl h (fun c h => ?_) (fun c h => ?_)
        · exact G_loc (lle_s (lle_s (lle_s (lle_n (lle_n (lle_n (lle_n (lle_n (lle_n (lle_n (lle_n (lle_n (lle_n lle_0))))))))))))) (B_L_themes_162 C pa N Tn p1 p2 r Bz Hsz Trz Ez Fz Nmz B Hs Tr E2 F Nm2 h)
        · refine g_iconst (pc' := 167) (v := 0) C dL_themes_166 (by decide) rfl ?_
          obtain ⟨rfl, rfl, rfl, rfl, rfl, rfl, rfl⟩ := pj7 (Option.some.inj h)
          exact g_zret0 C rfl dL_themes_167
      · refine g_iconst (pc' := 167) (v := 0) C dL_themes_166 (by decide) rfl ?_
        obtain ⟨rfl, rfl, rfl, rfl, rfl, rfl, rfl⟩ := pj7 (Option.some.inj h)
        exact g_zret0 C rfl dL_themes_167
  · refine g_iconst (pc' := 167) (v := 0) C dL_themes_166 (by decide) rfl ?_
    obtain ⟨rfl, rfl, rfl, rfl, rfl, rfl, rfl⟩ := pj7 (Option.some.inj h)
    exact g_zret0 C rfl dL_themes_167
set_option maxRecDepth 100000 in
set_option maxHeartbeats 4000000 in
theorem B_L_themes_89 {X : gX} (C : cx X RL cL_themes 13 (some .boolean) wsL_themes 6 136) (pa : Nat → Nat → Nat) (N : Nat) (Tn : tS) (p1 : Int32) (p2 : Int32) (r : Int32) (Bz : tS) (Hsz : tH) (Trz : tS) (Ez : tS) (Fz : tS) (Nmz : tS)  (x3 : Int32) (x7 : Int32) (x8 : Int32) (t0 : Int32) (B : tS) (Hs : tH) (Tr : tS) (E : tS) (F : tS) (Nm : tS) (h : f_L_themes_89 N Tn p1 p2  x3 x7 x8 t0 B Hs Tr E F Nm = some (r, Bz, Hsz, Trz, Ez, Fz, Nmz)) : G X (QI X r [ntW pa Tn, bdW (gcA X) (pa 1) Bz, hsW (gcA X) (pa 2) (fun j => pa (10 + j)) Hsz, bdW (gcA X) (pa 5) Trz, heW (gcA X) (pa 6) Ez, heW (gcA X) (pa 7) Fz, nmW (gcA X) (pa 8) Nmz]) [ntW pa Tn, bdW (gcA X) (pa 1) B, hsW (gcA X) (pa 2) (fun j => pa (10 + j)) Hs, bdW (gcA X) (pa 5) Tr, heW (gcA X) (pa 6) E, heW (gcA X) (pa 7) F, nmW (gcA X) (pa 8) Nm] [some (.ref (pa 0 0)), some (.int p1), some (.int p2), some (.int x3), none, none, none, some (.int x7), some (.int x8), none, none, none, none] [.int t0] 89 := by
  unfold f_L_themes_89 at h
  refine g_istore (pc' := 91) C dL_themes_89 (Nat.le_of_ble_eq_true rfl) rfl (L' := [some (.ref (pa 0 0)), some (.int p1), some (.int p2), some (.int x3), none, none, none, some (.int x7), some (.int x8), some (.int t0), none, none, none]) rfl ?_
  refine g_aload_n (pc' := 92) C dL_themes_91 rfl rfl ?_
  refine g_iload (pc' := 94) C dL_themes_92 rfl rfl ?_
  refine k_X5_make (pc' := 97) C pa N Tn B Hs E x7 [0, 1, 2, 4] rfl (by decide) gL_themes_X5_make ⟨Nat.le_of_ble_eq_true rfl, Nat.le_of_ble_eq_true rfl⟩ (Nat.le_of_ble_eq_true rfl) rfl dL_themes_94 rfl h (fun r1 B1 Hs1 E1 h => ?_)
  show G X _ [ntW pa Tn, bdW (gcA X) (pa 1) B1, hsW (gcA X) (pa 2) (fun j => pa (10 + j)) Hs1, bdW (gcA X) (pa 5) Tr, heW (gcA X) (pa 6) E1, heW (gcA X) (pa 7) F, nmW (gcA X) (pa 8) Nm] _ _ _
  refine g_istore (pc' := 99) C dL_themes_97 (Nat.le_of_ble_eq_true rfl) rfl (L' := [some (.ref (pa 0 0)), some (.int p1), some (.int p2), some (.int x3), none, none, none, some (.int x7), some (.int x8), some (.int t0), some (.int r1), none, none]) rfl ?_
  refine g_iload (pc' := 101) C dL_themes_99 rfl rfl ?_
  refine g_iload (pc' := 103) C dL_themes_101 rfl rfl ?_
  refine g_if_eq (pc' := 106) (tgt := 110) C dL_themes_103 (by decide) rfl h (fun c h => ?_) (fun c h => ?_)
  · refine g_iload (pc' := 112) C dL_themes_110 rfl rfl ?_
    refine g_if_ne (pc' := 115) (tgt := 120) C dL_themes_112 (by decide) rfl h (fun c h => ?_) (fun c h => ?_)
    · refine g_bipush (pc' := 117) (v := -4) C dL_themes_115 (by decide) rfl ?_
      refine g_goto (pc' := 132) C dL_themes_117 (by decide) ?_
      exact G_loc (lle_s (lle_s (lle_s (lle_n (lle_n (lle_n (lle_n (lle_n (lle_n (lle_s (lle_s (lle_n (lle_n lle_0))))))))))))) (B_L_themes_132 C pa N Tn p1 p2 r Bz Hsz Trz Ez Fz Nmz t0 r1 (-4 : Int32) r1 B1 Hs1 Tr E1 F Nm h)
    · refine g_iload_n (pc' := 121) C dL_themes_120 rfl rfl ?_
      refine g_bipush (pc' := 123) (v := 8) C dL_themes_121 (by decide) rfl ?_
      refine g_icmp_ne (pc' := 126) (tgt := 131) C dL_themes_123 (by decide) rfl h (fun c h => ?_) (fun c h => ?_)
      · refine g_bipush (pc' := 128) (v := -3) C dL_themes_126 (by decide) rfl ?_
        refine g_goto (pc' := 132) C dL_themes_128 (by decide) ?_
        exact G_loc (lle_s (lle_s (lle_s (lle_n (lle_n (lle_n (lle_n (lle_n (lle_n (lle_s (lle_s (lle_n (lle_n lle_0))))))))))))) (B_L_themes_132 C pa N Tn p1 p2 r Bz Hsz Trz Ez Fz Nmz t0 r1 (-3 : Int32) r1 B1 Hs1 Tr E1 F Nm h)
      · refine g_iload_n (pc' := 132) C dL_themes_131 rfl rfl ?_
        exact G_loc (lle_s (lle_s (lle_s (lle_n (lle_n (lle_n (lle_n (lle_n (lle_n (lle_s (lle_s (lle_n (lle_n lle_0))))))))))))) (B_L_themes_132 C pa N Tn p1 p2 r Bz Hsz Trz Ez Fz Nmz t0 r1 x3 r1 B1 Hs1 Tr E1 F Nm h)
  · refine g_iconst (pc' := 107) (v := -1) C dL_themes_106 (by decide) rfl ?_
    refine g_goto (pc' := 132) C dL_themes_107 (by decide) ?_
    exact G_loc (lle_s (lle_s (lle_s (lle_n (lle_n (lle_n (lle_n (lle_n (lle_n (lle_s (lle_s (lle_n (lle_n lle_0))))))))))))) (B_L_themes_132 C pa N Tn p1 p2 r Bz Hsz Trz Ez Fz Nmz t0 r1 (-1 : Int32) r1 B1 Hs1 Tr E1 F Nm h)
set_option maxRecDepth 100000 in
set_option maxHeartbeats 4000000 in
theorem B_L_themes_71 {X : gX} (C : cx X RL cL_themes 13 (some .boolean) wsL_themes 6 136) (pa : Nat → Nat → Nat) (N : Nat) (Tn : tS) (p1 : Int32) (p2 : Int32) (r : Int32) (Bz : tS) (Hsz : tH) (Trz : tS) (Ez : tS) (Fz : tS) (Nmz : tS)  (x3 : Int32) (x7 : Int32) (t0 : Int32) (B : tS) (Hs : tH) (Tr : tS) (E : tS) (F : tS) (Nm : tS) (h : f_L_themes_71 N Tn p1 p2  x3 x7 t0 B Hs Tr E F Nm = some (r, Bz, Hsz, Trz, Ez, Fz, Nmz)) : G X (QI X r [ntW pa Tn, bdW (gcA X) (pa 1) Bz, hsW (gcA X) (pa 2) (fun j => pa (10 + j)) Hsz, bdW (gcA X) (pa 5) Trz, heW (gcA X) (pa 6) Ez, heW (gcA X) (pa 7) Fz, nmW (gcA X) (pa 8) Nmz]) [ntW pa Tn, bdW (gcA X) (pa 1) B, hsW (gcA X) (pa 2) (fun j => pa (10 + j)) Hs, bdW (gcA X) (pa 5) Tr, heW (gcA X) (pa 6) E, heW (gcA X) (pa 7) F, nmW (gcA X) (pa 8) Nm] [some (.ref (pa 0 0)), some (.int p1), some (.int p2), some (.int x3), none, none, none, some (.int x7), none, none, none, none, none] [.int t0] 71 := by
  unfold f_L_themes_71 at h
  refine g_istore (pc' := 73) C dL_themes_71 (Nat.le_of_ble_eq_true rfl) rfl (L' := [some (.ref (pa 0 0)), some (.int p1), some (.int p2), some (.int x3), none, none, none, some (.int x7), some (.int t0), none, none, none, none]) rfl ?_
  refine g_iload (pc' := 75) C dL_themes_73 rfl rfl ?_
  refine g_if_eq (pc' := 78) (tgt := 82) C dL_themes_75 (by decide) rfl h (fun c h => ?_) (fun c h => ?_)
  · refine g_aload_n (pc' := 83) C dL_themes_82 rfl rfl ?_
    refine g_iload (pc' := 85) C dL_themes_83 rfl rfl ?_
    refine g_iconst (pc' := 86) (v := 4) C dL_themes_85 (by decide) rfl ?_
    refine k_X5_heap (pc' := 89) C pa N Tn B E x7 (4 : Int32) [0, 1, 4] rfl (by decide) gL_themes_X5_heap ⟨Nat.le_of_ble_eq_true rfl, Nat.le_of_ble_eq_true rfl⟩ (Nat.le_of_ble_eq_true rfl) rfl dL_themes_86 rfl h (fun r1 E1 h => ?_)
    show G X _ [ntW pa Tn, bdW (gcA X) (pa 1) B, hsW (gcA X) (pa 2) (fun j => pa (10 + j)) Hs, bdW (gcA X) (pa 5) Tr, heW (gcA X) (pa 6) E1, heW (gcA X) (pa 7) F, nmW (gcA X) (pa 8) Nm] _ _ _
    exact G_loc (lle_s (lle_s (lle_s (lle_s (lle_n (lle_n (lle_n (lle_s (lle_s (lle_n (lle_n (lle_n (lle_n lle_0))))))))))))) (B_L_themes_89 C pa N Tn p1 p2 r Bz Hsz Trz Ez Fz Nmz x3 x7 t0 r1 B Hs Tr E1 F Nm h)
  · refine g_iconst (pc' := 79) (v := 0) C dL_themes_78 (by decide) rfl ?_
    refine g_goto (pc' := 89) C dL_themes_79 (by decide) ?_
    exact G_loc (lle_s (lle_s (lle_s (lle_s (lle_n (lle_n (lle_n (lle_s (lle_s (lle_n (lle_n (lle_n (lle_n lle_0))))))))))))) (B_L_themes_89 C pa N Tn p1 p2 r Bz Hsz Trz Ez Fz Nmz x3 x7 t0 (0 : Int32) B Hs Tr E F Nm h)
set_option maxRecDepth 100000 in
set_option maxHeartbeats 4000000 in
theorem B_L_themes_36 {X : gX} (C : cx X RL cL_themes 13 (some .boolean) wsL_themes 6 136) (pa : Nat → Nat → Nat) (N : Nat) (Tn : tS) (p1 : Int32) (p2 : Int32) (r : Int32) (Bz : tS) (Hsz : tH) (Trz : tS) (Ez : tS) (Fz : tS) (Nmz : tS)  (x3 : Int32) (x4 : Int32) (x5 : Int32) (t0 : Int32) (B : tS) (Hs : tH) (Tr : tS) (E : tS) (F : tS) (Nm : tS) (h : f_L_themes_36 N Tn p1 p2  x3 x4 x5 t0 B Hs Tr E F Nm = some (r, Bz, Hsz, Trz, Ez, Fz, Nmz)) : G X (QI X r [ntW pa Tn, bdW (gcA X) (pa 1) Bz, hsW (gcA X) (pa 2) (fun j => pa (10 + j)) Hsz, bdW (gcA X) (pa 5) Trz, heW (gcA X) (pa 6) Ez, heW (gcA X) (pa 7) Fz, nmW (gcA X) (pa 8) Nmz]) [ntW pa Tn, bdW (gcA X) (pa 1) B, hsW (gcA X) (pa 2) (fun j => pa (10 + j)) Hs, bdW (gcA X) (pa 5) Tr, heW (gcA X) (pa 6) E, heW (gcA X) (pa 7) F, nmW (gcA X) (pa 8) Nm] [some (.ref (pa 0 0)), some (.int p1), some (.int p2), some (.int x3), some (.int x4), some (.int x5), none, none, none, none, none, none, none] [.int t0] 36 := by
  unfold f_L_themes_36 at h
  refine g_istore (pc' := 38) C dL_themes_36 (Nat.le_of_ble_eq_true rfl) rfl (L' := [some (.ref (pa 0 0)), some (.int p1), some (.int p2), some (.int x3), some (.int x4), some (.int x5), some (.int t0), none, none, none, none, none, none]) rfl ?_
  refine g_iload_n (pc' := 39) C dL_themes_38 rfl rfl ?_
  refine g_iconst (pc' := 40) (v := 2) C dL_themes_39 (by decide) rfl ?_
  refine g_icmp_ge (pc' := 43) (tgt := 168) C dL_themes_40 (by decide) rfl h (fun c h => ?_) (fun c h => ?_)
  · refine g_iload_n (pc' := 169) C dL_themes_168 rfl rfl ?_
    refine g_iconst (pc' := 170) (v := 2) C dL_themes_169 (by decide) rfl ?_
    refine g_icmp_ne (pc' := 173) (tgt := 295) C dL_themes_170 (by decide) rfl h (fun c h => ?_) (fun c h => ?_)
    · refine g_iload_n (pc' := 174) C dL_themes_173 rfl rfl ?_
      refine g_iconst (pc' := 175) (v := 4) C dL_themes_174 (by decide) rfl ?_
      refine g_ishr (pc' := 176) C dL_themes_175 rfl ?_
      refine g_iload_n (pc' := 177) C dL_themes_176 rfl rfl ?_
      refine g_iconst (pc' := 178) (v := 1) C dL_themes_177 (by decide) rfl ?_
      refine g_iadd (pc' := 179) C dL_themes_178 rfl ?_
      refine k_L_low (pc' := 182) C N (p2 >>> ((4 : Int32) &&& 31)) (x3 + (1 : Int32)) [] rfl (by decide) gL_themes_L_low ⟨Nat.le_of_ble_eq_true rfl, Nat.le_of_ble_eq_true rfl⟩ (Nat.le_of_ble_eq_true rfl) rfl dL_themes_179 rfl h (fun r5 h => ?_)
      refine g_istore (pc' := 184) C dL_themes_182 (Nat.le_of_ble_eq_true rfl) rfl (L' := [some (.ref (pa 0 0)), some (.int p1), some (.int p2), some (.int x3), some (.int x4), some (.int x5), some (.int t0), some (.int r5), none, none, none, none, none]) rfl ?_
      refine g_iload (pc' := 186) C dL_themes_184 rfl rfl ?_
      refine g_if_ne (pc' := 189) (tgt := 195) C dL_themes_186 (by decide) rfl h (fun c h => ?_) (fun c h => ?_)
      · refine g_iload (pc' := 191) C dL_themes_189 rfl rfl ?_
        refine g_iload_n (pc' := 192) C dL_themes_191 rfl rfl ?_
        refine g_icmp_ne (pc' := 195) (tgt := 199) C dL_themes_192 (by decide) rfl h (fun c h => ?_) (fun c h => ?_)
        · exact G_loc (lle_s (lle_s (lle_s (lle_s (lle_s (lle_n (lle_s (lle_s (lle_n (lle_n (lle_n (lle_n (lle_n lle_0))))))))))))) (B_L_themes_195 C pa N Tn p1 p2 r Bz Hsz Trz Ez Fz Nmz x3 x4 t0 r5 B Hs Tr E F Nm h)
        · refine g_aload_n (pc' := 200) C dL_themes_199 rfl rfl ?_
          refine g_iload (pc' := 202) C dL_themes_200 rfl rfl ?_
          refine g_iconst (pc' := 203) (v := 0) C dL_themes_202 (by decide) rfl ?_
          refine k_X5_theme (pc' := 206) C pa N Tn B E Nm x4 (0 : Int32) [0, 1, 4, 6] rfl (by decide) gL_themes_X5_theme ⟨Nat.le_of_ble_eq_true rfl, Nat.le_of_ble_eq_true rfl⟩ (Nat.le_of_ble_eq_true rfl) rfl dL_themes_203 rfl h (fun r6 E6 Nm6 h => ?_)
          show G X _ [ntW pa Tn, bdW (gcA X) (pa 1) B, hsW (gcA X) (pa 2) (fun j => pa (10 + j)) Hs, bdW (gcA X) (pa 5) Tr, heW (gcA X) (pa 6) E6, heW (gcA X) (pa 7) F, nmW (gcA X) (pa 8) Nm6] _ _ _
          refine g_aload_n (pc' := 207) C dL_themes_206 rfl rfl ?_
          refine g_iload (pc' := 209) C dL_themes_207 rfl rfl ?_
          refine g_iconst (pc' := 210) (v := 0) C dL_themes_209 (by decide) rfl ?_
          refine k_X5_theme (pc' := 213) C pa N Tn B E6 Nm6 r5 (0 : Int32) [0, 1, 4, 6] rfl (by decide) gL_themes_X5_theme ⟨Nat.le_of_ble_eq_true rfl, Nat.le_of_ble_eq_true rfl⟩ (Nat.le_of_ble_eq_true rfl) rfl dL_themes_210 rfl h (fun r7 E7 Nm7 h => ?_)
          show G X _ [ntW pa Tn, bdW (gcA X) (pa 1) B, hsW (gcA X) (pa 2) (fun j => pa (10 + j)) Hs, bdW (gcA X) (pa 5) Tr, heW (gcA X) (pa 6) E7, heW (gcA X) (pa 7) F, nmW (gcA X) (pa 8) Nm7] _ _ _
          refine g_iadd (pc' := 214) C dL_themes_213 rfl ?_
          exact G_loc (lle_s (lle_s (lle_s (lle_s (lle_s (lle_n (lle_s (lle_s (lle_n (lle_n (lle_n (lle_n (lle_n lle_0))))))))))))) (B_L_themes_214 C pa N Tn p1 p2 r Bz Hsz Trz Ez Fz Nmz x3 x4 t0 r5 (r6 + r7) B Hs Tr E7 F Nm7 h)
      · exact G_loc (lle_s (lle_s (lle_s (lle_s (lle_s (lle_n (lle_s (lle_s (lle_n (lle_n (lle_n (lle_n (lle_n lle_0))))))))))))) (B_L_themes_195 C pa N Tn p1 p2 r Bz Hsz Trz Ez Fz Nmz x3 x4 t0 r5 B Hs Tr E F Nm h)
    · refine g_iload_n (pc' := 296) C dL_themes_295 rfl rfl ?_
      refine g_iconst (pc' := 297) (v := 3) C dL_themes_296 (by decide) rfl ?_
      refine g_icmp_ne (pc' := 300) (tgt := 484) C dL_themes_297 (by decide) rfl h (fun c h => ?_) (fun c h => ?_)
      · refine g_iload_n (pc' := 301) C dL_themes_300 rfl rfl ?_
        refine g_bipush (pc' := 303) (v := 7) C dL_themes_301 (by decide) rfl ?_
        refine g_ishr (pc' := 304) C dL_themes_303 rfl ?_
        refine g_aload_n (pc' := 305) C dL_themes_304 rfl rfl ?_
        refine g_iconst (pc' := 306) (v := 0) C dL_themes_305 (by decide) rfl ?_
        refine k_X5_count (pc' := 309) C pa N Tn B Hs E Nm (0 : Int32) [0, 1, 2, 4, 6] rfl (by decide) gL_themes_X5_count ⟨Nat.le_of_ble_eq_true rfl, Nat.le_of_ble_eq_true rfl⟩ (Nat.le_of_ble_eq_true rfl) rfl dL_themes_306 rfl h (fun r2 E2 Nm2 h => ?_)
        show G X _ [ntW pa Tn, bdW (gcA X) (pa 1) B, hsW (gcA X) (pa 2) (fun j => pa (10 + j)) Hs, bdW (gcA X) (pa 5) Tr, heW (gcA X) (pa 6) E2, heW (gcA X) (pa 7) F, nmW (gcA X) (pa 8) Nm2] _ _ _
        refine g_iconst (pc' := 310) (v := 1) C dL_themes_309 (by decide) rfl ?_
        refine g_iadd (pc' := 311) C dL_themes_310 rfl ?_
        refine k_L_low (pc' := 314) C N (p2 >>> ((7 : Int32) &&& 31)) (r2 + (1 : Int32)) [] rfl (by decide) gL_themes_L_low ⟨Nat.le_of_ble_eq_true rfl, Nat.le_of_ble_eq_true rfl⟩ (Nat.le_of_ble_eq_true rfl) rfl dL_themes_311 rfl h (fun r3 h => ?_)
        refine g_istore (pc' := 316) C dL_themes_314 (Nat.le_of_ble_eq_true rfl) rfl (L' := [some (.ref (pa 0 0)), some (.int p1), some (.int p2), some (.int x3), some (.int x4), some (.int x5), some (.int t0), some (.int r3), none, none, none, none, none]) rfl ?_
        refine g_iload_n (pc' := 317) C dL_themes_316 rfl rfl ?_
        refine g_bipush (pc' := 319) (v := 12) C dL_themes_317 (by decide) rfl ?_
        refine g_ishr (pc' := 320) C dL_themes_319 rfl ?_
        refine g_iconst (pc' := 321) (v := 4) C dL_themes_320 (by decide) rfl ?_
        refine k_L_low (pc' := 324) C N (p2 >>> ((12 : Int32) &&& 31)) (4 : Int32) [] rfl (by decide) gL_themes_L_low ⟨Nat.le_of_ble_eq_true rfl, Nat.le_of_ble_eq_true rfl⟩ (Nat.le_of_ble_eq_true rfl) rfl dL_themes_321 rfl h (fun r4 h => ?_)
        refine g_if_ne (pc' := 327) (tgt := 332) C dL_themes_324 (by decide) rfl h (fun c h => ?_) (fun c h => ?_)
        · refine g_bipush (pc' := 329) (v := -5) C dL_themes_327 (by decide) rfl ?_
          refine g_goto (pc' := 334) C dL_themes_329 (by decide) ?_
          exact G_loc (lle_s (lle_s (lle_s (lle_s (lle_n (lle_n (lle_n (lle_s (lle_n (lle_n (lle_n (lle_n (lle_n lle_0))))))))))))) (B_L_themes_334 C pa N Tn p1 p2 r Bz Hsz Trz Ez Fz Nmz x3 r3 (-5 : Int32) B Hs Tr E2 F Nm2 h)
        · refine g_iload (pc' := 334) C dL_themes_332 rfl rfl ?_
          exact G_loc (lle_s (lle_s (lle_s (lle_s (lle_n (lle_n (lle_n (lle_s (lle_n (lle_n (lle_n (lle_n (lle_n lle_0))))))))))))) (B_L_themes_334 C pa N Tn p1 p2 r Bz Hsz Trz Ez Fz Nmz x3 r3 x4 B Hs Tr E2 F Nm2 h)
      · refine g_iload_n (pc' := 485) C dL_themes_484 rfl rfl ?_
        refine g_bipush (pc' := 487) (v := 7) C dL_themes_485 (by decide) rfl ?_
        refine g_ishr (pc' := 488) C dL_themes_487 rfl ?_
        refine g_bipush (pc' := 490) (v := 12) C dL_themes_488 (by decide) rfl ?_
        refine k_L_low (pc' := 493) C N (p2 >>> ((7 : Int32) &&& 31)) (12 : Int32) [] rfl (by decide) gL_themes_L_low ⟨Nat.le_of_ble_eq_true rfl, Nat.le_of_ble_eq_true rfl⟩ (Nat.le_of_ble_eq_true rfl) rfl dL_themes_490 rfl h (fun r1 h => ?_)
        refine g_iconst (pc' := 494) (v := 1) C dL_themes_493 (by decide) rfl ?_
        refine g_isub (pc' := 495) C dL_themes_494 rfl ?_
        refine g_istore (pc' := 497) C dL_themes_495 (Nat.le_of_ble_eq_true rfl) rfl (L' := [some (.ref (pa 0 0)), some (.int p1), some (.int p2), some (.int x3), some (.int x4), some (.int x5), some (.int t0), some (.int (r1 - (1 : Int32))), none, none, none, none, none]) rfl ?_
        refine g_iload (pc' := 499) C dL_themes_497 rfl rfl ?_
        refine g_if_ge (pc' := 502) (tgt := 507) C dL_themes_499 (by decide) rfl h (fun c h => ?_) (fun c h => ?_)
        · refine g_iload (pc' := 509) C dL_themes_507 rfl rfl ?_
          exact G_loc (lle_s (lle_s (lle_s (lle_n (lle_s (lle_s (lle_s (lle_s (lle_n (lle_n (lle_n (lle_n (lle_n lle_0))))))))))))) (B_L_themes_509 C pa N Tn p1 p2 r Bz Hsz Trz Ez Fz Nmz x4 x5 t0 (r1 - (1 : Int32)) (r1 - (1 : Int32)) B Hs Tr E F Nm h)
        · refine g_bipush (pc' := 504) (v := -5) C dL_themes_502 (by decide) rfl ?_
          refine g_goto (pc' := 509) C dL_themes_504 (by decide) ?_
          exact G_loc (lle_s (lle_s (lle_s (lle_n (lle_s (lle_s (lle_s (lle_s (lle_n (lle_n (lle_n (lle_n (lle_n lle_0))))))))))))) (B_L_themes_509 C pa N Tn p1 p2 r Bz Hsz Trz Ez Fz Nmz x4 x5 t0 (r1 - (1 : Int32)) (-5 : Int32) B Hs Tr E F Nm h)
  · refine g_iload_n (pc' := 44) C dL_themes_43 rfl rfl ?_
    refine g_aload_n (pc' := 45) C dL_themes_44 rfl rfl ?_
    refine g_iconst (pc' := 46) (v := 1) C dL_themes_45 (by decide) rfl ?_
    refine k_X5_count (pc' := 49) C pa N Tn B Hs E Nm (1 : Int32) [0, 1, 2, 4, 6] rfl (by decide) gL_themes_X5_count ⟨Nat.le_of_ble_eq_true rfl, Nat.le_of_ble_eq_true rfl⟩ (Nat.le_of_ble_eq_true rfl) rfl dL_themes_46 rfl h (fun r8 E8 Nm8 h => ?_)
    show G X _ [ntW pa Tn, bdW (gcA X) (pa 1) B, hsW (gcA X) (pa 2) (fun j => pa (10 + j)) Hs, bdW (gcA X) (pa 5) Tr, heW (gcA X) (pa 6) E8, heW (gcA X) (pa 7) F, nmW (gcA X) (pa 8) Nm8] _ _ _
    refine g_iconst (pc' := 50) (v := 1) C dL_themes_49 (by decide) rfl ?_
    refine g_iadd (pc' := 51) C dL_themes_50 rfl ?_
    refine k_L_low (pc' := 54) C N p2 (r8 + (1 : Int32)) [] rfl (by decide) gL_themes_L_low ⟨Nat.le_of_ble_eq_true rfl, Nat.le_of_ble_eq_true rfl⟩ (Nat.le_of_ble_eq_true rfl) rfl dL_themes_51 rfl h (fun r9 h => ?_)
    refine g_istore (pc' := 56) C dL_themes_54 (Nat.le_of_ble_eq_true rfl) rfl (L' := [some (.ref (pa 0 0)), some (.int p1), some (.int p2), some (.int x3), some (.int x4), some (.int x5), some (.int t0), some (.int r9), none, none, none, none, none]) rfl ?_
    refine g_iload (pc' := 58) C dL_themes_56 rfl rfl ?_
    refine g_aload_n (pc' := 59) C dL_themes_58 rfl rfl ?_
    refine g_iconst (pc' := 60) (v := 1) C dL_themes_59 (by decide) rfl ?_
    refine k_X5_count (pc' := 63) C pa N Tn B Hs E8 Nm8 (1 : Int32) [0, 1, 2, 4, 6] rfl (by decide) gL_themes_X5_count ⟨Nat.le_of_ble_eq_true rfl, Nat.le_of_ble_eq_true rfl⟩ (Nat.le_of_ble_eq_true rfl) rfl dL_themes_60 rfl h (fun r10 E10 Nm10 h => ?_)
    show G X _ [ntW pa Tn, bdW (gcA X) (pa 1) B, hsW (gcA X) (pa 2) (fun j => pa (10 + j)) Hs, bdW (gcA X) (pa 5) Tr, heW (gcA X) (pa 6) E10, heW (gcA X) (pa 7) F, nmW (gcA X) (pa 8) Nm10] _ _ _
    refine g_icmp_ne (pc' := 66) (tgt := 70) C dL_themes_63 (by decide) rfl h (fun c h => ?_) (fun c h => ?_)
    · refine g_iconst (pc' := 67) (v := 1) C dL_themes_66 (by decide) rfl ?_
      refine g_goto (pc' := 71) C dL_themes_67 (by decide) ?_
      exact G_loc (lle_s (lle_s (lle_s (lle_s (lle_n (lle_n (lle_n (lle_s (lle_n (lle_n (lle_n (lle_n (lle_n lle_0))))))))))))) (B_L_themes_71 C pa N Tn p1 p2 r Bz Hsz Trz Ez Fz Nmz x3 r9 (1 : Int32) B Hs Tr E10 F Nm10 h)
    · refine g_iconst (pc' := 71) (v := 0) C dL_themes_70 (by decide) rfl ?_
      exact G_loc (lle_s (lle_s (lle_s (lle_s (lle_n (lle_n (lle_n (lle_s (lle_n (lle_n (lle_n (lle_n (lle_n lle_0))))))))))))) (B_L_themes_71 C pa N Tn p1 p2 r Bz Hsz Trz Ez Fz Nmz x3 r9 (0 : Int32) B Hs Tr E10 F Nm10 h)
set_option maxRecDepth 100000 in
set_option maxHeartbeats 4000000 in
theorem B_L_themes {X : gX} (C : cx X RL cL_themes 13 (some .boolean) wsL_themes 6 136) (pa : Nat → Nat → Nat) (N : Nat) (Tn : tS) (B : tS) (Hs : tH) (Tr : tS) (E : tS) (F : tS) (Nm : tS) (p1 : Int32) (p2 : Int32) (r : Int32) (Bz : tS) (Hsz : tH) (Trz : tS) (Ez : tS) (Fz : tS) (Nmz : tS) (h : f_L_themes N Tn B Hs Tr E F Nm p1 p2 = some (r, Bz, Hsz, Trz, Ez, Fz, Nmz)) : G X (QI X r [ntW pa Tn, bdW (gcA X) (pa 1) Bz, hsW (gcA X) (pa 2) (fun j => pa (10 + j)) Hsz, bdW (gcA X) (pa 5) Trz, heW (gcA X) (pa 6) Ez, heW (gcA X) (pa 7) Fz, nmW (gcA X) (pa 8) Nmz]) [ntW pa Tn, bdW (gcA X) (pa 1) B, hsW (gcA X) (pa 2) (fun j => pa (10 + j)) Hs, bdW (gcA X) (pa 5) Tr, heW (gcA X) (pa 6) E, heW (gcA X) (pa 7) F, nmW (gcA X) (pa 8) Nm] [some (.ref (pa 0 0)), some (.int p1), some (.int p2), none, none, none, none, none, none, none, none, none, none] [] 0 := by
  unfold f_L_themes at h
  refine g_aload_n (pc' := 1) C dL_themes_0 rfl rfl ?_
  refine g_iconst (pc' := 2) (v := 2) C dL_themes_1 (by decide) rfl ?_
  refine k_X5_count (pc' := 5) C pa N Tn B Hs E Nm (2 : Int32) [0, 1, 2, 4, 6] rfl (by decide) gL_themes_X5_count ⟨Nat.le_of_ble_eq_true rfl, Nat.le_of_ble_eq_true rfl⟩ (Nat.le_of_ble_eq_true rfl) rfl dL_themes_2 rfl h (fun r1 E1 Nm1 h => ?_)
  show G X _ [ntW pa Tn, bdW (gcA X) (pa 1) B, hsW (gcA X) (pa 2) (fun j => pa (10 + j)) Hs, bdW (gcA X) (pa 5) Tr, heW (gcA X) (pa 6) E1, heW (gcA X) (pa 7) F, nmW (gcA X) (pa 8) Nm1] _ _ _
  refine g_istore_n (pc' := 6) C dL_themes_5 (Nat.le_of_ble_eq_true rfl) rfl (L' := [some (.ref (pa 0 0)), some (.int p1), some (.int p2), some (.int r1), none, none, none, none, none, none, none, none, none]) rfl ?_
  refine g_iload_n (pc' := 7) C dL_themes_6 rfl rfl ?_
  refine g_iload_n (pc' := 8) C dL_themes_7 rfl rfl ?_
  refine g_iconst (pc' := 9) (v := 1) C dL_themes_8 (by decide) rfl ?_
  refine g_iadd (pc' := 10) C dL_themes_9 rfl ?_
  refine k_L_low (pc' := 13) C N p2 (r1 + (1 : Int32)) [] rfl (by decide) gL_themes_L_low ⟨Nat.le_of_ble_eq_true rfl, Nat.le_of_ble_eq_true rfl⟩ (Nat.le_of_ble_eq_true rfl) rfl dL_themes_10 rfl h (fun r2 h => ?_)
  refine g_istore (pc' := 15) C dL_themes_13 (Nat.le_of_ble_eq_true rfl) rfl (L' := [some (.ref (pa 0 0)), some (.int p1), some (.int p2), some (.int r1), some (.int r2), none, none, none, none, none, none, none, none]) rfl ?_
  refine g_iload_n (pc' := 16) C dL_themes_15 rfl rfl ?_
  refine g_iconst (pc' := 17) (v := 4) C dL_themes_16 (by decide) rfl ?_
  refine g_ishr (pc' := 18) C dL_themes_17 rfl ?_
  refine g_bipush (pc' := 20) (v := 7) C dL_themes_18 (by decide) rfl ?_
  refine k_L_low (pc' := 23) C N (p2 >>> ((4 : Int32) &&& 31)) (7 : Int32) [] rfl (by decide) gL_themes_L_low ⟨Nat.le_of_ble_eq_true rfl, Nat.le_of_ble_eq_true rfl⟩ (Nat.le_of_ble_eq_true rfl) rfl dL_themes_20 rfl h (fun r3 h => ?_)
  refine g_istore (pc' := 25) C dL_themes_23 (Nat.le_of_ble_eq_true rfl) rfl (L' := [some (.ref (pa 0 0)), some (.int p1), some (.int p2), some (.int r1), some (.int r2), some (.int r3), none, none, none, none, none, none, none]) rfl ?_
  refine g_iload (pc' := 27) C dL_themes_25 rfl rfl ?_
  refine g_iload_n (pc' := 28) C dL_themes_27 rfl rfl ?_
  refine g_icmp_ne (pc' := 31) (tgt := 35) C dL_themes_28 (by decide) rfl h (fun c h => ?_) (fun c h => ?_)
  · refine g_iconst (pc' := 32) (v := 1) C dL_themes_31 (by decide) rfl ?_
    refine g_goto (pc' := 36) C dL_themes_32 (by decide) ?_
    exact G_loc (lle_s (lle_s (lle_s (lle_s (lle_s (lle_s (lle_n (lle_n (lle_n (lle_n (lle_n (lle_n (lle_n lle_0))))))))))))) (B_L_themes_36 C pa N Tn p1 p2 r Bz Hsz Trz Ez Fz Nmz r1 r2 r3 (1 : Int32) B Hs Tr E1 F Nm1 h)
  · refine g_iconst (pc' := 36) (v := 0) C dL_themes_35 (by decide) rfl ?_
    exact G_loc (lle_s (lle_s (lle_s (lle_s (lle_s (lle_s (lle_n (lle_n (lle_n (lle_n (lle_n (lle_n (lle_n lle_0))))))))))))) (B_L_themes_36 C pa N Tn p1 p2 r Bz Hsz Trz Ez Fz Nmz r1 r2 r3 (0 : Int32) B Hs Tr E1 F Nm1 h)
set_option maxRecDepth 100000 in
set_option maxHeartbeats 4000000 in
theorem c_L_themes (l : Launch) (D : va_G) (cA : Nat → ClassId) (pa : Nat → Nat → Nat) (N : Nat) (Tn : tS) (B : tS) (Hs : tH) (Tr : tS) (E : tS) (F : tS) (Nm : tS) (p1 : Int32) (p2 : Int32) (r : Int32) (Bz : tS) (Hsz : tH) (Trz : tS) (Ez : tS) (Fz : tS) (Nmz : tS) (h : f_L_themes N Tn B Hs Tr E F Nm p1 p2 = some (r, Bz, Hsz, Trz, Ez, Fz, Nmz)) : MI l D cA yL_themes wsL_themes 6 136 [.ref (pa 0 0), .int p1, .int p2] [ntW pa Tn, bdW cA (pa 1) B, hsW cA (pa 2) (fun j => pa (10 + j)) Hs, bdW cA (pa 5) Tr, heW cA (pa 6) E, heW cA (pa 7) F, nmW cA (pa 8) Nm] r [ntW pa Tn, bdW cA (pa 1) Bz, hsW cA (pa 2) (fun j => pa (10 + j)) Hsz, bdW cA (pa 5) Trz, heW cA (pa 6) Ez, heW cA (pa 7) Fz, nmW cA (pa 8) Nmz] := MI_of (cc := cL_themes) (maxL := 13) (rt := some .boolean) (by decide +kernel) rfl (List.forall_mem_cons.mpr ⟨rfl, List.forall_mem_cons.mpr ⟨rfl, List.forall_mem_cons.mpr ⟨rfl, List.forall_mem_nil _⟩⟩⟩) (Nat.le_of_ble_eq_true rfl) (fun X e1 e2 e3 C => by subst e1; subst e2; subst e3; exact B_L_themes C pa N Tn B Hs Tr E F Nm p1 p2 r Bz Hsz Trz Ez Fz Nmz h)
set_option maxRecDepth 100000 in
set_option maxHeartbeats 4000000 in
theorem nd_L_themes : nd yL_themes 3 := ⟨by decide +kernel, by decide +kernel, by decide +kernel⟩
set_option maxRecDepth 100000 in
set_option maxHeartbeats 4000000 in
theorem k_L_themes {X : gX} {own : String} {cc : ByteArray} {nL : Nat} {ret : Option FieldType} {Ts : List Cond} {fr lm : Nat} {Q : State → Prop} {ms : List va_W} {L : List (Option Value)} {st : List Value} {pc pc' idx : Nat} {ρ : Type} {T : Int32 → tS → tH → tS → tS → tS → tS → Option ρ} {res : ρ} (C : cx X own cc nL ret Ts fr lm) (pa : Nat → Nat → Nat) (N : Nat) (Tn : tS) (B : tS) (Hs : tH) (Tr : tS) (E : tS) (F : tS) (Nm : tS) (p1 : Int32) (p2 : Int32) (is : List Nat) (hC : is.map (fun i => ms[i]?) = [some (ntW pa Tn), some (bdW (gcA X) (pa 1) B), some (hsW (gcA X) (pa 2) (fun j => pa (10 + j)) Hs), some (bdW (gcA X) (pa 5) Tr), some (heW (gcA X) (pa 6) E), some (heW (gcA X) (pa 7) F), some (nmW (gcA X) (pa 8) Nm)]) (hn : is.Nodup) (hG : GoodIn Ts (va_wsS own idx yL_themes wsL_themes)) (hR : 6 + 1 ≤ fr ∧ 8 + (13 + 11) + 136 ≤ lm) (hst : (st.map fun v => v.category).sum ≤ 8) (hLn : L.length = nL) (d : decode cc pc = .ok (.invokestatic idx, 3)) (hp : pc + 3 = pc') (h : bd7 (f_L_themes N Tn B Hs Tr E F Nm p1 p2) T = some res) (kk : ∀ (r : Int32) (Bz : tS) (Hsz : tH) (Trz : tS) (Ez : tS) (Fz : tS) (Nmz : tS), T r Bz Hsz Trz Ez Fz Nmz = some res → G X Q (rpl ms is [ntW pa Tn, bdW (gcA X) (pa 1) Bz, hsW (gcA X) (pa 2) (fun j => pa (10 + j)) Hsz, bdW (gcA X) (pa 5) Trz, heW (gcA X) (pa 6) Ez, heW (gcA X) (pa 7) Fz, nmW (gcA X) (pa 8) Nmz]) L (.int r :: st) pc') : G X Q ms L (.int p2 :: .int p1 :: .ref (pa 0 0) :: st) pc := by
  obtain ⟨r, Bz, Hsz, Trz, Ez, Fz, Nmz, h1, h⟩ := ob7 h
  exact G_callSI C (As := [.ref (pa 0 0), .int p1, .int p2]) (c_L_themes (gl X) (gD X) (gcA X) pa N Tn B Hs Tr E F Nm p1 p2 r Bz Hsz Trz Ez Fz Nmz h1) hG rfl nd_L_themes hR hC hn rfl rfl hst hLn d hp (kk r Bz Hsz Trz Ez Fz Nmz h)
