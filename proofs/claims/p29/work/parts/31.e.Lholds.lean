set_option maxRecDepth 100000 in
set_option maxHeartbeats 4000000 in
theorem B_L_holds_575 {X : gX} (C : cx X RL cL_holds 16 (some .boolean) wsL_holds 7 156) (pa : Nat → Nat → Nat) (N : Nat) (Tn : tS) (B : tS) (Hs : tH) (p1 : Int32) (r : Int32) (Trz : tS) (Ez : tS) (Fz : tS) (Nmz : tS)  (x2 : Int32) (x3 : Int32) (x4 : Int32) (x5 : Int32) (x6 : Int32) (x7 : Int32) (x8 : Int32) (Tr : tS) (E : tS) (F : tS) (Nm : tS) (h : f_L_holds_575 N Tn B Hs p1  x2 x3 x4 x5 x6 x7 x8 Tr E F Nm = some (r, Trz, Ez, Fz, Nmz)) : G X (QI X r [ntW pa Tn, bdW (gcA X) (pa 1) B, hsW (gcA X) (pa 2) (fun j => pa (10 + j)) Hs, bdW (gcA X) (pa 5) Trz, heW (gcA X) (pa 6) Ez, heW (gcA X) (pa 7) Fz, nmW (gcA X) (pa 8) Nmz]) [ntW pa Tn, bdW (gcA X) (pa 1) B, hsW (gcA X) (pa 2) (fun j => pa (10 + j)) Hs, bdW (gcA X) (pa 5) Tr, heW (gcA X) (pa 6) E, heW (gcA X) (pa 7) F, nmW (gcA X) (pa 8) Nm] [some (.ref (pa 0 0)), some (.int p1), some (.int x2), some (.int x3), some (.int x4), some (.int x5), some (.int x6), some (.int x7), some (.int x8), none, none, none, none, none, none, none] [] 575 := by
  unfold f_L_holds_575 at h
  refine g_iload (pc' := 577) C dL_holds_575 rfl rfl ?_
  refine g_if_eq (pc' := 580) (tgt := 646) C dL_holds_577 (by decide) rfl h (fun c h => ?_) (fun c h => ?_)
  · refine g_iconst (pc' := 647) (v := 0) C dL_holds_646 (by decide) rfl ?_
    obtain ⟨rfl, rfl, rfl, rfl, rfl⟩ := pj5 (Option.some.inj h)
    exact g_zret0 C rfl dL_holds_647
  · refine g_iload (pc' := 582) C dL_holds_580 rfl rfl ?_
    refine g_aload_n (pc' := 583) C dL_holds_582 rfl rfl ?_
    refine g_iconst (pc' := 584) (v := 3) C dL_holds_583 (by decide) rfl ?_
    refine k_X5_count (pc' := 587) C pa N Tn B Hs E Nm (3 : Int32) [0, 1, 2, 4, 6] rfl (by decide) gL_holds_X5_count ⟨Nat.le_of_ble_eq_true rfl, Nat.le_of_ble_eq_true rfl⟩ (Nat.le_of_ble_eq_true rfl) rfl dL_holds_584 rfl h (fun r1 E1 Nm1 h => ?_)
    show G X _ [ntW pa Tn, bdW (gcA X) (pa 1) B, hsW (gcA X) (pa 2) (fun j => pa (10 + j)) Hs, bdW (gcA X) (pa 5) Tr, heW (gcA X) (pa 6) E1, heW (gcA X) (pa 7) F, nmW (gcA X) (pa 8) Nm1] _ _ _
    refine g_icmp_ne (pc' := 590) (tgt := 646) C dL_holds_587 (by decide) rfl h (fun c h => ?_) (fun c h => ?_)
    · refine g_iload (pc' := 592) C dL_holds_590 rfl rfl ?_
      refine g_aload_n (pc' := 593) C dL_holds_592 rfl rfl ?_
      refine g_iconst (pc' := 594) (v := 4) C dL_holds_593 (by decide) rfl ?_
      refine k_X5_count (pc' := 597) C pa N Tn B Hs E1 Nm1 (4 : Int32) [0, 1, 2, 4, 6] rfl (by decide) gL_holds_X5_count ⟨Nat.le_of_ble_eq_true rfl, Nat.le_of_ble_eq_true rfl⟩ (Nat.le_of_ble_eq_true rfl) rfl dL_holds_594 rfl h (fun r2 E2 Nm2 h => ?_)
      show G X _ [ntW pa Tn, bdW (gcA X) (pa 1) B, hsW (gcA X) (pa 2) (fun j => pa (10 + j)) Hs, bdW (gcA X) (pa 5) Tr, heW (gcA X) (pa 6) E2, heW (gcA X) (pa 7) F, nmW (gcA X) (pa 8) Nm2] _ _ _
      refine g_icmp_ne (pc' := 600) (tgt := 646) C dL_holds_597 (by decide) rfl h (fun c h => ?_) (fun c h => ?_)
      · refine g_iload (pc' := 602) C dL_holds_600 rfl rfl ?_
        refine g_aload_n (pc' := 603) C dL_holds_602 rfl rfl ?_
        refine g_bipush (pc' := 605) (v := 6) C dL_holds_603 (by decide) rfl ?_
        refine k_X5_count (pc' := 608) C pa N Tn B Hs E2 Nm2 (6 : Int32) [0, 1, 2, 4, 6] rfl (by decide) gL_holds_X5_count ⟨Nat.le_of_ble_eq_true rfl, Nat.le_of_ble_eq_true rfl⟩ (Nat.le_of_ble_eq_true rfl) rfl dL_holds_605 rfl h (fun r3 E3 Nm3 h => ?_)
        show G X _ [ntW pa Tn, bdW (gcA X) (pa 1) B, hsW (gcA X) (pa 2) (fun j => pa (10 + j)) Hs, bdW (gcA X) (pa 5) Tr, heW (gcA X) (pa 6) E3, heW (gcA X) (pa 7) F, nmW (gcA X) (pa 8) Nm3] _ _ _
        refine g_icmp_ne (pc' := 611) (tgt := 646) C dL_holds_608 (by decide) rfl h (fun c h => ?_) (fun c h => ?_)
        · refine g_aload_n (pc' := 612) C dL_holds_611 rfl rfl ?_
          refine g_iload_n (pc' := 613) C dL_holds_612 rfl rfl ?_
          refine g_iconst (pc' := 614) (v := 0) C dL_holds_613 (by decide) rfl ?_
          refine k_X5_note (pc' := 617) C pa N Tn B Tr E3 F x2 (0 : Int32) [0, 1, 3, 4, 5] rfl (by decide) gL_holds_X5_note ⟨Nat.le_of_ble_eq_true rfl, Nat.le_of_ble_eq_true rfl⟩ (Nat.le_of_ble_eq_true rfl) rfl dL_holds_614 rfl h (fun r4 Tr4 E4 F4 h => ?_)
          show G X _ [ntW pa Tn, bdW (gcA X) (pa 1) B, hsW (gcA X) (pa 2) (fun j => pa (10 + j)) Hs, bdW (gcA X) (pa 5) Tr4, heW (gcA X) (pa 6) E4, heW (gcA X) (pa 7) F4, nmW (gcA X) (pa 8) Nm3] _ _ _
          refine g_iconst (pc' := 618) (v := -1) C dL_holds_617 (by decide) rfl ?_
          refine g_icmp_ne (pc' := 621) (tgt := 646) C dL_holds_618 (by decide) rfl h (fun c h => ?_) (fun c h => ?_)
          · refine g_aload_n (pc' := 622) C dL_holds_621 rfl rfl ?_
            refine g_iload_n (pc' := 623) C dL_holds_622 rfl rfl ?_
            refine g_iconst (pc' := 624) (v := 0) C dL_holds_623 (by decide) rfl ?_
            refine k_X5_heap (pc' := 627) C pa N Tn B E4 x3 (0 : Int32) [0, 1, 4] rfl (by decide) gL_holds_X5_heap ⟨Nat.le_of_ble_eq_true rfl, Nat.le_of_ble_eq_true rfl⟩ (Nat.le_of_ble_eq_true rfl) rfl dL_holds_624 rfl h (fun r5 E5 h => ?_)
            show G X _ [ntW pa Tn, bdW (gcA X) (pa 1) B, hsW (gcA X) (pa 2) (fun j => pa (10 + j)) Hs, bdW (gcA X) (pa 5) Tr4, heW (gcA X) (pa 6) E5, heW (gcA X) (pa 7) F4, nmW (gcA X) (pa 8) Nm3] _ _ _
            refine g_iconst (pc' := 628) (v := -1) C dL_holds_627 (by decide) rfl ?_
            refine g_icmp_ne (pc' := 631) (tgt := 646) C dL_holds_628 (by decide) rfl h (fun c h => ?_) (fun c h => ?_)
            · refine g_aload_n (pc' := 632) C dL_holds_631 rfl rfl ?_
              refine g_iload (pc' := 634) C dL_holds_632 rfl rfl ?_
              refine g_iconst (pc' := 635) (v := 0) C dL_holds_634 (by decide) rfl ?_
              refine k_X5_theme (pc' := 638) C pa N Tn B E5 Nm3 x4 (0 : Int32) [0, 1, 4, 6] rfl (by decide) gL_holds_X5_theme ⟨Nat.le_of_ble_eq_true rfl, Nat.le_of_ble_eq_true rfl⟩ (Nat.le_of_ble_eq_true rfl) rfl dL_holds_635 rfl h (fun r6 E6 Nm6 h => ?_)
              show G X _ [ntW pa Tn, bdW (gcA X) (pa 1) B, hsW (gcA X) (pa 2) (fun j => pa (10 + j)) Hs, bdW (gcA X) (pa 5) Tr4, heW (gcA X) (pa 6) E6, heW (gcA X) (pa 7) F4, nmW (gcA X) (pa 8) Nm6] _ _ _
              refine g_iconst (pc' := 639) (v := -1) C dL_holds_638 (by decide) rfl ?_
              refine g_icmp_ne (pc' := 642) (tgt := 646) C dL_holds_639 (by decide) rfl h (fun c h => ?_) (fun c h => ?_)
              · refine g_iconst (pc' := 643) (v := 1) C dL_holds_642 (by decide) rfl ?_
                refine g_goto (pc' := 647) C dL_holds_643 (by decide) ?_
                obtain ⟨rfl, rfl, rfl, rfl, rfl⟩ := pj5 (Option.some.inj h)
                exact g_zret0 C rfl dL_holds_647
              · refine g_iconst (pc' := 647) (v := 0) C dL_holds_646 (by decide) rfl ?_
                obtain ⟨rfl, rfl, rfl, rfl, rfl⟩ := pj5 (Option.some.inj h)
                exact g_zret0 C rfl dL_holds_647
            · refine g_iconst (pc' := 647) (v := 0) C dL_holds_646 (by decide) rfl ?_
              obtain ⟨rfl, rfl, rfl, rfl, rfl⟩ := pj5 (Option.some.inj h)
              exact g_zret0 C rfl dL_holds_647
          · refine g_iconst (pc' := 647) (v := 0) C dL_holds_646 (by decide) rfl ?_
            obtain ⟨rfl, rfl, rfl, rfl, rfl⟩ := pj5 (Option.some.inj h)
            exact g_zret0 C rfl dL_holds_647
        · refine g_iconst (pc' := 647) (v := 0) C dL_holds_646 (by decide) rfl ?_
          obtain ⟨rfl, rfl, rfl, rfl, rfl⟩ := pj5 (Option.some.inj h)
          exact g_zret0 C rfl dL_holds_647
      · refine g_iconst (pc' := 647) (v := 0) C dL_holds_646 (by decide) rfl ?_
        obtain ⟨rfl, rfl, rfl, rfl, rfl⟩ := pj5 (Option.some.inj h)
        exact g_zret0 C rfl dL_holds_647
    · refine g_iconst (pc' := 647) (v := 0) C dL_holds_646 (by decide) rfl ?_
      obtain ⟨rfl, rfl, rfl, rfl, rfl⟩ := pj5 (Option.some.inj h)
      exact g_zret0 C rfl dL_holds_647
set_option maxRecDepth 100000 in
set_option maxHeartbeats 4000000 in
theorem B_L_holds_573 {X : gX} (C : cx X RL cL_holds 16 (some .boolean) wsL_holds 7 156) (pa : Nat → Nat → Nat) (N : Nat) (Tn : tS) (B : tS) (Hs : tH) (p1 : Int32) (r : Int32) (Trz : tS) (Ez : tS) (Fz : tS) (Nmz : tS)  (x2 : Int32) (x3 : Int32) (x4 : Int32) (x5 : Int32) (x6 : Int32) (x7 : Int32) (t0 : Int32) (Tr : tS) (E : tS) (F : tS) (Nm : tS) (h : f_L_holds_573 N Tn B Hs p1  x2 x3 x4 x5 x6 x7 t0 Tr E F Nm = some (r, Trz, Ez, Fz, Nmz)) : G X (QI X r [ntW pa Tn, bdW (gcA X) (pa 1) B, hsW (gcA X) (pa 2) (fun j => pa (10 + j)) Hs, bdW (gcA X) (pa 5) Trz, heW (gcA X) (pa 6) Ez, heW (gcA X) (pa 7) Fz, nmW (gcA X) (pa 8) Nmz]) [ntW pa Tn, bdW (gcA X) (pa 1) B, hsW (gcA X) (pa 2) (fun j => pa (10 + j)) Hs, bdW (gcA X) (pa 5) Tr, heW (gcA X) (pa 6) E, heW (gcA X) (pa 7) F, nmW (gcA X) (pa 8) Nm] [some (.ref (pa 0 0)), some (.int p1), some (.int x2), some (.int x3), some (.int x4), some (.int x5), some (.int x6), some (.int x7), none, none, none, none, none, none, none, none] [.int t0] 573 := by
  unfold f_L_holds_573 at h
  refine g_istore (pc' := 575) C dL_holds_573 (Nat.le_of_ble_eq_true rfl) rfl (L' := [some (.ref (pa 0 0)), some (.int p1), some (.int x2), some (.int x3), some (.int x4), some (.int x5), some (.int x6), some (.int x7), some (.int t0), none, none, none, none, none, none, none]) rfl ?_
  exact G_loc (lle_s (lle_s (lle_s (lle_s (lle_s (lle_s (lle_s (lle_s (lle_s (lle_n (lle_n (lle_n (lle_n (lle_n (lle_n (lle_n lle_0)))))))))))))))) (B_L_holds_575 C pa N Tn B Hs p1 r Trz Ez Fz Nmz x2 x3 x4 x5 x6 x7 t0 Tr E F Nm h)
set_option maxRecDepth 100000 in
set_option maxHeartbeats 4000000 in
theorem B_L_holds_572 {X : gX} (C : cx X RL cL_holds 16 (some .boolean) wsL_holds 7 156) (pa : Nat → Nat → Nat) (N : Nat) (Tn : tS) (B : tS) (Hs : tH) (p1 : Int32) (r : Int32) (Trz : tS) (Ez : tS) (Fz : tS) (Nmz : tS)  (x2 : Int32) (x3 : Int32) (x4 : Int32) (x5 : Int32) (x6 : Int32) (x7 : Int32) (Tr : tS) (E : tS) (F : tS) (Nm : tS) (h : f_L_holds_572 N Tn B Hs p1  x2 x3 x4 x5 x6 x7 Tr E F Nm = some (r, Trz, Ez, Fz, Nmz)) : G X (QI X r [ntW pa Tn, bdW (gcA X) (pa 1) B, hsW (gcA X) (pa 2) (fun j => pa (10 + j)) Hs, bdW (gcA X) (pa 5) Trz, heW (gcA X) (pa 6) Ez, heW (gcA X) (pa 7) Fz, nmW (gcA X) (pa 8) Nmz]) [ntW pa Tn, bdW (gcA X) (pa 1) B, hsW (gcA X) (pa 2) (fun j => pa (10 + j)) Hs, bdW (gcA X) (pa 5) Tr, heW (gcA X) (pa 6) E, heW (gcA X) (pa 7) F, nmW (gcA X) (pa 8) Nm] [some (.ref (pa 0 0)), some (.int p1), some (.int x2), some (.int x3), some (.int x4), some (.int x5), some (.int x6), some (.int x7), none, none, none, none, none, none, none, none] [] 572 := by
  unfold f_L_holds_572 at h
  refine g_iconst (pc' := 573) (v := 0) C dL_holds_572 (by decide) rfl ?_
  exact G_loc (lle_s (lle_s (lle_s (lle_s (lle_s (lle_s (lle_s (lle_s (lle_n (lle_n (lle_n (lle_n (lle_n (lle_n (lle_n (lle_n lle_0)))))))))))))))) (B_L_holds_573 C pa N Tn B Hs p1 r Trz Ez Fz Nmz x2 x3 x4 x5 x6 x7 (0 : Int32) Tr E F Nm h)
set_option maxRecDepth 100000 in
set_option maxHeartbeats 4000000 in
theorem B_L_holds_556 {X : gX} (C : cx X RL cL_holds 16 (some .boolean) wsL_holds 7 156) (pa : Nat → Nat → Nat) (N : Nat) (Tn : tS) (B : tS) (Hs : tH) (p1 : Int32) (r : Int32) (Trz : tS) (Ez : tS) (Fz : tS) (Nmz : tS)  (x2 : Int32) (x3 : Int32) (x4 : Int32) (x5 : Int32) (x6 : Int32) (x7 : Int32) (x9 : Int32) (x11 : Int32) (Tr : tS) (E : tS) (F : tS) (Nm : tS) (h : f_L_holds_556 N Tn B Hs p1  x2 x3 x4 x5 x6 x7 x9 x11 Tr E F Nm = some (r, Trz, Ez, Fz, Nmz)) : G X (QI X r [ntW pa Tn, bdW (gcA X) (pa 1) B, hsW (gcA X) (pa 2) (fun j => pa (10 + j)) Hs, bdW (gcA X) (pa 5) Trz, heW (gcA X) (pa 6) Ez, heW (gcA X) (pa 7) Fz, nmW (gcA X) (pa 8) Nmz]) [ntW pa Tn, bdW (gcA X) (pa 1) B, hsW (gcA X) (pa 2) (fun j => pa (10 + j)) Hs, bdW (gcA X) (pa 5) Tr, heW (gcA X) (pa 6) E, heW (gcA X) (pa 7) F, nmW (gcA X) (pa 8) Nm] [some (.ref (pa 0 0)), some (.int p1), some (.int x2), some (.int x3), some (.int x4), some (.int x5), some (.int x6), some (.int x7), none, some (.int x9), none, some (.int x11), none, none, none, none] [] 556 := by
  unfold f_L_holds_556 at h
  refine g_aload_n (pc' := 557) C dL_holds_556 rfl rfl ?_
  refine g_iload (pc' := 559) C dL_holds_557 rfl rfl ?_
  refine g_iconst (pc' := 560) (v := 1) C dL_holds_559 (by decide) rfl ?_
  refine k_X5_heap (pc' := 563) C pa N Tn B E x11 (1 : Int32) [0, 1, 4] rfl (by decide) gL_holds_X5_heap ⟨Nat.le_of_ble_eq_true rfl, Nat.le_of_ble_eq_true rfl⟩ (Nat.le_of_ble_eq_true rfl) rfl dL_holds_560 rfl h (fun r1 E1 h => ?_)
  show G X _ [ntW pa Tn, bdW (gcA X) (pa 1) B, hsW (gcA X) (pa 2) (fun j => pa (10 + j)) Hs, bdW (gcA X) (pa 5) Tr, heW (gcA X) (pa 6) E1, heW (gcA X) (pa 7) F, nmW (gcA X) (pa 8) Nm] _ _ _
  refine g_iload (pc' := 565) C dL_holds_563 rfl rfl ?_
  refine g_icmp_gt (pc' := 568) (tgt := 572) C dL_holds_565 (by decide) rfl h (fun c h => ?_) (fun c h => ?_)
  · exact G_loc (lle_s (lle_s (lle_s (lle_s (lle_s (lle_s (lle_s (lle_s (lle_n (lle_n (lle_n (lle_n (lle_n (lle_n (lle_n (lle_n lle_0)))))))))))))))) (B_L_holds_572 C pa N Tn B Hs p1 r Trz Ez Fz Nmz x2 x3 x4 x5 x6 x7 Tr E1 F Nm h)
  · refine g_iconst (pc' := 569) (v := 1) C dL_holds_568 (by decide) rfl ?_
    refine g_goto (pc' := 573) C dL_holds_569 (by decide) ?_
    exact G_loc (lle_s (lle_s (lle_s (lle_s (lle_s (lle_s (lle_s (lle_s (lle_n (lle_n (lle_n (lle_n (lle_n (lle_n (lle_n (lle_n lle_0)))))))))))))))) (B_L_holds_573 C pa N Tn B Hs p1 r Trz Ez Fz Nmz x2 x3 x4 x5 x6 x7 (1 : Int32) Tr E1 F Nm h)
set_option maxRecDepth 100000 in
set_option maxHeartbeats 4000000 in
theorem B_L_holds_529 {X : gX} (C : cx X RL cL_holds 16 (some .boolean) wsL_holds 7 156) (pa : Nat → Nat → Nat) (N : Nat) (Tn : tS) (B : tS) (Hs : tH) (p1 : Int32) (r : Int32) (Trz : tS) (Ez : tS) (Fz : tS) (Nmz : tS)  (x2 : Int32) (x3 : Int32) (x4 : Int32) (x5 : Int32) (x6 : Int32) (x7 : Int32) (x9 : Int32) (x11 : Int32) (Tr : tS) (E : tS) (F : tS) (Nm : tS) (h : f_L_holds_529 N Tn B Hs p1  x2 x3 x4 x5 x6 x7 x9 x11 Tr E F Nm = some (r, Trz, Ez, Fz, Nmz)) : G X (QI X r [ntW pa Tn, bdW (gcA X) (pa 1) B, hsW (gcA X) (pa 2) (fun j => pa (10 + j)) Hs, bdW (gcA X) (pa 5) Trz, heW (gcA X) (pa 6) Ez, heW (gcA X) (pa 7) Fz, nmW (gcA X) (pa 8) Nmz]) [ntW pa Tn, bdW (gcA X) (pa 1) B, hsW (gcA X) (pa 2) (fun j => pa (10 + j)) Hs, bdW (gcA X) (pa 5) Tr, heW (gcA X) (pa 6) E, heW (gcA X) (pa 7) F, nmW (gcA X) (pa 8) Nm] [some (.ref (pa 0 0)), some (.int p1), some (.int x2), some (.int x3), some (.int x4), some (.int x5), some (.int x6), some (.int x7), none, some (.int x9), none, some (.int x11), none, none, none, none] [] 529 := by
  unfold f_L_holds_529 at h
  refine g_aload_n (pc' := 530) C dL_holds_529 rfl rfl ?_
  refine g_iload (pc' := 532) C dL_holds_530 rfl rfl ?_
  refine g_iconst (pc' := 533) (v := 4) C dL_holds_532 (by decide) rfl ?_
  refine k_X5_note (pc' := 536) C pa N Tn B Tr E F x9 (4 : Int32) [0, 1, 3, 4, 5] rfl (by decide) gL_holds_X5_note ⟨Nat.le_of_ble_eq_true rfl, Nat.le_of_ble_eq_true rfl⟩ (Nat.le_of_ble_eq_true rfl) rfl dL_holds_533 rfl h (fun r1 Tr1 E1 F1 h => ?_)
  show G X _ [ntW pa Tn, bdW (gcA X) (pa 1) B, hsW (gcA X) (pa 2) (fun j => pa (10 + j)) Hs, bdW (gcA X) (pa 5) Tr1, heW (gcA X) (pa 6) E1, heW (gcA X) (pa 7) F1, nmW (gcA X) (pa 8) Nm] _ _ _
  refine g_bipush (pc' := 538) (v := -5) C dL_holds_536 (by decide) rfl ?_
  refine g_icmp_eq (pc' := 541) (tgt := 556) C dL_holds_538 (by decide) rfl h (fun c h => ?_) (fun c h => ?_)
  · exact G_loc (lle_s (lle_s (lle_s (lle_s (lle_s (lle_s (lle_s (lle_s (lle_n (lle_s (lle_n (lle_s (lle_n (lle_n (lle_n (lle_n lle_0)))))))))))))))) (B_L_holds_556 C pa N Tn B Hs p1 r Trz Ez Fz Nmz x2 x3 x4 x5 x6 x7 x9 x11 Tr1 E1 F1 Nm h)
  · refine g_aload_n (pc' := 542) C dL_holds_541 rfl rfl ?_
    refine g_aload_n (pc' := 543) C dL_holds_542 rfl rfl ?_
    refine g_iload (pc' := 545) C dL_holds_543 rfl rfl ?_
    refine g_iconst (pc' := 546) (v := 4) C dL_holds_545 (by decide) rfl ?_
    refine k_X5_note (pc' := 549) C pa N Tn B Tr1 E1 F1 x9 (4 : Int32) [0, 1, 3, 4, 5] rfl (by decide) gL_holds_X5_note ⟨Nat.le_of_ble_eq_true rfl, Nat.le_of_ble_eq_true rfl⟩ (Nat.le_of_ble_eq_true rfl) rfl dL_holds_546 rfl h (fun r2 Tr2 E2 F2 h => ?_)
    show G X _ [ntW pa Tn, bdW (gcA X) (pa 1) B, hsW (gcA X) (pa 2) (fun j => pa (10 + j)) Hs, bdW (gcA X) (pa 5) Tr2, heW (gcA X) (pa 6) E2, heW (gcA X) (pa 7) F2, nmW (gcA X) (pa 8) Nm] _ _ _
    refine g_iconst (pc' := 550) (v := 0) C dL_holds_549 (by decide) rfl ?_
    refine k_X5_theme (pc' := 553) C pa N Tn B E2 Nm r2 (0 : Int32) [0, 1, 4, 6] rfl (by decide) gL_holds_X5_theme ⟨Nat.le_of_ble_eq_true rfl, Nat.le_of_ble_eq_true rfl⟩ (Nat.le_of_ble_eq_true rfl) rfl dL_holds_550 rfl h (fun r3 E3 Nm3 h => ?_)
    show G X _ [ntW pa Tn, bdW (gcA X) (pa 1) B, hsW (gcA X) (pa 2) (fun j => pa (10 + j)) Hs, bdW (gcA X) (pa 5) Tr2, heW (gcA X) (pa 6) E3, heW (gcA X) (pa 7) F2, nmW (gcA X) (pa 8) Nm3] _ _ _
    refine g_if_le (pc' := 556) (tgt := 572) C dL_holds_553 (by decide) rfl h (fun c h => ?_) (fun c h => ?_)
    · exact G_loc (lle_s (lle_s (lle_s (lle_s (lle_s (lle_s (lle_s (lle_s (lle_n (lle_n (lle_n (lle_n (lle_n (lle_n (lle_n (lle_n lle_0)))))))))))))))) (B_L_holds_572 C pa N Tn B Hs p1 r Trz Ez Fz Nmz x2 x3 x4 x5 x6 x7 Tr2 E3 F2 Nm3 h)
    · exact G_loc (lle_s (lle_s (lle_s (lle_s (lle_s (lle_s (lle_s (lle_s (lle_n (lle_s (lle_n (lle_s (lle_n (lle_n (lle_n (lle_n lle_0)))))))))))))))) (B_L_holds_556 C pa N Tn B Hs p1 r Trz Ez Fz Nmz x2 x3 x4 x5 x6 x7 x9 x11 Tr2 E3 F2 Nm3 h)
set_option maxRecDepth 100000 in
set_option maxHeartbeats 4000000 in
theorem B_L_holds_491 {X : gX} (C : cx X RL cL_holds 16 (some .boolean) wsL_holds 7 156) (pa : Nat → Nat → Nat) (N : Nat) (Tn : tS) (B : tS) (Hs : tH) (p1 : Int32) (r : Int32) (Trz : tS) (Ez : tS) (Fz : tS) (Nmz : tS)  (x2 : Int32) (x3 : Int32) (x4 : Int32) (x5 : Int32) (x6 : Int32) (x7 : Int32) (x9 : Int32) (x10 : Int32) (x11 : Int32) (x13 : Int32) (x14 : Int32) (Tr : tS) (E : tS) (F : tS) (Nm : tS) (h : f_L_holds_491 N Tn B Hs p1  x2 x3 x4 x5 x6 x7 x9 x10 x11 x13 x14 Tr E F Nm = some (r, Trz, Ez, Fz, Nmz)) : G X (QI X r [ntW pa Tn, bdW (gcA X) (pa 1) B, hsW (gcA X) (pa 2) (fun j => pa (10 + j)) Hs, bdW (gcA X) (pa 5) Trz, heW (gcA X) (pa 6) Ez, heW (gcA X) (pa 7) Fz, nmW (gcA X) (pa 8) Nmz]) [ntW pa Tn, bdW (gcA X) (pa 1) B, hsW (gcA X) (pa 2) (fun j => pa (10 + j)) Hs, bdW (gcA X) (pa 5) Tr, heW (gcA X) (pa 6) E, heW (gcA X) (pa 7) F, nmW (gcA X) (pa 8) Nm] [some (.ref (pa 0 0)), some (.int p1), some (.int x2), some (.int x3), some (.int x4), some (.int x5), some (.int x6), some (.int x7), none, some (.int x9), some (.int x10), some (.int x11), none, some (.int x13), some (.int x14), none] [] 491 := by
  unfold f_L_holds_491 at h
  refine g_iload (pc' := 493) C dL_holds_491 rfl rfl ?_
  refine g_iload (pc' := 495) C dL_holds_493 rfl rfl ?_
  refine g_icmp_gt (pc' := 498) (tgt := 572) C dL_holds_495 (by decide) rfl h (fun c h => ?_) (fun c h => ?_)
  · exact G_loc (lle_s (lle_s (lle_s (lle_s (lle_s (lle_s (lle_s (lle_s (lle_n (lle_n (lle_n (lle_n (lle_n (lle_n (lle_n (lle_n lle_0)))))))))))))))) (B_L_holds_572 C pa N Tn B Hs p1 r Trz Ez Fz Nmz x2 x3 x4 x5 x6 x7 Tr E F Nm h)
  · refine g_aload_n (pc' := 499) C dL_holds_498 rfl rfl ?_
    refine g_iload (pc' := 501) C dL_holds_499 rfl rfl ?_
    refine g_iconst (pc' := 502) (v := 3) C dL_holds_501 (by decide) rfl ?_
    refine k_X5_note (pc' := 505) C pa N Tn B Tr E F x10 (3 : Int32) [0, 1, 3, 4, 5] rfl (by decide) gL_holds_X5_note ⟨Nat.le_of_ble_eq_true rfl, Nat.le_of_ble_eq_true rfl⟩ (Nat.le_of_ble_eq_true rfl) rfl dL_holds_502 rfl h (fun r1 Tr1 E1 F1 h => ?_)
    show G X _ [ntW pa Tn, bdW (gcA X) (pa 1) B, hsW (gcA X) (pa 2) (fun j => pa (10 + j)) Hs, bdW (gcA X) (pa 5) Tr1, heW (gcA X) (pa 6) E1, heW (gcA X) (pa 7) F1, nmW (gcA X) (pa 8) Nm] _ _ _
    refine g_iload (pc' := 507) C dL_holds_505 rfl rfl ?_
    refine g_icmp_ne (pc' := 510) (tgt := 529) C dL_holds_507 (by decide) rfl h (fun c h => ?_) (fun c h => ?_)
    · refine g_aload_n (pc' := 511) C dL_holds_510 rfl rfl ?_
      refine g_iload (pc' := 513) C dL_holds_511 rfl rfl ?_
      refine g_iload (pc' := 515) C dL_holds_513 rfl rfl ?_
      refine k_L_far (pc' := 518) C pa N Tn B Tr1 E1 F1 x9 x10 [0, 1, 3, 4, 5] rfl (by decide) gL_holds_L_far ⟨Nat.le_of_ble_eq_true rfl, Nat.le_of_ble_eq_true rfl⟩ (Nat.le_of_ble_eq_true rfl) rfl dL_holds_515 rfl h (fun r2 Tr2 E2 F2 h => ?_)
      show G X _ [ntW pa Tn, bdW (gcA X) (pa 1) B, hsW (gcA X) (pa 2) (fun j => pa (10 + j)) Hs, bdW (gcA X) (pa 5) Tr2, heW (gcA X) (pa 6) E2, heW (gcA X) (pa 7) F2, nmW (gcA X) (pa 8) Nm] _ _ _
      refine g_aload_n (pc' := 519) C dL_holds_518 rfl rfl ?_
      refine g_iload (pc' := 521) C dL_holds_519 rfl rfl ?_
      refine g_bipush (pc' := 523) (v := 6) C dL_holds_521 (by decide) rfl ?_
      refine k_X5_heap (pc' := 526) C pa N Tn B E2 x11 (6 : Int32) [0, 1, 4] rfl (by decide) gL_holds_X5_heap ⟨Nat.le_of_ble_eq_true rfl, Nat.le_of_ble_eq_true rfl⟩ (Nat.le_of_ble_eq_true rfl) rfl dL_holds_523 rfl h (fun r3 E3 h => ?_)
      show G X _ [ntW pa Tn, bdW (gcA X) (pa 1) B, hsW (gcA X) (pa 2) (fun j => pa (10 + j)) Hs, bdW (gcA X) (pa 5) Tr2, heW (gcA X) (pa 6) E3, heW (gcA X) (pa 7) F2, nmW (gcA X) (pa 8) Nm] _ _ _
      refine g_icmp_gt (pc' := 529) (tgt := 572) C dL_holds_526 (by decide) rfl h (fun c h => ?_) (fun c h => ?_)
      · exact G_loc (lle_s (lle_s (lle_s (lle_s (lle_s (lle_s (lle_s (lle_s (lle_n (lle_n (lle_n (lle_n (lle_n (lle_n (lle_n (lle_n lle_0)))))))))))))))) (B_L_holds_572 C pa N Tn B Hs p1 r Trz Ez Fz Nmz x2 x3 x4 x5 x6 x7 Tr2 E3 F2 Nm h)
      · exact G_loc (lle_s (lle_s (lle_s (lle_s (lle_s (lle_s (lle_s (lle_s (lle_n (lle_s (lle_n (lle_s (lle_n (lle_n (lle_n (lle_n lle_0)))))))))))))))) (B_L_holds_529 C pa N Tn B Hs p1 r Trz Ez Fz Nmz x2 x3 x4 x5 x6 x7 x9 x11 Tr2 E3 F2 Nm h)
    · exact G_loc (lle_s (lle_s (lle_s (lle_s (lle_s (lle_s (lle_s (lle_s (lle_n (lle_s (lle_n (lle_s (lle_n (lle_n (lle_n (lle_n lle_0)))))))))))))))) (B_L_holds_529 C pa N Tn B Hs p1 r Trz Ez Fz Nmz x2 x3 x4 x5 x6 x7 x9 x11 Tr1 E1 F1 Nm h)
set_option maxRecDepth 100000 in
set_option maxHeartbeats 4000000 in
theorem B_L_holds_469 {X : gX} (C : cx X RL cL_holds 16 (some .boolean) wsL_holds 7 156) (pa : Nat → Nat → Nat) (N : Nat) (Tn : tS) (B : tS) (Hs : tH) (p1 : Int32) (r : Int32) (Trz : tS) (Ez : tS) (Fz : tS) (Nmz : tS)  (x2 : Int32) (x3 : Int32) (x4 : Int32) (x5 : Int32) (x6 : Int32) (x7 : Int32) (x9 : Int32) (x10 : Int32) (x11 : Int32) (x13 : Int32) (x14 : Int32) (x15 : Int32) (Tr : tS) (E : tS) (F : tS) (Nm : tS) (h : f_L_holds_469 N Tn B Hs p1  x2 x3 x4 x5 x6 x7 x9 x10 x11 x13 x14 x15 Tr E F Nm = some (r, Trz, Ez, Fz, Nmz)) : G X (QI X r [ntW pa Tn, bdW (gcA X) (pa 1) B, hsW (gcA X) (pa 2) (fun j => pa (10 + j)) Hs, bdW (gcA X) (pa 5) Trz, heW (gcA X) (pa 6) Ez, heW (gcA X) (pa 7) Fz, nmW (gcA X) (pa 8) Nmz]) [ntW pa Tn, bdW (gcA X) (pa 1) B, hsW (gcA X) (pa 2) (fun j => pa (10 + j)) Hs, bdW (gcA X) (pa 5) Tr, heW (gcA X) (pa 6) E, heW (gcA X) (pa 7) F, nmW (gcA X) (pa 8) Nm] [some (.ref (pa 0 0)), some (.int p1), some (.int x2), some (.int x3), some (.int x4), some (.int x5), some (.int x6), some (.int x7), none, some (.int x9), some (.int x10), some (.int x11), none, some (.int x13), some (.int x14), some (.int x15)] [] 469 := by
  unfold f_L_holds_469 at h
  refine g_iload (pc' := 471) C dL_holds_469 rfl rfl ?_
  refine g_iload (pc' := 473) C dL_holds_471 rfl rfl ?_
  refine g_icmp_eq (pc' := 476) (tgt := 491) C dL_holds_473 (by decide) rfl h (fun c h => ?_) (fun c h => ?_)
  · exact G_loc (lle_s (lle_s (lle_s (lle_s (lle_s (lle_s (lle_s (lle_s (lle_n (lle_s (lle_s (lle_s (lle_n (lle_s (lle_s (lle_n lle_0)))))))))))))))) (B_L_holds_491 C pa N Tn B Hs p1 r Trz Ez Fz Nmz x2 x3 x4 x5 x6 x7 x9 x10 x11 x13 x14 Tr E F Nm h)
  · refine g_iload (pc' := 478) C dL_holds_476 rfl rfl ?_
    refine g_if_eq (pc' := 481) (tgt := 491) C dL_holds_478 (by decide) rfl h (fun c h => ?_) (fun c h => ?_)
    · exact G_loc (lle_s (lle_s (lle_s (lle_s (lle_s (lle_s (lle_s (lle_s (lle_n (lle_s (lle_s (lle_s (lle_n (lle_s (lle_s (lle_n lle_0)))))))))))))))) (B_L_holds_491 C pa N Tn B Hs p1 r Trz Ez Fz Nmz x2 x3 x4 x5 x6 x7 x9 x10 x11 x13 x14 Tr E F Nm h)
    · refine g_aload_n (pc' := 482) C dL_holds_481 rfl rfl ?_
      refine g_iload (pc' := 484) C dL_holds_482 rfl rfl ?_
      refine g_iconst (pc' := 485) (v := 5) C dL_holds_484 (by decide) rfl ?_
      refine k_X5_note (pc' := 488) C pa N Tn B Tr E F x9 (5 : Int32) [0, 1, 3, 4, 5] rfl (by decide) gL_holds_X5_note ⟨Nat.le_of_ble_eq_true rfl, Nat.le_of_ble_eq_true rfl⟩ (Nat.le_of_ble_eq_true rfl) rfl dL_holds_485 rfl h (fun r1 Tr1 E1 F1 h => ?_)
      show G X _ [ntW pa Tn, bdW (gcA X) (pa 1) B, hsW (gcA X) (pa 2) (fun j => pa (10 + j)) Hs, bdW (gcA X) (pa 5) Tr1, heW (gcA X) (pa 6) E1, heW (gcA X) (pa 7) F1, nmW (gcA X) (pa 8) Nm] _ _ _
      refine g_if_le (pc' := 491) (tgt := 572) C dL_holds_488 (by decide) rfl h (fun c h => ?_) (fun c h => ?_)
      · exact G_loc (lle_s (lle_s (lle_s (lle_s (lle_s (lle_s (lle_s (lle_s (lle_n (lle_n (lle_n (lle_n (lle_n (lle_n (lle_n (lle_n lle_0)))))))))))))))) (B_L_holds_572 C pa N Tn B Hs p1 r Trz Ez Fz Nmz x2 x3 x4 x5 x6 x7 Tr1 E1 F1 Nm h)
      · exact G_loc (lle_s (lle_s (lle_s (lle_s (lle_s (lle_s (lle_s (lle_s (lle_n (lle_s (lle_s (lle_s (lle_n (lle_s (lle_s (lle_n lle_0)))))))))))))))) (B_L_holds_491 C pa N Tn B Hs p1 r Trz Ez Fz Nmz x2 x3 x4 x5 x6 x7 x9 x10 x11 x13 x14 Tr1 E1 F1 Nm h)
set_option maxRecDepth 100000 in
set_option maxHeartbeats 4000000 in
theorem B_L_holds_450 {X : gX} (C : cx X RL cL_holds 16 (some .boolean) wsL_holds 7 156) (pa : Nat → Nat → Nat) (N : Nat) (Tn : tS) (B : tS) (Hs : tH) (p1 : Int32) (r : Int32) (Trz : tS) (Ez : tS) (Fz : tS) (Nmz : tS)  (x2 : Int32) (x3 : Int32) (x4 : Int32) (x5 : Int32) (x6 : Int32) (x7 : Int32) (x9 : Int32) (x10 : Int32) (x11 : Int32) (x13 : Int32) (x14 : Int32) (t0 : Int32) (Tr : tS) (E : tS) (F : tS) (Nm : tS) (h : f_L_holds_450 N Tn B Hs p1  x2 x3 x4 x5 x6 x7 x9 x10 x11 x13 x14 t0 Tr E F Nm = some (r, Trz, Ez, Fz, Nmz)) : G X (QI X r [ntW pa Tn, bdW (gcA X) (pa 1) B, hsW (gcA X) (pa 2) (fun j => pa (10 + j)) Hs, bdW (gcA X) (pa 5) Trz, heW (gcA X) (pa 6) Ez, heW (gcA X) (pa 7) Fz, nmW (gcA X) (pa 8) Nmz]) [ntW pa Tn, bdW (gcA X) (pa 1) B, hsW (gcA X) (pa 2) (fun j => pa (10 + j)) Hs, bdW (gcA X) (pa 5) Tr, heW (gcA X) (pa 6) E, heW (gcA X) (pa 7) F, nmW (gcA X) (pa 8) Nm] [some (.ref (pa 0 0)), some (.int p1), some (.int x2), some (.int x3), some (.int x4), some (.int x5), some (.int x6), some (.int x7), none, some (.int x9), some (.int x10), some (.int x11), none, some (.int x13), some (.int x14), none] [.int t0] 450 := by
  unfold f_L_holds_450 at h
  refine g_istore (pc' := 452) C dL_holds_450 (Nat.le_of_ble_eq_true rfl) rfl (L' := [some (.ref (pa 0 0)), some (.int p1), some (.int x2), some (.int x3), some (.int x4), some (.int x5), some (.int x6), some (.int x7), none, some (.int x9), some (.int x10), some (.int x11), none, some (.int x13), some (.int x14), some (.int t0)]) rfl ?_
  refine g_iload (pc' := 454) C dL_holds_452 rfl rfl ?_
  refine g_if_eq (pc' := 457) (tgt := 469) C dL_holds_454 (by decide) rfl h (fun c h => ?_) (fun c h => ?_)
  · exact G_loc (lle_s (lle_s (lle_s (lle_s (lle_s (lle_s (lle_s (lle_s (lle_n (lle_s (lle_s (lle_s (lle_n (lle_s (lle_s (lle_s lle_0)))))))))))))))) (B_L_holds_469 C pa N Tn B Hs p1 r Trz Ez Fz Nmz x2 x3 x4 x5 x6 x7 x9 x10 x11 x13 x14 t0 Tr E F Nm h)
  · refine g_aload_n (pc' := 458) C dL_holds_457 rfl rfl ?_
    refine g_iload (pc' := 460) C dL_holds_458 rfl rfl ?_
    refine g_iconst (pc' := 461) (v := 3) C dL_holds_460 (by decide) rfl ?_
    refine k_X5_note (pc' := 464) C pa N Tn B Tr E F x10 (3 : Int32) [0, 1, 3, 4, 5] rfl (by decide) gL_holds_X5_note ⟨Nat.le_of_ble_eq_true rfl, Nat.le_of_ble_eq_true rfl⟩ (Nat.le_of_ble_eq_true rfl) rfl dL_holds_461 rfl h (fun r1 Tr1 E1 F1 h => ?_)
    show G X _ [ntW pa Tn, bdW (gcA X) (pa 1) B, hsW (gcA X) (pa 2) (fun j => pa (10 + j)) Hs, bdW (gcA X) (pa 5) Tr1, heW (gcA X) (pa 6) E1, heW (gcA X) (pa 7) F1, nmW (gcA X) (pa 8) Nm] _ _ _
    refine g_iload (pc' := 466) C dL_holds_464 rfl rfl ?_
    refine g_icmp_ne (pc' := 469) (tgt := 572) C dL_holds_466 (by decide) rfl h (fun c h => ?_) (fun c h => ?_)
    · exact G_loc (lle_s (lle_s (lle_s (lle_s (lle_s (lle_s (lle_s (lle_s (lle_n (lle_s (lle_s (lle_s (lle_n (lle_s (lle_s (lle_s lle_0)))))))))))))))) (B_L_holds_469 C pa N Tn B Hs p1 r Trz Ez Fz Nmz x2 x3 x4 x5 x6 x7 x9 x10 x11 x13 x14 t0 Tr1 E1 F1 Nm h)
    · exact G_loc (lle_s (lle_s (lle_s (lle_s (lle_s (lle_s (lle_s (lle_s (lle_n (lle_n (lle_n (lle_n (lle_n (lle_n (lle_n (lle_n lle_0)))))))))))))))) (B_L_holds_572 C pa N Tn B Hs p1 r Trz Ez Fz Nmz x2 x3 x4 x5 x6 x7 Tr1 E1 F1 Nm h)
set_option maxRecDepth 100000 in
set_option maxHeartbeats 4000000 in
theorem B_L_holds_419 {X : gX} (C : cx X RL cL_holds 16 (some .boolean) wsL_holds 7 156) (pa : Nat → Nat → Nat) (N : Nat) (Tn : tS) (B : tS) (Hs : tH) (p1 : Int32) (r : Int32) (Trz : tS) (Ez : tS) (Fz : tS) (Nmz : tS) (k358 : Int32 → Int32 → Int32 → Int32 → Int32 → Int32 → Int32 → Int32 → Int32 → Int32 → Int32 → Int32 → Int32 → tS → tS → tS → tS → Option (Int32 × tS × tS × tS × tS)) (hk358 : ∀ (x2 : Int32) (x3 : Int32) (x4 : Int32) (x5 : Int32) (x6 : Int32) (x7 : Int32) (x9 : Int32) (x10 : Int32) (x11 : Int32) (x12 : Int32) (x13 : Int32) (x14 : Int32) (x15 : Int32) (Tr : tS) (E : tS) (F : tS) (Nm : tS), k358 x2 x3 x4 x5 x6 x7 x9 x10 x11 x12 x13 x14 x15 Tr E F Nm = some (r, Trz, Ez, Fz, Nmz) → G X (QI X r [ntW pa Tn, bdW (gcA X) (pa 1) B, hsW (gcA X) (pa 2) (fun j => pa (10 + j)) Hs, bdW (gcA X) (pa 5) Trz, heW (gcA X) (pa 6) Ez, heW (gcA X) (pa 7) Fz, nmW (gcA X) (pa 8) Nmz]) [ntW pa Tn, bdW (gcA X) (pa 1) B, hsW (gcA X) (pa 2) (fun j => pa (10 + j)) Hs, bdW (gcA X) (pa 5) Tr, heW (gcA X) (pa 6) E, heW (gcA X) (pa 7) F, nmW (gcA X) (pa 8) Nm] [some (.ref (pa 0 0)), some (.int p1), some (.int x2), some (.int x3), some (.int x4), some (.int x5), some (.int x6), some (.int x7), none, some (.int x9), some (.int x10), some (.int x11), some (.int x12), some (.int x13), some (.int x14), some (.int x15)] [] 358) (x2 : Int32) (x3 : Int32) (x4 : Int32) (x5 : Int32) (x6 : Int32) (x7 : Int32) (x9 : Int32) (x10 : Int32) (x11 : Int32) (x12 : Int32) (x13 : Int32) (x15 : Int32) (t0 : Int32) (t1 : Int32) (Tr : tS) (E : tS) (F : tS) (Nm : tS) (h : f_L_holds_419 N Tn B Hs p1 k358 x2 x3 x4 x5 x6 x7 x9 x10 x11 x12 x13 x15 t0 t1 Tr E F Nm = some (r, Trz, Ez, Fz, Nmz)) : G X (QI X r [ntW pa Tn, bdW (gcA X) (pa 1) B, hsW (gcA X) (pa 2) (fun j => pa (10 + j)) Hs, bdW (gcA X) (pa 5) Trz, heW (gcA X) (pa 6) Ez, heW (gcA X) (pa 7) Fz, nmW (gcA X) (pa 8) Nmz]) [ntW pa Tn, bdW (gcA X) (pa 1) B, hsW (gcA X) (pa 2) (fun j => pa (10 + j)) Hs, bdW (gcA X) (pa 5) Tr, heW (gcA X) (pa 6) E, heW (gcA X) (pa 7) F, nmW (gcA X) (pa 8) Nm] [some (.ref (pa 0 0)), some (.int p1), some (.int x2), some (.int x3), some (.int x4), some (.int x5), some (.int x6), some (.int x7), none, some (.int x9), some (.int x10), some (.int x11), some (.int x12), some (.int x13), none, some (.int x15)] [.int t0, .int t1] 419 := by
  unfold f_L_holds_419 at h
  refine g_iadd (pc' := 420) C dL_holds_419 rfl ?_
  refine g_istore (pc' := 422) C dL_holds_420 (Nat.le_of_ble_eq_true rfl) rfl (L' := [some (.ref (pa 0 0)), some (.int p1), some (.int x2), some (.int x3), some (.int x4), some (.int x5), some (.int x6), some (.int x7), none, some (.int x9), some (.int x10), some (.int x11), some (.int x12), some (.int x13), some (.int (t1 + t0)), some (.int x15)]) rfl ?_
  refine g_iinc (pc' := 425) (v := (x15 + 1)) C dL_holds_422 rfl rfl rfl (L' := [some (.ref (pa 0 0)), some (.int p1), some (.int x2), some (.int x3), some (.int x4), some (.int x5), some (.int x6), some (.int x7), none, some (.int x9), some (.int x10), some (.int x11), some (.int x12), some (.int x13), some (.int (t1 + t0)), some (.int (x15 + 1))]) rfl ?_
  refine g_goto (pc' := 358) C dL_holds_425 (by decide) ?_
  exact G_loc (lle_s (lle_s (lle_s (lle_s (lle_s (lle_s (lle_s (lle_s (lle_n (lle_s (lle_s (lle_s (lle_s (lle_s (lle_s (lle_s lle_0)))))))))))))))) (hk358 x2 x3 x4 x5 x6 x7 x9 x10 x11 x12 x13 (t1 + t0) (x15 + 1) Tr E F Nm h)
set_option maxRecDepth 100000 in
set_option maxHeartbeats 4000000 in
theorem B_L_holds_390 {X : gX} (C : cx X RL cL_holds 16 (some .boolean) wsL_holds 7 156) (pa : Nat → Nat → Nat) (N : Nat) (Tn : tS) (B : tS) (Hs : tH) (p1 : Int32) (r : Int32) (Trz : tS) (Ez : tS) (Fz : tS) (Nmz : tS) (k358 : Int32 → Int32 → Int32 → Int32 → Int32 → Int32 → Int32 → Int32 → Int32 → Int32 → Int32 → Int32 → Int32 → tS → tS → tS → tS → Option (Int32 × tS × tS × tS × tS)) (hk358 : ∀ (x2 : Int32) (x3 : Int32) (x4 : Int32) (x5 : Int32) (x6 : Int32) (x7 : Int32) (x9 : Int32) (x10 : Int32) (x11 : Int32) (x12 : Int32) (x13 : Int32) (x14 : Int32) (x15 : Int32) (Tr : tS) (E : tS) (F : tS) (Nm : tS), k358 x2 x3 x4 x5 x6 x7 x9 x10 x11 x12 x13 x14 x15 Tr E F Nm = some (r, Trz, Ez, Fz, Nmz) → G X (QI X r [ntW pa Tn, bdW (gcA X) (pa 1) B, hsW (gcA X) (pa 2) (fun j => pa (10 + j)) Hs, bdW (gcA X) (pa 5) Trz, heW (gcA X) (pa 6) Ez, heW (gcA X) (pa 7) Fz, nmW (gcA X) (pa 8) Nmz]) [ntW pa Tn, bdW (gcA X) (pa 1) B, hsW (gcA X) (pa 2) (fun j => pa (10 + j)) Hs, bdW (gcA X) (pa 5) Tr, heW (gcA X) (pa 6) E, heW (gcA X) (pa 7) F, nmW (gcA X) (pa 8) Nm] [some (.ref (pa 0 0)), some (.int p1), some (.int x2), some (.int x3), some (.int x4), some (.int x5), some (.int x6), some (.int x7), none, some (.int x9), some (.int x10), some (.int x11), some (.int x12), some (.int x13), some (.int x14), some (.int x15)] [] 358) (x2 : Int32) (x3 : Int32) (x4 : Int32) (x5 : Int32) (x6 : Int32) (x7 : Int32) (x9 : Int32) (x10 : Int32) (x11 : Int32) (x12 : Int32) (x14 : Int32) (x15 : Int32) (t0 : Int32) (t1 : Int32) (Tr : tS) (E : tS) (F : tS) (Nm : tS) (h : f_L_holds_390 N Tn B Hs p1 k358 x2 x3 x4 x5 x6 x7 x9 x10 x11 x12 x14 x15 t0 t1 Tr E F Nm = some (r, Trz, Ez, Fz, Nmz)) : G X (QI X r [ntW pa Tn, bdW (gcA X) (pa 1) B, hsW (gcA X) (pa 2) (fun j => pa (10 + j)) Hs, bdW (gcA X) (pa 5) Trz, heW (gcA X) (pa 6) Ez, heW (gcA X) (pa 7) Fz, nmW (gcA X) (pa 8) Nmz]) [ntW pa Tn, bdW (gcA X) (pa 1) B, hsW (gcA X) (pa 2) (fun j => pa (10 + j)) Hs, bdW (gcA X) (pa 5) Tr, heW (gcA X) (pa 6) E, heW (gcA X) (pa 7) F, nmW (gcA X) (pa 8) Nm] [some (.ref (pa 0 0)), some (.int p1), some (.int x2), some (.int x3), some (.int x4), some (.int x5), some (.int x6), some (.int x7), none, some (.int x9), some (.int x10), some (.int x11), some (.int x12), none, some (.int x14), some (.int x15)] [.int t0, .int t1] 390 := by
  unfold f_L_holds_390 at h
  refine g_iadd (pc' := 391) C dL_holds_390 rfl ?_
  refine g_istore (pc' := 393) C dL_holds_391 (Nat.le_of_ble_eq_true rfl) rfl (L' := [some (.ref (pa 0 0)), some (.int p1), some (.int x2), some (.int x3), some (.int x4), some (.int x5), some (.int x6), some (.int x7), none, some (.int x9), some (.int x10), some (.int x11), some (.int x12), some (.int (t1 + t0)), some (.int x14), some (.int x15)]) rfl ?_
  refine g_iload (pc' := 395) C dL_holds_393 rfl rfl ?_
  refine g_aload_n (pc' := 396) C dL_holds_395 rfl rfl ?_
  refine g_iload (pc' := 398) C dL_holds_396 rfl rfl ?_
  refine g_iconst (pc' := 399) (v := 3) C dL_holds_398 (by decide) rfl ?_
  refine k_X5_note (pc' := 402) C pa N Tn B Tr E F x15 (3 : Int32) [0, 1, 3, 4, 5] rfl (by decide) gL_holds_X5_note ⟨Nat.le_of_ble_eq_true rfl, Nat.le_of_ble_eq_true rfl⟩ (Nat.le_of_ble_eq_true rfl) rfl dL_holds_399 rfl h (fun r1 Tr1 E1 F1 h => ?_)
  show G X _ [ntW pa Tn, bdW (gcA X) (pa 1) B, hsW (gcA X) (pa 2) (fun j => pa (10 + j)) Hs, bdW (gcA X) (pa 5) Tr1, heW (gcA X) (pa 6) E1, heW (gcA X) (pa 7) F1, nmW (gcA X) (pa 8) Nm] _ _ _
  refine g_iload (pc' := 404) C dL_holds_402 rfl rfl ?_
  refine g_icmp_ne (pc' := 407) (tgt := 418) C dL_holds_404 (by decide) rfl h (fun c h => ?_) (fun c h => ?_)
  · refine g_aload_n (pc' := 408) C dL_holds_407 rfl rfl ?_
    refine g_iload (pc' := 410) C dL_holds_408 rfl rfl ?_
    refine g_iload (pc' := 412) C dL_holds_410 rfl rfl ?_
    refine k_L_far (pc' := 415) C pa N Tn B Tr1 E1 F1 x15 x12 [0, 1, 3, 4, 5] rfl (by decide) gL_holds_L_far ⟨Nat.le_of_ble_eq_true rfl, Nat.le_of_ble_eq_true rfl⟩ (Nat.le_of_ble_eq_true rfl) rfl dL_holds_412 rfl h (fun r2 Tr2 E2 F2 h => ?_)
    show G X _ [ntW pa Tn, bdW (gcA X) (pa 1) B, hsW (gcA X) (pa 2) (fun j => pa (10 + j)) Hs, bdW (gcA X) (pa 5) Tr2, heW (gcA X) (pa 6) E2, heW (gcA X) (pa 7) F2, nmW (gcA X) (pa 8) Nm] _ _ _
    refine g_goto (pc' := 419) C dL_holds_415 (by decide) ?_
    exact G_loc (lle_s (lle_s (lle_s (lle_s (lle_s (lle_s (lle_s (lle_s (lle_n (lle_s (lle_s (lle_s (lle_s (lle_s (lle_n (lle_s lle_0)))))))))))))))) (B_L_holds_419 C pa N Tn B Hs p1 r Trz Ez Fz Nmz k358 hk358 x2 x3 x4 x5 x6 x7 x9 x10 x11 x12 (t1 + t0) x15 r2 x14 Tr2 E2 F2 Nm h)
  · refine g_iconst (pc' := 419) (v := 0) C dL_holds_418 (by decide) rfl ?_
    exact G_loc (lle_s (lle_s (lle_s (lle_s (lle_s (lle_s (lle_s (lle_s (lle_n (lle_s (lle_s (lle_s (lle_s (lle_s (lle_n (lle_s lle_0)))))))))))))))) (B_L_holds_419 C pa N Tn B Hs p1 r Trz Ez Fz Nmz k358 hk358 x2 x3 x4 x5 x6 x7 x9 x10 x11 x12 (t1 + t0) x15 (0 : Int32) x14 Tr1 E1 F1 Nm h)
set_option maxRecDepth 100000 in
set_option maxHeartbeats 4000000 in
theorem B_L_holds_358b {X : gX} (C : cx X RL cL_holds 16 (some .boolean) wsL_holds 7 156) (pa : Nat → Nat → Nat) (N : Nat) (Tn : tS) (B : tS) (Hs : tH) (p1 : Int32) (r : Int32) (Trz : tS) (Ez : tS) (Fz : tS) (Nmz : tS)  (k358 : Int32 → Int32 → Int32 → Int32 → Int32 → Int32 → Int32 → Int32 → Int32 → Int32 → Int32 → Int32 → Int32 → tS → tS → tS → tS → Option (Int32 × tS × tS × tS × tS)) (hk358 : ∀ (x2 : Int32) (x3 : Int32) (x4 : Int32) (x5 : Int32) (x6 : Int32) (x7 : Int32) (x9 : Int32) (x10 : Int32) (x11 : Int32) (x12 : Int32) (x13 : Int32) (x14 : Int32) (x15 : Int32) (Tr : tS) (E : tS) (F : tS) (Nm : tS), k358 x2 x3 x4 x5 x6 x7 x9 x10 x11 x12 x13 x14 x15 Tr E F Nm = some (r, Trz, Ez, Fz, Nmz) → G X (QI X r [ntW pa Tn, bdW (gcA X) (pa 1) B, hsW (gcA X) (pa 2) (fun j => pa (10 + j)) Hs, bdW (gcA X) (pa 5) Trz, heW (gcA X) (pa 6) Ez, heW (gcA X) (pa 7) Fz, nmW (gcA X) (pa 8) Nmz]) [ntW pa Tn, bdW (gcA X) (pa 1) B, hsW (gcA X) (pa 2) (fun j => pa (10 + j)) Hs, bdW (gcA X) (pa 5) Tr, heW (gcA X) (pa 6) E, heW (gcA X) (pa 7) F, nmW (gcA X) (pa 8) Nm] [some (.ref (pa 0 0)), some (.int p1), some (.int x2), some (.int x3), some (.int x4), some (.int x5), some (.int x6), some (.int x7), none, some (.int x9), some (.int x10), some (.int x11), some (.int x12), some (.int x13), some (.int x14), some (.int x15)] [] 358) (x2 : Int32) (x3 : Int32) (x4 : Int32) (x5 : Int32) (x6 : Int32) (x7 : Int32) (x9 : Int32) (x10 : Int32) (x11 : Int32) (x12 : Int32) (x13 : Int32) (x14 : Int32) (x15 : Int32) (Tr : tS) (E : tS) (F : tS) (Nm : tS) (h : f_L_holds_358b N Tn B Hs p1  k358 x2 x3 x4 x5 x6 x7 x9 x10 x11 x12 x13 x14 x15 Tr E F Nm = some (r, Trz, Ez, Fz, Nmz)) : G X (QI X r [ntW pa Tn, bdW (gcA X) (pa 1) B, hsW (gcA X) (pa 2) (fun j => pa (10 + j)) Hs, bdW (gcA X) (pa 5) Trz, heW (gcA X) (pa 6) Ez, heW (gcA X) (pa 7) Fz, nmW (gcA X) (pa 8) Nmz]) [ntW pa Tn, bdW (gcA X) (pa 1) B, hsW (gcA X) (pa 2) (fun j => pa (10 + j)) Hs, bdW (gcA X) (pa 5) Tr, heW (gcA X) (pa 6) E, heW (gcA X) (pa 7) F, nmW (gcA X) (pa 8) Nm] [some (.ref (pa 0 0)), some (.int p1), some (.int x2), some (.int x3), some (.int x4), some (.int x5), some (.int x6), some (.int x7), none, some (.int x9), some (.int x10), some (.int x11), some (.int x12), some (.int x13), some (.int x14), some (.int x15)] [] 358 := by
  unfold f_L_holds_358b at h
  refine g_iload (pc' := 360) C dL_holds_358 rfl rfl ?_
  refine g_iload_n (pc' := 361) C dL_holds_360 rfl rfl ?_
  refine g_icmp_ge (pc' := 364) (tgt := 428) C dL_holds_361 (by decide) rfl h (fun c h => ?_) (fun c h => ?_)
  · refine g_aload_n (pc' := 429) C dL_holds_428 rfl rfl ?_
    refine g_iload (pc' := 431) C dL_holds_429 rfl rfl ?_
    refine g_iload (pc' := 433) C dL_holds_431 rfl rfl ?_
    refine k_L_far (pc' := 436) C pa N Tn B Tr E F x9 x10 [0, 1, 3, 4, 5] rfl (by decide) gL_holds_L_far ⟨Nat.le_of_ble_eq_true rfl, Nat.le_of_ble_eq_true rfl⟩ (Nat.le_of_ble_eq_true rfl) rfl dL_holds_433 rfl h (fun r1 Tr1 E1 F1 h => ?_)
    show G X _ [ntW pa Tn, bdW (gcA X) (pa 1) B, hsW (gcA X) (pa 2) (fun j => pa (10 + j)) Hs, bdW (gcA X) (pa 5) Tr1, heW (gcA X) (pa 6) E1, heW (gcA X) (pa 7) F1, nmW (gcA X) (pa 8) Nm] _ _ _
    refine g_aload_n (pc' := 437) C dL_holds_436 rfl rfl ?_
    refine g_bipush (pc' := 439) (v := 8) C dL_holds_437 (by decide) rfl ?_
    refine k_X5_count (pc' := 442) C pa N Tn B Hs E1 Nm (8 : Int32) [0, 1, 2, 4, 6] rfl (by decide) gL_holds_X5_count ⟨Nat.le_of_ble_eq_true rfl, Nat.le_of_ble_eq_true rfl⟩ (Nat.le_of_ble_eq_true rfl) rfl dL_holds_439 rfl h (fun r2 E2 Nm2 h => ?_)
    show G X _ [ntW pa Tn, bdW (gcA X) (pa 1) B, hsW (gcA X) (pa 2) (fun j => pa (10 + j)) Hs, bdW (gcA X) (pa 5) Tr1, heW (gcA X) (pa 6) E2, heW (gcA X) (pa 7) F1, nmW (gcA X) (pa 8) Nm2] _ _ _
    refine g_icmp_gt (pc' := 445) (tgt := 449) C dL_holds_442 (by decide) rfl h (fun c h => ?_) (fun c h => ?_)
    · refine g_iconst (pc' := 450) (v := 0) C dL_holds_449 (by decide) rfl ?_
      exact G_loc (lle_s (lle_s (lle_s (lle_s (lle_s (lle_s (lle_s (lle_s (lle_n (lle_s (lle_s (lle_s (lle_n (lle_s (lle_s (lle_n lle_0)))))))))))))))) (B_L_holds_450 C pa N Tn B Hs p1 r Trz Ez Fz Nmz x2 x3 x4 x5 x6 x7 x9 x10 x11 x13 x14 (0 : Int32) Tr1 E2 F1 Nm2 h)
    · refine g_iconst (pc' := 446) (v := 1) C dL_holds_445 (by decide) rfl ?_
      refine g_goto (pc' := 450) C dL_holds_446 (by decide) ?_
      exact G_loc (lle_s (lle_s (lle_s (lle_s (lle_s (lle_s (lle_s (lle_s (lle_n (lle_s (lle_s (lle_s (lle_n (lle_s (lle_s (lle_n lle_0)))))))))))))))) (B_L_holds_450 C pa N Tn B Hs p1 r Trz Ez Fz Nmz x2 x3 x4 x5 x6 x7 x9 x10 x11 x13 x14 (1 : Int32) Tr1 E2 F1 Nm2 h)
  · refine g_iload (pc' := 366) C dL_holds_364 rfl rfl ?_
    refine g_aload_n (pc' := 367) C dL_holds_366 rfl rfl ?_
    refine g_iload (pc' := 369) C dL_holds_367 rfl rfl ?_
    refine g_iconst (pc' := 370) (v := 3) C dL_holds_369 (by decide) rfl ?_
    refine k_X5_note (pc' := 373) C pa N Tn B Tr E F x15 (3 : Int32) [0, 1, 3, 4, 5] rfl (by decide) gL_holds_X5_note ⟨Nat.le_of_ble_eq_true rfl, Nat.le_of_ble_eq_true rfl⟩ (Nat.le_of_ble_eq_true rfl) rfl dL_holds_370 rfl h (fun r3 Tr3 E3 F3 h => ?_)
    show G X _ [ntW pa Tn, bdW (gcA X) (pa 1) B, hsW (gcA X) (pa 2) (fun j => pa (10 + j)) Hs, bdW (gcA X) (pa 5) Tr3, heW (gcA X) (pa 6) E3, heW (gcA X) (pa 7) F3, nmW (gcA X) (pa 8) Nm] _ _ _
    refine g_iload (pc' := 375) C dL_holds_373 rfl rfl ?_
    refine g_icmp_ne (pc' := 378) (tgt := 389) C dL_holds_375 (by decide) rfl h (fun c h => ?_) (fun c h => ?_)
    · refine g_aload_n (pc' := 379) C dL_holds_378 rfl rfl ?_
      refine g_iload (pc' := 381) C dL_holds_379 rfl rfl ?_
      refine g_iload (pc' := 383) C dL_holds_381 rfl rfl ?_
      refine k_L_far (pc' := 386) C pa N Tn B Tr3 E3 F3 x15 x9 [0, 1, 3, 4, 5] rfl (by decide) gL_holds_L_far ⟨Nat.le_of_ble_eq_true rfl, Nat.le_of_ble_eq_true rfl⟩ (Nat.le_of_ble_eq_true rfl) rfl dL_holds_383 rfl h (fun r4 Tr4 E4 F4 h => ?_)
      show G X _ [ntW pa Tn, bdW (gcA X) (pa 1) B, hsW (gcA X) (pa 2) (fun j => pa (10 + j)) Hs, bdW (gcA X) (pa 5) Tr4, heW (gcA X) (pa 6) E4, heW (gcA X) (pa 7) F4, nmW (gcA X) (pa 8) Nm] _ _ _
      refine g_goto (pc' := 390) C dL_holds_386 (by decide) ?_
      exact G_loc (lle_s (lle_s (lle_s (lle_s (lle_s (lle_s (lle_s (lle_s (lle_n (lle_s (lle_s (lle_s (lle_s (lle_n (lle_s (lle_s lle_0)))))))))))))))) (B_L_holds_390 C pa N Tn B Hs p1 r Trz Ez Fz Nmz k358 hk358 x2 x3 x4 x5 x6 x7 x9 x10 x11 x12 x14 x15 r4 x13 Tr4 E4 F4 Nm h)
    · refine g_iconst (pc' := 390) (v := 0) C dL_holds_389 (by decide) rfl ?_
      exact G_loc (lle_s (lle_s (lle_s (lle_s (lle_s (lle_s (lle_s (lle_s (lle_n (lle_s (lle_s (lle_s (lle_s (lle_n (lle_s (lle_s lle_0)))))))))))))))) (B_L_holds_390 C pa N Tn B Hs p1 r Trz Ez Fz Nmz k358 hk358 x2 x3 x4 x5 x6 x7 x9 x10 x11 x12 x14 x15 (0 : Int32) x13 Tr3 E3 F3 Nm h)
set_option maxRecDepth 100000 in
set_option maxHeartbeats 4000000 in
theorem L_L_holds_358 {X : gX} (C : cx X RL cL_holds 16 (some .boolean) wsL_holds 7 156) (pa : Nat → Nat → Nat) (N : Nat) (Tn : tS) (B : tS) (Hs : tH) (p1 : Int32) (r : Int32) (Trz : tS) (Ez : tS) (Fz : tS) (Nmz : tS)  : ∀ (n : Nat) (x2 : Int32) (x3 : Int32) (x4 : Int32) (x5 : Int32) (x6 : Int32) (x7 : Int32) (x9 : Int32) (x10 : Int32) (x11 : Int32) (x12 : Int32) (x13 : Int32) (x14 : Int32) (x15 : Int32) (Tr : tS) (E : tS) (F : tS) (Nm : tS), f_L_holds_358 N Tn B Hs p1  n x2 x3 x4 x5 x6 x7 x9 x10 x11 x12 x13 x14 x15 Tr E F Nm = some (r, Trz, Ez, Fz, Nmz) → G X (QI X r [ntW pa Tn, bdW (gcA X) (pa 1) B, hsW (gcA X) (pa 2) (fun j => pa (10 + j)) Hs, bdW (gcA X) (pa 5) Trz, heW (gcA X) (pa 6) Ez, heW (gcA X) (pa 7) Fz, nmW (gcA X) (pa 8) Nmz]) [ntW pa Tn, bdW (gcA X) (pa 1) B, hsW (gcA X) (pa 2) (fun j => pa (10 + j)) Hs, bdW (gcA X) (pa 5) Tr, heW (gcA X) (pa 6) E, heW (gcA X) (pa 7) F, nmW (gcA X) (pa 8) Nm] [some (.ref (pa 0 0)), some (.int p1), some (.int x2), some (.int x3), some (.int x4), some (.int x5), some (.int x6), some (.int x7), none, some (.int x9), some (.int x10), some (.int x11), some (.int x12), some (.int x13), some (.int x14), some (.int x15)] [] 358 := by
  intro n
  induction n with
  | zero => intro x2 x3 x4 x5 x6 x7 x9 x10 x11 x12 x13 x14 x15 Tr E F Nm h; have h : (none : Option (Int32 × tS × tS × tS × tS)) = some (r, Trz, Ez, Fz, Nmz) := h; cases h
  | succ n ih => intro x2 x3 x4 x5 x6 x7 x9 x10 x11 x12 x13 x14 x15 Tr E F Nm h; exact B_L_holds_358b C pa N Tn B Hs p1 r Trz Ez Fz Nmz  (f_L_holds_358 N Tn B Hs p1  n) ih x2 x3 x4 x5 x6 x7 x9 x10 x11 x12 x13 x14 x15 Tr E F Nm h
set_option maxRecDepth 100000 in
set_option maxHeartbeats 4000000 in
theorem B_L_holds_306 {X : gX} (C : cx X RL cL_holds 16 (some .boolean) wsL_holds 7 156) (pa : Nat → Nat → Nat) (N : Nat) (Tn : tS) (B : tS) (Hs : tH) (p1 : Int32) (r : Int32) (Trz : tS) (Ez : tS) (Fz : tS) (Nmz : tS)  (x2 : Int32) (x3 : Int32) (x4 : Int32) (x5 : Int32) (x6 : Int32) (x7 : Int32) (x8 : Int32) (Tr : tS) (E : tS) (F : tS) (Nm : tS) (h : f_L_holds_306 N Tn B Hs p1  x2 x3 x4 x5 x6 x7 x8 Tr E F Nm = some (r, Trz, Ez, Fz, Nmz)) : G X (QI X r [ntW pa Tn, bdW (gcA X) (pa 1) B, hsW (gcA X) (pa 2) (fun j => pa (10 + j)) Hs, bdW (gcA X) (pa 5) Trz, heW (gcA X) (pa 6) Ez, heW (gcA X) (pa 7) Fz, nmW (gcA X) (pa 8) Nmz]) [ntW pa Tn, bdW (gcA X) (pa 1) B, hsW (gcA X) (pa 2) (fun j => pa (10 + j)) Hs, bdW (gcA X) (pa 5) Tr, heW (gcA X) (pa 6) E, heW (gcA X) (pa 7) F, nmW (gcA X) (pa 8) Nm] [some (.ref (pa 0 0)), some (.int p1), some (.int x2), some (.int x3), some (.int x4), some (.int x5), some (.int x6), some (.int x7), some (.int x8), none, none, none, none, none, none, none] [] 306 := by
  unfold f_L_holds_306 at h
  refine g_iload (pc' := 308) C dL_holds_306 rfl rfl ?_
  refine g_if_eq (pc' := 311) (tgt := 575) C dL_holds_308 (by decide) rfl h (fun c h => ?_) (fun c h => ?_)
  · exact G_loc (lle_s (lle_s (lle_s (lle_s (lle_s (lle_s (lle_s (lle_s (lle_s (lle_n (lle_n (lle_n (lle_n (lle_n (lle_n (lle_n lle_0)))))))))))))))) (B_L_holds_575 C pa N Tn B Hs p1 r Trz Ez Fz Nmz x2 x3 x4 x5 x6 x7 x8 Tr E F Nm h)
  · refine g_iload_n (pc' := 312) C dL_holds_311 rfl rfl ?_
    refine g_if_le (pc' := 315) (tgt := 575) C dL_holds_312 (by decide) rfl h (fun c h => ?_) (fun c h => ?_)
    · exact G_loc (lle_s (lle_s (lle_s (lle_s (lle_s (lle_s (lle_s (lle_s (lle_s (lle_n (lle_n (lle_n (lle_n (lle_n (lle_n (lle_n lle_0)))))))))))))))) (B_L_holds_575 C pa N Tn B Hs p1 r Trz Ez Fz Nmz x2 x3 x4 x5 x6 x7 x8 Tr E F Nm h)
    · refine g_iload_n (pc' := 316) C dL_holds_315 rfl rfl ?_
      refine g_iload_n (pc' := 317) C dL_holds_316 rfl rfl ?_
      refine k_L_low (pc' := 320) C N p1 x2 [] rfl (by decide) gL_holds_L_low ⟨Nat.le_of_ble_eq_true rfl, Nat.le_of_ble_eq_true rfl⟩ (Nat.le_of_ble_eq_true rfl) rfl dL_holds_317 rfl h (fun r1 h => ?_)
      refine g_istore (pc' := 322) C dL_holds_320 (Nat.le_of_ble_eq_true rfl) rfl (L' := [some (.ref (pa 0 0)), some (.int p1), some (.int x2), some (.int x3), some (.int x4), some (.int x5), some (.int x6), some (.int x7), some (.int x8), some (.int r1), none, none, none, none, none, none]) rfl ?_
      refine g_iload_n (pc' := 323) C dL_holds_322 rfl rfl ?_
      refine g_iconst (pc' := 324) (v := 5) C dL_holds_323 (by decide) rfl ?_
      refine g_ishr (pc' := 325) C dL_holds_324 rfl ?_
      refine g_iload_n (pc' := 326) C dL_holds_325 rfl rfl ?_
      refine k_L_low (pc' := 329) C N (p1 >>> ((5 : Int32) &&& 31)) x2 [] rfl (by decide) gL_holds_L_low ⟨Nat.le_of_ble_eq_true rfl, Nat.le_of_ble_eq_true rfl⟩ (Nat.le_of_ble_eq_true rfl) rfl dL_holds_326 rfl h (fun r2 h => ?_)
      refine g_istore (pc' := 331) C dL_holds_329 (Nat.le_of_ble_eq_true rfl) rfl (L' := [some (.ref (pa 0 0)), some (.int p1), some (.int x2), some (.int x3), some (.int x4), some (.int x5), some (.int x6), some (.int x7), some (.int x8), some (.int r1), some (.int r2), none, none, none, none, none]) rfl ?_
      refine g_aload_n (pc' := 332) C dL_holds_331 rfl rfl ?_
      refine g_iload (pc' := 334) C dL_holds_332 rfl rfl ?_
      refine g_iconst (pc' := 335) (v := 3) C dL_holds_334 (by decide) rfl ?_
      refine k_X5_note (pc' := 338) C pa N Tn B Tr E F r1 (3 : Int32) [0, 1, 3, 4, 5] rfl (by decide) gL_holds_X5_note ⟨Nat.le_of_ble_eq_true rfl, Nat.le_of_ble_eq_true rfl⟩ (Nat.le_of_ble_eq_true rfl) rfl dL_holds_335 rfl h (fun r3 Tr3 E3 F3 h => ?_)
      show G X _ [ntW pa Tn, bdW (gcA X) (pa 1) B, hsW (gcA X) (pa 2) (fun j => pa (10 + j)) Hs, bdW (gcA X) (pa 5) Tr3, heW (gcA X) (pa 6) E3, heW (gcA X) (pa 7) F3, nmW (gcA X) (pa 8) Nm] _ _ _
      refine g_istore (pc' := 340) C dL_holds_338 (Nat.le_of_ble_eq_true rfl) rfl (L' := [some (.ref (pa 0 0)), some (.int p1), some (.int x2), some (.int x3), some (.int x4), some (.int x5), some (.int x6), some (.int x7), some (.int x8), some (.int r1), some (.int r2), some (.int r3), none, none, none, none]) rfl ?_
      refine g_aload_n (pc' := 341) C dL_holds_340 rfl rfl ?_
      refine g_iload (pc' := 343) C dL_holds_341 rfl rfl ?_
      refine g_iconst (pc' := 344) (v := 5) C dL_holds_343 (by decide) rfl ?_
      refine k_X5_heap (pc' := 347) C pa N Tn B E3 r3 (5 : Int32) [0, 1, 4] rfl (by decide) gL_holds_X5_heap ⟨Nat.le_of_ble_eq_true rfl, Nat.le_of_ble_eq_true rfl⟩ (Nat.le_of_ble_eq_true rfl) rfl dL_holds_344 rfl h (fun r4 E4 h => ?_)
      show G X _ [ntW pa Tn, bdW (gcA X) (pa 1) B, hsW (gcA X) (pa 2) (fun j => pa (10 + j)) Hs, bdW (gcA X) (pa 5) Tr3, heW (gcA X) (pa 6) E4, heW (gcA X) (pa 7) F3, nmW (gcA X) (pa 8) Nm] _ _ _
      refine g_istore (pc' := 349) C dL_holds_347 (Nat.le_of_ble_eq_true rfl) rfl (L' := [some (.ref (pa 0 0)), some (.int p1), some (.int x2), some (.int x3), some (.int x4), some (.int x5), some (.int x6), some (.int x7), some (.int x8), some (.int r1), some (.int r2), some (.int r3), some (.int r4), none, none, none]) rfl ?_
      refine g_iconst (pc' := 350) (v := 0) C dL_holds_349 (by decide) rfl ?_
      refine g_istore (pc' := 352) C dL_holds_350 (Nat.le_of_ble_eq_true rfl) rfl (L' := [some (.ref (pa 0 0)), some (.int p1), some (.int x2), some (.int x3), some (.int x4), some (.int x5), some (.int x6), some (.int x7), some (.int x8), some (.int r1), some (.int r2), some (.int r3), some (.int r4), some (.int (0 : Int32)), none, none]) rfl ?_
      refine g_iconst (pc' := 353) (v := 0) C dL_holds_352 (by decide) rfl ?_
      refine g_istore (pc' := 355) C dL_holds_353 (Nat.le_of_ble_eq_true rfl) rfl (L' := [some (.ref (pa 0 0)), some (.int p1), some (.int x2), some (.int x3), some (.int x4), some (.int x5), some (.int x6), some (.int x7), some (.int x8), some (.int r1), some (.int r2), some (.int r3), some (.int r4), some (.int (0 : Int32)), some (.int (0 : Int32)), none]) rfl ?_
      refine g_iconst (pc' := 356) (v := 0) C dL_holds_355 (by decide) rfl ?_
      refine g_istore (pc' := 358) C dL_holds_356 (Nat.le_of_ble_eq_true rfl) rfl (L' := [some (.ref (pa 0 0)), some (.int p1), some (.int x2), some (.int x3), some (.int x4), some (.int x5), some (.int x6), some (.int x7), some (.int x8), some (.int r1), some (.int r2), some (.int r3), some (.int r4), some (.int (0 : Int32)), some (.int (0 : Int32)), some (.int (0 : Int32))]) rfl ?_
      exact G_loc (lle_s (lle_s (lle_s (lle_s (lle_s (lle_s (lle_s (lle_s (lle_n (lle_s (lle_s (lle_s (lle_s (lle_s (lle_s (lle_s lle_0)))))))))))))))) (L_L_holds_358 C pa N Tn B Hs p1 r Trz Ez Fz Nmz N x2 x3 x4 x5 x6 x7 r1 r2 r3 r4 (0 : Int32) (0 : Int32) (0 : Int32) Tr3 E4 F3 Nm h)
set_option maxRecDepth 100000 in
set_option maxHeartbeats 4000000 in
theorem B_L_holds_298 {X : gX} (C : cx X RL cL_holds 16 (some .boolean) wsL_holds 7 156) (pa : Nat → Nat → Nat) (N : Nat) (Tn : tS) (B : tS) (Hs : tH) (p1 : Int32) (r : Int32) (Trz : tS) (Ez : tS) (Fz : tS) (Nmz : tS) (k164 : Int32 → Int32 → Int32 → Int32 → Int32 → Int32 → Int32 → Int32 → tS → tS → tS → tS → Option (Int32 × tS × tS × tS × tS)) (hk164 : ∀ (x2 : Int32) (x3 : Int32) (x4 : Int32) (x5 : Int32) (x6 : Int32) (x7 : Int32) (x8 : Int32) (x9 : Int32) (Tr : tS) (E : tS) (F : tS) (Nm : tS), k164 x2 x3 x4 x5 x6 x7 x8 x9 Tr E F Nm = some (r, Trz, Ez, Fz, Nmz) → G X (QI X r [ntW pa Tn, bdW (gcA X) (pa 1) B, hsW (gcA X) (pa 2) (fun j => pa (10 + j)) Hs, bdW (gcA X) (pa 5) Trz, heW (gcA X) (pa 6) Ez, heW (gcA X) (pa 7) Fz, nmW (gcA X) (pa 8) Nmz]) [ntW pa Tn, bdW (gcA X) (pa 1) B, hsW (gcA X) (pa 2) (fun j => pa (10 + j)) Hs, bdW (gcA X) (pa 5) Tr, heW (gcA X) (pa 6) E, heW (gcA X) (pa 7) F, nmW (gcA X) (pa 8) Nm] [some (.ref (pa 0 0)), some (.int p1), some (.int x2), some (.int x3), some (.int x4), some (.int x5), some (.int x6), some (.int x7), some (.int x8), some (.int x9), none, none, none, none, none, none] [] 164) (x2 : Int32) (x3 : Int32) (x4 : Int32) (x5 : Int32) (x6 : Int32) (x7 : Int32) (x9 : Int32) (t0 : Int32) (Tr : tS) (E : tS) (F : tS) (Nm : tS) (h : f_L_holds_298 N Tn B Hs p1 k164 x2 x3 x4 x5 x6 x7 x9 t0 Tr E F Nm = some (r, Trz, Ez, Fz, Nmz)) : G X (QI X r [ntW pa Tn, bdW (gcA X) (pa 1) B, hsW (gcA X) (pa 2) (fun j => pa (10 + j)) Hs, bdW (gcA X) (pa 5) Trz, heW (gcA X) (pa 6) Ez, heW (gcA X) (pa 7) Fz, nmW (gcA X) (pa 8) Nmz]) [ntW pa Tn, bdW (gcA X) (pa 1) B, hsW (gcA X) (pa 2) (fun j => pa (10 + j)) Hs, bdW (gcA X) (pa 5) Tr, heW (gcA X) (pa 6) E, heW (gcA X) (pa 7) F, nmW (gcA X) (pa 8) Nm] [some (.ref (pa 0 0)), some (.int p1), some (.int x2), some (.int x3), some (.int x4), some (.int x5), some (.int x6), some (.int x7), none, some (.int x9), none, none, none, none, none, none] [.int t0] 298 := by
  unfold f_L_holds_298 at h
  refine g_istore (pc' := 300) C dL_holds_298 (Nat.le_of_ble_eq_true rfl) rfl (L' := [some (.ref (pa 0 0)), some (.int p1), some (.int x2), some (.int x3), some (.int x4), some (.int x5), some (.int x6), some (.int x7), some (.int t0), some (.int x9), none, none, none, none, none, none]) rfl ?_
  refine g_iinc (pc' := 303) (v := (x9 + 1)) C dL_holds_300 rfl rfl rfl (L' := [some (.ref (pa 0 0)), some (.int p1), some (.int x2), some (.int x3), some (.int x4), some (.int x5), some (.int x6), some (.int x7), some (.int t0), some (.int (x9 + 1)), none, none, none, none, none, none]) rfl ?_
  refine g_goto (pc' := 164) C dL_holds_303 (by decide) ?_
  exact G_loc (lle_s (lle_s (lle_s (lle_s (lle_s (lle_s (lle_s (lle_s (lle_s (lle_s (lle_n (lle_n (lle_n (lle_n (lle_n (lle_n lle_0)))))))))))))))) (hk164 x2 x3 x4 x5 x6 x7 t0 (x9 + 1) Tr E F Nm h)
set_option maxRecDepth 100000 in
set_option maxHeartbeats 4000000 in
theorem B_L_holds_297 {X : gX} (C : cx X RL cL_holds 16 (some .boolean) wsL_holds 7 156) (pa : Nat → Nat → Nat) (N : Nat) (Tn : tS) (B : tS) (Hs : tH) (p1 : Int32) (r : Int32) (Trz : tS) (Ez : tS) (Fz : tS) (Nmz : tS) (k164 : Int32 → Int32 → Int32 → Int32 → Int32 → Int32 → Int32 → Int32 → tS → tS → tS → tS → Option (Int32 × tS × tS × tS × tS)) (hk164 : ∀ (x2 : Int32) (x3 : Int32) (x4 : Int32) (x5 : Int32) (x6 : Int32) (x7 : Int32) (x8 : Int32) (x9 : Int32) (Tr : tS) (E : tS) (F : tS) (Nm : tS), k164 x2 x3 x4 x5 x6 x7 x8 x9 Tr E F Nm = some (r, Trz, Ez, Fz, Nmz) → G X (QI X r [ntW pa Tn, bdW (gcA X) (pa 1) B, hsW (gcA X) (pa 2) (fun j => pa (10 + j)) Hs, bdW (gcA X) (pa 5) Trz, heW (gcA X) (pa 6) Ez, heW (gcA X) (pa 7) Fz, nmW (gcA X) (pa 8) Nmz]) [ntW pa Tn, bdW (gcA X) (pa 1) B, hsW (gcA X) (pa 2) (fun j => pa (10 + j)) Hs, bdW (gcA X) (pa 5) Tr, heW (gcA X) (pa 6) E, heW (gcA X) (pa 7) F, nmW (gcA X) (pa 8) Nm] [some (.ref (pa 0 0)), some (.int p1), some (.int x2), some (.int x3), some (.int x4), some (.int x5), some (.int x6), some (.int x7), some (.int x8), some (.int x9), none, none, none, none, none, none] [] 164) (x2 : Int32) (x3 : Int32) (x4 : Int32) (x5 : Int32) (x6 : Int32) (x7 : Int32) (x9 : Int32) (Tr : tS) (E : tS) (F : tS) (Nm : tS) (h : f_L_holds_297 N Tn B Hs p1 k164 x2 x3 x4 x5 x6 x7 x9 Tr E F Nm = some (r, Trz, Ez, Fz, Nmz)) : G X (QI X r [ntW pa Tn, bdW (gcA X) (pa 1) B, hsW (gcA X) (pa 2) (fun j => pa (10 + j)) Hs, bdW (gcA X) (pa 5) Trz, heW (gcA X) (pa 6) Ez, heW (gcA X) (pa 7) Fz, nmW (gcA X) (pa 8) Nmz]) [ntW pa Tn, bdW (gcA X) (pa 1) B, hsW (gcA X) (pa 2) (fun j => pa (10 + j)) Hs, bdW (gcA X) (pa 5) Tr, heW (gcA X) (pa 6) E, heW (gcA X) (pa 7) F, nmW (gcA X) (pa 8) Nm] [some (.ref (pa 0 0)), some (.int p1), some (.int x2), some (.int x3), some (.int x4), some (.int x5), some (.int x6), some (.int x7), none, some (.int x9), none, none, none, none, none, none] [] 297 := by
  unfold f_L_holds_297 at h
  refine g_iconst (pc' := 298) (v := 0) C dL_holds_297 (by decide) rfl ?_
  exact G_loc (lle_s (lle_s (lle_s (lle_s (lle_s (lle_s (lle_s (lle_s (lle_n (lle_s (lle_n (lle_n (lle_n (lle_n (lle_n (lle_n lle_0)))))))))))))))) (B_L_holds_298 C pa N Tn B Hs p1 r Trz Ez Fz Nmz k164 hk164 x2 x3 x4 x5 x6 x7 x9 (0 : Int32) Tr E F Nm h)
set_option maxRecDepth 100000 in
set_option maxHeartbeats 4000000 in
theorem B_L_holds_293 {X : gX} (C : cx X RL cL_holds 16 (some .boolean) wsL_holds 7 156) (pa : Nat → Nat → Nat) (N : Nat) (Tn : tS) (B : tS) (Hs : tH) (p1 : Int32) (r : Int32) (Trz : tS) (Ez : tS) (Fz : tS) (Nmz : tS) (k164 : Int32 → Int32 → Int32 → Int32 → Int32 → Int32 → Int32 → Int32 → tS → tS → tS → tS → Option (Int32 × tS × tS × tS × tS)) (hk164 : ∀ (x2 : Int32) (x3 : Int32) (x4 : Int32) (x5 : Int32) (x6 : Int32) (x7 : Int32) (x8 : Int32) (x9 : Int32) (Tr : tS) (E : tS) (F : tS) (Nm : tS), k164 x2 x3 x4 x5 x6 x7 x8 x9 Tr E F Nm = some (r, Trz, Ez, Fz, Nmz) → G X (QI X r [ntW pa Tn, bdW (gcA X) (pa 1) B, hsW (gcA X) (pa 2) (fun j => pa (10 + j)) Hs, bdW (gcA X) (pa 5) Trz, heW (gcA X) (pa 6) Ez, heW (gcA X) (pa 7) Fz, nmW (gcA X) (pa 8) Nmz]) [ntW pa Tn, bdW (gcA X) (pa 1) B, hsW (gcA X) (pa 2) (fun j => pa (10 + j)) Hs, bdW (gcA X) (pa 5) Tr, heW (gcA X) (pa 6) E, heW (gcA X) (pa 7) F, nmW (gcA X) (pa 8) Nm] [some (.ref (pa 0 0)), some (.int p1), some (.int x2), some (.int x3), some (.int x4), some (.int x5), some (.int x6), some (.int x7), some (.int x8), some (.int x9), none, none, none, none, none, none] [] 164) (x2 : Int32) (x3 : Int32) (x4 : Int32) (x5 : Int32) (x6 : Int32) (x7 : Int32) (x9 : Int32) (Tr : tS) (E : tS) (F : tS) (Nm : tS) (h : f_L_holds_293 N Tn B Hs p1 k164 x2 x3 x4 x5 x6 x7 x9 Tr E F Nm = some (r, Trz, Ez, Fz, Nmz)) : G X (QI X r [ntW pa Tn, bdW (gcA X) (pa 1) B, hsW (gcA X) (pa 2) (fun j => pa (10 + j)) Hs, bdW (gcA X) (pa 5) Trz, heW (gcA X) (pa 6) Ez, heW (gcA X) (pa 7) Fz, nmW (gcA X) (pa 8) Nmz]) [ntW pa Tn, bdW (gcA X) (pa 1) B, hsW (gcA X) (pa 2) (fun j => pa (10 + j)) Hs, bdW (gcA X) (pa 5) Tr, heW (gcA X) (pa 6) E, heW (gcA X) (pa 7) F, nmW (gcA X) (pa 8) Nm] [some (.ref (pa 0 0)), some (.int p1), some (.int x2), some (.int x3), some (.int x4), some (.int x5), some (.int x6), some (.int x7), none, some (.int x9), none, none, none, none, none, none] [] 293 := by
  unfold f_L_holds_293 at h
  refine g_iconst (pc' := 294) (v := 1) C dL_holds_293 (by decide) rfl ?_
  refine g_goto (pc' := 298) C dL_holds_294 (by decide) ?_
  exact G_loc (lle_s (lle_s (lle_s (lle_s (lle_s (lle_s (lle_s (lle_s (lle_n (lle_s (lle_n (lle_n (lle_n (lle_n (lle_n (lle_n lle_0)))))))))))))))) (B_L_holds_298 C pa N Tn B Hs p1 r Trz Ez Fz Nmz k164 hk164 x2 x3 x4 x5 x6 x7 x9 (1 : Int32) Tr E F Nm h)
set_option maxRecDepth 100000 in
set_option maxHeartbeats 4000000 in
theorem B_L_holds_227 {X : gX} (C : cx X RL cL_holds 16 (some .boolean) wsL_holds 7 156) (pa : Nat → Nat → Nat) (N : Nat) (Tn : tS) (B : tS) (Hs : tH) (p1 : Int32) (r : Int32) (Trz : tS) (Ez : tS) (Fz : tS) (Nmz : tS) (k164 : Int32 → Int32 → Int32 → Int32 → Int32 → Int32 → Int32 → Int32 → tS → tS → tS → tS → Option (Int32 × tS × tS × tS × tS)) (hk164 : ∀ (x2 : Int32) (x3 : Int32) (x4 : Int32) (x5 : Int32) (x6 : Int32) (x7 : Int32) (x8 : Int32) (x9 : Int32) (Tr : tS) (E : tS) (F : tS) (Nm : tS), k164 x2 x3 x4 x5 x6 x7 x8 x9 Tr E F Nm = some (r, Trz, Ez, Fz, Nmz) → G X (QI X r [ntW pa Tn, bdW (gcA X) (pa 1) B, hsW (gcA X) (pa 2) (fun j => pa (10 + j)) Hs, bdW (gcA X) (pa 5) Trz, heW (gcA X) (pa 6) Ez, heW (gcA X) (pa 7) Fz, nmW (gcA X) (pa 8) Nmz]) [ntW pa Tn, bdW (gcA X) (pa 1) B, hsW (gcA X) (pa 2) (fun j => pa (10 + j)) Hs, bdW (gcA X) (pa 5) Tr, heW (gcA X) (pa 6) E, heW (gcA X) (pa 7) F, nmW (gcA X) (pa 8) Nm] [some (.ref (pa 0 0)), some (.int p1), some (.int x2), some (.int x3), some (.int x4), some (.int x5), some (.int x6), some (.int x7), some (.int x8), some (.int x9), none, none, none, none, none, none] [] 164) (x2 : Int32) (x3 : Int32) (x4 : Int32) (x5 : Int32) (x7 : Int32) (x9 : Int32) (x10 : Int32) (t0 : Int32) (t1 : Int32) (Tr : tS) (E : tS) (F : tS) (Nm : tS) (h : f_L_holds_227 N Tn B Hs p1 k164 x2 x3 x4 x5 x7 x9 x10 t0 t1 Tr E F Nm = some (r, Trz, Ez, Fz, Nmz)) : G X (QI X r [ntW pa Tn, bdW (gcA X) (pa 1) B, hsW (gcA X) (pa 2) (fun j => pa (10 + j)) Hs, bdW (gcA X) (pa 5) Trz, heW (gcA X) (pa 6) Ez, heW (gcA X) (pa 7) Fz, nmW (gcA X) (pa 8) Nmz]) [ntW pa Tn, bdW (gcA X) (pa 1) B, hsW (gcA X) (pa 2) (fun j => pa (10 + j)) Hs, bdW (gcA X) (pa 5) Tr, heW (gcA X) (pa 6) E, heW (gcA X) (pa 7) F, nmW (gcA X) (pa 8) Nm] [some (.ref (pa 0 0)), some (.int p1), some (.int x2), some (.int x3), some (.int x4), some (.int x5), none, some (.int x7), none, some (.int x9), some (.int x10), none, none, none, none, none] [.int t0, .int t1] 227 := by
  unfold f_L_holds_227 at h
  refine g_iadd (pc' := 228) C dL_holds_227 rfl ?_
  refine g_istore (pc' := 230) C dL_holds_228 (Nat.le_of_ble_eq_true rfl) rfl (L' := [some (.ref (pa 0 0)), some (.int p1), some (.int x2), some (.int x3), some (.int x4), some (.int x5), some (.int (t1 + t0)), some (.int x7), none, some (.int x9), some (.int x10), none, none, none, none, none]) rfl ?_
  refine g_iload (pc' := 232) C dL_holds_230 rfl rfl ?_
  refine g_aload_n (pc' := 233) C dL_holds_232 rfl rfl ?_
  refine g_iload (pc' := 235) C dL_holds_233 rfl rfl ?_
  refine g_iconst (pc' := 236) (v := 5) C dL_holds_235 (by decide) rfl ?_
  refine k_X5_theme (pc' := 239) C pa N Tn B E Nm x9 (5 : Int32) [0, 1, 4, 6] rfl (by decide) gL_holds_X5_theme ⟨Nat.le_of_ble_eq_true rfl, Nat.le_of_ble_eq_true rfl⟩ (Nat.le_of_ble_eq_true rfl) rfl dL_holds_236 rfl h (fun r1 E1 Nm1 h => ?_)
  show G X _ [ntW pa Tn, bdW (gcA X) (pa 1) B, hsW (gcA X) (pa 2) (fun j => pa (10 + j)) Hs, bdW (gcA X) (pa 5) Tr, heW (gcA X) (pa 6) E1, heW (gcA X) (pa 7) F, nmW (gcA X) (pa 8) Nm1] _ _ _
  refine g_icmp_ne (pc' := 242) (tgt := 297) C dL_holds_239 (by decide) rfl h (fun c h => ?_) (fun c h => ?_)
  · refine g_aload_n (pc' := 243) C dL_holds_242 rfl rfl ?_
    refine g_iload (pc' := 245) C dL_holds_243 rfl rfl ?_
    refine g_iconst (pc' := 246) (v := 0) C dL_holds_245 (by decide) rfl ?_
    refine k_X5_theme (pc' := 249) C pa N Tn B E1 Nm1 x9 (0 : Int32) [0, 1, 4, 6] rfl (by decide) gL_holds_X5_theme ⟨Nat.le_of_ble_eq_true rfl, Nat.le_of_ble_eq_true rfl⟩ (Nat.le_of_ble_eq_true rfl) rfl dL_holds_246 rfl h (fun r2 E2 Nm2 h => ?_)
    show G X _ [ntW pa Tn, bdW (gcA X) (pa 1) B, hsW (gcA X) (pa 2) (fun j => pa (10 + j)) Hs, bdW (gcA X) (pa 5) Tr, heW (gcA X) (pa 6) E2, heW (gcA X) (pa 7) F, nmW (gcA X) (pa 8) Nm2] _ _ _
    refine g_if_le (pc' := 252) (tgt := 297) C dL_holds_249 (by decide) rfl h (fun c h => ?_) (fun c h => ?_)
    · exact G_loc (lle_s (lle_s (lle_s (lle_s (lle_s (lle_s (lle_s (lle_s (lle_n (lle_s (lle_n (lle_n (lle_n (lle_n (lle_n (lle_n lle_0)))))))))))))))) (B_L_holds_297 C pa N Tn B Hs p1 r Trz Ez Fz Nmz k164 hk164 x2 x3 x4 x5 (t1 + t0) x7 x9 Tr E2 F Nm2 h)
    · refine g_aload_n (pc' := 253) C dL_holds_252 rfl rfl ?_
      refine g_iload (pc' := 255) C dL_holds_253 rfl rfl ?_
      refine g_iconst (pc' := 256) (v := 3) C dL_holds_255 (by decide) rfl ?_
      refine k_X5_theme (pc' := 259) C pa N Tn B E2 Nm2 x9 (3 : Int32) [0, 1, 4, 6] rfl (by decide) gL_holds_X5_theme ⟨Nat.le_of_ble_eq_true rfl, Nat.le_of_ble_eq_true rfl⟩ (Nat.le_of_ble_eq_true rfl) rfl dL_holds_256 rfl h (fun r3 E3 Nm3 h => ?_)
      show G X _ [ntW pa Tn, bdW (gcA X) (pa 1) B, hsW (gcA X) (pa 2) (fun j => pa (10 + j)) Hs, bdW (gcA X) (pa 5) Tr, heW (gcA X) (pa 6) E3, heW (gcA X) (pa 7) F, nmW (gcA X) (pa 8) Nm3] _ _ _
      refine g_if_lt (pc' := 262) (tgt := 297) C dL_holds_259 (by decide) rfl h (fun c h => ?_) (fun c h => ?_)
      · exact G_loc (lle_s (lle_s (lle_s (lle_s (lle_s (lle_s (lle_s (lle_s (lle_n (lle_s (lle_n (lle_n (lle_n (lle_n (lle_n (lle_n lle_0)))))))))))))))) (B_L_holds_297 C pa N Tn B Hs p1 r Trz Ez Fz Nmz k164 hk164 x2 x3 x4 x5 (t1 + t0) x7 x9 Tr E3 F Nm3 h)
      · refine g_aload_n (pc' := 263) C dL_holds_262 rfl rfl ?_
        refine g_iload (pc' := 265) C dL_holds_263 rfl rfl ?_
        refine g_iconst (pc' := 266) (v := 3) C dL_holds_265 (by decide) rfl ?_
        refine k_X5_theme (pc' := 269) C pa N Tn B E3 Nm3 x9 (3 : Int32) [0, 1, 4, 6] rfl (by decide) gL_holds_X5_theme ⟨Nat.le_of_ble_eq_true rfl, Nat.le_of_ble_eq_true rfl⟩ (Nat.le_of_ble_eq_true rfl) rfl dL_holds_266 rfl h (fun r4 E4 Nm4 h => ?_)
        show G X _ [ntW pa Tn, bdW (gcA X) (pa 1) B, hsW (gcA X) (pa 2) (fun j => pa (10 + j)) Hs, bdW (gcA X) (pa 5) Tr, heW (gcA X) (pa 6) E4, heW (gcA X) (pa 7) F, nmW (gcA X) (pa 8) Nm4] _ _ _
        refine g_iload (pc' := 271) C dL_holds_269 rfl rfl ?_
        refine g_icmp_ge (pc' := 274) (tgt := 297) C dL_holds_271 (by decide) rfl h (fun c h => ?_) (fun c h => ?_)
        · exact G_loc (lle_s (lle_s (lle_s (lle_s (lle_s (lle_s (lle_s (lle_s (lle_n (lle_s (lle_n (lle_n (lle_n (lle_n (lle_n (lle_n lle_0)))))))))))))))) (B_L_holds_297 C pa N Tn B Hs p1 r Trz Ez Fz Nmz k164 hk164 x2 x3 x4 x5 (t1 + t0) x7 x9 Tr E4 F Nm4 h)
        · refine g_aload_n (pc' := 275) C dL_holds_274 rfl rfl ?_
          refine g_iload (pc' := 277) C dL_holds_275 rfl rfl ?_
          refine g_iconst (pc' := 278) (v := 2) C dL_holds_277 (by decide) rfl ?_
          refine k_X5_theme (pc' := 281) C pa N Tn B E4 Nm4 x9 (2 : Int32) [0, 1, 4, 6] rfl (by decide) gL_holds_X5_theme ⟨Nat.le_of_ble_eq_true rfl, Nat.le_of_ble_eq_true rfl⟩ (Nat.le_of_ble_eq_true rfl) rfl dL_holds_278 rfl h (fun r5 E5 Nm5 h => ?_)
          show G X _ [ntW pa Tn, bdW (gcA X) (pa 1) B, hsW (gcA X) (pa 2) (fun j => pa (10 + j)) Hs, bdW (gcA X) (pa 5) Tr, heW (gcA X) (pa 6) E5, heW (gcA X) (pa 7) F, nmW (gcA X) (pa 8) Nm5] _ _ _
          refine g_bipush (pc' := 283) (v := -5) C dL_holds_281 (by decide) rfl ?_
          refine g_icmp_ne (pc' := 286) (tgt := 293) C dL_holds_283 (by decide) rfl h (fun c h => ?_) (fun c h => ?_)
          · refine g_iload (pc' := 288) C dL_holds_286 rfl rfl ?_
            refine g_bipush (pc' := 290) (v := 6) C dL_holds_288 (by decide) rfl ?_
            refine g_icmp_gt (pc' := 293) (tgt := 297) C dL_holds_290 (by decide) rfl h (fun c h => ?_) (fun c h => ?_)
            · exact G_loc (lle_s (lle_s (lle_s (lle_s (lle_s (lle_s (lle_s (lle_s (lle_n (lle_s (lle_n (lle_n (lle_n (lle_n (lle_n (lle_n lle_0)))))))))))))))) (B_L_holds_297 C pa N Tn B Hs p1 r Trz Ez Fz Nmz k164 hk164 x2 x3 x4 x5 (t1 + t0) x7 x9 Tr E5 F Nm5 h)
            · exact G_loc (lle_s (lle_s (lle_s (lle_s (lle_s (lle_s (lle_s (lle_s (lle_n (lle_s (lle_n (lle_n (lle_n (lle_n (lle_n (lle_n lle_0)))))))))))))))) (B_L_holds_293 C pa N Tn B Hs p1 r Trz Ez Fz Nmz k164 hk164 x2 x3 x4 x5 (t1 + t0) x7 x9 Tr E5 F Nm5 h)
          · exact G_loc (lle_s (lle_s (lle_s (lle_s (lle_s (lle_s (lle_s (lle_s (lle_n (lle_s (lle_n (lle_n (lle_n (lle_n (lle_n (lle_n lle_0)))))))))))))))) (B_L_holds_293 C pa N Tn B Hs p1 r Trz Ez Fz Nmz k164 hk164 x2 x3 x4 x5 (t1 + t0) x7 x9 Tr E5 F Nm5 h)
  · exact G_loc (lle_s (lle_s (lle_s (lle_s (lle_s (lle_s (lle_s (lle_s (lle_n (lle_s (lle_n (lle_n (lle_n (lle_n (lle_n (lle_n lle_0)))))))))))))))) (B_L_holds_297 C pa N Tn B Hs p1 r Trz Ez Fz Nmz k164 hk164 x2 x3 x4 x5 (t1 + t0) x7 x9 Tr E1 F Nm1 h)
set_option maxRecDepth 100000 in
set_option maxHeartbeats 4000000 in
theorem B_L_holds_182b {X : gX} (C : cx X RL cL_holds 16 (some .boolean) wsL_holds 7 156) (pa : Nat → Nat → Nat) (N : Nat) (Tn : tS) (B : tS) (Hs : tH) (p1 : Int32) (r : Int32) (Trz : tS) (Ez : tS) (Fz : tS) (Nmz : tS) (k164 : Int32 → Int32 → Int32 → Int32 → Int32 → Int32 → Int32 → Int32 → tS → tS → tS → tS → Option (Int32 × tS × tS × tS × tS)) (hk164 : ∀ (x2 : Int32) (x3 : Int32) (x4 : Int32) (x5 : Int32) (x6 : Int32) (x7 : Int32) (x8 : Int32) (x9 : Int32) (Tr : tS) (E : tS) (F : tS) (Nm : tS), k164 x2 x3 x4 x5 x6 x7 x8 x9 Tr E F Nm = some (r, Trz, Ez, Fz, Nmz) → G X (QI X r [ntW pa Tn, bdW (gcA X) (pa 1) B, hsW (gcA X) (pa 2) (fun j => pa (10 + j)) Hs, bdW (gcA X) (pa 5) Trz, heW (gcA X) (pa 6) Ez, heW (gcA X) (pa 7) Fz, nmW (gcA X) (pa 8) Nmz]) [ntW pa Tn, bdW (gcA X) (pa 1) B, hsW (gcA X) (pa 2) (fun j => pa (10 + j)) Hs, bdW (gcA X) (pa 5) Tr, heW (gcA X) (pa 6) E, heW (gcA X) (pa 7) F, nmW (gcA X) (pa 8) Nm] [some (.ref (pa 0 0)), some (.int p1), some (.int x2), some (.int x3), some (.int x4), some (.int x5), some (.int x6), some (.int x7), some (.int x8), some (.int x9), none, none, none, none, none, none] [] 164) (k182 : Int32 → Int32 → Int32 → Int32 → Int32 → Int32 → Int32 → Int32 → Int32 → tS → tS → tS → tS → Option (Int32 × tS × tS × tS × tS)) (hk182 : ∀ (x2 : Int32) (x3 : Int32) (x4 : Int32) (x5 : Int32) (x6 : Int32) (x7 : Int32) (x9 : Int32) (x10 : Int32) (x11 : Int32) (Tr : tS) (E : tS) (F : tS) (Nm : tS), k182 x2 x3 x4 x5 x6 x7 x9 x10 x11 Tr E F Nm = some (r, Trz, Ez, Fz, Nmz) → G X (QI X r [ntW pa Tn, bdW (gcA X) (pa 1) B, hsW (gcA X) (pa 2) (fun j => pa (10 + j)) Hs, bdW (gcA X) (pa 5) Trz, heW (gcA X) (pa 6) Ez, heW (gcA X) (pa 7) Fz, nmW (gcA X) (pa 8) Nmz]) [ntW pa Tn, bdW (gcA X) (pa 1) B, hsW (gcA X) (pa 2) (fun j => pa (10 + j)) Hs, bdW (gcA X) (pa 5) Tr, heW (gcA X) (pa 6) E, heW (gcA X) (pa 7) F, nmW (gcA X) (pa 8) Nm] [some (.ref (pa 0 0)), some (.int p1), some (.int x2), some (.int x3), some (.int x4), some (.int x5), some (.int x6), some (.int x7), none, some (.int x9), some (.int x10), some (.int x11), none, none, none, none] [] 182) (x2 : Int32) (x3 : Int32) (x4 : Int32) (x5 : Int32) (x6 : Int32) (x7 : Int32) (x9 : Int32) (x10 : Int32) (x11 : Int32) (Tr : tS) (E : tS) (F : tS) (Nm : tS) (h : f_L_holds_182b N Tn B Hs p1 k164 k182 x2 x3 x4 x5 x6 x7 x9 x10 x11 Tr E F Nm = some (r, Trz, Ez, Fz, Nmz)) : G X (QI X r [ntW pa Tn, bdW (gcA X) (pa 1) B, hsW (gcA X) (pa 2) (fun j => pa (10 + j)) Hs, bdW (gcA X) (pa 5) Trz, heW (gcA X) (pa 6) Ez, heW (gcA X) (pa 7) Fz, nmW (gcA X) (pa 8) Nmz]) [ntW pa Tn, bdW (gcA X) (pa 1) B, hsW (gcA X) (pa 2) (fun j => pa (10 + j)) Hs, bdW (gcA X) (pa 5) Tr, heW (gcA X) (pa 6) E, heW (gcA X) (pa 7) F, nmW (gcA X) (pa 8) Nm] [some (.ref (pa 0 0)), some (.int p1), some (.int x2), some (.int x3), some (.int x4), some (.int x5), some (.int x6), some (.int x7), none, some (.int x9), some (.int x10), some (.int x11), none, none, none, none] [] 182 := by
  unfold f_L_holds_182b at h
  refine g_iload (pc' := 184) C dL_holds_182 rfl rfl ?_
  refine g_bipush (pc' := 186) (v := 10) C dL_holds_184 (by decide) rfl ?_
  refine g_icmp_ge (pc' := 189) (tgt := 208) C dL_holds_186 (by decide) rfl h (fun c h => ?_) (fun c h => ?_)
  · refine g_iload (pc' := 210) C dL_holds_208 rfl rfl ?_
    refine g_aload_n (pc' := 211) C dL_holds_210 rfl rfl ?_
    refine g_iload (pc' := 213) C dL_holds_211 rfl rfl ?_
    refine g_iconst (pc' := 214) (v := 2) C dL_holds_213 (by decide) rfl ?_
    refine k_X5_theme (pc' := 217) C pa N Tn B E Nm x9 (2 : Int32) [0, 1, 4, 6] rfl (by decide) gL_holds_X5_theme ⟨Nat.le_of_ble_eq_true rfl, Nat.le_of_ble_eq_true rfl⟩ (Nat.le_of_ble_eq_true rfl) rfl dL_holds_214 rfl h (fun r1 E1 Nm1 h => ?_)
    show G X _ [ntW pa Tn, bdW (gcA X) (pa 1) B, hsW (gcA X) (pa 2) (fun j => pa (10 + j)) Hs, bdW (gcA X) (pa 5) Tr, heW (gcA X) (pa 6) E1, heW (gcA X) (pa 7) F, nmW (gcA X) (pa 8) Nm1] _ _ _
    refine g_bipush (pc' := 219) (v := -5) C dL_holds_217 (by decide) rfl ?_
    refine g_icmp_ne (pc' := 222) (tgt := 226) C dL_holds_219 (by decide) rfl h (fun c h => ?_) (fun c h => ?_)
    · refine g_iconst (pc' := 223) (v := 0) C dL_holds_222 (by decide) rfl ?_
      refine g_goto (pc' := 227) C dL_holds_223 (by decide) ?_
      exact G_loc (lle_s (lle_s (lle_s (lle_s (lle_s (lle_s (lle_n (lle_s (lle_n (lle_s (lle_s (lle_n (lle_n (lle_n (lle_n (lle_n lle_0)))))))))))))))) (B_L_holds_227 C pa N Tn B Hs p1 r Trz Ez Fz Nmz k164 hk164 x2 x3 x4 x5 x7 x9 x10 (0 : Int32) x6 Tr E1 F Nm1 h)
    · refine g_iconst (pc' := 227) (v := 1) C dL_holds_226 (by decide) rfl ?_
      exact G_loc (lle_s (lle_s (lle_s (lle_s (lle_s (lle_s (lle_n (lle_s (lle_n (lle_s (lle_s (lle_n (lle_n (lle_n (lle_n (lle_n lle_0)))))))))))))))) (B_L_holds_227 C pa N Tn B Hs p1 r Trz Ez Fz Nmz k164 hk164 x2 x3 x4 x5 x7 x9 x10 (1 : Int32) x6 Tr E1 F Nm1 h)
  · refine g_iload (pc' := 191) C dL_holds_189 rfl rfl ?_
    refine g_aload_n (pc' := 192) C dL_holds_191 rfl rfl ?_
    refine g_iload (pc' := 194) C dL_holds_192 rfl rfl ?_
    refine g_iload (pc' := 196) C dL_holds_194 rfl rfl ?_
    refine k_X5_votes (pc' := 199) C pa N Tn B x9 x11 [0, 1] rfl (by decide) gL_holds_X5_votes ⟨Nat.le_of_ble_eq_true rfl, Nat.le_of_ble_eq_true rfl⟩ (Nat.le_of_ble_eq_true rfl) rfl dL_holds_196 rfl h (fun r2 h => ?_)
    refine g_iadd (pc' := 200) C dL_holds_199 rfl ?_
    refine g_istore (pc' := 202) C dL_holds_200 (Nat.le_of_ble_eq_true rfl) rfl (L' := [some (.ref (pa 0 0)), some (.int p1), some (.int x2), some (.int x3), some (.int x4), some (.int x5), some (.int x6), some (.int x7), none, some (.int x9), some (.int (x10 + r2)), some (.int x11), none, none, none, none]) rfl ?_
    refine g_iinc (pc' := 205) (v := (x11 + 1)) C dL_holds_202 rfl rfl rfl (L' := [some (.ref (pa 0 0)), some (.int p1), some (.int x2), some (.int x3), some (.int x4), some (.int x5), some (.int x6), some (.int x7), none, some (.int x9), some (.int (x10 + r2)), some (.int (x11 + 1)), none, none, none, none]) rfl ?_
    refine g_goto (pc' := 182) C dL_holds_205 (by decide) ?_
    exact G_loc (lle_s (lle_s (lle_s (lle_s (lle_s (lle_s (lle_s (lle_s (lle_n (lle_s (lle_s (lle_s (lle_n (lle_n (lle_n (lle_n lle_0)))))))))))))))) (hk182 x2 x3 x4 x5 x6 x7 x9 (x10 + r2) (x11 + 1) Tr E F Nm h)
set_option maxRecDepth 100000 in
set_option maxHeartbeats 4000000 in
theorem L_L_holds_182 {X : gX} (C : cx X RL cL_holds 16 (some .boolean) wsL_holds 7 156) (pa : Nat → Nat → Nat) (N : Nat) (Tn : tS) (B : tS) (Hs : tH) (p1 : Int32) (r : Int32) (Trz : tS) (Ez : tS) (Fz : tS) (Nmz : tS) (k164 : Int32 → Int32 → Int32 → Int32 → Int32 → Int32 → Int32 → Int32 → tS → tS → tS → tS → Option (Int32 × tS × tS × tS × tS)) (hk164 : ∀ (x2 : Int32) (x3 : Int32) (x4 : Int32) (x5 : Int32) (x6 : Int32) (x7 : Int32) (x8 : Int32) (x9 : Int32) (Tr : tS) (E : tS) (F : tS) (Nm : tS), k164 x2 x3 x4 x5 x6 x7 x8 x9 Tr E F Nm = some (r, Trz, Ez, Fz, Nmz) → G X (QI X r [ntW pa Tn, bdW (gcA X) (pa 1) B, hsW (gcA X) (pa 2) (fun j => pa (10 + j)) Hs, bdW (gcA X) (pa 5) Trz, heW (gcA X) (pa 6) Ez, heW (gcA X) (pa 7) Fz, nmW (gcA X) (pa 8) Nmz]) [ntW pa Tn, bdW (gcA X) (pa 1) B, hsW (gcA X) (pa 2) (fun j => pa (10 + j)) Hs, bdW (gcA X) (pa 5) Tr, heW (gcA X) (pa 6) E, heW (gcA X) (pa 7) F, nmW (gcA X) (pa 8) Nm] [some (.ref (pa 0 0)), some (.int p1), some (.int x2), some (.int x3), some (.int x4), some (.int x5), some (.int x6), some (.int x7), some (.int x8), some (.int x9), none, none, none, none, none, none] [] 164) : ∀ (n : Nat) (x2 : Int32) (x3 : Int32) (x4 : Int32) (x5 : Int32) (x6 : Int32) (x7 : Int32) (x9 : Int32) (x10 : Int32) (x11 : Int32) (Tr : tS) (E : tS) (F : tS) (Nm : tS), f_L_holds_182 N Tn B Hs p1 k164 n x2 x3 x4 x5 x6 x7 x9 x10 x11 Tr E F Nm = some (r, Trz, Ez, Fz, Nmz) → G X (QI X r [ntW pa Tn, bdW (gcA X) (pa 1) B, hsW (gcA X) (pa 2) (fun j => pa (10 + j)) Hs, bdW (gcA X) (pa 5) Trz, heW (gcA X) (pa 6) Ez, heW (gcA X) (pa 7) Fz, nmW (gcA X) (pa 8) Nmz]) [ntW pa Tn, bdW (gcA X) (pa 1) B, hsW (gcA X) (pa 2) (fun j => pa (10 + j)) Hs, bdW (gcA X) (pa 5) Tr, heW (gcA X) (pa 6) E, heW (gcA X) (pa 7) F, nmW (gcA X) (pa 8) Nm] [some (.ref (pa 0 0)), some (.int p1), some (.int x2), some (.int x3), some (.int x4), some (.int x5), some (.int x6), some (.int x7), none, some (.int x9), some (.int x10), some (.int x11), none, none, none, none] [] 182 := by
  intro n
  induction n with
  | zero => intro x2 x3 x4 x5 x6 x7 x9 x10 x11 Tr E F Nm h; have h : (none : Option (Int32 × tS × tS × tS × tS)) = some (r, Trz, Ez, Fz, Nmz) := h; cases h
  | succ n ih => intro x2 x3 x4 x5 x6 x7 x9 x10 x11 Tr E F Nm h; exact B_L_holds_182b C pa N Tn B Hs p1 r Trz Ez Fz Nmz k164 hk164 (f_L_holds_182 N Tn B Hs p1 k164 n) ih x2 x3 x4 x5 x6 x7 x9 x10 x11 Tr E F Nm h
set_option maxRecDepth 100000 in
set_option maxHeartbeats 4000000 in
theorem B_L_holds_164b {X : gX} (C : cx X RL cL_holds 16 (some .boolean) wsL_holds 7 156) (pa : Nat → Nat → Nat) (N : Nat) (Tn : tS) (B : tS) (Hs : tH) (p1 : Int32) (r : Int32) (Trz : tS) (Ez : tS) (Fz : tS) (Nmz : tS)  (k164 : Int32 → Int32 → Int32 → Int32 → Int32 → Int32 → Int32 → Int32 → tS → tS → tS → tS → Option (Int32 × tS × tS × tS × tS)) (hk164 : ∀ (x2 : Int32) (x3 : Int32) (x4 : Int32) (x5 : Int32) (x6 : Int32) (x7 : Int32) (x8 : Int32) (x9 : Int32) (Tr : tS) (E : tS) (F : tS) (Nm : tS), k164 x2 x3 x4 x5 x6 x7 x8 x9 Tr E F Nm = some (r, Trz, Ez, Fz, Nmz) → G X (QI X r [ntW pa Tn, bdW (gcA X) (pa 1) B, hsW (gcA X) (pa 2) (fun j => pa (10 + j)) Hs, bdW (gcA X) (pa 5) Trz, heW (gcA X) (pa 6) Ez, heW (gcA X) (pa 7) Fz, nmW (gcA X) (pa 8) Nmz]) [ntW pa Tn, bdW (gcA X) (pa 1) B, hsW (gcA X) (pa 2) (fun j => pa (10 + j)) Hs, bdW (gcA X) (pa 5) Tr, heW (gcA X) (pa 6) E, heW (gcA X) (pa 7) F, nmW (gcA X) (pa 8) Nm] [some (.ref (pa 0 0)), some (.int p1), some (.int x2), some (.int x3), some (.int x4), some (.int x5), some (.int x6), some (.int x7), some (.int x8), some (.int x9), none, none, none, none, none, none] [] 164) (x2 : Int32) (x3 : Int32) (x4 : Int32) (x5 : Int32) (x6 : Int32) (x7 : Int32) (x8 : Int32) (x9 : Int32) (Tr : tS) (E : tS) (F : tS) (Nm : tS) (h : f_L_holds_164b N Tn B Hs p1  k164 x2 x3 x4 x5 x6 x7 x8 x9 Tr E F Nm = some (r, Trz, Ez, Fz, Nmz)) : G X (QI X r [ntW pa Tn, bdW (gcA X) (pa 1) B, hsW (gcA X) (pa 2) (fun j => pa (10 + j)) Hs, bdW (gcA X) (pa 5) Trz, heW (gcA X) (pa 6) Ez, heW (gcA X) (pa 7) Fz, nmW (gcA X) (pa 8) Nmz]) [ntW pa Tn, bdW (gcA X) (pa 1) B, hsW (gcA X) (pa 2) (fun j => pa (10 + j)) Hs, bdW (gcA X) (pa 5) Tr, heW (gcA X) (pa 6) E, heW (gcA X) (pa 7) F, nmW (gcA X) (pa 8) Nm] [some (.ref (pa 0 0)), some (.int p1), some (.int x2), some (.int x3), some (.int x4), some (.int x5), some (.int x6), some (.int x7), some (.int x8), some (.int x9), none, none, none, none, none, none] [] 164 := by
  unfold f_L_holds_164b at h
  refine g_iload (pc' := 166) C dL_holds_164 rfl rfl ?_
  refine g_iload (pc' := 168) C dL_holds_166 rfl rfl ?_
  refine g_icmp_ge (pc' := 171) (tgt := 306) C dL_holds_168 (by decide) rfl h (fun c h => ?_) (fun c h => ?_)
  · exact G_loc (lle_s (lle_s (lle_s (lle_s (lle_s (lle_s (lle_s (lle_s (lle_s (lle_n (lle_n (lle_n (lle_n (lle_n (lle_n (lle_n lle_0)))))))))))))))) (B_L_holds_306 C pa N Tn B Hs p1 r Trz Ez Fz Nmz x2 x3 x4 x5 x6 x7 x8 Tr E F Nm h)
  · refine g_iload (pc' := 173) C dL_holds_171 rfl rfl ?_
    refine g_if_eq (pc' := 176) (tgt := 306) C dL_holds_173 (by decide) rfl h (fun c h => ?_) (fun c h => ?_)
    · exact G_loc (lle_s (lle_s (lle_s (lle_s (lle_s (lle_s (lle_s (lle_s (lle_s (lle_n (lle_n (lle_n (lle_n (lle_n (lle_n (lle_n lle_0)))))))))))))))) (B_L_holds_306 C pa N Tn B Hs p1 r Trz Ez Fz Nmz x2 x3 x4 x5 x6 x7 x8 Tr E F Nm h)
    · refine g_iconst (pc' := 177) (v := 0) C dL_holds_176 (by decide) rfl ?_
      refine g_istore (pc' := 179) C dL_holds_177 (Nat.le_of_ble_eq_true rfl) rfl (L' := [some (.ref (pa 0 0)), some (.int p1), some (.int x2), some (.int x3), some (.int x4), some (.int x5), some (.int x6), some (.int x7), some (.int x8), some (.int x9), some (.int (0 : Int32)), none, none, none, none, none]) rfl ?_
      refine g_iconst (pc' := 180) (v := 0) C dL_holds_179 (by decide) rfl ?_
      refine g_istore (pc' := 182) C dL_holds_180 (Nat.le_of_ble_eq_true rfl) rfl (L' := [some (.ref (pa 0 0)), some (.int p1), some (.int x2), some (.int x3), some (.int x4), some (.int x5), some (.int x6), some (.int x7), some (.int x8), some (.int x9), some (.int (0 : Int32)), some (.int (0 : Int32)), none, none, none, none]) rfl ?_
      exact G_loc (lle_s (lle_s (lle_s (lle_s (lle_s (lle_s (lle_s (lle_s (lle_n (lle_s (lle_s (lle_s (lle_n (lle_n (lle_n (lle_n lle_0)))))))))))))))) (L_L_holds_182 C pa N Tn B Hs p1 r Trz Ez Fz Nmz k164 hk164 N x2 x3 x4 x5 x6 x7 x9 (0 : Int32) (0 : Int32) Tr E F Nm h)
set_option maxRecDepth 100000 in
set_option maxHeartbeats 4000000 in
theorem L_L_holds_164 {X : gX} (C : cx X RL cL_holds 16 (some .boolean) wsL_holds 7 156) (pa : Nat → Nat → Nat) (N : Nat) (Tn : tS) (B : tS) (Hs : tH) (p1 : Int32) (r : Int32) (Trz : tS) (Ez : tS) (Fz : tS) (Nmz : tS)  : ∀ (n : Nat) (x2 : Int32) (x3 : Int32) (x4 : Int32) (x5 : Int32) (x6 : Int32) (x7 : Int32) (x8 : Int32) (x9 : Int32) (Tr : tS) (E : tS) (F : tS) (Nm : tS), f_L_holds_164 N Tn B Hs p1  n x2 x3 x4 x5 x6 x7 x8 x9 Tr E F Nm = some (r, Trz, Ez, Fz, Nmz) → G X (QI X r [ntW pa Tn, bdW (gcA X) (pa 1) B, hsW (gcA X) (pa 2) (fun j => pa (10 + j)) Hs, bdW (gcA X) (pa 5) Trz, heW (gcA X) (pa 6) Ez, heW (gcA X) (pa 7) Fz, nmW (gcA X) (pa 8) Nmz]) [ntW pa Tn, bdW (gcA X) (pa 1) B, hsW (gcA X) (pa 2) (fun j => pa (10 + j)) Hs, bdW (gcA X) (pa 5) Tr, heW (gcA X) (pa 6) E, heW (gcA X) (pa 7) F, nmW (gcA X) (pa 8) Nm] [some (.ref (pa 0 0)), some (.int p1), some (.int x2), some (.int x3), some (.int x4), some (.int x5), some (.int x6), some (.int x7), some (.int x8), some (.int x9), none, none, none, none, none, none] [] 164 := by
  intro n
  induction n with
  | zero => intro x2 x3 x4 x5 x6 x7 x8 x9 Tr E F Nm h; have h : (none : Option (Int32 × tS × tS × tS × tS)) = some (r, Trz, Ez, Fz, Nmz) := h; cases h
  | succ n ih => intro x2 x3 x4 x5 x6 x7 x8 x9 Tr E F Nm h; exact B_L_holds_164b C pa N Tn B Hs p1 r Trz Ez Fz Nmz  (f_L_holds_164 N Tn B Hs p1  n) ih x2 x3 x4 x5 x6 x7 x8 x9 Tr E F Nm h
set_option maxRecDepth 100000 in
set_option maxHeartbeats 4000000 in
theorem B_L_holds_152 {X : gX} (C : cx X RL cL_holds 16 (some .boolean) wsL_holds 7 156) (pa : Nat → Nat → Nat) (N : Nat) (Tn : tS) (B : tS) (Hs : tH) (p1 : Int32) (r : Int32) (Trz : tS) (Ez : tS) (Fz : tS) (Nmz : tS) (k81 : Int32 → Int32 → Int32 → Int32 → Int32 → Int32 → Int32 → Int32 → tS → tS → tS → tS → Option (Int32 × tS × tS × tS × tS)) (hk81 : ∀ (x2 : Int32) (x3 : Int32) (x4 : Int32) (x5 : Int32) (x6 : Int32) (x7 : Int32) (x8 : Int32) (x9 : Int32) (Tr : tS) (E : tS) (F : tS) (Nm : tS), k81 x2 x3 x4 x5 x6 x7 x8 x9 Tr E F Nm = some (r, Trz, Ez, Fz, Nmz) → G X (QI X r [ntW pa Tn, bdW (gcA X) (pa 1) B, hsW (gcA X) (pa 2) (fun j => pa (10 + j)) Hs, bdW (gcA X) (pa 5) Trz, heW (gcA X) (pa 6) Ez, heW (gcA X) (pa 7) Fz, nmW (gcA X) (pa 8) Nmz]) [ntW pa Tn, bdW (gcA X) (pa 1) B, hsW (gcA X) (pa 2) (fun j => pa (10 + j)) Hs, bdW (gcA X) (pa 5) Tr, heW (gcA X) (pa 6) E, heW (gcA X) (pa 7) F, nmW (gcA X) (pa 8) Nm] [some (.ref (pa 0 0)), some (.int p1), some (.int x2), some (.int x3), some (.int x4), some (.int x5), some (.int x6), some (.int x7), some (.int x8), some (.int x9), none, none, none, none, none, none] [] 81) (x2 : Int32) (x3 : Int32) (x4 : Int32) (x5 : Int32) (x6 : Int32) (x8 : Int32) (x9 : Int32) (t0 : Int32) (t1 : Int32) (Tr : tS) (E : tS) (F : tS) (Nm : tS) (h : f_L_holds_152 N Tn B Hs p1 k81 x2 x3 x4 x5 x6 x8 x9 t0 t1 Tr E F Nm = some (r, Trz, Ez, Fz, Nmz)) : G X (QI X r [ntW pa Tn, bdW (gcA X) (pa 1) B, hsW (gcA X) (pa 2) (fun j => pa (10 + j)) Hs, bdW (gcA X) (pa 5) Trz, heW (gcA X) (pa 6) Ez, heW (gcA X) (pa 7) Fz, nmW (gcA X) (pa 8) Nmz]) [ntW pa Tn, bdW (gcA X) (pa 1) B, hsW (gcA X) (pa 2) (fun j => pa (10 + j)) Hs, bdW (gcA X) (pa 5) Tr, heW (gcA X) (pa 6) E, heW (gcA X) (pa 7) F, nmW (gcA X) (pa 8) Nm] [some (.ref (pa 0 0)), some (.int p1), some (.int x2), some (.int x3), some (.int x4), some (.int x5), some (.int x6), none, some (.int x8), some (.int x9), none, none, none, none, none, none] [.int t0, .int t1] 152 := by
  unfold f_L_holds_152 at h
  refine g_iadd (pc' := 153) C dL_holds_152 rfl ?_
  refine g_istore (pc' := 155) C dL_holds_153 (Nat.le_of_ble_eq_true rfl) rfl (L' := [some (.ref (pa 0 0)), some (.int p1), some (.int x2), some (.int x3), some (.int x4), some (.int x5), some (.int x6), some (.int (t1 + t0)), some (.int x8), some (.int x9), none, none, none, none, none, none]) rfl ?_
  refine g_iinc (pc' := 158) (v := (x9 + 1)) C dL_holds_155 rfl rfl rfl (L' := [some (.ref (pa 0 0)), some (.int p1), some (.int x2), some (.int x3), some (.int x4), some (.int x5), some (.int x6), some (.int (t1 + t0)), some (.int x8), some (.int (x9 + 1)), none, none, none, none, none, none]) rfl ?_
  refine g_goto (pc' := 81) C dL_holds_158 (by decide) ?_
  exact G_loc (lle_s (lle_s (lle_s (lle_s (lle_s (lle_s (lle_s (lle_s (lle_s (lle_s (lle_n (lle_n (lle_n (lle_n (lle_n (lle_n lle_0)))))))))))))))) (hk81 x2 x3 x4 x5 x6 (t1 + t0) x8 (x9 + 1) Tr E F Nm h)
set_option maxRecDepth 100000 in
set_option maxHeartbeats 4000000 in
theorem B_L_holds_94b {X : gX} (C : cx X RL cL_holds 16 (some .boolean) wsL_holds 7 156) (pa : Nat → Nat → Nat) (N : Nat) (Tn : tS) (B : tS) (Hs : tH) (p1 : Int32) (r : Int32) (Trz : tS) (Ez : tS) (Fz : tS) (Nmz : tS) (k81 : Int32 → Int32 → Int32 → Int32 → Int32 → Int32 → Int32 → Int32 → tS → tS → tS → tS → Option (Int32 × tS × tS × tS × tS)) (hk81 : ∀ (x2 : Int32) (x3 : Int32) (x4 : Int32) (x5 : Int32) (x6 : Int32) (x7 : Int32) (x8 : Int32) (x9 : Int32) (Tr : tS) (E : tS) (F : tS) (Nm : tS), k81 x2 x3 x4 x5 x6 x7 x8 x9 Tr E F Nm = some (r, Trz, Ez, Fz, Nmz) → G X (QI X r [ntW pa Tn, bdW (gcA X) (pa 1) B, hsW (gcA X) (pa 2) (fun j => pa (10 + j)) Hs, bdW (gcA X) (pa 5) Trz, heW (gcA X) (pa 6) Ez, heW (gcA X) (pa 7) Fz, nmW (gcA X) (pa 8) Nmz]) [ntW pa Tn, bdW (gcA X) (pa 1) B, hsW (gcA X) (pa 2) (fun j => pa (10 + j)) Hs, bdW (gcA X) (pa 5) Tr, heW (gcA X) (pa 6) E, heW (gcA X) (pa 7) F, nmW (gcA X) (pa 8) Nm] [some (.ref (pa 0 0)), some (.int p1), some (.int x2), some (.int x3), some (.int x4), some (.int x5), some (.int x6), some (.int x7), some (.int x8), some (.int x9), none, none, none, none, none, none] [] 81) (k94 : Int32 → Int32 → Int32 → Int32 → Int32 → Int32 → Int32 → Int32 → Int32 → Int32 → tS → tS → tS → tS → Option (Int32 × tS × tS × tS × tS)) (hk94 : ∀ (x2 : Int32) (x3 : Int32) (x4 : Int32) (x5 : Int32) (x6 : Int32) (x7 : Int32) (x8 : Int32) (x9 : Int32) (x10 : Int32) (x11 : Int32) (Tr : tS) (E : tS) (F : tS) (Nm : tS), k94 x2 x3 x4 x5 x6 x7 x8 x9 x10 x11 Tr E F Nm = some (r, Trz, Ez, Fz, Nmz) → G X (QI X r [ntW pa Tn, bdW (gcA X) (pa 1) B, hsW (gcA X) (pa 2) (fun j => pa (10 + j)) Hs, bdW (gcA X) (pa 5) Trz, heW (gcA X) (pa 6) Ez, heW (gcA X) (pa 7) Fz, nmW (gcA X) (pa 8) Nmz]) [ntW pa Tn, bdW (gcA X) (pa 1) B, hsW (gcA X) (pa 2) (fun j => pa (10 + j)) Hs, bdW (gcA X) (pa 5) Tr, heW (gcA X) (pa 6) E, heW (gcA X) (pa 7) F, nmW (gcA X) (pa 8) Nm] [some (.ref (pa 0 0)), some (.int p1), some (.int x2), some (.int x3), some (.int x4), some (.int x5), some (.int x6), some (.int x7), some (.int x8), some (.int x9), some (.int x10), some (.int x11), none, none, none, none] [] 94) (x2 : Int32) (x3 : Int32) (x4 : Int32) (x5 : Int32) (x6 : Int32) (x7 : Int32) (x8 : Int32) (x9 : Int32) (x10 : Int32) (x11 : Int32) (Tr : tS) (E : tS) (F : tS) (Nm : tS) (h : f_L_holds_94b N Tn B Hs p1 k81 k94 x2 x3 x4 x5 x6 x7 x8 x9 x10 x11 Tr E F Nm = some (r, Trz, Ez, Fz, Nmz)) : G X (QI X r [ntW pa Tn, bdW (gcA X) (pa 1) B, hsW (gcA X) (pa 2) (fun j => pa (10 + j)) Hs, bdW (gcA X) (pa 5) Trz, heW (gcA X) (pa 6) Ez, heW (gcA X) (pa 7) Fz, nmW (gcA X) (pa 8) Nmz]) [ntW pa Tn, bdW (gcA X) (pa 1) B, hsW (gcA X) (pa 2) (fun j => pa (10 + j)) Hs, bdW (gcA X) (pa 5) Tr, heW (gcA X) (pa 6) E, heW (gcA X) (pa 7) F, nmW (gcA X) (pa 8) Nm] [some (.ref (pa 0 0)), some (.int p1), some (.int x2), some (.int x3), some (.int x4), some (.int x5), some (.int x6), some (.int x7), some (.int x8), some (.int x9), some (.int x10), some (.int x11), none, none, none, none] [] 94 := by
  unfold f_L_holds_94b at h
  refine g_iload (pc' := 96) C dL_holds_94 rfl rfl ?_
  refine g_iload_n (pc' := 97) C dL_holds_96 rfl rfl ?_
  refine g_icmp_ge (pc' := 100) (tgt := 119) C dL_holds_97 (by decide) rfl h (fun c h => ?_) (fun c h => ?_)
  · refine g_iload (pc' := 121) C dL_holds_119 rfl rfl ?_
    refine g_iload (pc' := 123) C dL_holds_121 rfl rfl ?_
    refine g_iadd (pc' := 124) C dL_holds_123 rfl ?_
    refine g_istore (pc' := 126) C dL_holds_124 (Nat.le_of_ble_eq_true rfl) rfl (L' := [some (.ref (pa 0 0)), some (.int p1), some (.int x2), some (.int x3), some (.int x4), some (.int (x5 + x10)), some (.int x6), some (.int x7), some (.int x8), some (.int x9), some (.int x10), some (.int x11), none, none, none, none]) rfl ?_
    refine g_iload (pc' := 128) C dL_holds_126 rfl rfl ?_
    refine g_iload (pc' := 130) C dL_holds_128 rfl rfl ?_
    refine g_aload_n (pc' := 131) C dL_holds_130 rfl rfl ?_
    refine g_bipush (pc' := 133) (v := 9) C dL_holds_131 (by decide) rfl ?_
    refine k_X5_count (pc' := 136) C pa N Tn B Hs E Nm (9 : Int32) [0, 1, 2, 4, 6] rfl (by decide) gL_holds_X5_count ⟨Nat.le_of_ble_eq_true rfl, Nat.le_of_ble_eq_true rfl⟩ (Nat.le_of_ble_eq_true rfl) rfl dL_holds_133 rfl h (fun r1 E1 Nm1 h => ?_)
    show G X _ [ntW pa Tn, bdW (gcA X) (pa 1) B, hsW (gcA X) (pa 2) (fun j => pa (10 + j)) Hs, bdW (gcA X) (pa 5) Tr, heW (gcA X) (pa 6) E1, heW (gcA X) (pa 7) F, nmW (gcA X) (pa 8) Nm1] _ _ _
    refine g_icmp_ge (pc' := 139) (tgt := 151) C dL_holds_136 (by decide) rfl h (fun c h => ?_) (fun c h => ?_)
    · refine g_iconst (pc' := 152) (v := 0) C dL_holds_151 (by decide) rfl ?_
      exact G_loc (lle_s (lle_s (lle_s (lle_s (lle_s (lle_s (lle_s (lle_n (lle_s (lle_s (lle_n (lle_n (lle_n (lle_n (lle_n (lle_n lle_0)))))))))))))))) (B_L_holds_152 C pa N Tn B Hs p1 r Trz Ez Fz Nmz k81 hk81 x2 x3 x4 (x5 + x10) x6 x8 x9 (0 : Int32) x7 Tr E1 F Nm1 h)
    · refine g_aload_n (pc' := 140) C dL_holds_139 rfl rfl ?_
      refine g_bipush (pc' := 142) (v := 9) C dL_holds_140 (by decide) rfl ?_
      refine k_X5_count (pc' := 145) C pa N Tn B Hs E1 Nm1 (9 : Int32) [0, 1, 2, 4, 6] rfl (by decide) gL_holds_X5_count ⟨Nat.le_of_ble_eq_true rfl, Nat.le_of_ble_eq_true rfl⟩ (Nat.le_of_ble_eq_true rfl) rfl dL_holds_142 rfl h (fun r2 E2 Nm2 h => ?_)
      show G X _ [ntW pa Tn, bdW (gcA X) (pa 1) B, hsW (gcA X) (pa 2) (fun j => pa (10 + j)) Hs, bdW (gcA X) (pa 5) Tr, heW (gcA X) (pa 6) E2, heW (gcA X) (pa 7) F, nmW (gcA X) (pa 8) Nm2] _ _ _
      refine g_iload (pc' := 147) C dL_holds_145 rfl rfl ?_
      refine g_isub (pc' := 148) C dL_holds_147 rfl ?_
      refine g_goto (pc' := 152) C dL_holds_148 (by decide) ?_
      exact G_loc (lle_s (lle_s (lle_s (lle_s (lle_s (lle_s (lle_s (lle_n (lle_s (lle_s (lle_n (lle_n (lle_n (lle_n (lle_n (lle_n lle_0)))))))))))))))) (B_L_holds_152 C pa N Tn B Hs p1 r Trz Ez Fz Nmz k81 hk81 x2 x3 x4 (x5 + x10) x6 x8 x9 (r2 - x10) x7 Tr E2 F Nm2 h)
  · refine g_iload (pc' := 102) C dL_holds_100 rfl rfl ?_
    refine g_aload_n (pc' := 103) C dL_holds_102 rfl rfl ?_
    refine g_iload (pc' := 105) C dL_holds_103 rfl rfl ?_
    refine g_iload (pc' := 107) C dL_holds_105 rfl rfl ?_
    refine k_X5_dots (pc' := 110) C pa N Tn B x9 x11 [0, 1] rfl (by decide) gL_holds_X5_dots ⟨Nat.le_of_ble_eq_true rfl, Nat.le_of_ble_eq_true rfl⟩ (Nat.le_of_ble_eq_true rfl) rfl dL_holds_107 rfl h (fun r3 h => ?_)
    refine g_iadd (pc' := 111) C dL_holds_110 rfl ?_
    refine g_istore (pc' := 113) C dL_holds_111 (Nat.le_of_ble_eq_true rfl) rfl (L' := [some (.ref (pa 0 0)), some (.int p1), some (.int x2), some (.int x3), some (.int x4), some (.int x5), some (.int x6), some (.int x7), some (.int x8), some (.int x9), some (.int (x10 + r3)), some (.int x11), none, none, none, none]) rfl ?_
    refine g_iinc (pc' := 116) (v := (x11 + 1)) C dL_holds_113 rfl rfl rfl (L' := [some (.ref (pa 0 0)), some (.int p1), some (.int x2), some (.int x3), some (.int x4), some (.int x5), some (.int x6), some (.int x7), some (.int x8), some (.int x9), some (.int (x10 + r3)), some (.int (x11 + 1)), none, none, none, none]) rfl ?_
    refine g_goto (pc' := 94) C dL_holds_116 (by decide) ?_
    exact G_loc (lle_s (lle_s (lle_s (lle_s (lle_s (lle_s (lle_s (lle_s (lle_s (lle_s (lle_s (lle_s (lle_n (lle_n (lle_n (lle_n lle_0)))))))))))))))) (hk94 x2 x3 x4 x5 x6 x7 x8 x9 (x10 + r3) (x11 + 1) Tr E F Nm h)
set_option maxRecDepth 100000 in
set_option maxHeartbeats 4000000 in
theorem L_L_holds_94 {X : gX} (C : cx X RL cL_holds 16 (some .boolean) wsL_holds 7 156) (pa : Nat → Nat → Nat) (N : Nat) (Tn : tS) (B : tS) (Hs : tH) (p1 : Int32) (r : Int32) (Trz : tS) (Ez : tS) (Fz : tS) (Nmz : tS) (k81 : Int32 → Int32 → Int32 → Int32 → Int32 → Int32 → Int32 → Int32 → tS → tS → tS → tS → Option (Int32 × tS × tS × tS × tS)) (hk81 : ∀ (x2 : Int32) (x3 : Int32) (x4 : Int32) (x5 : Int32) (x6 : Int32) (x7 : Int32) (x8 : Int32) (x9 : Int32) (Tr : tS) (E : tS) (F : tS) (Nm : tS), k81 x2 x3 x4 x5 x6 x7 x8 x9 Tr E F Nm = some (r, Trz, Ez, Fz, Nmz) → G X (QI X r [ntW pa Tn, bdW (gcA X) (pa 1) B, hsW (gcA X) (pa 2) (fun j => pa (10 + j)) Hs, bdW (gcA X) (pa 5) Trz, heW (gcA X) (pa 6) Ez, heW (gcA X) (pa 7) Fz, nmW (gcA X) (pa 8) Nmz]) [ntW pa Tn, bdW (gcA X) (pa 1) B, hsW (gcA X) (pa 2) (fun j => pa (10 + j)) Hs, bdW (gcA X) (pa 5) Tr, heW (gcA X) (pa 6) E, heW (gcA X) (pa 7) F, nmW (gcA X) (pa 8) Nm] [some (.ref (pa 0 0)), some (.int p1), some (.int x2), some (.int x3), some (.int x4), some (.int x5), some (.int x6), some (.int x7), some (.int x8), some (.int x9), none, none, none, none, none, none] [] 81) : ∀ (n : Nat) (x2 : Int32) (x3 : Int32) (x4 : Int32) (x5 : Int32) (x6 : Int32) (x7 : Int32) (x8 : Int32) (x9 : Int32) (x10 : Int32) (x11 : Int32) (Tr : tS) (E : tS) (F : tS) (Nm : tS), f_L_holds_94 N Tn B Hs p1 k81 n x2 x3 x4 x5 x6 x7 x8 x9 x10 x11 Tr E F Nm = some (r, Trz, Ez, Fz, Nmz) → G X (QI X r [ntW pa Tn, bdW (gcA X) (pa 1) B, hsW (gcA X) (pa 2) (fun j => pa (10 + j)) Hs, bdW (gcA X) (pa 5) Trz, heW (gcA X) (pa 6) Ez, heW (gcA X) (pa 7) Fz, nmW (gcA X) (pa 8) Nmz]) [ntW pa Tn, bdW (gcA X) (pa 1) B, hsW (gcA X) (pa 2) (fun j => pa (10 + j)) Hs, bdW (gcA X) (pa 5) Tr, heW (gcA X) (pa 6) E, heW (gcA X) (pa 7) F, nmW (gcA X) (pa 8) Nm] [some (.ref (pa 0 0)), some (.int p1), some (.int x2), some (.int x3), some (.int x4), some (.int x5), some (.int x6), some (.int x7), some (.int x8), some (.int x9), some (.int x10), some (.int x11), none, none, none, none] [] 94 := by
  intro n
  induction n with
  | zero => intro x2 x3 x4 x5 x6 x7 x8 x9 x10 x11 Tr E F Nm h; have h : (none : Option (Int32 × tS × tS × tS × tS)) = some (r, Trz, Ez, Fz, Nmz) := h; cases h
  | succ n ih => intro x2 x3 x4 x5 x6 x7 x8 x9 x10 x11 Tr E F Nm h; exact B_L_holds_94b C pa N Tn B Hs p1 r Trz Ez Fz Nmz k81 hk81 (f_L_holds_94 N Tn B Hs p1 k81 n) ih x2 x3 x4 x5 x6 x7 x8 x9 x10 x11 Tr E F Nm h
set_option maxRecDepth 100000 in
set_option maxHeartbeats 4000000 in
theorem B_L_holds_81b {X : gX} (C : cx X RL cL_holds 16 (some .boolean) wsL_holds 7 156) (pa : Nat → Nat → Nat) (N : Nat) (Tn : tS) (B : tS) (Hs : tH) (p1 : Int32) (r : Int32) (Trz : tS) (Ez : tS) (Fz : tS) (Nmz : tS)  (k81 : Int32 → Int32 → Int32 → Int32 → Int32 → Int32 → Int32 → Int32 → tS → tS → tS → tS → Option (Int32 × tS × tS × tS × tS)) (hk81 : ∀ (x2 : Int32) (x3 : Int32) (x4 : Int32) (x5 : Int32) (x6 : Int32) (x7 : Int32) (x8 : Int32) (x9 : Int32) (Tr : tS) (E : tS) (F : tS) (Nm : tS), k81 x2 x3 x4 x5 x6 x7 x8 x9 Tr E F Nm = some (r, Trz, Ez, Fz, Nmz) → G X (QI X r [ntW pa Tn, bdW (gcA X) (pa 1) B, hsW (gcA X) (pa 2) (fun j => pa (10 + j)) Hs, bdW (gcA X) (pa 5) Trz, heW (gcA X) (pa 6) Ez, heW (gcA X) (pa 7) Fz, nmW (gcA X) (pa 8) Nmz]) [ntW pa Tn, bdW (gcA X) (pa 1) B, hsW (gcA X) (pa 2) (fun j => pa (10 + j)) Hs, bdW (gcA X) (pa 5) Tr, heW (gcA X) (pa 6) E, heW (gcA X) (pa 7) F, nmW (gcA X) (pa 8) Nm] [some (.ref (pa 0 0)), some (.int p1), some (.int x2), some (.int x3), some (.int x4), some (.int x5), some (.int x6), some (.int x7), some (.int x8), some (.int x9), none, none, none, none, none, none] [] 81) (x2 : Int32) (x3 : Int32) (x4 : Int32) (x5 : Int32) (x6 : Int32) (x7 : Int32) (x8 : Int32) (x9 : Int32) (Tr : tS) (E : tS) (F : tS) (Nm : tS) (h : f_L_holds_81b N Tn B Hs p1  k81 x2 x3 x4 x5 x6 x7 x8 x9 Tr E F Nm = some (r, Trz, Ez, Fz, Nmz)) : G X (QI X r [ntW pa Tn, bdW (gcA X) (pa 1) B, hsW (gcA X) (pa 2) (fun j => pa (10 + j)) Hs, bdW (gcA X) (pa 5) Trz, heW (gcA X) (pa 6) Ez, heW (gcA X) (pa 7) Fz, nmW (gcA X) (pa 8) Nmz]) [ntW pa Tn, bdW (gcA X) (pa 1) B, hsW (gcA X) (pa 2) (fun j => pa (10 + j)) Hs, bdW (gcA X) (pa 5) Tr, heW (gcA X) (pa 6) E, heW (gcA X) (pa 7) F, nmW (gcA X) (pa 8) Nm] [some (.ref (pa 0 0)), some (.int p1), some (.int x2), some (.int x3), some (.int x4), some (.int x5), some (.int x6), some (.int x7), some (.int x8), some (.int x9), none, none, none, none, none, none] [] 81 := by
  unfold f_L_holds_81b at h
  refine g_iload (pc' := 83) C dL_holds_81 rfl rfl ?_
  refine g_bipush (pc' := 85) (v := 6) C dL_holds_83 (by decide) rfl ?_
  refine g_icmp_ge (pc' := 88) (tgt := 161) C dL_holds_85 (by decide) rfl h (fun c h => ?_) (fun c h => ?_)
  · refine g_iconst (pc' := 162) (v := 0) C dL_holds_161 (by decide) rfl ?_
    refine g_istore (pc' := 164) C dL_holds_162 (Nat.le_of_ble_eq_true rfl) rfl (L' := [some (.ref (pa 0 0)), some (.int p1), some (.int x2), some (.int x3), some (.int x4), some (.int x5), some (.int x6), some (.int x7), some (.int x8), some (.int (0 : Int32)), none, none, none, none, none, none]) rfl ?_
    exact G_loc (lle_s (lle_s (lle_s (lle_s (lle_s (lle_s (lle_s (lle_s (lle_s (lle_s (lle_n (lle_n (lle_n (lle_n (lle_n (lle_n lle_0)))))))))))))))) (L_L_holds_164 C pa N Tn B Hs p1 r Trz Ez Fz Nmz N x2 x3 x4 x5 x6 x7 x8 (0 : Int32) Tr E F Nm h)
  · refine g_iconst (pc' := 89) (v := 0) C dL_holds_88 (by decide) rfl ?_
    refine g_istore (pc' := 91) C dL_holds_89 (Nat.le_of_ble_eq_true rfl) rfl (L' := [some (.ref (pa 0 0)), some (.int p1), some (.int x2), some (.int x3), some (.int x4), some (.int x5), some (.int x6), some (.int x7), some (.int x8), some (.int x9), some (.int (0 : Int32)), none, none, none, none, none]) rfl ?_
    refine g_iconst (pc' := 92) (v := 0) C dL_holds_91 (by decide) rfl ?_
    refine g_istore (pc' := 94) C dL_holds_92 (Nat.le_of_ble_eq_true rfl) rfl (L' := [some (.ref (pa 0 0)), some (.int p1), some (.int x2), some (.int x3), some (.int x4), some (.int x5), some (.int x6), some (.int x7), some (.int x8), some (.int x9), some (.int (0 : Int32)), some (.int (0 : Int32)), none, none, none, none]) rfl ?_
    exact G_loc (lle_s (lle_s (lle_s (lle_s (lle_s (lle_s (lle_s (lle_s (lle_s (lle_s (lle_s (lle_s (lle_n (lle_n (lle_n (lle_n lle_0)))))))))))))))) (L_L_holds_94 C pa N Tn B Hs p1 r Trz Ez Fz Nmz k81 hk81 N x2 x3 x4 x5 x6 x7 x8 x9 (0 : Int32) (0 : Int32) Tr E F Nm h)
set_option maxRecDepth 100000 in
set_option maxHeartbeats 4000000 in
theorem L_L_holds_81 {X : gX} (C : cx X RL cL_holds 16 (some .boolean) wsL_holds 7 156) (pa : Nat → Nat → Nat) (N : Nat) (Tn : tS) (B : tS) (Hs : tH) (p1 : Int32) (r : Int32) (Trz : tS) (Ez : tS) (Fz : tS) (Nmz : tS)  : ∀ (n : Nat) (x2 : Int32) (x3 : Int32) (x4 : Int32) (x5 : Int32) (x6 : Int32) (x7 : Int32) (x8 : Int32) (x9 : Int32) (Tr : tS) (E : tS) (F : tS) (Nm : tS), f_L_holds_81 N Tn B Hs p1  n x2 x3 x4 x5 x6 x7 x8 x9 Tr E F Nm = some (r, Trz, Ez, Fz, Nmz) → G X (QI X r [ntW pa Tn, bdW (gcA X) (pa 1) B, hsW (gcA X) (pa 2) (fun j => pa (10 + j)) Hs, bdW (gcA X) (pa 5) Trz, heW (gcA X) (pa 6) Ez, heW (gcA X) (pa 7) Fz, nmW (gcA X) (pa 8) Nmz]) [ntW pa Tn, bdW (gcA X) (pa 1) B, hsW (gcA X) (pa 2) (fun j => pa (10 + j)) Hs, bdW (gcA X) (pa 5) Tr, heW (gcA X) (pa 6) E, heW (gcA X) (pa 7) F, nmW (gcA X) (pa 8) Nm] [some (.ref (pa 0 0)), some (.int p1), some (.int x2), some (.int x3), some (.int x4), some (.int x5), some (.int x6), some (.int x7), some (.int x8), some (.int x9), none, none, none, none, none, none] [] 81 := by
  intro n
  induction n with
  | zero => intro x2 x3 x4 x5 x6 x7 x8 x9 Tr E F Nm h; have h : (none : Option (Int32 × tS × tS × tS × tS)) = some (r, Trz, Ez, Fz, Nmz) := h; cases h
  | succ n ih => intro x2 x3 x4 x5 x6 x7 x8 x9 Tr E F Nm h; exact B_L_holds_81b C pa N Tn B Hs p1 r Trz Ez Fz Nmz  (f_L_holds_81 N Tn B Hs p1  n) ih x2 x3 x4 x5 x6 x7 x8 x9 Tr E F Nm h
set_option maxRecDepth 100000 in
set_option maxHeartbeats 4000000 in
theorem B_L_holds_76 {X : gX} (C : cx X RL cL_holds 16 (some .boolean) wsL_holds 7 156) (pa : Nat → Nat → Nat) (N : Nat) (Tn : tS) (B : tS) (Hs : tH) (p1 : Int32) (r : Int32) (Trz : tS) (Ez : tS) (Fz : tS) (Nmz : tS)  (x2 : Int32) (x3 : Int32) (x4 : Int32) (x5 : Int32) (x6 : Int32) (x7 : Int32) (t0 : Int32) (Tr : tS) (E : tS) (F : tS) (Nm : tS) (h : f_L_holds_76 N Tn B Hs p1  x2 x3 x4 x5 x6 x7 t0 Tr E F Nm = some (r, Trz, Ez, Fz, Nmz)) : G X (QI X r [ntW pa Tn, bdW (gcA X) (pa 1) B, hsW (gcA X) (pa 2) (fun j => pa (10 + j)) Hs, bdW (gcA X) (pa 5) Trz, heW (gcA X) (pa 6) Ez, heW (gcA X) (pa 7) Fz, nmW (gcA X) (pa 8) Nmz]) [ntW pa Tn, bdW (gcA X) (pa 1) B, hsW (gcA X) (pa 2) (fun j => pa (10 + j)) Hs, bdW (gcA X) (pa 5) Tr, heW (gcA X) (pa 6) E, heW (gcA X) (pa 7) F, nmW (gcA X) (pa 8) Nm] [some (.ref (pa 0 0)), some (.int p1), some (.int x2), some (.int x3), some (.int x4), some (.int x5), some (.int x6), some (.int x7), none, none, none, none, none, none, none, none] [.int t0] 76 := by
  unfold f_L_holds_76 at h
  refine g_istore (pc' := 78) C dL_holds_76 (Nat.le_of_ble_eq_true rfl) rfl (L' := [some (.ref (pa 0 0)), some (.int p1), some (.int x2), some (.int x3), some (.int x4), some (.int x5), some (.int x6), some (.int x7), some (.int t0), none, none, none, none, none, none, none]) rfl ?_
  refine g_iconst (pc' := 79) (v := 0) C dL_holds_78 (by decide) rfl ?_
  refine g_istore (pc' := 81) C dL_holds_79 (Nat.le_of_ble_eq_true rfl) rfl (L' := [some (.ref (pa 0 0)), some (.int p1), some (.int x2), some (.int x3), some (.int x4), some (.int x5), some (.int x6), some (.int x7), some (.int t0), some (.int (0 : Int32)), none, none, none, none, none, none]) rfl ?_
  exact G_loc (lle_s (lle_s (lle_s (lle_s (lle_s (lle_s (lle_s (lle_s (lle_s (lle_s (lle_n (lle_n (lle_n (lle_n (lle_n (lle_n lle_0)))))))))))))))) (L_L_holds_81 C pa N Tn B Hs p1 r Trz Ez Fz Nmz N x2 x3 x4 x5 x6 x7 t0 (0 : Int32) Tr E F Nm h)
set_option maxRecDepth 100000 in
set_option maxHeartbeats 4000000 in
theorem B_L_holds_75 {X : gX} (C : cx X RL cL_holds 16 (some .boolean) wsL_holds 7 156) (pa : Nat → Nat → Nat) (N : Nat) (Tn : tS) (B : tS) (Hs : tH) (p1 : Int32) (r : Int32) (Trz : tS) (Ez : tS) (Fz : tS) (Nmz : tS)  (x2 : Int32) (x3 : Int32) (x4 : Int32) (x5 : Int32) (x6 : Int32) (x7 : Int32) (Tr : tS) (E : tS) (F : tS) (Nm : tS) (h : f_L_holds_75 N Tn B Hs p1  x2 x3 x4 x5 x6 x7 Tr E F Nm = some (r, Trz, Ez, Fz, Nmz)) : G X (QI X r [ntW pa Tn, bdW (gcA X) (pa 1) B, hsW (gcA X) (pa 2) (fun j => pa (10 + j)) Hs, bdW (gcA X) (pa 5) Trz, heW (gcA X) (pa 6) Ez, heW (gcA X) (pa 7) Fz, nmW (gcA X) (pa 8) Nmz]) [ntW pa Tn, bdW (gcA X) (pa 1) B, hsW (gcA X) (pa 2) (fun j => pa (10 + j)) Hs, bdW (gcA X) (pa 5) Tr, heW (gcA X) (pa 6) E, heW (gcA X) (pa 7) F, nmW (gcA X) (pa 8) Nm] [some (.ref (pa 0 0)), some (.int p1), some (.int x2), some (.int x3), some (.int x4), some (.int x5), some (.int x6), some (.int x7), none, none, none, none, none, none, none, none] [] 75 := by
  unfold f_L_holds_75 at h
  refine g_iconst (pc' := 76) (v := 0) C dL_holds_75 (by decide) rfl ?_
  exact G_loc (lle_s (lle_s (lle_s (lle_s (lle_s (lle_s (lle_s (lle_s (lle_n (lle_n (lle_n (lle_n (lle_n (lle_n (lle_n (lle_n lle_0)))))))))))))))) (B_L_holds_76 C pa N Tn B Hs p1 r Trz Ez Fz Nmz x2 x3 x4 x5 x6 x7 (0 : Int32) Tr E F Nm h)
set_option maxRecDepth 100000 in
set_option maxHeartbeats 4000000 in
theorem B_L_holds_51 {X : gX} (C : cx X RL cL_holds 16 (some .boolean) wsL_holds 7 156) (pa : Nat → Nat → Nat) (N : Nat) (Tn : tS) (B : tS) (Hs : tH) (p1 : Int32) (r : Int32) (Trz : tS) (Ez : tS) (Fz : tS) (Nmz : tS)  (x2 : Int32) (x3 : Int32) (x4 : Int32) (x5 : Int32) (x6 : Int32) (x7 : Int32) (t0 : Int32) (t1 : Int32) (Tr : tS) (E : tS) (F : tS) (Nm : tS) (h : f_L_holds_51 N Tn B Hs p1  x2 x3 x4 x5 x6 x7 t0 t1 Tr E F Nm = some (r, Trz, Ez, Fz, Nmz)) : G X (QI X r [ntW pa Tn, bdW (gcA X) (pa 1) B, hsW (gcA X) (pa 2) (fun j => pa (10 + j)) Hs, bdW (gcA X) (pa 5) Trz, heW (gcA X) (pa 6) Ez, heW (gcA X) (pa 7) Fz, nmW (gcA X) (pa 8) Nmz]) [ntW pa Tn, bdW (gcA X) (pa 1) B, hsW (gcA X) (pa 2) (fun j => pa (10 + j)) Hs, bdW (gcA X) (pa 5) Tr, heW (gcA X) (pa 6) E, heW (gcA X) (pa 7) F, nmW (gcA X) (pa 8) Nm] [some (.ref (pa 0 0)), some (.int p1), some (.int x2), some (.int x3), some (.int x4), some (.int x5), some (.int x6), some (.int x7), none, none, none, none, none, none, none, none] [.int t0, .int t1] 51 := by
  unfold f_L_holds_51 at h
  refine g_icmp_ne (pc' := 54) (tgt := 75) C dL_holds_51 (by decide) rfl h (fun c h => ?_) (fun c h => ?_)
  · refine g_aload_n (pc' := 55) C dL_holds_54 rfl rfl ?_
    refine g_bipush (pc' := 57) (v := 7) C dL_holds_55 (by decide) rfl ?_
    refine k_X5_count (pc' := 60) C pa N Tn B Hs E Nm (7 : Int32) [0, 1, 2, 4, 6] rfl (by decide) gL_holds_X5_count ⟨Nat.le_of_ble_eq_true rfl, Nat.le_of_ble_eq_true rfl⟩ (Nat.le_of_ble_eq_true rfl) rfl dL_holds_57 rfl h (fun r1 E1 Nm1 h => ?_)
    show G X _ [ntW pa Tn, bdW (gcA X) (pa 1) B, hsW (gcA X) (pa 2) (fun j => pa (10 + j)) Hs, bdW (gcA X) (pa 5) Tr, heW (gcA X) (pa 6) E1, heW (gcA X) (pa 7) F, nmW (gcA X) (pa 8) Nm1] _ _ _
    refine g_iload_n (pc' := 61) C dL_holds_60 rfl rfl ?_
    refine g_icmp_gt (pc' := 64) (tgt := 75) C dL_holds_61 (by decide) rfl h (fun c h => ?_) (fun c h => ?_)
    · exact G_loc (lle_s (lle_s (lle_s (lle_s (lle_s (lle_s (lle_s (lle_s (lle_n (lle_n (lle_n (lle_n (lle_n (lle_n (lle_n (lle_n lle_0)))))))))))))))) (B_L_holds_75 C pa N Tn B Hs p1 r Trz Ez Fz Nmz x2 x3 x4 x5 x6 x7 Tr E1 F Nm1 h)
    · refine g_iload (pc' := 66) C dL_holds_64 rfl rfl ?_
      refine g_bipush (pc' := 68) (v := 8) C dL_holds_66 (by decide) rfl ?_
      refine g_icmp_gt (pc' := 71) (tgt := 75) C dL_holds_68 (by decide) rfl h (fun c h => ?_) (fun c h => ?_)
      · exact G_loc (lle_s (lle_s (lle_s (lle_s (lle_s (lle_s (lle_s (lle_s (lle_n (lle_n (lle_n (lle_n (lle_n (lle_n (lle_n (lle_n lle_0)))))))))))))))) (B_L_holds_75 C pa N Tn B Hs p1 r Trz Ez Fz Nmz x2 x3 x4 x5 x6 x7 Tr E1 F Nm1 h)
      · refine g_iconst (pc' := 72) (v := 1) C dL_holds_71 (by decide) rfl ?_
        refine g_goto (pc' := 76) C dL_holds_72 (by decide) ?_
        exact G_loc (lle_s (lle_s (lle_s (lle_s (lle_s (lle_s (lle_s (lle_s (lle_n (lle_n (lle_n (lle_n (lle_n (lle_n (lle_n (lle_n lle_0)))))))))))))))) (B_L_holds_76 C pa N Tn B Hs p1 r Trz Ez Fz Nmz x2 x3 x4 x5 x6 x7 (1 : Int32) Tr E1 F Nm1 h)
  · exact G_loc (lle_s (lle_s (lle_s (lle_s (lle_s (lle_s (lle_s (lle_s (lle_n (lle_n (lle_n (lle_n (lle_n (lle_n (lle_n (lle_n lle_0)))))))))))))))) (B_L_holds_75 C pa N Tn B Hs p1 r Trz Ez Fz Nmz x2 x3 x4 x5 x6 x7 Tr E F Nm h)
set_option maxRecDepth 100000 in
set_option maxHeartbeats 4000000 in
theorem B_L_holds_42 {X : gX} (C : cx X RL cL_holds 16 (some .boolean) wsL_holds 7 156) (pa : Nat → Nat → Nat) (N : Nat) (Tn : tS) (B : tS) (Hs : tH) (p1 : Int32) (r : Int32) (Trz : tS) (Ez : tS) (Fz : tS) (Nmz : tS)  (x2 : Int32) (x3 : Int32) (x4 : Int32) (x5 : Int32) (x6 : Int32) (x7 : Int32) (t0 : Int32) (Tr : tS) (E : tS) (F : tS) (Nm : tS) (h : f_L_holds_42 N Tn B Hs p1  x2 x3 x4 x5 x6 x7 t0 Tr E F Nm = some (r, Trz, Ez, Fz, Nmz)) : G X (QI X r [ntW pa Tn, bdW (gcA X) (pa 1) B, hsW (gcA X) (pa 2) (fun j => pa (10 + j)) Hs, bdW (gcA X) (pa 5) Trz, heW (gcA X) (pa 6) Ez, heW (gcA X) (pa 7) Fz, nmW (gcA X) (pa 8) Nmz]) [ntW pa Tn, bdW (gcA X) (pa 1) B, hsW (gcA X) (pa 2) (fun j => pa (10 + j)) Hs, bdW (gcA X) (pa 5) Tr, heW (gcA X) (pa 6) E, heW (gcA X) (pa 7) F, nmW (gcA X) (pa 8) Nm] [some (.ref (pa 0 0)), some (.int p1), some (.int x2), some (.int x3), some (.int x4), some (.int x5), some (.int x6), some (.int x7), none, none, none, none, none, none, none, none] [.int t0] 42 := by
  unfold f_L_holds_42 at h
  refine g_iload_n (pc' := 43) C dL_holds_42 rfl rfl ?_
  refine g_if_ne (pc' := 46) (tgt := 50) C dL_holds_43 (by decide) rfl h (fun c h => ?_) (fun c h => ?_)
  · refine g_iconst (pc' := 47) (v := 1) C dL_holds_46 (by decide) rfl ?_
    refine g_goto (pc' := 51) C dL_holds_47 (by decide) ?_
    exact G_loc (lle_s (lle_s (lle_s (lle_s (lle_s (lle_s (lle_s (lle_s (lle_n (lle_n (lle_n (lle_n (lle_n (lle_n (lle_n (lle_n lle_0)))))))))))))))) (B_L_holds_51 C pa N Tn B Hs p1 r Trz Ez Fz Nmz x2 x3 x4 x5 x6 x7 (1 : Int32) t0 Tr E F Nm h)
  · refine g_iconst (pc' := 51) (v := 0) C dL_holds_50 (by decide) rfl ?_
    exact G_loc (lle_s (lle_s (lle_s (lle_s (lle_s (lle_s (lle_s (lle_s (lle_n (lle_n (lle_n (lle_n (lle_n (lle_n (lle_n (lle_n lle_0)))))))))))))))) (B_L_holds_51 C pa N Tn B Hs p1 r Trz Ez Fz Nmz x2 x3 x4 x5 x6 x7 (0 : Int32) t0 Tr E F Nm h)
set_option maxRecDepth 100000 in
set_option maxHeartbeats 4000000 in
theorem B_L_holds {X : gX} (C : cx X RL cL_holds 16 (some .boolean) wsL_holds 7 156) (pa : Nat → Nat → Nat) (N : Nat) (Tn : tS) (B : tS) (Hs : tH) (Tr : tS) (E : tS) (F : tS) (Nm : tS) (p1 : Int32) (r : Int32) (Trz : tS) (Ez : tS) (Fz : tS) (Nmz : tS) (h : f_L_holds N Tn B Hs Tr E F Nm p1 = some (r, Trz, Ez, Fz, Nmz)) : G X (QI X r [ntW pa Tn, bdW (gcA X) (pa 1) B, hsW (gcA X) (pa 2) (fun j => pa (10 + j)) Hs, bdW (gcA X) (pa 5) Trz, heW (gcA X) (pa 6) Ez, heW (gcA X) (pa 7) Fz, nmW (gcA X) (pa 8) Nmz]) [ntW pa Tn, bdW (gcA X) (pa 1) B, hsW (gcA X) (pa 2) (fun j => pa (10 + j)) Hs, bdW (gcA X) (pa 5) Tr, heW (gcA X) (pa 6) E, heW (gcA X) (pa 7) F, nmW (gcA X) (pa 8) Nm] [some (.ref (pa 0 0)), some (.int p1), none, none, none, none, none, none, none, none, none, none, none, none, none, none] [] 0 := by
  unfold f_L_holds at h
  refine g_aload_n (pc' := 1) C dL_holds_0 rfl rfl ?_
  refine g_iconst (pc' := 2) (v := 0) C dL_holds_1 (by decide) rfl ?_
  refine k_X5_count (pc' := 5) C pa N Tn B Hs E Nm (0 : Int32) [0, 1, 2, 4, 6] rfl (by decide) gL_holds_X5_count ⟨Nat.le_of_ble_eq_true rfl, Nat.le_of_ble_eq_true rfl⟩ (Nat.le_of_ble_eq_true rfl) rfl dL_holds_2 rfl h (fun r1 E1 Nm1 h => ?_)
  show G X _ [ntW pa Tn, bdW (gcA X) (pa 1) B, hsW (gcA X) (pa 2) (fun j => pa (10 + j)) Hs, bdW (gcA X) (pa 5) Tr, heW (gcA X) (pa 6) E1, heW (gcA X) (pa 7) F, nmW (gcA X) (pa 8) Nm1] _ _ _
  refine g_istore_n (pc' := 6) C dL_holds_5 (Nat.le_of_ble_eq_true rfl) rfl (L' := [some (.ref (pa 0 0)), some (.int p1), some (.int r1), none, none, none, none, none, none, none, none, none, none, none, none, none]) rfl ?_
  refine g_aload_n (pc' := 7) C dL_holds_6 rfl rfl ?_
  refine g_iconst (pc' := 8) (v := 1) C dL_holds_7 (by decide) rfl ?_
  refine k_X5_count (pc' := 11) C pa N Tn B Hs E1 Nm1 (1 : Int32) [0, 1, 2, 4, 6] rfl (by decide) gL_holds_X5_count ⟨Nat.le_of_ble_eq_true rfl, Nat.le_of_ble_eq_true rfl⟩ (Nat.le_of_ble_eq_true rfl) rfl dL_holds_8 rfl h (fun r2 E2 Nm2 h => ?_)
  show G X _ [ntW pa Tn, bdW (gcA X) (pa 1) B, hsW (gcA X) (pa 2) (fun j => pa (10 + j)) Hs, bdW (gcA X) (pa 5) Tr, heW (gcA X) (pa 6) E2, heW (gcA X) (pa 7) F, nmW (gcA X) (pa 8) Nm2] _ _ _
  refine g_istore_n (pc' := 12) C dL_holds_11 (Nat.le_of_ble_eq_true rfl) rfl (L' := [some (.ref (pa 0 0)), some (.int p1), some (.int r1), some (.int r2), none, none, none, none, none, none, none, none, none, none, none, none]) rfl ?_
  refine g_aload_n (pc' := 13) C dL_holds_12 rfl rfl ?_
  refine g_iconst (pc' := 14) (v := 2) C dL_holds_13 (by decide) rfl ?_
  refine k_X5_count (pc' := 17) C pa N Tn B Hs E2 Nm2 (2 : Int32) [0, 1, 2, 4, 6] rfl (by decide) gL_holds_X5_count ⟨Nat.le_of_ble_eq_true rfl, Nat.le_of_ble_eq_true rfl⟩ (Nat.le_of_ble_eq_true rfl) rfl dL_holds_14 rfl h (fun r3 E3 Nm3 h => ?_)
  show G X _ [ntW pa Tn, bdW (gcA X) (pa 1) B, hsW (gcA X) (pa 2) (fun j => pa (10 + j)) Hs, bdW (gcA X) (pa 5) Tr, heW (gcA X) (pa 6) E3, heW (gcA X) (pa 7) F, nmW (gcA X) (pa 8) Nm3] _ _ _
  refine g_istore (pc' := 19) C dL_holds_17 (Nat.le_of_ble_eq_true rfl) rfl (L' := [some (.ref (pa 0 0)), some (.int p1), some (.int r1), some (.int r2), some (.int r3), none, none, none, none, none, none, none, none, none, none, none]) rfl ?_
  refine g_iconst (pc' := 20) (v := 0) C dL_holds_19 (by decide) rfl ?_
  refine g_istore (pc' := 22) C dL_holds_20 (Nat.le_of_ble_eq_true rfl) rfl (L' := [some (.ref (pa 0 0)), some (.int p1), some (.int r1), some (.int r2), some (.int r3), some (.int (0 : Int32)), none, none, none, none, none, none, none, none, none, none]) rfl ?_
  refine g_iconst (pc' := 23) (v := 0) C dL_holds_22 (by decide) rfl ?_
  refine g_istore (pc' := 25) C dL_holds_23 (Nat.le_of_ble_eq_true rfl) rfl (L' := [some (.ref (pa 0 0)), some (.int p1), some (.int r1), some (.int r2), some (.int r3), some (.int (0 : Int32)), some (.int (0 : Int32)), none, none, none, none, none, none, none, none, none]) rfl ?_
  refine g_iconst (pc' := 26) (v := 0) C dL_holds_25 (by decide) rfl ?_
  refine g_istore (pc' := 28) C dL_holds_26 (Nat.le_of_ble_eq_true rfl) rfl (L' := [some (.ref (pa 0 0)), some (.int p1), some (.int r1), some (.int r2), some (.int r3), some (.int (0 : Int32)), some (.int (0 : Int32)), some (.int (0 : Int32)), none, none, none, none, none, none, none, none]) rfl ?_
  refine g_iload_n (pc' := 29) C dL_holds_28 rfl rfl ?_
  refine g_iload_n (pc' := 30) C dL_holds_29 rfl rfl ?_
  refine g_icmp_gt (pc' := 33) (tgt := 75) C dL_holds_30 (by decide) rfl h (fun c h => ?_) (fun c h => ?_)
  · exact G_loc (lle_s (lle_s (lle_s (lle_s (lle_s (lle_s (lle_s (lle_s (lle_n (lle_n (lle_n (lle_n (lle_n (lle_n (lle_n (lle_n lle_0)))))))))))))))) (B_L_holds_75 C pa N Tn B Hs p1 r Trz Ez Fz Nmz r1 r2 r3 (0 : Int32) (0 : Int32) (0 : Int32) Tr E3 F Nm3 h)
  · refine g_iload_n (pc' := 34) C dL_holds_33 rfl rfl ?_
    refine g_if_ne (pc' := 37) (tgt := 41) C dL_holds_34 (by decide) rfl h (fun c h => ?_) (fun c h => ?_)
    · refine g_iconst (pc' := 38) (v := 1) C dL_holds_37 (by decide) rfl ?_
      refine g_goto (pc' := 42) C dL_holds_38 (by decide) ?_
      exact G_loc (lle_s (lle_s (lle_s (lle_s (lle_s (lle_s (lle_s (lle_s (lle_n (lle_n (lle_n (lle_n (lle_n (lle_n (lle_n (lle_n lle_0)))))))))))))))) (B_L_holds_42 C pa N Tn B Hs p1 r Trz Ez Fz Nmz r1 r2 r3 (0 : Int32) (0 : Int32) (0 : Int32) (1 : Int32) Tr E3 F Nm3 h)
    · refine g_iconst (pc' := 42) (v := 0) C dL_holds_41 (by decide) rfl ?_
      exact G_loc (lle_s (lle_s (lle_s (lle_s (lle_s (lle_s (lle_s (lle_s (lle_n (lle_n (lle_n (lle_n (lle_n (lle_n (lle_n (lle_n lle_0)))))))))))))))) (B_L_holds_42 C pa N Tn B Hs p1 r Trz Ez Fz Nmz r1 r2 r3 (0 : Int32) (0 : Int32) (0 : Int32) (0 : Int32) Tr E3 F Nm3 h)
set_option maxRecDepth 100000 in
set_option maxHeartbeats 4000000 in
theorem c_L_holds (l : Launch) (D : va_G) (cA : Nat → ClassId) (pa : Nat → Nat → Nat) (N : Nat) (Tn : tS) (B : tS) (Hs : tH) (Tr : tS) (E : tS) (F : tS) (Nm : tS) (p1 : Int32) (r : Int32) (Trz : tS) (Ez : tS) (Fz : tS) (Nmz : tS) (h : f_L_holds N Tn B Hs Tr E F Nm p1 = some (r, Trz, Ez, Fz, Nmz)) : MI l D cA yL_holds wsL_holds 7 156 [.ref (pa 0 0), .int p1] [ntW pa Tn, bdW cA (pa 1) B, hsW cA (pa 2) (fun j => pa (10 + j)) Hs, bdW cA (pa 5) Tr, heW cA (pa 6) E, heW cA (pa 7) F, nmW cA (pa 8) Nm] r [ntW pa Tn, bdW cA (pa 1) B, hsW cA (pa 2) (fun j => pa (10 + j)) Hs, bdW cA (pa 5) Trz, heW cA (pa 6) Ez, heW cA (pa 7) Fz, nmW cA (pa 8) Nmz] := MI_of (cc := cL_holds) (maxL := 16) (rt := some .boolean) (by decide +kernel) rfl (List.forall_mem_cons.mpr ⟨rfl, List.forall_mem_cons.mpr ⟨rfl, List.forall_mem_nil _⟩⟩) (Nat.le_of_ble_eq_true rfl) (fun X e1 e2 e3 C => by subst e1; subst e2; subst e3; exact B_L_holds C pa N Tn B Hs Tr E F Nm p1 r Trz Ez Fz Nmz h)
set_option maxRecDepth 100000 in
set_option maxHeartbeats 4000000 in
theorem nd_L_holds : nd yL_holds 2 := ⟨by decide +kernel, by decide +kernel, by decide +kernel⟩
set_option maxRecDepth 100000 in
set_option maxHeartbeats 4000000 in
theorem k_L_holds {X : gX} {own : String} {cc : ByteArray} {nL : Nat} {ret : Option FieldType} {Ts : List Cond} {fr lm : Nat} {Q : State → Prop} {ms : List va_W} {L : List (Option Value)} {st : List Value} {pc pc' idx : Nat} {ρ : Type} {T : Int32 → tS → tS → tS → tS → Option ρ} {res : ρ} (C : cx X own cc nL ret Ts fr lm) (pa : Nat → Nat → Nat) (N : Nat) (Tn : tS) (B : tS) (Hs : tH) (Tr : tS) (E : tS) (F : tS) (Nm : tS) (p1 : Int32) (is : List Nat) (hC : is.map (fun i => ms[i]?) = [some (ntW pa Tn), some (bdW (gcA X) (pa 1) B), some (hsW (gcA X) (pa 2) (fun j => pa (10 + j)) Hs), some (bdW (gcA X) (pa 5) Tr), some (heW (gcA X) (pa 6) E), some (heW (gcA X) (pa 7) F), some (nmW (gcA X) (pa 8) Nm)]) (hn : is.Nodup) (hG : GoodIn Ts (va_wsS own idx yL_holds wsL_holds)) (hR : 7 + 1 ≤ fr ∧ 8 + (16 + 11) + 156 ≤ lm) (hst : (st.map fun v => v.category).sum ≤ 8) (hLn : L.length = nL) (d : decode cc pc = .ok (.invokestatic idx, 3)) (hp : pc + 3 = pc') (h : bd5 (f_L_holds N Tn B Hs Tr E F Nm p1) T = some res) (kk : ∀ (r : Int32) (Trz : tS) (Ez : tS) (Fz : tS) (Nmz : tS), T r Trz Ez Fz Nmz = some res → G X Q (rpl ms is [ntW pa Tn, bdW (gcA X) (pa 1) B, hsW (gcA X) (pa 2) (fun j => pa (10 + j)) Hs, bdW (gcA X) (pa 5) Trz, heW (gcA X) (pa 6) Ez, heW (gcA X) (pa 7) Fz, nmW (gcA X) (pa 8) Nmz]) L (.int r :: st) pc') : G X Q ms L (.int p1 :: .ref (pa 0 0) :: st) pc := by
  obtain ⟨r, Trz, Ez, Fz, Nmz, h1, h⟩ := ob5 h
  exact G_callSI C (As := [.ref (pa 0 0), .int p1]) (c_L_holds (gl X) (gD X) (gcA X) pa N Tn B Hs Tr E F Nm p1 r Trz Ez Fz Nmz h1) hG rfl nd_L_holds hR hC hn rfl rfl hst hLn d hp (kk r Trz Ez Fz Nmz h)
