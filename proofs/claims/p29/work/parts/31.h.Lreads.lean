set_option maxRecDepth 100000 in
set_option maxHeartbeats 4000000 in
theorem B_L_reads_170 {X : gX} (C : cx X RL cL_reads 7 (some .boolean) wsL_reads 7 152) (pa : Nat → Nat → Nat) (N : Nat) (p1 : Int32) (r : Int32) (Tnz : tS) (Bz : tS) (Hsz : tH) (Txz : tS) (Trz : tS) (Ez : tS) (Nmz : tS) (Btz : tS)  (Tn : tS) (B : tS) (Hs : tH) (Tx : tS) (Tr : tS) (E : tS) (Nm : tS) (Bt : tS) (h : f_L_reads_170 N p1  Tn B Hs Tx Tr E Nm Bt = some (r, Tnz, Bz, Hsz, Txz, Trz, Ez, Nmz, Btz)) : G X (QI X r [ntW pa Tnz, bdW (gcA X) (pa 1) Bz, hsW (gcA X) (pa 2) (fun j => pa (10 + j)) Hsz, txW (gcA X) (pa 4) Txz, bdW (gcA X) (pa 5) Trz, heW (gcA X) (pa 6) Ez, nmW (gcA X) (pa 8) Nmz, btW (pa 9) (pa 5 0) Btz]) [ntW pa Tn, bdW (gcA X) (pa 1) B, hsW (gcA X) (pa 2) (fun j => pa (10 + j)) Hs, txW (gcA X) (pa 4) Tx, bdW (gcA X) (pa 5) Tr, heW (gcA X) (pa 6) E, nmW (gcA X) (pa 8) Nm, btW (pa 9) (pa 5 0) Bt] [some (.ref (pa 0 0)), some (.int p1), none, none, none, none, none] [] 170 := by
  unfold f_L_reads_170 at h
  refine g_iconst (pc' := 171) (v := 1) C dL_reads_170 (by decide) rfl ?_
  refine g_goto (pc' := 175) C dL_reads_171 (by decide) ?_
  obtain ⟨rfl, rfl, rfl, rfl, rfl, rfl, rfl, rfl, rfl⟩ := pj9 (Option.some.inj h)
  exact g_zret0 C rfl dL_reads_175
set_option maxRecDepth 100000 in
set_option maxHeartbeats 4000000 in
theorem B_L_reads_153 {X : gX} (C : cx X RL cL_reads 7 (some .boolean) wsL_reads 7 152) (pa : Nat → Nat → Nat) (N : Nat) (p1 : Int32) (r : Int32) (Tnz : tS) (Bz : tS) (Hsz : tH) (Txz : tS) (Trz : tS) (Ez : tS) (Nmz : tS) (Btz : tS)  (t0 : Int32) (t1 : Int32) (Tn : tS) (B : tS) (Hs : tH) (Tx : tS) (Tr : tS) (E : tS) (Nm : tS) (Bt : tS) (h : f_L_reads_153 N p1  t0 t1 Tn B Hs Tx Tr E Nm Bt = some (r, Tnz, Bz, Hsz, Txz, Trz, Ez, Nmz, Btz)) : G X (QI X r [ntW pa Tnz, bdW (gcA X) (pa 1) Bz, hsW (gcA X) (pa 2) (fun j => pa (10 + j)) Hsz, txW (gcA X) (pa 4) Txz, bdW (gcA X) (pa 5) Trz, heW (gcA X) (pa 6) Ez, nmW (gcA X) (pa 8) Nmz, btW (pa 9) (pa 5 0) Btz]) [ntW pa Tn, bdW (gcA X) (pa 1) B, hsW (gcA X) (pa 2) (fun j => pa (10 + j)) Hs, txW (gcA X) (pa 4) Tx, bdW (gcA X) (pa 5) Tr, heW (gcA X) (pa 6) E, nmW (gcA X) (pa 8) Nm, btW (pa 9) (pa 5 0) Bt] [some (.ref (pa 0 0)), some (.int p1), none, none, none, none, none] [.int t0, .int t1] 153 := by
  unfold f_L_reads_153 at h
  refine g_icmp_ne (pc' := 156) (tgt := 174) C dL_reads_153 (by decide) rfl h (fun c h => ?_) (fun c h => ?_)
  · refine g_aload_n (pc' := 157) C dL_reads_156 rfl rfl ?_
    refine g_iconst (pc' := 158) (v := 3) C dL_reads_157 (by decide) rfl ?_
    refine k_X5_count (pc' := 161) C pa N Tn B Hs E Nm (3 : Int32) [0, 1, 2, 5, 6] rfl (by decide) gL_reads_X5_count ⟨Nat.le_of_ble_eq_true rfl, Nat.le_of_ble_eq_true rfl⟩ (Nat.le_of_ble_eq_true rfl) rfl dL_reads_158 rfl h (fun r1 E1 Nm1 h => ?_)
    show G X _ [ntW pa Tn, bdW (gcA X) (pa 1) B, hsW (gcA X) (pa 2) (fun j => pa (10 + j)) Hs, txW (gcA X) (pa 4) Tx, bdW (gcA X) (pa 5) Tr, heW (gcA X) (pa 6) E1, nmW (gcA X) (pa 8) Nm1, btW (pa 9) (pa 5 0) Bt] _ _ _
    refine g_aload_n (pc' := 162) C dL_reads_161 rfl rfl ?_
    refine g_bipush (pc' := 164) (v := 9) C dL_reads_162 (by decide) rfl ?_
    refine k_X5_count (pc' := 167) C pa N Tn B Hs E1 Nm1 (9 : Int32) [0, 1, 2, 5, 6] rfl (by decide) gL_reads_X5_count ⟨Nat.le_of_ble_eq_true rfl, Nat.le_of_ble_eq_true rfl⟩ (Nat.le_of_ble_eq_true rfl) rfl dL_reads_164 rfl h (fun r2 E2 Nm2 h => ?_)
    show G X _ [ntW pa Tn, bdW (gcA X) (pa 1) B, hsW (gcA X) (pa 2) (fun j => pa (10 + j)) Hs, txW (gcA X) (pa 4) Tx, bdW (gcA X) (pa 5) Tr, heW (gcA X) (pa 6) E2, nmW (gcA X) (pa 8) Nm2, btW (pa 9) (pa 5 0) Bt] _ _ _
    refine g_icmp_gt (pc' := 170) (tgt := 174) C dL_reads_167 (by decide) rfl h (fun c h => ?_) (fun c h => ?_)
    · refine g_iconst (pc' := 175) (v := 0) C dL_reads_174 (by decide) rfl ?_
      obtain ⟨rfl, rfl, rfl, rfl, rfl, rfl, rfl, rfl, rfl⟩ := pj9 (Option.some.inj h)
      exact g_zret0 C rfl dL_reads_175
    · exact G_loc (lle_s (lle_s (lle_n (lle_n (lle_n (lle_n (lle_n lle_0))))))) (B_L_reads_170 C pa N p1 r Tnz Bz Hsz Txz Trz Ez Nmz Btz Tn B Hs Tx Tr E2 Nm2 Bt h)
  · refine g_iconst (pc' := 175) (v := 0) C dL_reads_174 (by decide) rfl ?_
    obtain ⟨rfl, rfl, rfl, rfl, rfl, rfl, rfl, rfl, rfl⟩ := pj9 (Option.some.inj h)
    exact g_zret0 C rfl dL_reads_175
set_option maxRecDepth 100000 in
set_option maxHeartbeats 4000000 in
theorem B_L_reads {X : gX} (C : cx X RL cL_reads 7 (some .boolean) wsL_reads 7 152) (pa : Nat → Nat → Nat) (N : Nat) (Tn : tS) (B : tS) (Hs : tH) (Tx : tS) (Tr : tS) (E : tS) (Nm : tS) (Bt : tS) (p1 : Int32) (r : Int32) (Tnz : tS) (Bz : tS) (Hsz : tH) (Txz : tS) (Trz : tS) (Ez : tS) (Nmz : tS) (Btz : tS) (h : f_L_reads N Tn B Hs Tx Tr E Nm Bt p1 = some (r, Tnz, Bz, Hsz, Txz, Trz, Ez, Nmz, Btz)) : G X (QI X r [ntW pa Tnz, bdW (gcA X) (pa 1) Bz, hsW (gcA X) (pa 2) (fun j => pa (10 + j)) Hsz, txW (gcA X) (pa 4) Txz, bdW (gcA X) (pa 5) Trz, heW (gcA X) (pa 6) Ez, nmW (gcA X) (pa 8) Nmz, btW (pa 9) (pa 5 0) Btz]) [ntW pa Tn, bdW (gcA X) (pa 1) B, hsW (gcA X) (pa 2) (fun j => pa (10 + j)) Hs, txW (gcA X) (pa 4) Tx, bdW (gcA X) (pa 5) Tr, heW (gcA X) (pa 6) E, nmW (gcA X) (pa 8) Nm, btW (pa 9) (pa 5 0) Bt] [some (.ref (pa 0 0)), some (.int p1), none, none, none, none, none] [] 0 := by
  unfold f_L_reads at h
  refine g_aload_n (pc' := 1) C dL_reads_0 rfl rfl ?_
  refine g_bipush (pc' := 3) (v := 11) C dL_reads_1 (by decide) rfl ?_
  refine k_X5_count (pc' := 6) C pa N Tn B Hs E Nm (11 : Int32) [0, 1, 2, 5, 6] rfl (by decide) gL_reads_X5_count ⟨Nat.le_of_ble_eq_true rfl, Nat.le_of_ble_eq_true rfl⟩ (Nat.le_of_ble_eq_true rfl) rfl dL_reads_3 rfl h (fun r1 E1 Nm1 h => ?_)
  show G X _ [ntW pa Tn, bdW (gcA X) (pa 1) B, hsW (gcA X) (pa 2) (fun j => pa (10 + j)) Hs, txW (gcA X) (pa 4) Tx, bdW (gcA X) (pa 5) Tr, heW (gcA X) (pa 6) E1, nmW (gcA X) (pa 8) Nm1, btW (pa 9) (pa 5 0) Bt] _ _ _
  refine g_istore_n (pc' := 7) C dL_reads_6 (Nat.le_of_ble_eq_true rfl) rfl (L' := [some (.ref (pa 0 0)), some (.int p1), some (.int r1), none, none, none, none]) rfl ?_
  refine g_aload_n (pc' := 8) C dL_reads_7 rfl rfl ?_
  refine g_iconst (pc' := 9) (v := 0) C dL_reads_8 (by decide) rfl ?_
  refine k_X5_count (pc' := 12) C pa N Tn B Hs E1 Nm1 (0 : Int32) [0, 1, 2, 5, 6] rfl (by decide) gL_reads_X5_count ⟨Nat.le_of_ble_eq_true rfl, Nat.le_of_ble_eq_true rfl⟩ (Nat.le_of_ble_eq_true rfl) rfl dL_reads_9 rfl h (fun r2 E2 Nm2 h => ?_)
  show G X _ [ntW pa Tn, bdW (gcA X) (pa 1) B, hsW (gcA X) (pa 2) (fun j => pa (10 + j)) Hs, txW (gcA X) (pa 4) Tx, bdW (gcA X) (pa 5) Tr, heW (gcA X) (pa 6) E2, nmW (gcA X) (pa 8) Nm2, btW (pa 9) (pa 5 0) Bt] _ _ _
  refine g_istore_n (pc' := 13) C dL_reads_12 (Nat.le_of_ble_eq_true rfl) rfl (L' := [some (.ref (pa 0 0)), some (.int p1), some (.int r1), some (.int r2), none, none, none]) rfl ?_
  refine g_aload_n (pc' := 14) C dL_reads_13 rfl rfl ?_
  refine g_iload_n (pc' := 15) C dL_reads_14 rfl rfl ?_
  refine k_L_types (pc' := 18) C pa N Tn Tx p1 [0, 3] rfl (by decide) gL_reads_L_types ⟨Nat.le_of_ble_eq_true rfl, Nat.le_of_ble_eq_true rfl⟩ (Nat.le_of_ble_eq_true rfl) rfl dL_reads_15 rfl h (fun r3 Tn3 Tx3 h => ?_)
  show G X _ [ntW pa Tn3, bdW (gcA X) (pa 1) B, hsW (gcA X) (pa 2) (fun j => pa (10 + j)) Hs, txW (gcA X) (pa 4) Tx3, bdW (gcA X) (pa 5) Tr, heW (gcA X) (pa 6) E2, nmW (gcA X) (pa 8) Nm2, btW (pa 9) (pa 5 0) Bt] _ _ _
  refine g_istore (pc' := 20) C dL_reads_18 (Nat.le_of_ble_eq_true rfl) rfl (L' := [some (.ref (pa 0 0)), some (.int p1), some (.int r1), some (.int r2), some (.int r3), none, none]) rfl ?_
  refine g_aload_n (pc' := 21) C dL_reads_20 rfl rfl ?_
  refine g_bipush (pc' := 23) (v := 12) C dL_reads_21 (by decide) rfl ?_
  refine k_X5_count (pc' := 26) C pa N Tn3 B Hs E2 Nm2 (12 : Int32) [0, 1, 2, 5, 6] rfl (by decide) gL_reads_X5_count ⟨Nat.le_of_ble_eq_true rfl, Nat.le_of_ble_eq_true rfl⟩ (Nat.le_of_ble_eq_true rfl) rfl dL_reads_23 rfl h (fun r4 E4 Nm4 h => ?_)
  show G X _ [ntW pa Tn3, bdW (gcA X) (pa 1) B, hsW (gcA X) (pa 2) (fun j => pa (10 + j)) Hs, txW (gcA X) (pa 4) Tx3, bdW (gcA X) (pa 5) Tr, heW (gcA X) (pa 6) E4, nmW (gcA X) (pa 8) Nm4, btW (pa 9) (pa 5 0) Bt] _ _ _
  refine g_istore (pc' := 28) C dL_reads_26 (Nat.le_of_ble_eq_true rfl) rfl (L' := [some (.ref (pa 0 0)), some (.int p1), some (.int r1), some (.int r2), some (.int r3), some (.int r4), none]) rfl ?_
  refine g_aload_n (pc' := 29) C dL_reads_28 rfl rfl ?_
  refine k_X5_load (pc' := 32) C pa N Tn3 B Hs Tx3 Tr Bt [0, 1, 2, 3, 4, 7] rfl (by decide) gL_reads_X5_load ⟨Nat.le_of_ble_eq_true rfl, Nat.le_of_ble_eq_true rfl⟩ (Nat.le_of_ble_eq_true rfl) rfl dL_reads_29 rfl h (fun r5 B5 Hs5 Tr5 Bt5 h => ?_)
  show G X _ [ntW pa Tn3, bdW (gcA X) (pa 1) B5, hsW (gcA X) (pa 2) (fun j => pa (10 + j)) Hs5, txW (gcA X) (pa 4) Tx3, bdW (gcA X) (pa 5) Tr5, heW (gcA X) (pa 6) E4, nmW (gcA X) (pa 8) Nm4, btW (pa 9) (pa 5 0) Bt5] _ _ _
  refine g_istore (pc' := 34) C dL_reads_32 (Nat.le_of_ble_eq_true rfl) rfl (L' := [some (.ref (pa 0 0)), some (.int p1), some (.int r1), some (.int r2), some (.int r3), some (.int r4), some (.int r5)]) rfl ?_
  refine g_iload (pc' := 36) C dL_reads_34 rfl rfl ?_
  refine g_if_eq (pc' := 39) (tgt := 174) C dL_reads_36 (by decide) rfl h (fun c h => ?_) (fun c h => ?_)
  · refine g_iconst (pc' := 175) (v := 0) C dL_reads_174 (by decide) rfl ?_
    obtain ⟨rfl, rfl, rfl, rfl, rfl, rfl, rfl, rfl, rfl⟩ := pj9 (Option.some.inj h)
    exact g_zret0 C rfl dL_reads_175
  · refine g_aload_n (pc' := 40) C dL_reads_39 rfl rfl ?_
    refine g_bipush (pc' := 42) (v := 12) C dL_reads_40 (by decide) rfl ?_
    refine k_X5_count (pc' := 45) C pa N Tn3 B5 Hs5 E4 Nm4 (12 : Int32) [0, 1, 2, 5, 6] rfl (by decide) gL_reads_X5_count ⟨Nat.le_of_ble_eq_true rfl, Nat.le_of_ble_eq_true rfl⟩ (Nat.le_of_ble_eq_true rfl) rfl dL_reads_42 rfl h (fun r6 E6 Nm6 h => ?_)
    show G X _ [ntW pa Tn3, bdW (gcA X) (pa 1) B5, hsW (gcA X) (pa 2) (fun j => pa (10 + j)) Hs5, txW (gcA X) (pa 4) Tx3, bdW (gcA X) (pa 5) Tr5, heW (gcA X) (pa 6) E6, nmW (gcA X) (pa 8) Nm6, btW (pa 9) (pa 5 0) Bt5] _ _ _
    refine g_iload (pc' := 47) C dL_reads_45 rfl rfl ?_
    refine g_icmp_ne (pc' := 50) (tgt := 174) C dL_reads_47 (by decide) rfl h (fun c h => ?_) (fun c h => ?_)
    · refine g_iload (pc' := 52) C dL_reads_50 rfl rfl ?_
      refine g_if_ge (pc' := 55) (tgt := 94) C dL_reads_52 (by decide) rfl h (fun c h => ?_) (fun c h => ?_)
      · refine g_iload (pc' := 96) C dL_reads_94 rfl rfl ?_
        refine g_iconst (pc' := 97) (v := 1) C dL_reads_96 (by decide) rfl ?_
        refine g_iload_n (pc' := 98) C dL_reads_97 rfl rfl ?_
        refine g_bipush (pc' := 100) (v := 6) C dL_reads_98 (by decide) rfl ?_
        refine k_L_low (pc' := 103) C N p1 (6 : Int32) [] rfl (by decide) gL_reads_L_low ⟨Nat.le_of_ble_eq_true rfl, Nat.le_of_ble_eq_true rfl⟩ (Nat.le_of_ble_eq_true rfl) rfl dL_reads_100 rfl h (fun r7 h => ?_)
        refine g_iadd (pc' := 104) C dL_reads_103 rfl ?_
        refine g_icmp_ne (pc' := 107) (tgt := 174) C dL_reads_104 (by decide) rfl h (fun c h => ?_) (fun c h => ?_)
        · refine g_aload_n (pc' := 108) C dL_reads_107 rfl rfl ?_
          refine g_iconst (pc' := 109) (v := 0) C dL_reads_108 (by decide) rfl ?_
          refine k_X5_count (pc' := 112) C pa N Tn3 B5 Hs5 E6 Nm6 (0 : Int32) [0, 1, 2, 5, 6] rfl (by decide) gL_reads_X5_count ⟨Nat.le_of_ble_eq_true rfl, Nat.le_of_ble_eq_true rfl⟩ (Nat.le_of_ble_eq_true rfl) rfl dL_reads_109 rfl h (fun r8 E8 Nm8 h => ?_)
          show G X _ [ntW pa Tn3, bdW (gcA X) (pa 1) B5, hsW (gcA X) (pa 2) (fun j => pa (10 + j)) Hs5, txW (gcA X) (pa 4) Tx3, bdW (gcA X) (pa 5) Tr5, heW (gcA X) (pa 6) E8, nmW (gcA X) (pa 8) Nm8, btW (pa 9) (pa 5 0) Bt5] _ _ _
          refine g_iload (pc' := 114) C dL_reads_112 rfl rfl ?_
          refine g_icmp_ne (pc' := 117) (tgt := 174) C dL_reads_114 (by decide) rfl h (fun c h => ?_) (fun c h => ?_)
          · refine g_aload_n (pc' := 118) C dL_reads_117 rfl rfl ?_
            refine g_iconst (pc' := 119) (v := 2) C dL_reads_118 (by decide) rfl ?_
            refine k_X5_count (pc' := 122) C pa N Tn3 B5 Hs5 E8 Nm8 (2 : Int32) [0, 1, 2, 5, 6] rfl (by decide) gL_reads_X5_count ⟨Nat.le_of_ble_eq_true rfl, Nat.le_of_ble_eq_true rfl⟩ (Nat.le_of_ble_eq_true rfl) rfl dL_reads_119 rfl h (fun r9 E9 Nm9 h => ?_)
            show G X _ [ntW pa Tn3, bdW (gcA X) (pa 1) B5, hsW (gcA X) (pa 2) (fun j => pa (10 + j)) Hs5, txW (gcA X) (pa 4) Tx3, bdW (gcA X) (pa 5) Tr5, heW (gcA X) (pa 6) E9, nmW (gcA X) (pa 8) Nm9, btW (pa 9) (pa 5 0) Bt5] _ _ _
            refine g_if_ne (pc' := 125) (tgt := 174) C dL_reads_122 (by decide) rfl h (fun c h => ?_) (fun c h => ?_)
            · refine g_aload_n (pc' := 126) C dL_reads_125 rfl rfl ?_
              refine g_iconst (pc' := 127) (v := 5) C dL_reads_126 (by decide) rfl ?_
              refine k_X5_count (pc' := 130) C pa N Tn3 B5 Hs5 E9 Nm9 (5 : Int32) [0, 1, 2, 5, 6] rfl (by decide) gL_reads_X5_count ⟨Nat.le_of_ble_eq_true rfl, Nat.le_of_ble_eq_true rfl⟩ (Nat.le_of_ble_eq_true rfl) rfl dL_reads_127 rfl h (fun r10 E10 Nm10 h => ?_)
              show G X _ [ntW pa Tn3, bdW (gcA X) (pa 1) B5, hsW (gcA X) (pa 2) (fun j => pa (10 + j)) Hs5, txW (gcA X) (pa 4) Tx3, bdW (gcA X) (pa 5) Tr5, heW (gcA X) (pa 6) E10, nmW (gcA X) (pa 8) Nm10, btW (pa 9) (pa 5 0) Bt5] _ _ _
              refine g_iload (pc' := 132) C dL_reads_130 rfl rfl ?_
              refine g_icmp_ne (pc' := 135) (tgt := 174) C dL_reads_132 (by decide) rfl h (fun c h => ?_) (fun c h => ?_)
              · refine g_aload_n (pc' := 136) C dL_reads_135 rfl rfl ?_
                refine g_bipush (pc' := 138) (v := 11) C dL_reads_136 (by decide) rfl ?_
                refine k_X5_count (pc' := 141) C pa N Tn3 B5 Hs5 E10 Nm10 (11 : Int32) [0, 1, 2, 5, 6] rfl (by decide) gL_reads_X5_count ⟨Nat.le_of_ble_eq_true rfl, Nat.le_of_ble_eq_true rfl⟩ (Nat.le_of_ble_eq_true rfl) rfl dL_reads_138 rfl h (fun r11 E11 Nm11 h => ?_)
                show G X _ [ntW pa Tn3, bdW (gcA X) (pa 1) B5, hsW (gcA X) (pa 2) (fun j => pa (10 + j)) Hs5, txW (gcA X) (pa 4) Tx3, bdW (gcA X) (pa 5) Tr5, heW (gcA X) (pa 6) E11, nmW (gcA X) (pa 8) Nm11, btW (pa 9) (pa 5 0) Bt5] _ _ _
                refine g_iload_n (pc' := 142) C dL_reads_141 rfl rfl ?_
                refine g_iconst (pc' := 143) (v := 4) C dL_reads_142 (by decide) rfl ?_
                refine g_icmp_ge (pc' := 146) (tgt := 152) C dL_reads_143 (by decide) rfl h (fun c h => ?_) (fun c h => ?_)
                · refine g_iconst (pc' := 153) (v := 4) C dL_reads_152 (by decide) rfl ?_
                  exact G_loc (lle_s (lle_s (lle_n (lle_n (lle_n (lle_n (lle_n lle_0))))))) (B_L_reads_153 C pa N p1 r Tnz Bz Hsz Txz Trz Ez Nmz Btz (4 : Int32) r11 Tn3 B5 Hs5 Tx3 Tr5 E11 Nm11 Bt5 h)
                · refine g_iload_n (pc' := 147) C dL_reads_146 rfl rfl ?_
                  refine g_iconst (pc' := 148) (v := 1) C dL_reads_147 (by decide) rfl ?_
                  refine g_iadd (pc' := 149) C dL_reads_148 rfl ?_
                  refine g_goto (pc' := 153) C dL_reads_149 (by decide) ?_
                  exact G_loc (lle_s (lle_s (lle_n (lle_n (lle_n (lle_n (lle_n lle_0))))))) (B_L_reads_153 C pa N p1 r Tnz Bz Hsz Txz Trz Ez Nmz Btz (r1 + (1 : Int32)) r11 Tn3 B5 Hs5 Tx3 Tr5 E11 Nm11 Bt5 h)
              · refine g_iconst (pc' := 175) (v := 0) C dL_reads_174 (by decide) rfl ?_
                obtain ⟨rfl, rfl, rfl, rfl, rfl, rfl, rfl, rfl, rfl⟩ := pj9 (Option.some.inj h)
                exact g_zret0 C rfl dL_reads_175
            · refine g_iconst (pc' := 175) (v := 0) C dL_reads_174 (by decide) rfl ?_
              obtain ⟨rfl, rfl, rfl, rfl, rfl, rfl, rfl, rfl, rfl⟩ := pj9 (Option.some.inj h)
              exact g_zret0 C rfl dL_reads_175
          · refine g_iconst (pc' := 175) (v := 0) C dL_reads_174 (by decide) rfl ?_
            obtain ⟨rfl, rfl, rfl, rfl, rfl, rfl, rfl, rfl, rfl⟩ := pj9 (Option.some.inj h)
            exact g_zret0 C rfl dL_reads_175
        · refine g_iconst (pc' := 175) (v := 0) C dL_reads_174 (by decide) rfl ?_
          obtain ⟨rfl, rfl, rfl, rfl, rfl, rfl, rfl, rfl, rfl⟩ := pj9 (Option.some.inj h)
          exact g_zret0 C rfl dL_reads_175
      · refine g_iload (pc' := 57) C dL_reads_55 rfl rfl ?_
        refine g_bipush (pc' := 59) (v := -100) C dL_reads_57 (by decide) rfl ?_
        refine g_icmp_gt (pc' := 62) (tgt := 174) C dL_reads_59 (by decide) rfl h (fun c h => ?_) (fun c h => ?_)
        · refine g_iconst (pc' := 175) (v := 0) C dL_reads_174 (by decide) rfl ?_
          obtain ⟨rfl, rfl, rfl, rfl, rfl, rfl, rfl, rfl, rfl⟩ := pj9 (Option.some.inj h)
          exact g_zret0 C rfl dL_reads_175
        · refine g_iload (pc' := 64) C dL_reads_62 rfl rfl ?_
          refine g_bipush (pc' := 66) (v := -100) C dL_reads_64 (by decide) rfl ?_
          refine g_iload (pc' := 68) C dL_reads_66 rfl rfl ?_
          refine g_isub (pc' := 69) C dL_reads_68 rfl ?_
          refine g_icmp_lt (pc' := 72) (tgt := 174) C dL_reads_69 (by decide) rfl h (fun c h => ?_) (fun c h => ?_)
          · refine g_iconst (pc' := 175) (v := 0) C dL_reads_174 (by decide) rfl ?_
            obtain ⟨rfl, rfl, rfl, rfl, rfl, rfl, rfl, rfl, rfl⟩ := pj9 (Option.some.inj h)
            exact g_zret0 C rfl dL_reads_175
          · refine g_aload_n (pc' := 73) C dL_reads_72 rfl rfl ?_
            refine g_bipush (pc' := 75) (v := 11) C dL_reads_73 (by decide) rfl ?_
            refine k_X5_count (pc' := 78) C pa N Tn3 B5 Hs5 E6 Nm6 (11 : Int32) [0, 1, 2, 5, 6] rfl (by decide) gL_reads_X5_count ⟨Nat.le_of_ble_eq_true rfl, Nat.le_of_ble_eq_true rfl⟩ (Nat.le_of_ble_eq_true rfl) rfl dL_reads_75 rfl h (fun r12 E12 Nm12 h => ?_)
            show G X _ [ntW pa Tn3, bdW (gcA X) (pa 1) B5, hsW (gcA X) (pa 2) (fun j => pa (10 + j)) Hs5, txW (gcA X) (pa 4) Tx3, bdW (gcA X) (pa 5) Tr5, heW (gcA X) (pa 6) E12, nmW (gcA X) (pa 8) Nm12, btW (pa 9) (pa 5 0) Bt5] _ _ _
            refine g_iload_n (pc' := 79) C dL_reads_78 rfl rfl ?_
            refine g_icmp_ne (pc' := 82) (tgt := 174) C dL_reads_79 (by decide) rfl h (fun c h => ?_) (fun c h => ?_)
            · refine g_aload_n (pc' := 83) C dL_reads_82 rfl rfl ?_
              refine g_iconst (pc' := 84) (v := 0) C dL_reads_83 (by decide) rfl ?_
              refine k_X5_count (pc' := 87) C pa N Tn3 B5 Hs5 E12 Nm12 (0 : Int32) [0, 1, 2, 5, 6] rfl (by decide) gL_reads_X5_count ⟨Nat.le_of_ble_eq_true rfl, Nat.le_of_ble_eq_true rfl⟩ (Nat.le_of_ble_eq_true rfl) rfl dL_reads_84 rfl h (fun r13 E13 Nm13 h => ?_)
              show G X _ [ntW pa Tn3, bdW (gcA X) (pa 1) B5, hsW (gcA X) (pa 2) (fun j => pa (10 + j)) Hs5, txW (gcA X) (pa 4) Tx3, bdW (gcA X) (pa 5) Tr5, heW (gcA X) (pa 6) E13, nmW (gcA X) (pa 8) Nm13, btW (pa 9) (pa 5 0) Bt5] _ _ _
              refine g_iload_n (pc' := 88) C dL_reads_87 rfl rfl ?_
              refine g_icmp_ne (pc' := 91) (tgt := 174) C dL_reads_88 (by decide) rfl h (fun c h => ?_) (fun c h => ?_)
              · refine g_goto (pc' := 170) C dL_reads_91 (by decide) ?_
                exact G_loc (lle_s (lle_s (lle_n (lle_n (lle_n (lle_n (lle_n lle_0))))))) (B_L_reads_170 C pa N p1 r Tnz Bz Hsz Txz Trz Ez Nmz Btz Tn3 B5 Hs5 Tx3 Tr5 E13 Nm13 Bt5 h)
              · refine g_iconst (pc' := 175) (v := 0) C dL_reads_174 (by decide) rfl ?_
                obtain ⟨rfl, rfl, rfl, rfl, rfl, rfl, rfl, rfl, rfl⟩ := pj9 (Option.some.inj h)
                exact g_zret0 C rfl dL_reads_175
            · refine g_iconst (pc' := 175) (v := 0) C dL_reads_174 (by decide) rfl ?_
              obtain ⟨rfl, rfl, rfl, rfl, rfl, rfl, rfl, rfl, rfl⟩ := pj9 (Option.some.inj h)
              exact g_zret0 C rfl dL_reads_175
    · refine g_iconst (pc' := 175) (v := 0) C dL_reads_174 (by decide) rfl ?_
      obtain ⟨rfl, rfl, rfl, rfl, rfl, rfl, rfl, rfl, rfl⟩ := pj9 (Option.some.inj h)
      exact g_zret0 C rfl dL_reads_175
set_option maxRecDepth 100000 in
set_option maxHeartbeats 4000000 in
theorem c_L_reads (l : Launch) (D : va_G) (cA : Nat → ClassId) (pa : Nat → Nat → Nat) (N : Nat) (Tn : tS) (B : tS) (Hs : tH) (Tx : tS) (Tr : tS) (E : tS) (Nm : tS) (Bt : tS) (p1 : Int32) (r : Int32) (Tnz : tS) (Bz : tS) (Hsz : tH) (Txz : tS) (Trz : tS) (Ez : tS) (Nmz : tS) (Btz : tS) (h : f_L_reads N Tn B Hs Tx Tr E Nm Bt p1 = some (r, Tnz, Bz, Hsz, Txz, Trz, Ez, Nmz, Btz)) : MI l D cA yL_reads wsL_reads 7 152 [.ref (pa 0 0), .int p1] [ntW pa Tn, bdW cA (pa 1) B, hsW cA (pa 2) (fun j => pa (10 + j)) Hs, txW cA (pa 4) Tx, bdW cA (pa 5) Tr, heW cA (pa 6) E, nmW cA (pa 8) Nm, btW (pa 9) (pa 5 0) Bt] r [ntW pa Tnz, bdW cA (pa 1) Bz, hsW cA (pa 2) (fun j => pa (10 + j)) Hsz, txW cA (pa 4) Txz, bdW cA (pa 5) Trz, heW cA (pa 6) Ez, nmW cA (pa 8) Nmz, btW (pa 9) (pa 5 0) Btz] := MI_of (cc := cL_reads) (maxL := 7) (rt := some .boolean) (by decide +kernel) rfl (List.forall_mem_cons.mpr ⟨rfl, List.forall_mem_cons.mpr ⟨rfl, List.forall_mem_nil _⟩⟩) (Nat.le_of_ble_eq_true rfl) (fun X e1 e2 e3 C => by subst e1; subst e2; subst e3; exact B_L_reads C pa N Tn B Hs Tx Tr E Nm Bt p1 r Tnz Bz Hsz Txz Trz Ez Nmz Btz h)
set_option maxRecDepth 100000 in
set_option maxHeartbeats 4000000 in
theorem nd_L_reads : nd yL_reads 2 := ⟨by decide +kernel, by decide +kernel, by decide +kernel⟩
set_option maxRecDepth 100000 in
set_option maxHeartbeats 4000000 in
theorem k_L_reads {X : gX} {own : String} {cc : ByteArray} {nL : Nat} {ret : Option FieldType} {Ts : List Cond} {fr lm : Nat} {Q : State → Prop} {ms : List va_W} {L : List (Option Value)} {st : List Value} {pc pc' idx : Nat} {ρ : Type} {T : Int32 → tS → tS → tH → tS → tS → tS → tS → tS → Option ρ} {res : ρ} (C : cx X own cc nL ret Ts fr lm) (pa : Nat → Nat → Nat) (N : Nat) (Tn : tS) (B : tS) (Hs : tH) (Tx : tS) (Tr : tS) (E : tS) (Nm : tS) (Bt : tS) (p1 : Int32) (is : List Nat) (hC : is.map (fun i => ms[i]?) = [some (ntW pa Tn), some (bdW (gcA X) (pa 1) B), some (hsW (gcA X) (pa 2) (fun j => pa (10 + j)) Hs), some (txW (gcA X) (pa 4) Tx), some (bdW (gcA X) (pa 5) Tr), some (heW (gcA X) (pa 6) E), some (nmW (gcA X) (pa 8) Nm), some (btW (pa 9) (pa 5 0) Bt)]) (hn : is.Nodup) (hG : GoodIn Ts (va_wsS own idx yL_reads wsL_reads)) (hR : 7 + 1 ≤ fr ∧ 8 + (7 + 11) + 152 ≤ lm) (hst : (st.map fun v => v.category).sum ≤ 8) (hLn : L.length = nL) (d : decode cc pc = .ok (.invokestatic idx, 3)) (hp : pc + 3 = pc') (h : bd9 (f_L_reads N Tn B Hs Tx Tr E Nm Bt p1) T = some res) (kk : ∀ (r : Int32) (Tnz : tS) (Bz : tS) (Hsz : tH) (Txz : tS) (Trz : tS) (Ez : tS) (Nmz : tS) (Btz : tS), T r Tnz Bz Hsz Txz Trz Ez Nmz Btz = some res → G X Q (rpl ms is [ntW pa Tnz, bdW (gcA X) (pa 1) Bz, hsW (gcA X) (pa 2) (fun j => pa (10 + j)) Hsz, txW (gcA X) (pa 4) Txz, bdW (gcA X) (pa 5) Trz, heW (gcA X) (pa 6) Ez, nmW (gcA X) (pa 8) Nmz, btW (pa 9) (pa 5 0) Btz]) L (.int r :: st) pc') : G X Q ms L (.int p1 :: .ref (pa 0 0) :: st) pc := by
  obtain ⟨r, Tnz, Bz, Hsz, Txz, Trz, Ez, Nmz, Btz, h1, h⟩ := ob9 h
  exact G_callSI C (As := [.ref (pa 0 0), .int p1]) (c_L_reads (gl X) (gD X) (gcA X) pa N Tn B Hs Tx Tr E Nm Bt p1 r Tnz Bz Hsz Txz Trz Ez Nmz Btz h1) hG rfl nd_L_reads hR hC hn rfl rfl hst hLn d hp (kk r Tnz Bz Hsz Txz Trz Ez Nmz Btz h)
