set_option maxRecDepth 100000 in
set_option maxHeartbeats 4000000 in
theorem B_L_acts_426 {X : gX} (C : cx X RL cL_acts 13 (some .boolean) wsL_acts 8 178) (hf : cf X) (pa : Nat → Nat → Nat) (N : Nat) (p1 : Int32) (p2 : Int32) (r : Int32) (Tnz : tS) (Bz : tS) (Hsz : tH) (Txz : tS) (Trz : tS) (Ez : tS) (Fz : tS) (Nmz : tS) (Btz : tS)  (t0 : Int32) (t1 : Int32) (Tn : tS) (B : tS) (Hs : tH) (Tx : tS) (Tr : tS) (E : tS) (F : tS) (Nm : tS) (Bt : tS) (h : f_L_acts_426 N p1 p2  t0 t1 Tn B Hs Tx Tr E F Nm Bt = some (r, Tnz, Bz, Hsz, Txz, Trz, Ez, Fz, Nmz, Btz)) : G X (QI X r [ntW pa Tnz, bdW (gcA X) (pa 1) Bz, hsW (gcA X) (pa 2) (fun j => pa (10 + j)) Hsz, txW (gcA X) (pa 4) Txz, bdW (gcA X) (pa 5) Trz, heW (gcA X) (pa 6) Ez, heW (gcA X) (pa 7) Fz, nmW (gcA X) (pa 8) Nmz, btW (pa 9) (pa 5 0) Btz]) [ntW pa Tn, bdW (gcA X) (pa 1) B, hsW (gcA X) (pa 2) (fun j => pa (10 + j)) Hs, txW (gcA X) (pa 4) Tx, bdW (gcA X) (pa 5) Tr, heW (gcA X) (pa 6) E, heW (gcA X) (pa 7) F, nmW (gcA X) (pa 8) Nm, btW (pa 9) (pa 5 0) Bt] [some (.ref (pa 0 0)), some (.int p1), some (.int p2), none, none, none, none, none, none, none, none, none, none] [.int t0, .int t1] 426 := by
  unfold f_L_acts_426 at h
  refine g_icmp_ne (pc' := 429) (tgt := 433) C dL_acts_426 (by decide) rfl h (fun c h => ?_) (fun c h => ?_)
  · refine g_iconst (pc' := 430) (v := 1) C dL_acts_429 (by decide) rfl ?_
    refine g_goto (pc' := 434) C dL_acts_430 (by decide) ?_
    obtain ⟨rfl, rfl, rfl, rfl, rfl, rfl, rfl, rfl, rfl, rfl⟩ := pj10 (Option.some.inj h)
    exact g_zret0 C rfl dL_acts_434
  · refine g_iconst (pc' := 434) (v := 0) C dL_acts_433 (by decide) rfl ?_
    obtain ⟨rfl, rfl, rfl, rfl, rfl, rfl, rfl, rfl, rfl, rfl⟩ := pj10 (Option.some.inj h)
    exact g_zret0 C rfl dL_acts_434
set_option maxRecDepth 100000 in
set_option maxHeartbeats 4000000 in
theorem B_L_acts_382 {X : gX} (C : cx X RL cL_acts 13 (some .boolean) wsL_acts 8 178) (hf : cf X) (pa : Nat → Nat → Nat) (N : Nat) (p1 : Int32) (p2 : Int32) (r : Int32) (Tnz : tS) (Bz : tS) (Hsz : tH) (Txz : tS) (Trz : tS) (Ez : tS) (Fz : tS) (Nmz : tS) (Btz : tS)  (x9 : Int32) (x10 : Int32) (x11 : Int32) (t0 : Int32) (Tn : tS) (B : tS) (Hs : tH) (Tx : tS) (Tr : tS) (E : tS) (F : tS) (Nm : tS) (Bt : tS) (h : f_L_acts_382 N p1 p2  x9 x10 x11 t0 Tn B Hs Tx Tr E F Nm Bt = some (r, Tnz, Bz, Hsz, Txz, Trz, Ez, Fz, Nmz, Btz)) : G X (QI X r [ntW pa Tnz, bdW (gcA X) (pa 1) Bz, hsW (gcA X) (pa 2) (fun j => pa (10 + j)) Hsz, txW (gcA X) (pa 4) Txz, bdW (gcA X) (pa 5) Trz, heW (gcA X) (pa 6) Ez, heW (gcA X) (pa 7) Fz, nmW (gcA X) (pa 8) Nmz, btW (pa 9) (pa 5 0) Btz]) [ntW pa Tn, bdW (gcA X) (pa 1) B, hsW (gcA X) (pa 2) (fun j => pa (10 + j)) Hs, txW (gcA X) (pa 4) Tx, bdW (gcA X) (pa 5) Tr, heW (gcA X) (pa 6) E, heW (gcA X) (pa 7) F, nmW (gcA X) (pa 8) Nm, btW (pa 9) (pa 5 0) Bt] [some (.ref (pa 0 0)), some (.int p1), some (.int p2), none, none, none, none, none, none, some (.int x9), some (.int x10), some (.int x11), none] [.int t0] 382 := by
  unfold f_L_acts_382 at h
  refine g_istore (pc' := 384) C dL_acts_382 (Nat.le_of_ble_eq_true rfl) rfl (L' := [some (.ref (pa 0 0)), some (.int p1), some (.int p2), none, none, none, none, none, none, some (.int x9), some (.int x10), some (.int x11), some (.int t0)]) rfl ?_
  refine g_aload_n (pc' := 385) C dL_acts_384 rfl rfl ?_
  refine g_iload (pc' := 387) C dL_acts_385 rfl rfl ?_
  refine g_iload (pc' := 389) C dL_acts_387 rfl rfl ?_
  refine k_X5_set (pc' := 392) C hf pa N Tn B Hs x9 x10 [0, 1, 2] rfl (by decide) gL_acts_X5_set ⟨Nat.le_of_ble_eq_true rfl, Nat.le_of_ble_eq_true rfl⟩ (Nat.le_of_ble_eq_true rfl) rfl dL_acts_389 rfl h (fun r1 B1 Hs1 h => ?_)
  show G X _ [ntW pa Tn, bdW (gcA X) (pa 1) B1, hsW (gcA X) (pa 2) (fun j => pa (10 + j)) Hs1, txW (gcA X) (pa 4) Tx, bdW (gcA X) (pa 5) Tr, heW (gcA X) (pa 6) E, heW (gcA X) (pa 7) F, nmW (gcA X) (pa 8) Nm, btW (pa 9) (pa 5 0) Bt] _ _ _
  refine g_iload (pc' := 394) C dL_acts_392 rfl rfl ?_
  refine g_iconst (pc' := 395) (v := 3) C dL_acts_394 (by decide) rfl ?_
  refine g_icmp_ne (pc' := 398) (tgt := 402) C dL_acts_395 (by decide) rfl h (fun c h => ?_) (fun c h => ?_)
  · refine g_iconst (pc' := 399) (v := -1) C dL_acts_398 (by decide) rfl ?_
    refine g_goto (pc' := 426) C dL_acts_399 (by decide) ?_
    exact G_loc (lle_s (lle_s (lle_s (lle_n (lle_n (lle_n (lle_n (lle_n (lle_n (lle_n (lle_n (lle_n (lle_n lle_0))))))))))))) (B_L_acts_426 C hf pa N p1 p2 r Tnz Bz Hsz Txz Trz Ez Fz Nmz Btz (-1 : Int32) r1 Tn B1 Hs1 Tx Tr E F Nm Bt h)
  · refine g_iload (pc' := 404) C dL_acts_402 rfl rfl ?_
    refine g_if_eq (pc' := 407) (tgt := 412) C dL_acts_404 (by decide) rfl h (fun c h => ?_) (fun c h => ?_)
    · refine g_iload (pc' := 414) C dL_acts_412 rfl rfl ?_
      refine g_iload (pc' := 416) C dL_acts_414 rfl rfl ?_
      refine g_icmp_ne (pc' := 419) (tgt := 424) C dL_acts_416 (by decide) rfl h (fun c h => ?_) (fun c h => ?_)
      · refine g_bipush (pc' := 421) (v := -5) C dL_acts_419 (by decide) rfl ?_
        refine g_goto (pc' := 426) C dL_acts_421 (by decide) ?_
        exact G_loc (lle_s (lle_s (lle_s (lle_n (lle_n (lle_n (lle_n (lle_n (lle_n (lle_n (lle_n (lle_n (lle_n lle_0))))))))))))) (B_L_acts_426 C hf pa N p1 p2 r Tnz Bz Hsz Txz Trz Ez Fz Nmz Btz (-5 : Int32) r1 Tn B1 Hs1 Tx Tr E F Nm Bt h)
      · refine g_iload (pc' := 426) C dL_acts_424 rfl rfl ?_
        exact G_loc (lle_s (lle_s (lle_s (lle_n (lle_n (lle_n (lle_n (lle_n (lle_n (lle_n (lle_n (lle_n (lle_n lle_0))))))))))))) (B_L_acts_426 C hf pa N p1 p2 r Tnz Bz Hsz Txz Trz Ez Fz Nmz Btz t0 r1 Tn B1 Hs1 Tx Tr E F Nm Bt h)
    · refine g_bipush (pc' := 409) (v := -2) C dL_acts_407 (by decide) rfl ?_
      refine g_goto (pc' := 426) C dL_acts_409 (by decide) ?_
      exact G_loc (lle_s (lle_s (lle_s (lle_n (lle_n (lle_n (lle_n (lle_n (lle_n (lle_n (lle_n (lle_n (lle_n lle_0))))))))))))) (B_L_acts_426 C hf pa N p1 p2 r Tnz Bz Hsz Txz Trz Ez Fz Nmz Btz (-2 : Int32) r1 Tn B1 Hs1 Tx Tr E F Nm Bt h)
set_option maxRecDepth 100000 in
set_option maxHeartbeats 4000000 in
theorem B_L_acts_361 {X : gX} (C : cx X RL cL_acts 13 (some .boolean) wsL_acts 8 178) (hf : cf X) (pa : Nat → Nat → Nat) (N : Nat) (p1 : Int32) (p2 : Int32) (r : Int32) (Tnz : tS) (Bz : tS) (Hsz : tH) (Txz : tS) (Trz : tS) (Ez : tS) (Fz : tS) (Nmz : tS) (Btz : tS)  (x9 : Int32) (x10 : Int32) (t0 : Int32) (Tn : tS) (B : tS) (Hs : tH) (Tx : tS) (Tr : tS) (E : tS) (F : tS) (Nm : tS) (Bt : tS) (h : f_L_acts_361 N p1 p2  x9 x10 t0 Tn B Hs Tx Tr E F Nm Bt = some (r, Tnz, Bz, Hsz, Txz, Trz, Ez, Fz, Nmz, Btz)) : G X (QI X r [ntW pa Tnz, bdW (gcA X) (pa 1) Bz, hsW (gcA X) (pa 2) (fun j => pa (10 + j)) Hsz, txW (gcA X) (pa 4) Txz, bdW (gcA X) (pa 5) Trz, heW (gcA X) (pa 6) Ez, heW (gcA X) (pa 7) Fz, nmW (gcA X) (pa 8) Nmz, btW (pa 9) (pa 5 0) Btz]) [ntW pa Tn, bdW (gcA X) (pa 1) B, hsW (gcA X) (pa 2) (fun j => pa (10 + j)) Hs, txW (gcA X) (pa 4) Tx, bdW (gcA X) (pa 5) Tr, heW (gcA X) (pa 6) E, heW (gcA X) (pa 7) F, nmW (gcA X) (pa 8) Nm, btW (pa 9) (pa 5 0) Bt] [some (.ref (pa 0 0)), some (.int p1), some (.int p2), none, none, none, none, none, none, some (.int x9), some (.int x10), none, none] [.int t0] 361 := by
  unfold f_L_acts_361 at h
  refine g_istore (pc' := 363) C dL_acts_361 (Nat.le_of_ble_eq_true rfl) rfl (L' := [some (.ref (pa 0 0)), some (.int p1), some (.int p2), none, none, none, none, none, none, some (.int x9), some (.int x10), some (.int t0), none]) rfl ?_
  refine g_iload (pc' := 365) C dL_acts_363 rfl rfl ?_
  refine g_iconst (pc' := 366) (v := 3) C dL_acts_365 (by decide) rfl ?_
  refine g_icmp_ne (pc' := 369) (tgt := 373) C dL_acts_366 (by decide) rfl h (fun c h => ?_) (fun c h => ?_)
  · refine g_iconst (pc' := 370) (v := 0) C dL_acts_369 (by decide) rfl ?_
    refine g_goto (pc' := 382) C dL_acts_370 (by decide) ?_
    exact G_loc (lle_s (lle_s (lle_s (lle_n (lle_n (lle_n (lle_n (lle_n (lle_n (lle_s (lle_s (lle_s (lle_n lle_0))))))))))))) (B_L_acts_382 C hf pa N p1 p2 r Tnz Bz Hsz Txz Trz Ez Fz Nmz Btz x9 x10 t0 (0 : Int32) Tn B Hs Tx Tr E F Nm Bt h)
  · refine g_aload_n (pc' := 374) C dL_acts_373 rfl rfl ?_
    refine g_bipush (pc' := 376) (v := 8) C dL_acts_374 (by decide) rfl ?_
    refine g_iload (pc' := 378) C dL_acts_376 rfl rfl ?_
    refine g_iadd (pc' := 379) C dL_acts_378 rfl ?_
    refine k_X5_count (pc' := 382) C pa N Tn B Hs E Nm ((8 : Int32) + x9) [0, 1, 2, 5, 7] rfl (by decide) gL_acts_X5_count ⟨Nat.le_of_ble_eq_true rfl, Nat.le_of_ble_eq_true rfl⟩ (Nat.le_of_ble_eq_true rfl) rfl dL_acts_379 rfl h (fun r1 E1 Nm1 h => ?_)
    show G X _ [ntW pa Tn, bdW (gcA X) (pa 1) B, hsW (gcA X) (pa 2) (fun j => pa (10 + j)) Hs, txW (gcA X) (pa 4) Tx, bdW (gcA X) (pa 5) Tr, heW (gcA X) (pa 6) E1, heW (gcA X) (pa 7) F, nmW (gcA X) (pa 8) Nm1, btW (pa 9) (pa 5 0) Bt] _ _ _
    exact G_loc (lle_s (lle_s (lle_s (lle_n (lle_n (lle_n (lle_n (lle_n (lle_n (lle_s (lle_s (lle_s (lle_n lle_0))))))))))))) (B_L_acts_382 C hf pa N p1 p2 r Tnz Bz Hsz Txz Trz Ez Fz Nmz Btz x9 x10 t0 r1 Tn B Hs Tx Tr E1 F Nm1 Bt h)
set_option maxRecDepth 100000 in
set_option maxHeartbeats 4000000 in
theorem B_L_acts_356 {X : gX} (C : cx X RL cL_acts 13 (some .boolean) wsL_acts 8 178) (hf : cf X) (pa : Nat → Nat → Nat) (N : Nat) (p1 : Int32) (p2 : Int32) (r : Int32) (Tnz : tS) (Bz : tS) (Hsz : tH) (Txz : tS) (Trz : tS) (Ez : tS) (Fz : tS) (Nmz : tS) (Btz : tS)  (x9 : Int32) (x10 : Int32) (Tn : tS) (B : tS) (Hs : tH) (Tx : tS) (Tr : tS) (E : tS) (F : tS) (Nm : tS) (Bt : tS) (h : f_L_acts_356 N p1 p2  x9 x10 Tn B Hs Tx Tr E F Nm Bt = some (r, Tnz, Bz, Hsz, Txz, Trz, Ez, Fz, Nmz, Btz)) : G X (QI X r [ntW pa Tnz, bdW (gcA X) (pa 1) Bz, hsW (gcA X) (pa 2) (fun j => pa (10 + j)) Hsz, txW (gcA X) (pa 4) Txz, bdW (gcA X) (pa 5) Trz, heW (gcA X) (pa 6) Ez, heW (gcA X) (pa 7) Fz, nmW (gcA X) (pa 8) Nmz, btW (pa 9) (pa 5 0) Btz]) [ntW pa Tn, bdW (gcA X) (pa 1) B, hsW (gcA X) (pa 2) (fun j => pa (10 + j)) Hs, txW (gcA X) (pa 4) Tx, bdW (gcA X) (pa 5) Tr, heW (gcA X) (pa 6) E, heW (gcA X) (pa 7) F, nmW (gcA X) (pa 8) Nm, btW (pa 9) (pa 5 0) Bt] [some (.ref (pa 0 0)), some (.int p1), some (.int p2), none, none, none, none, none, none, some (.int x9), some (.int x10), none, none] [] 356 := by
  unfold f_L_acts_356 at h
  refine g_iconst (pc' := 357) (v := 1) C dL_acts_356 (by decide) rfl ?_
  refine g_goto (pc' := 361) C dL_acts_357 (by decide) ?_
  exact G_loc (lle_s (lle_s (lle_s (lle_n (lle_n (lle_n (lle_n (lle_n (lle_n (lle_s (lle_s (lle_n (lle_n lle_0))))))))))))) (B_L_acts_361 C hf pa N p1 p2 r Tnz Bz Hsz Txz Trz Ez Fz Nmz Btz x9 x10 (1 : Int32) Tn B Hs Tx Tr E F Nm Bt h)
set_option maxRecDepth 100000 in
set_option maxHeartbeats 4000000 in
theorem B_L_acts_292 {X : gX} (C : cx X RL cL_acts 13 (some .boolean) wsL_acts 8 178) (hf : cf X) (pa : Nat → Nat → Nat) (N : Nat) (p1 : Int32) (p2 : Int32) (r : Int32) (Tnz : tS) (Bz : tS) (Hsz : tH) (Txz : tS) (Trz : tS) (Ez : tS) (Fz : tS) (Nmz : tS) (Btz : tS)  (t0 : Int32) (t1 : Int32) (Tn : tS) (B : tS) (Hs : tH) (Tx : tS) (Tr : tS) (E : tS) (F : tS) (Nm : tS) (Bt : tS) (h : f_L_acts_292 N p1 p2  t0 t1 Tn B Hs Tx Tr E F Nm Bt = some (r, Tnz, Bz, Hsz, Txz, Trz, Ez, Fz, Nmz, Btz)) : G X (QI X r [ntW pa Tnz, bdW (gcA X) (pa 1) Bz, hsW (gcA X) (pa 2) (fun j => pa (10 + j)) Hsz, txW (gcA X) (pa 4) Txz, bdW (gcA X) (pa 5) Trz, heW (gcA X) (pa 6) Ez, heW (gcA X) (pa 7) Fz, nmW (gcA X) (pa 8) Nmz, btW (pa 9) (pa 5 0) Btz]) [ntW pa Tn, bdW (gcA X) (pa 1) B, hsW (gcA X) (pa 2) (fun j => pa (10 + j)) Hs, txW (gcA X) (pa 4) Tx, bdW (gcA X) (pa 5) Tr, heW (gcA X) (pa 6) E, heW (gcA X) (pa 7) F, nmW (gcA X) (pa 8) Nm, btW (pa 9) (pa 5 0) Bt] [some (.ref (pa 0 0)), some (.int p1), some (.int p2), none, none, none, none, none, none, none, none, none, none] [.int t0, .int t1] 292 := by
  unfold f_L_acts_292 at h
  refine g_icmp_ne (pc' := 295) (tgt := 299) C dL_acts_292 (by decide) rfl h (fun c h => ?_) (fun c h => ?_)
  · refine g_iconst (pc' := 296) (v := 1) C dL_acts_295 (by decide) rfl ?_
    refine g_goto (pc' := 300) C dL_acts_296 (by decide) ?_
    obtain ⟨rfl, rfl, rfl, rfl, rfl, rfl, rfl, rfl, rfl, rfl⟩ := pj10 (Option.some.inj h)
    exact g_zret0 C rfl dL_acts_300
  · refine g_iconst (pc' := 300) (v := 0) C dL_acts_299 (by decide) rfl ?_
    obtain ⟨rfl, rfl, rfl, rfl, rfl, rfl, rfl, rfl, rfl, rfl⟩ := pj10 (Option.some.inj h)
    exact g_zret0 C rfl dL_acts_300
set_option maxRecDepth 100000 in
set_option maxHeartbeats 4000000 in
theorem B_L_acts_246 {X : gX} (C : cx X RL cL_acts 13 (some .boolean) wsL_acts 8 178) (hf : cf X) (pa : Nat → Nat → Nat) (N : Nat) (p1 : Int32) (p2 : Int32) (r : Int32) (Tnz : tS) (Bz : tS) (Hsz : tH) (Txz : tS) (Trz : tS) (Ez : tS) (Fz : tS) (Nmz : tS) (Btz : tS)  (t0 : Int32) (t1 : Int32) (Tn : tS) (B : tS) (Hs : tH) (Tx : tS) (Tr : tS) (E : tS) (F : tS) (Nm : tS) (Bt : tS) (h : f_L_acts_246 N p1 p2  t0 t1 Tn B Hs Tx Tr E F Nm Bt = some (r, Tnz, Bz, Hsz, Txz, Trz, Ez, Fz, Nmz, Btz)) : G X (QI X r [ntW pa Tnz, bdW (gcA X) (pa 1) Bz, hsW (gcA X) (pa 2) (fun j => pa (10 + j)) Hsz, txW (gcA X) (pa 4) Txz, bdW (gcA X) (pa 5) Trz, heW (gcA X) (pa 6) Ez, heW (gcA X) (pa 7) Fz, nmW (gcA X) (pa 8) Nmz, btW (pa 9) (pa 5 0) Btz]) [ntW pa Tn, bdW (gcA X) (pa 1) B, hsW (gcA X) (pa 2) (fun j => pa (10 + j)) Hs, txW (gcA X) (pa 4) Tx, bdW (gcA X) (pa 5) Tr, heW (gcA X) (pa 6) E, heW (gcA X) (pa 7) F, nmW (gcA X) (pa 8) Nm, btW (pa 9) (pa 5 0) Bt] [some (.ref (pa 0 0)), some (.int p1), some (.int p2), none, none, none, none, none, none, none, none, none, none] [.int t0, .int t1] 246 := by
  unfold f_L_acts_246 at h
  refine g_icmp_ne (pc' := 249) (tgt := 253) C dL_acts_246 (by decide) rfl h (fun c h => ?_) (fun c h => ?_)
  · refine g_iconst (pc' := 250) (v := 1) C dL_acts_249 (by decide) rfl ?_
    refine g_goto (pc' := 254) C dL_acts_250 (by decide) ?_
    obtain ⟨rfl, rfl, rfl, rfl, rfl, rfl, rfl, rfl, rfl, rfl⟩ := pj10 (Option.some.inj h)
    exact g_zret0 C rfl dL_acts_254
  · refine g_iconst (pc' := 254) (v := 0) C dL_acts_253 (by decide) rfl ?_
    obtain ⟨rfl, rfl, rfl, rfl, rfl, rfl, rfl, rfl, rfl, rfl⟩ := pj10 (Option.some.inj h)
    exact g_zret0 C rfl dL_acts_254
set_option maxRecDepth 100000 in
set_option maxHeartbeats 4000000 in
theorem B_L_acts_193 {X : gX} (C : cx X RL cL_acts 13 (some .boolean) wsL_acts 8 178) (hf : cf X) (pa : Nat → Nat → Nat) (N : Nat) (p1 : Int32) (p2 : Int32) (r : Int32) (Tnz : tS) (Bz : tS) (Hsz : tH) (Txz : tS) (Trz : tS) (Ez : tS) (Fz : tS) (Nmz : tS) (Btz : tS)  (x4 : Int32) (x5 : Int32) (x6 : Int32) (x7 : Int32) (x8 : Int32) (x9 : Int32) (Tn : tS) (B : tS) (Hs : tH) (Tx : tS) (Tr : tS) (E : tS) (F : tS) (Nm : tS) (Bt : tS) (h : f_L_acts_193 N p1 p2  x4 x5 x6 x7 x8 x9 Tn B Hs Tx Tr E F Nm Bt = some (r, Tnz, Bz, Hsz, Txz, Trz, Ez, Fz, Nmz, Btz)) : G X (QI X r [ntW pa Tnz, bdW (gcA X) (pa 1) Bz, hsW (gcA X) (pa 2) (fun j => pa (10 + j)) Hsz, txW (gcA X) (pa 4) Txz, bdW (gcA X) (pa 5) Trz, heW (gcA X) (pa 6) Ez, heW (gcA X) (pa 7) Fz, nmW (gcA X) (pa 8) Nmz, btW (pa 9) (pa 5 0) Btz]) [ntW pa Tn, bdW (gcA X) (pa 1) B, hsW (gcA X) (pa 2) (fun j => pa (10 + j)) Hs, txW (gcA X) (pa 4) Tx, bdW (gcA X) (pa 5) Tr, heW (gcA X) (pa 6) E, heW (gcA X) (pa 7) F, nmW (gcA X) (pa 8) Nm, btW (pa 9) (pa 5 0) Bt] [some (.ref (pa 0 0)), some (.int p1), some (.int p2), none, some (.int x4), some (.int x5), some (.int x6), some (.int x7), some (.int x8), some (.int x9), none, none, none] [] 193 := by
  unfold f_L_acts_193 at h
  refine g_aload_n (pc' := 194) C dL_acts_193 rfl rfl ?_
  refine g_iload (pc' := 196) C dL_acts_194 rfl rfl ?_
  refine g_iload (pc' := 198) C dL_acts_196 rfl rfl ?_
  refine k_X5_stick (pc' := 201) C pa N Tn B Hs x5 x4 [0, 1, 2] rfl (by decide) gL_acts_X5_stick ⟨Nat.le_of_ble_eq_true rfl, Nat.le_of_ble_eq_true rfl⟩ (Nat.le_of_ble_eq_true rfl) rfl dL_acts_198 rfl h (fun r1 B1 Hs1 h => ?_)
  show G X _ [ntW pa Tn, bdW (gcA X) (pa 1) B1, hsW (gcA X) (pa 2) (fun j => pa (10 + j)) Hs1, txW (gcA X) (pa 4) Tx, bdW (gcA X) (pa 5) Tr, heW (gcA X) (pa 6) E, heW (gcA X) (pa 7) F, nmW (gcA X) (pa 8) Nm, btW (pa 9) (pa 5 0) Bt] _ _ _
  refine g_iload (pc' := 203) C dL_acts_201 rfl rfl ?_
  refine g_if_eq (pc' := 206) (tgt := 210) C dL_acts_203 (by decide) rfl h (fun c h => ?_) (fun c h => ?_)
  · refine g_iload (pc' := 212) C dL_acts_210 rfl rfl ?_
    refine g_aload_n (pc' := 213) C dL_acts_212 rfl rfl ?_
    refine g_bipush (pc' := 215) (v := 9) C dL_acts_213 (by decide) rfl ?_
    refine k_X5_count (pc' := 218) C pa N Tn B1 Hs1 E Nm (9 : Int32) [0, 1, 2, 5, 7] rfl (by decide) gL_acts_X5_count ⟨Nat.le_of_ble_eq_true rfl, Nat.le_of_ble_eq_true rfl⟩ (Nat.le_of_ble_eq_true rfl) rfl dL_acts_215 rfl h (fun r2 E2 Nm2 h => ?_)
    show G X _ [ntW pa Tn, bdW (gcA X) (pa 1) B1, hsW (gcA X) (pa 2) (fun j => pa (10 + j)) Hs1, txW (gcA X) (pa 4) Tx, bdW (gcA X) (pa 5) Tr, heW (gcA X) (pa 6) E2, heW (gcA X) (pa 7) F, nmW (gcA X) (pa 8) Nm2, btW (pa 9) (pa 5 0) Bt] _ _ _
    refine g_icmp_lt (pc' := 221) (tgt := 226) C dL_acts_218 (by decide) rfl h (fun c h => ?_) (fun c h => ?_)
    · refine g_iload (pc' := 228) C dL_acts_226 rfl rfl ?_
      refine g_aload_n (pc' := 229) C dL_acts_228 rfl rfl ?_
      refine g_bipush (pc' := 231) (v := 10) C dL_acts_229 (by decide) rfl ?_
      refine k_X5_count (pc' := 234) C pa N Tn B1 Hs1 E2 Nm2 (10 : Int32) [0, 1, 2, 5, 7] rfl (by decide) gL_acts_X5_count ⟨Nat.le_of_ble_eq_true rfl, Nat.le_of_ble_eq_true rfl⟩ (Nat.le_of_ble_eq_true rfl) rfl dL_acts_231 rfl h (fun r3 E3 Nm3 h => ?_)
      show G X _ [ntW pa Tn, bdW (gcA X) (pa 1) B1, hsW (gcA X) (pa 2) (fun j => pa (10 + j)) Hs1, txW (gcA X) (pa 4) Tx, bdW (gcA X) (pa 5) Tr, heW (gcA X) (pa 6) E3, heW (gcA X) (pa 7) F, nmW (gcA X) (pa 8) Nm3, btW (pa 9) (pa 5 0) Bt] _ _ _
      refine g_icmp_lt (pc' := 237) (tgt := 242) C dL_acts_234 (by decide) rfl h (fun c h => ?_) (fun c h => ?_)
      · refine g_iload (pc' := 244) C dL_acts_242 rfl rfl ?_
        refine g_iconst (pc' := 245) (v := 1) C dL_acts_244 (by decide) rfl ?_
        refine g_iadd (pc' := 246) C dL_acts_245 rfl ?_
        exact G_loc (lle_s (lle_s (lle_s (lle_n (lle_n (lle_n (lle_n (lle_n (lle_n (lle_n (lle_n (lle_n (lle_n lle_0))))))))))))) (B_L_acts_246 C hf pa N p1 p2 r Tnz Bz Hsz Txz Trz Ez Fz Nmz Btz (x7 + (1 : Int32)) r1 Tn B1 Hs1 Tx Tr E3 F Nm3 Bt h)
      · refine g_bipush (pc' := 239) (v := -4) C dL_acts_237 (by decide) rfl ?_
        refine g_goto (pc' := 246) C dL_acts_239 (by decide) ?_
        exact G_loc (lle_s (lle_s (lle_s (lle_n (lle_n (lle_n (lle_n (lle_n (lle_n (lle_n (lle_n (lle_n (lle_n lle_0))))))))))))) (B_L_acts_246 C hf pa N p1 p2 r Tnz Bz Hsz Txz Trz Ez Fz Nmz Btz (-4 : Int32) r1 Tn B1 Hs1 Tx Tr E3 F Nm3 Bt h)
    · refine g_bipush (pc' := 223) (v := -3) C dL_acts_221 (by decide) rfl ?_
      refine g_goto (pc' := 246) C dL_acts_223 (by decide) ?_
      exact G_loc (lle_s (lle_s (lle_s (lle_n (lle_n (lle_n (lle_n (lle_n (lle_n (lle_n (lle_n (lle_n (lle_n lle_0))))))))))))) (B_L_acts_246 C hf pa N p1 p2 r Tnz Bz Hsz Txz Trz Ez Fz Nmz Btz (-3 : Int32) r1 Tn B1 Hs1 Tx Tr E2 F Nm2 Bt h)
  · refine g_iconst (pc' := 207) (v := -1) C dL_acts_206 (by decide) rfl ?_
    refine g_goto (pc' := 246) C dL_acts_207 (by decide) ?_
    exact G_loc (lle_s (lle_s (lle_s (lle_n (lle_n (lle_n (lle_n (lle_n (lle_n (lle_n (lle_n (lle_n (lle_n lle_0))))))))))))) (B_L_acts_246 C hf pa N p1 p2 r Tnz Bz Hsz Txz Trz Ez Fz Nmz Btz (-1 : Int32) r1 Tn B1 Hs1 Tx Tr E F Nm Bt h)
set_option maxRecDepth 100000 in
set_option maxHeartbeats 4000000 in
theorem B_L_acts_159b {X : gX} (C : cx X RL cL_acts 13 (some .boolean) wsL_acts 8 178) (hf : cf X) (pa : Nat → Nat → Nat) (N : Nat) (p1 : Int32) (p2 : Int32) (r : Int32) (Tnz : tS) (Bz : tS) (Hsz : tH) (Txz : tS) (Trz : tS) (Ez : tS) (Fz : tS) (Nmz : tS) (Btz : tS)  (k159 : Int32 → Int32 → Int32 → Int32 → Int32 → Int32 → Int32 → tS → tS → tH → tS → tS → tS → tS → tS → tS → Option (Int32 × tS × tS × tH × tS × tS × tS × tS × tS × tS)) (hk159 : ∀ (x4 : Int32) (x5 : Int32) (x6 : Int32) (x7 : Int32) (x8 : Int32) (x9 : Int32) (x10 : Int32) (Tn : tS) (B : tS) (Hs : tH) (Tx : tS) (Tr : tS) (E : tS) (F : tS) (Nm : tS) (Bt : tS), k159 x4 x5 x6 x7 x8 x9 x10 Tn B Hs Tx Tr E F Nm Bt = some (r, Tnz, Bz, Hsz, Txz, Trz, Ez, Fz, Nmz, Btz) → G X (QI X r [ntW pa Tnz, bdW (gcA X) (pa 1) Bz, hsW (gcA X) (pa 2) (fun j => pa (10 + j)) Hsz, txW (gcA X) (pa 4) Txz, bdW (gcA X) (pa 5) Trz, heW (gcA X) (pa 6) Ez, heW (gcA X) (pa 7) Fz, nmW (gcA X) (pa 8) Nmz, btW (pa 9) (pa 5 0) Btz]) [ntW pa Tn, bdW (gcA X) (pa 1) B, hsW (gcA X) (pa 2) (fun j => pa (10 + j)) Hs, txW (gcA X) (pa 4) Tx, bdW (gcA X) (pa 5) Tr, heW (gcA X) (pa 6) E, heW (gcA X) (pa 7) F, nmW (gcA X) (pa 8) Nm, btW (pa 9) (pa 5 0) Bt] [some (.ref (pa 0 0)), some (.int p1), some (.int p2), none, some (.int x4), some (.int x5), some (.int x6), some (.int x7), some (.int x8), some (.int x9), some (.int x10), none, none] [] 159) (x4 : Int32) (x5 : Int32) (x6 : Int32) (x7 : Int32) (x8 : Int32) (x9 : Int32) (x10 : Int32) (Tn : tS) (B : tS) (Hs : tH) (Tx : tS) (Tr : tS) (E : tS) (F : tS) (Nm : tS) (Bt : tS) (h : f_L_acts_159b N p1 p2  k159 x4 x5 x6 x7 x8 x9 x10 Tn B Hs Tx Tr E F Nm Bt = some (r, Tnz, Bz, Hsz, Txz, Trz, Ez, Fz, Nmz, Btz)) : G X (QI X r [ntW pa Tnz, bdW (gcA X) (pa 1) Bz, hsW (gcA X) (pa 2) (fun j => pa (10 + j)) Hsz, txW (gcA X) (pa 4) Txz, bdW (gcA X) (pa 5) Trz, heW (gcA X) (pa 6) Ez, heW (gcA X) (pa 7) Fz, nmW (gcA X) (pa 8) Nmz, btW (pa 9) (pa 5 0) Btz]) [ntW pa Tn, bdW (gcA X) (pa 1) B, hsW (gcA X) (pa 2) (fun j => pa (10 + j)) Hs, txW (gcA X) (pa 4) Tx, bdW (gcA X) (pa 5) Tr, heW (gcA X) (pa 6) E, heW (gcA X) (pa 7) F, nmW (gcA X) (pa 8) Nm, btW (pa 9) (pa 5 0) Bt] [some (.ref (pa 0 0)), some (.int p1), some (.int p2), none, some (.int x4), some (.int x5), some (.int x6), some (.int x7), some (.int x8), some (.int x9), some (.int x10), none, none] [] 159 := by
  unfold f_L_acts_159b at h
  refine g_iload (pc' := 161) C dL_acts_159 rfl rfl ?_
  refine g_aload_n (pc' := 162) C dL_acts_161 rfl rfl ?_
  refine g_iconst (pc' := 163) (v := 0) C dL_acts_162 (by decide) rfl ?_
  refine k_X5_count (pc' := 166) C pa N Tn B Hs E Nm (0 : Int32) [0, 1, 2, 5, 7] rfl (by decide) gL_acts_X5_count ⟨Nat.le_of_ble_eq_true rfl, Nat.le_of_ble_eq_true rfl⟩ (Nat.le_of_ble_eq_true rfl) rfl dL_acts_163 rfl h (fun r1 E1 Nm1 h => ?_)
  show G X _ [ntW pa Tn, bdW (gcA X) (pa 1) B, hsW (gcA X) (pa 2) (fun j => pa (10 + j)) Hs, txW (gcA X) (pa 4) Tx, bdW (gcA X) (pa 5) Tr, heW (gcA X) (pa 6) E1, heW (gcA X) (pa 7) F, nmW (gcA X) (pa 8) Nm1, btW (pa 9) (pa 5 0) Bt] _ _ _
  refine g_icmp_ge (pc' := 169) (tgt := 193) C dL_acts_166 (by decide) rfl h (fun c h => ?_) (fun c h => ?_)
  · exact G_loc (lle_s (lle_s (lle_s (lle_n (lle_s (lle_s (lle_s (lle_s (lle_s (lle_s (lle_n (lle_n (lle_n lle_0))))))))))))) (B_L_acts_193 C hf pa N p1 p2 r Tnz Bz Hsz Txz Trz Ez Fz Nmz Btz x4 x5 x6 x7 x8 x9 Tn B Hs Tx Tr E1 F Nm1 Bt h)
  · refine g_iload (pc' := 171) C dL_acts_169 rfl rfl ?_
    refine g_if_ne (pc' := 174) (tgt := 193) C dL_acts_171 (by decide) rfl h (fun c h => ?_) (fun c h => ?_)
    · refine g_iload (pc' := 176) C dL_acts_174 rfl rfl ?_
      refine g_aload_n (pc' := 177) C dL_acts_176 rfl rfl ?_
      refine g_iload (pc' := 179) C dL_acts_177 rfl rfl ?_
      refine g_iload (pc' := 181) C dL_acts_179 rfl rfl ?_
      refine k_X5_dots (pc' := 184) C pa N Tn B x5 x10 [0, 1] rfl (by decide) gL_acts_X5_dots ⟨Nat.le_of_ble_eq_true rfl, Nat.le_of_ble_eq_true rfl⟩ (Nat.le_of_ble_eq_true rfl) rfl dL_acts_181 rfl h (fun r2 h => ?_)
      refine g_iadd (pc' := 185) C dL_acts_184 rfl ?_
      refine g_istore (pc' := 187) C dL_acts_185 (Nat.le_of_ble_eq_true rfl) rfl (L' := [some (.ref (pa 0 0)), some (.int p1), some (.int p2), none, some (.int x4), some (.int x5), some (.int x6), some (.int x7), some (.int x8), some (.int (x9 + r2)), some (.int x10), none, none]) rfl ?_
      refine g_iinc (pc' := 190) (v := (x10 + 1)) C dL_acts_187 rfl rfl rfl (L' := [some (.ref (pa 0 0)), some (.int p1), some (.int p2), none, some (.int x4), some (.int x5), some (.int x6), some (.int x7), some (.int x8), some (.int (x9 + r2)), some (.int (x10 + 1)), none, none]) rfl ?_
      refine g_goto (pc' := 159) C dL_acts_190 (by decide) ?_
      exact G_loc (lle_s (lle_s (lle_s (lle_n (lle_s (lle_s (lle_s (lle_s (lle_s (lle_s (lle_s (lle_n (lle_n lle_0))))))))))))) (hk159 x4 x5 x6 x7 x8 (x9 + r2) (x10 + 1) Tn B Hs Tx Tr E1 F Nm1 Bt h)
    · exact G_loc (lle_s (lle_s (lle_s (lle_n (lle_s (lle_s (lle_s (lle_s (lle_s (lle_s (lle_n (lle_n (lle_n lle_0))))))))))))) (B_L_acts_193 C hf pa N p1 p2 r Tnz Bz Hsz Txz Trz Ez Fz Nmz Btz x4 x5 x6 x7 x8 x9 Tn B Hs Tx Tr E1 F Nm1 Bt h)
set_option maxRecDepth 100000 in
set_option maxHeartbeats 4000000 in
theorem L_L_acts_159 {X : gX} (C : cx X RL cL_acts 13 (some .boolean) wsL_acts 8 178) (hf : cf X) (pa : Nat → Nat → Nat) (N : Nat) (p1 : Int32) (p2 : Int32) (r : Int32) (Tnz : tS) (Bz : tS) (Hsz : tH) (Txz : tS) (Trz : tS) (Ez : tS) (Fz : tS) (Nmz : tS) (Btz : tS)  : ∀ (n : Nat) (x4 : Int32) (x5 : Int32) (x6 : Int32) (x7 : Int32) (x8 : Int32) (x9 : Int32) (x10 : Int32) (Tn : tS) (B : tS) (Hs : tH) (Tx : tS) (Tr : tS) (E : tS) (F : tS) (Nm : tS) (Bt : tS), f_L_acts_159 N p1 p2  n x4 x5 x6 x7 x8 x9 x10 Tn B Hs Tx Tr E F Nm Bt = some (r, Tnz, Bz, Hsz, Txz, Trz, Ez, Fz, Nmz, Btz) → G X (QI X r [ntW pa Tnz, bdW (gcA X) (pa 1) Bz, hsW (gcA X) (pa 2) (fun j => pa (10 + j)) Hsz, txW (gcA X) (pa 4) Txz, bdW (gcA X) (pa 5) Trz, heW (gcA X) (pa 6) Ez, heW (gcA X) (pa 7) Fz, nmW (gcA X) (pa 8) Nmz, btW (pa 9) (pa 5 0) Btz]) [ntW pa Tn, bdW (gcA X) (pa 1) B, hsW (gcA X) (pa 2) (fun j => pa (10 + j)) Hs, txW (gcA X) (pa 4) Tx, bdW (gcA X) (pa 5) Tr, heW (gcA X) (pa 6) E, heW (gcA X) (pa 7) F, nmW (gcA X) (pa 8) Nm, btW (pa 9) (pa 5 0) Bt] [some (.ref (pa 0 0)), some (.int p1), some (.int p2), none, some (.int x4), some (.int x5), some (.int x6), some (.int x7), some (.int x8), some (.int x9), some (.int x10), none, none] [] 159 := by
  intro n
  induction n with
  | zero => intro x4 x5 x6 x7 x8 x9 x10 Tn B Hs Tx Tr E F Nm Bt h; have h : (none : Option (Int32 × tS × tS × tH × tS × tS × tS × tS × tS × tS)) = some (r, Tnz, Bz, Hsz, Txz, Trz, Ez, Fz, Nmz, Btz) := h; cases h
  | succ n ih => intro x4 x5 x6 x7 x8 x9 x10 Tn B Hs Tx Tr E F Nm Bt h; exact B_L_acts_159b C hf pa N p1 p2 r Tnz Bz Hsz Txz Trz Ez Fz Nmz Btz  (f_L_acts_159 N p1 p2  n) ih x4 x5 x6 x7 x8 x9 x10 Tn B Hs Tx Tr E F Nm Bt h
set_option maxRecDepth 100000 in
set_option maxHeartbeats 4000000 in
theorem B_L_acts_145 {X : gX} (C : cx X RL cL_acts 13 (some .boolean) wsL_acts 8 178) (hf : cf X) (pa : Nat → Nat → Nat) (N : Nat) (p1 : Int32) (p2 : Int32) (r : Int32) (Tnz : tS) (Bz : tS) (Hsz : tH) (Txz : tS) (Trz : tS) (Ez : tS) (Fz : tS) (Nmz : tS) (Btz : tS)  (x3 : Int32) (x4 : Int32) (x5 : Int32) (x6 : Int32) (x7 : Int32) (t0 : Int32) (Tn : tS) (B : tS) (Hs : tH) (Tx : tS) (Tr : tS) (E : tS) (F : tS) (Nm : tS) (Bt : tS) (h : f_L_acts_145 N p1 p2  x3 x4 x5 x6 x7 t0 Tn B Hs Tx Tr E F Nm Bt = some (r, Tnz, Bz, Hsz, Txz, Trz, Ez, Fz, Nmz, Btz)) : G X (QI X r [ntW pa Tnz, bdW (gcA X) (pa 1) Bz, hsW (gcA X) (pa 2) (fun j => pa (10 + j)) Hsz, txW (gcA X) (pa 4) Txz, bdW (gcA X) (pa 5) Trz, heW (gcA X) (pa 6) Ez, heW (gcA X) (pa 7) Fz, nmW (gcA X) (pa 8) Nmz, btW (pa 9) (pa 5 0) Btz]) [ntW pa Tn, bdW (gcA X) (pa 1) B, hsW (gcA X) (pa 2) (fun j => pa (10 + j)) Hs, txW (gcA X) (pa 4) Tx, bdW (gcA X) (pa 5) Tr, heW (gcA X) (pa 6) E, heW (gcA X) (pa 7) F, nmW (gcA X) (pa 8) Nm, btW (pa 9) (pa 5 0) Bt] [some (.ref (pa 0 0)), some (.int p1), some (.int p2), some (.int x3), some (.int x4), some (.int x5), some (.int x6), some (.int x7), none, none, none, none, none] [.int t0] 145 := by
  unfold f_L_acts_145 at h
  refine g_istore (pc' := 147) C dL_acts_145 (Nat.le_of_ble_eq_true rfl) rfl (L' := [some (.ref (pa 0 0)), some (.int p1), some (.int p2), some (.int x3), some (.int x4), some (.int x5), some (.int x6), some (.int x7), some (.int t0), none, none, none, none]) rfl ?_
  refine g_iload_n (pc' := 148) C dL_acts_147 rfl rfl ?_
  refine g_bipush (pc' := 150) (v := 22) C dL_acts_148 (by decide) rfl ?_
  refine g_icmp_ge (pc' := 153) (tgt := 255) C dL_acts_150 (by decide) rfl h (fun c h => ?_) (fun c h => ?_)
  · refine g_iload_n (pc' := 256) C dL_acts_255 rfl rfl ?_
    refine g_bipush (pc' := 258) (v := 22) C dL_acts_256 (by decide) rfl ?_
    refine g_icmp_ne (pc' := 261) (tgt := 301) C dL_acts_258 (by decide) rfl h (fun c h => ?_) (fun c h => ?_)
    · refine g_aload_n (pc' := 262) C dL_acts_261 rfl rfl ?_
      refine g_iload (pc' := 264) C dL_acts_262 rfl rfl ?_
      refine g_iload (pc' := 266) C dL_acts_264 rfl rfl ?_
      refine k_X5_unstick (pc' := 269) C pa N Tn B Hs x5 x4 [0, 1, 2] rfl (by decide) gL_acts_X5_unstick ⟨Nat.le_of_ble_eq_true rfl, Nat.le_of_ble_eq_true rfl⟩ (Nat.le_of_ble_eq_true rfl) rfl dL_acts_266 rfl h (fun r4 B4 Hs4 h => ?_)
      show G X _ [ntW pa Tn, bdW (gcA X) (pa 1) B4, hsW (gcA X) (pa 2) (fun j => pa (10 + j)) Hs4, txW (gcA X) (pa 4) Tx, bdW (gcA X) (pa 5) Tr, heW (gcA X) (pa 6) E, heW (gcA X) (pa 7) F, nmW (gcA X) (pa 8) Nm, btW (pa 9) (pa 5 0) Bt] _ _ _
      refine g_iload (pc' := 271) C dL_acts_269 rfl rfl ?_
      refine g_if_eq (pc' := 274) (tgt := 278) C dL_acts_271 (by decide) rfl h (fun c h => ?_) (fun c h => ?_)
      · refine g_iload (pc' := 280) C dL_acts_278 rfl rfl ?_
        refine g_if_ne (pc' := 283) (tgt := 288) C dL_acts_280 (by decide) rfl h (fun c h => ?_) (fun c h => ?_)
        · refine g_bipush (pc' := 285) (v := -4) C dL_acts_283 (by decide) rfl ?_
          refine g_goto (pc' := 292) C dL_acts_285 (by decide) ?_
          exact G_loc (lle_s (lle_s (lle_s (lle_n (lle_n (lle_n (lle_n (lle_n (lle_n (lle_n (lle_n (lle_n (lle_n lle_0))))))))))))) (B_L_acts_292 C hf pa N p1 p2 r Tnz Bz Hsz Txz Trz Ez Fz Nmz Btz (-4 : Int32) r4 Tn B4 Hs4 Tx Tr E F Nm Bt h)
        · refine g_iload (pc' := 290) C dL_acts_288 rfl rfl ?_
          refine g_iconst (pc' := 291) (v := 1) C dL_acts_290 (by decide) rfl ?_
          refine g_isub (pc' := 292) C dL_acts_291 rfl ?_
          exact G_loc (lle_s (lle_s (lle_s (lle_n (lle_n (lle_n (lle_n (lle_n (lle_n (lle_n (lle_n (lle_n (lle_n lle_0))))))))))))) (B_L_acts_292 C hf pa N p1 p2 r Tnz Bz Hsz Txz Trz Ez Fz Nmz Btz (x7 - (1 : Int32)) r4 Tn B4 Hs4 Tx Tr E F Nm Bt h)
      · refine g_iconst (pc' := 275) (v := -1) C dL_acts_274 (by decide) rfl ?_
        refine g_goto (pc' := 292) C dL_acts_275 (by decide) ?_
        exact G_loc (lle_s (lle_s (lle_s (lle_n (lle_n (lle_n (lle_n (lle_n (lle_n (lle_n (lle_n (lle_n (lle_n lle_0))))))))))))) (B_L_acts_292 C hf pa N p1 p2 r Tnz Bz Hsz Txz Trz Ez Fz Nmz Btz (-1 : Int32) r4 Tn B4 Hs4 Tx Tr E F Nm Bt h)
    · refine g_iload_n (pc' := 302) C dL_acts_301 rfl rfl ?_
      refine g_bipush (pc' := 304) (v := 23) C dL_acts_302 (by decide) rfl ?_
      refine g_icmp_ne (pc' := 307) (tgt := 435) C dL_acts_304 (by decide) rfl h (fun c h => ?_) (fun c h => ?_)
      · refine g_iload_n (pc' := 308) C dL_acts_307 rfl rfl ?_
        refine g_iconst (pc' := 309) (v := 4) C dL_acts_308 (by decide) rfl ?_
        refine k_L_low (pc' := 312) C N p2 (4 : Int32) [] rfl (by decide) gL_acts_L_low ⟨Nat.le_of_ble_eq_true rfl, Nat.le_of_ble_eq_true rfl⟩ (Nat.le_of_ble_eq_true rfl) rfl dL_acts_309 rfl h (fun r2 h => ?_)
        refine g_istore (pc' := 314) C dL_acts_312 (Nat.le_of_ble_eq_true rfl) rfl (L' := [some (.ref (pa 0 0)), some (.int p1), some (.int p2), some (.int x3), some (.int x4), some (.int x5), some (.int x6), some (.int x7), some (.int t0), some (.int r2), none, none, none]) rfl ?_
        refine g_iload_n (pc' := 315) C dL_acts_314 rfl rfl ?_
        refine g_iconst (pc' := 316) (v := 2) C dL_acts_315 (by decide) rfl ?_
        refine g_ishr (pc' := 317) C dL_acts_316 rfl ?_
        refine g_bipush (pc' := 319) (v := 23) C dL_acts_317 (by decide) rfl ?_
        refine k_L_low (pc' := 322) C N (p2 >>> ((2 : Int32) &&& 31)) (23 : Int32) [] rfl (by decide) gL_acts_L_low ⟨Nat.le_of_ble_eq_true rfl, Nat.le_of_ble_eq_true rfl⟩ (Nat.le_of_ble_eq_true rfl) rfl dL_acts_319 rfl h (fun r3 h => ?_)
        refine g_istore (pc' := 324) C dL_acts_322 (Nat.le_of_ble_eq_true rfl) rfl (L' := [some (.ref (pa 0 0)), some (.int p1), some (.int p2), some (.int x3), some (.int x4), some (.int x5), some (.int x6), some (.int x7), some (.int t0), some (.int r2), some (.int r3), none, none]) rfl ?_
        refine g_iload (pc' := 326) C dL_acts_324 rfl rfl ?_
        refine g_if_ne (pc' := 329) (tgt := 344) C dL_acts_326 (by decide) rfl h (fun c h => ?_) (fun c h => ?_)
        · refine g_iload (pc' := 331) C dL_acts_329 rfl rfl ?_
          refine g_bipush (pc' := 333) (v := 20) C dL_acts_331 (by decide) rfl ?_
          refine g_icmp_le (pc' := 336) (tgt := 340) C dL_acts_333 (by decide) rfl h (fun c h => ?_) (fun c h => ?_)
          · refine g_iconst (pc' := 341) (v := 0) C dL_acts_340 (by decide) rfl ?_
            refine g_goto (pc' := 361) C dL_acts_341 (by decide) ?_
            exact G_loc (lle_s (lle_s (lle_s (lle_n (lle_n (lle_n (lle_n (lle_n (lle_n (lle_s (lle_s (lle_n (lle_n lle_0))))))))))))) (B_L_acts_361 C hf pa N p1 p2 r Tnz Bz Hsz Txz Trz Ez Fz Nmz Btz r2 r3 (0 : Int32) Tn B Hs Tx Tr E F Nm Bt h)
          · refine g_iconst (pc' := 337) (v := 1) C dL_acts_336 (by decide) rfl ?_
            refine g_goto (pc' := 361) C dL_acts_337 (by decide) ?_
            exact G_loc (lle_s (lle_s (lle_s (lle_n (lle_n (lle_n (lle_n (lle_n (lle_n (lle_s (lle_s (lle_n (lle_n lle_0))))))))))))) (B_L_acts_361 C hf pa N p1 p2 r Tnz Bz Hsz Txz Trz Ez Fz Nmz Btz r2 r3 (1 : Int32) Tn B Hs Tx Tr E F Nm Bt h)
        · refine g_iload (pc' := 346) C dL_acts_344 rfl rfl ?_
          refine g_if_eq (pc' := 349) (tgt := 356) C dL_acts_346 (by decide) rfl h (fun c h => ?_) (fun c h => ?_)
          · exact G_loc (lle_s (lle_s (lle_s (lle_n (lle_n (lle_n (lle_n (lle_n (lle_n (lle_s (lle_s (lle_n (lle_n lle_0))))))))))))) (B_L_acts_356 C hf pa N p1 p2 r Tnz Bz Hsz Txz Trz Ez Fz Nmz Btz r2 r3 Tn B Hs Tx Tr E F Nm Bt h)
          · refine g_iload (pc' := 351) C dL_acts_349 rfl rfl ?_
            refine g_bipush (pc' := 353) (v := 9) C dL_acts_351 (by decide) rfl ?_
            refine g_icmp_le (pc' := 356) (tgt := 360) C dL_acts_353 (by decide) rfl h (fun c h => ?_) (fun c h => ?_)
            · refine g_iconst (pc' := 361) (v := 0) C dL_acts_360 (by decide) rfl ?_
              exact G_loc (lle_s (lle_s (lle_s (lle_n (lle_n (lle_n (lle_n (lle_n (lle_n (lle_s (lle_s (lle_n (lle_n lle_0))))))))))))) (B_L_acts_361 C hf pa N p1 p2 r Tnz Bz Hsz Txz Trz Ez Fz Nmz Btz r2 r3 (0 : Int32) Tn B Hs Tx Tr E F Nm Bt h)
            · exact G_loc (lle_s (lle_s (lle_s (lle_n (lle_n (lle_n (lle_n (lle_n (lle_n (lle_s (lle_s (lle_n (lle_n lle_0))))))))))))) (B_L_acts_356 C hf pa N p1 p2 r Tnz Bz Hsz Txz Trz Ez Fz Nmz Btz r2 r3 Tn B Hs Tx Tr E F Nm Bt h)
      · refine g_aload_n (pc' := 436) C dL_acts_435 rfl rfl ?_
        refine g_iload_n (pc' := 437) C dL_acts_436 rfl rfl ?_
        refine k_L_reads (pc' := 440) C pa N Tn B Hs Tx Tr E Nm Bt p2 [0, 1, 2, 3, 4, 5, 7, 8] rfl (by decide) gL_acts_L_reads ⟨Nat.le_of_ble_eq_true rfl, Nat.le_of_ble_eq_true rfl⟩ (Nat.le_of_ble_eq_true rfl) rfl dL_acts_437 rfl h (fun r1 Tn1 B1 Hs1 Tx1 Tr1 E1 Nm1 Bt1 h => ?_)
        show G X _ [ntW pa Tn1, bdW (gcA X) (pa 1) B1, hsW (gcA X) (pa 2) (fun j => pa (10 + j)) Hs1, txW (gcA X) (pa 4) Tx1, bdW (gcA X) (pa 5) Tr1, heW (gcA X) (pa 6) E1, heW (gcA X) (pa 7) F, nmW (gcA X) (pa 8) Nm1, btW (pa 9) (pa 5 0) Bt1] _ _ _
        obtain ⟨hz, h⟩ := og h
        obtain ⟨rfl, rfl, rfl, rfl, rfl, rfl, rfl, rfl, rfl, rfl⟩ := pj10 (Option.some.inj h)
        exact g_zret0 C (zb hz) dL_acts_440
  · refine g_iconst (pc' := 154) (v := 0) C dL_acts_153 (by decide) rfl ?_
    refine g_istore (pc' := 156) C dL_acts_154 (Nat.le_of_ble_eq_true rfl) rfl (L' := [some (.ref (pa 0 0)), some (.int p1), some (.int p2), some (.int x3), some (.int x4), some (.int x5), some (.int x6), some (.int x7), some (.int t0), some (.int (0 : Int32)), none, none, none]) rfl ?_
    refine g_iconst (pc' := 157) (v := 0) C dL_acts_156 (by decide) rfl ?_
    refine g_istore (pc' := 159) C dL_acts_157 (Nat.le_of_ble_eq_true rfl) rfl (L' := [some (.ref (pa 0 0)), some (.int p1), some (.int p2), some (.int x3), some (.int x4), some (.int x5), some (.int x6), some (.int x7), some (.int t0), some (.int (0 : Int32)), some (.int (0 : Int32)), none, none]) rfl ?_
    exact G_loc (lle_s (lle_s (lle_s (lle_n (lle_s (lle_s (lle_s (lle_s (lle_s (lle_s (lle_s (lle_n (lle_n lle_0))))))))))))) (L_L_acts_159 C hf pa N p1 p2 r Tnz Bz Hsz Txz Trz Ez Fz Nmz Btz N x4 x5 x6 x7 t0 (0 : Int32) (0 : Int32) Tn B Hs Tx Tr E F Nm Bt h)
set_option maxRecDepth 100000 in
set_option maxHeartbeats 4000000 in
theorem B_L_acts_126 {X : gX} (C : cx X RL cL_acts 13 (some .boolean) wsL_acts 8 178) (hf : cf X) (pa : Nat → Nat → Nat) (N : Nat) (p1 : Int32) (p2 : Int32) (r : Int32) (Tnz : tS) (Bz : tS) (Hsz : tH) (Txz : tS) (Trz : tS) (Ez : tS) (Fz : tS) (Nmz : tS) (Btz : tS)  (x3 : Int32) (x4 : Int32) (x5 : Int32) (x6 : Int32) (t0 : Int32) (Tn : tS) (B : tS) (Hs : tH) (Tx : tS) (Tr : tS) (E : tS) (F : tS) (Nm : tS) (Bt : tS) (h : f_L_acts_126 N p1 p2  x3 x4 x5 x6 t0 Tn B Hs Tx Tr E F Nm Bt = some (r, Tnz, Bz, Hsz, Txz, Trz, Ez, Fz, Nmz, Btz)) : G X (QI X r [ntW pa Tnz, bdW (gcA X) (pa 1) Bz, hsW (gcA X) (pa 2) (fun j => pa (10 + j)) Hsz, txW (gcA X) (pa 4) Txz, bdW (gcA X) (pa 5) Trz, heW (gcA X) (pa 6) Ez, heW (gcA X) (pa 7) Fz, nmW (gcA X) (pa 8) Nmz, btW (pa 9) (pa 5 0) Btz]) [ntW pa Tn, bdW (gcA X) (pa 1) B, hsW (gcA X) (pa 2) (fun j => pa (10 + j)) Hs, txW (gcA X) (pa 4) Tx, bdW (gcA X) (pa 5) Tr, heW (gcA X) (pa 6) E, heW (gcA X) (pa 7) F, nmW (gcA X) (pa 8) Nm, btW (pa 9) (pa 5 0) Bt] [some (.ref (pa 0 0)), some (.int p1), some (.int p2), some (.int x3), some (.int x4), some (.int x5), some (.int x6), none, none, none, none, none, none] [.int t0] 126 := by
  unfold f_L_acts_126 at h
  refine g_istore (pc' := 128) C dL_acts_126 (Nat.le_of_ble_eq_true rfl) rfl (L' := [some (.ref (pa 0 0)), some (.int p1), some (.int p2), some (.int x3), some (.int x4), some (.int x5), some (.int x6), some (.int t0), none, none, none, none, none]) rfl ?_
  refine g_iload (pc' := 130) C dL_acts_128 rfl rfl ?_
  refine g_if_eq (pc' := 133) (tgt := 137) C dL_acts_130 (by decide) rfl h (fun c h => ?_) (fun c h => ?_)
  · refine g_aload_n (pc' := 138) C dL_acts_137 rfl rfl ?_
    refine g_iload (pc' := 140) C dL_acts_138 rfl rfl ?_
    refine g_iload (pc' := 142) C dL_acts_140 rfl rfl ?_
    refine k_X5_dots (pc' := 145) C pa N Tn B x5 x4 [0, 1] rfl (by decide) gL_acts_X5_dots ⟨Nat.le_of_ble_eq_true rfl, Nat.le_of_ble_eq_true rfl⟩ (Nat.le_of_ble_eq_true rfl) rfl dL_acts_142 rfl h (fun r1 h => ?_)
    exact G_loc (lle_s (lle_s (lle_s (lle_s (lle_s (lle_s (lle_s (lle_s (lle_n (lle_n (lle_n (lle_n (lle_n lle_0))))))))))))) (B_L_acts_145 C hf pa N p1 p2 r Tnz Bz Hsz Txz Trz Ez Fz Nmz Btz x3 x4 x5 x6 t0 r1 Tn B Hs Tx Tr E F Nm Bt h)
  · refine g_iconst (pc' := 134) (v := 0) C dL_acts_133 (by decide) rfl ?_
    refine g_goto (pc' := 145) C dL_acts_134 (by decide) ?_
    exact G_loc (lle_s (lle_s (lle_s (lle_s (lle_s (lle_s (lle_s (lle_s (lle_n (lle_n (lle_n (lle_n (lle_n lle_0))))))))))))) (B_L_acts_145 C hf pa N p1 p2 r Tnz Bz Hsz Txz Trz Ez Fz Nmz Btz x3 x4 x5 x6 t0 (0 : Int32) Tn B Hs Tx Tr E F Nm Bt h)
set_option maxRecDepth 100000 in
set_option maxHeartbeats 4000000 in
theorem B_L_acts_108 {X : gX} (C : cx X RL cL_acts 13 (some .boolean) wsL_acts 8 178) (hf : cf X) (pa : Nat → Nat → Nat) (N : Nat) (p1 : Int32) (p2 : Int32) (r : Int32) (Tnz : tS) (Bz : tS) (Hsz : tH) (Txz : tS) (Trz : tS) (Ez : tS) (Fz : tS) (Nmz : tS) (Btz : tS)  (x3 : Int32) (x4 : Int32) (x5 : Int32) (t0 : Int32) (Tn : tS) (B : tS) (Hs : tH) (Tx : tS) (Tr : tS) (E : tS) (F : tS) (Nm : tS) (Bt : tS) (h : f_L_acts_108 N p1 p2  x3 x4 x5 t0 Tn B Hs Tx Tr E F Nm Bt = some (r, Tnz, Bz, Hsz, Txz, Trz, Ez, Fz, Nmz, Btz)) : G X (QI X r [ntW pa Tnz, bdW (gcA X) (pa 1) Bz, hsW (gcA X) (pa 2) (fun j => pa (10 + j)) Hsz, txW (gcA X) (pa 4) Txz, bdW (gcA X) (pa 5) Trz, heW (gcA X) (pa 6) Ez, heW (gcA X) (pa 7) Fz, nmW (gcA X) (pa 8) Nmz, btW (pa 9) (pa 5 0) Btz]) [ntW pa Tn, bdW (gcA X) (pa 1) B, hsW (gcA X) (pa 2) (fun j => pa (10 + j)) Hs, txW (gcA X) (pa 4) Tx, bdW (gcA X) (pa 5) Tr, heW (gcA X) (pa 6) E, heW (gcA X) (pa 7) F, nmW (gcA X) (pa 8) Nm, btW (pa 9) (pa 5 0) Bt] [some (.ref (pa 0 0)), some (.int p1), some (.int p2), some (.int x3), some (.int x4), some (.int x5), none, none, none, none, none, none, none] [.int t0] 108 := by
  unfold f_L_acts_108 at h
  refine g_istore (pc' := 110) C dL_acts_108 (Nat.le_of_ble_eq_true rfl) rfl (L' := [some (.ref (pa 0 0)), some (.int p1), some (.int p2), some (.int x3), some (.int x4), some (.int x5), some (.int t0), none, none, none, none, none, none]) rfl ?_
  refine g_iload (pc' := 112) C dL_acts_110 rfl rfl ?_
  refine g_if_eq (pc' := 115) (tgt := 119) C dL_acts_112 (by decide) rfl h (fun c h => ?_) (fun c h => ?_)
  · refine g_aload_n (pc' := 120) C dL_acts_119 rfl rfl ?_
    refine g_iload (pc' := 122) C dL_acts_120 rfl rfl ?_
    refine g_iconst (pc' := 123) (v := 2) C dL_acts_122 (by decide) rfl ?_
    refine k_X5_note (pc' := 126) C pa N Tn B Tr E F x4 (2 : Int32) [0, 1, 4, 5, 6] rfl (by decide) gL_acts_X5_note ⟨Nat.le_of_ble_eq_true rfl, Nat.le_of_ble_eq_true rfl⟩ (Nat.le_of_ble_eq_true rfl) rfl dL_acts_123 rfl h (fun r1 Tr1 E1 F1 h => ?_)
    show G X _ [ntW pa Tn, bdW (gcA X) (pa 1) B, hsW (gcA X) (pa 2) (fun j => pa (10 + j)) Hs, txW (gcA X) (pa 4) Tx, bdW (gcA X) (pa 5) Tr1, heW (gcA X) (pa 6) E1, heW (gcA X) (pa 7) F1, nmW (gcA X) (pa 8) Nm, btW (pa 9) (pa 5 0) Bt] _ _ _
    exact G_loc (lle_s (lle_s (lle_s (lle_s (lle_s (lle_s (lle_s (lle_n (lle_n (lle_n (lle_n (lle_n (lle_n lle_0))))))))))))) (B_L_acts_126 C hf pa N p1 p2 r Tnz Bz Hsz Txz Trz Ez Fz Nmz Btz x3 x4 x5 t0 r1 Tn B Hs Tx Tr1 E1 F1 Nm Bt h)
  · refine g_iconst (pc' := 116) (v := 0) C dL_acts_115 (by decide) rfl ?_
    refine g_goto (pc' := 126) C dL_acts_116 (by decide) ?_
    exact G_loc (lle_s (lle_s (lle_s (lle_s (lle_s (lle_s (lle_s (lle_n (lle_n (lle_n (lle_n (lle_n (lle_n lle_0))))))))))))) (B_L_acts_126 C hf pa N p1 p2 r Tnz Bz Hsz Txz Trz Ez Fz Nmz Btz x3 x4 x5 t0 (0 : Int32) Tn B Hs Tx Tr E F Nm Bt h)
set_option maxRecDepth 100000 in
set_option maxHeartbeats 4000000 in
theorem B_L_acts_103 {X : gX} (C : cx X RL cL_acts 13 (some .boolean) wsL_acts 8 178) (hf : cf X) (pa : Nat → Nat → Nat) (N : Nat) (p1 : Int32) (p2 : Int32) (r : Int32) (Tnz : tS) (Bz : tS) (Hsz : tH) (Txz : tS) (Trz : tS) (Ez : tS) (Fz : tS) (Nmz : tS) (Btz : tS)  (x3 : Int32) (x4 : Int32) (x5 : Int32) (Tn : tS) (B : tS) (Hs : tH) (Tx : tS) (Tr : tS) (E : tS) (F : tS) (Nm : tS) (Bt : tS) (h : f_L_acts_103 N p1 p2  x3 x4 x5 Tn B Hs Tx Tr E F Nm Bt = some (r, Tnz, Bz, Hsz, Txz, Trz, Ez, Fz, Nmz, Btz)) : G X (QI X r [ntW pa Tnz, bdW (gcA X) (pa 1) Bz, hsW (gcA X) (pa 2) (fun j => pa (10 + j)) Hsz, txW (gcA X) (pa 4) Txz, bdW (gcA X) (pa 5) Trz, heW (gcA X) (pa 6) Ez, heW (gcA X) (pa 7) Fz, nmW (gcA X) (pa 8) Nmz, btW (pa 9) (pa 5 0) Btz]) [ntW pa Tn, bdW (gcA X) (pa 1) B, hsW (gcA X) (pa 2) (fun j => pa (10 + j)) Hs, txW (gcA X) (pa 4) Tx, bdW (gcA X) (pa 5) Tr, heW (gcA X) (pa 6) E, heW (gcA X) (pa 7) F, nmW (gcA X) (pa 8) Nm, btW (pa 9) (pa 5 0) Bt] [some (.ref (pa 0 0)), some (.int p1), some (.int p2), some (.int x3), some (.int x4), some (.int x5), none, none, none, none, none, none, none] [] 103 := by
  unfold f_L_acts_103 at h
  refine g_iconst (pc' := 104) (v := 1) C dL_acts_103 (by decide) rfl ?_
  refine g_goto (pc' := 108) C dL_acts_104 (by decide) ?_
  exact G_loc (lle_s (lle_s (lle_s (lle_s (lle_s (lle_s (lle_n (lle_n (lle_n (lle_n (lle_n (lle_n (lle_n lle_0))))))))))))) (B_L_acts_108 C hf pa N p1 p2 r Tnz Bz Hsz Txz Trz Ez Fz Nmz Btz x3 x4 x5 (1 : Int32) Tn B Hs Tx Tr E F Nm Bt h)
set_option maxRecDepth 100000 in
set_option maxHeartbeats 4000000 in
theorem B_L_acts_58 {X : gX} (C : cx X RL cL_acts 13 (some .boolean) wsL_acts 8 178) (hf : cf X) (pa : Nat → Nat → Nat) (N : Nat) (p1 : Int32) (p2 : Int32) (r : Int32) (Tnz : tS) (Bz : tS) (Hsz : tH) (Txz : tS) (Trz : tS) (Ez : tS) (Fz : tS) (Nmz : tS) (Btz : tS)  (t0 : Int32) (Tn : tS) (B : tS) (Hs : tH) (Tx : tS) (Tr : tS) (E : tS) (F : tS) (Nm : tS) (Bt : tS) (h : f_L_acts_58 N p1 p2  t0 Tn B Hs Tx Tr E F Nm Bt = some (r, Tnz, Bz, Hsz, Txz, Trz, Ez, Fz, Nmz, Btz)) : G X (QI X r [ntW pa Tnz, bdW (gcA X) (pa 1) Bz, hsW (gcA X) (pa 2) (fun j => pa (10 + j)) Hsz, txW (gcA X) (pa 4) Txz, bdW (gcA X) (pa 5) Trz, heW (gcA X) (pa 6) Ez, heW (gcA X) (pa 7) Fz, nmW (gcA X) (pa 8) Nmz, btW (pa 9) (pa 5 0) Btz]) [ntW pa Tn, bdW (gcA X) (pa 1) B, hsW (gcA X) (pa 2) (fun j => pa (10 + j)) Hs, txW (gcA X) (pa 4) Tx, bdW (gcA X) (pa 5) Tr, heW (gcA X) (pa 6) E, heW (gcA X) (pa 7) F, nmW (gcA X) (pa 8) Nm, btW (pa 9) (pa 5 0) Bt] [some (.ref (pa 0 0)), some (.int p1), some (.int p2), none, none, none, none, none, none, none, none, none, none] [.int t0, .ref (pa 0 0)] 58 := by
  unfold f_L_acts_58 at h
  refine g_iload_n (pc' := 59) C dL_acts_58 rfl rfl ?_
  refine k_L_themes (pc' := 62) C pa N Tn B Hs Tr E F Nm t0 p2 [0, 1, 2, 4, 5, 6, 7] rfl (by decide) gL_acts_L_themes ⟨Nat.le_of_ble_eq_true rfl, Nat.le_of_ble_eq_true rfl⟩ (Nat.le_of_ble_eq_true rfl) rfl dL_acts_59 rfl h (fun r1 B1 Hs1 Tr1 E1 F1 Nm1 h => ?_)
  show G X _ [ntW pa Tn, bdW (gcA X) (pa 1) B1, hsW (gcA X) (pa 2) (fun j => pa (10 + j)) Hs1, txW (gcA X) (pa 4) Tx, bdW (gcA X) (pa 5) Tr1, heW (gcA X) (pa 6) E1, heW (gcA X) (pa 7) F1, nmW (gcA X) (pa 8) Nm1, btW (pa 9) (pa 5 0) Bt] _ _ _
  obtain ⟨hz, h⟩ := og h
  obtain ⟨rfl, rfl, rfl, rfl, rfl, rfl, rfl, rfl, rfl, rfl⟩ := pj10 (Option.some.inj h)
  exact g_zret0 C (zb hz) dL_acts_62
set_option maxRecDepth 100000 in
set_option maxHeartbeats 4000000 in
theorem B_L_acts {X : gX} (C : cx X RL cL_acts 13 (some .boolean) wsL_acts 8 178) (hf : cf X) (pa : Nat → Nat → Nat) (N : Nat) (Tn : tS) (B : tS) (Hs : tH) (Tx : tS) (Tr : tS) (E : tS) (F : tS) (Nm : tS) (Bt : tS) (p1 : Int32) (p2 : Int32) (r : Int32) (Tnz : tS) (Bz : tS) (Hsz : tH) (Txz : tS) (Trz : tS) (Ez : tS) (Fz : tS) (Nmz : tS) (Btz : tS) (h : f_L_acts N Tn B Hs Tx Tr E F Nm Bt p1 p2 = some (r, Tnz, Bz, Hsz, Txz, Trz, Ez, Fz, Nmz, Btz)) : G X (QI X r [ntW pa Tnz, bdW (gcA X) (pa 1) Bz, hsW (gcA X) (pa 2) (fun j => pa (10 + j)) Hsz, txW (gcA X) (pa 4) Txz, bdW (gcA X) (pa 5) Trz, heW (gcA X) (pa 6) Ez, heW (gcA X) (pa 7) Fz, nmW (gcA X) (pa 8) Nmz, btW (pa 9) (pa 5 0) Btz]) [ntW pa Tn, bdW (gcA X) (pa 1) B, hsW (gcA X) (pa 2) (fun j => pa (10 + j)) Hs, txW (gcA X) (pa 4) Tx, bdW (gcA X) (pa 5) Tr, heW (gcA X) (pa 6) E, heW (gcA X) (pa 7) F, nmW (gcA X) (pa 8) Nm, btW (pa 9) (pa 5 0) Bt] [some (.ref (pa 0 0)), some (.int p1), some (.int p2), none, none, none, none, none, none, none, none, none, none] [] 0 := by
  unfold f_L_acts at h
  refine g_iload_n (pc' := 1) C dL_acts_0 rfl rfl ?_
  refine g_bipush (pc' := 3) (v := 26) C dL_acts_1 (by decide) rfl ?_
  refine k_L_low (pc' := 6) C N p1 (26 : Int32) [] rfl (by decide) gL_acts_L_low ⟨Nat.le_of_ble_eq_true rfl, Nat.le_of_ble_eq_true rfl⟩ (Nat.le_of_ble_eq_true rfl) rfl dL_acts_3 rfl h (fun r1 h => ?_)
  refine g_istore_n (pc' := 7) C dL_acts_6 (Nat.le_of_ble_eq_true rfl) rfl (L' := [some (.ref (pa 0 0)), some (.int p1), some (.int p2), some (.int r1), none, none, none, none, none, none, none, none, none]) rfl ?_
  refine g_iload_n (pc' := 8) C dL_acts_7 rfl rfl ?_
  refine g_bipush (pc' := 10) (v := 8) C dL_acts_8 (by decide) rfl ?_
  refine g_icmp_ge (pc' := 13) (tgt := 20) C dL_acts_10 (by decide) rfl h (fun c h => ?_) (fun c h => ?_)
  · refine g_iload_n (pc' := 21) C dL_acts_20 rfl rfl ?_
    refine g_bipush (pc' := 23) (v := 18) C dL_acts_21 (by decide) rfl ?_
    refine g_icmp_ge (pc' := 26) (tgt := 63) C dL_acts_23 (by decide) rfl h (fun c h => ?_) (fun c h => ?_)
    · refine g_iload_n (pc' := 64) C dL_acts_63 rfl rfl ?_
      refine g_aload_n (pc' := 65) C dL_acts_64 rfl rfl ?_
      refine g_iconst (pc' := 66) (v := 0) C dL_acts_65 (by decide) rfl ?_
      refine k_X5_count (pc' := 69) C pa N Tn B Hs E Nm (0 : Int32) [0, 1, 2, 5, 7] rfl (by decide) gL_acts_X5_count ⟨Nat.le_of_ble_eq_true rfl, Nat.le_of_ble_eq_true rfl⟩ (Nat.le_of_ble_eq_true rfl) rfl dL_acts_66 rfl h (fun r2 E2 Nm2 h => ?_)
      show G X _ [ntW pa Tn, bdW (gcA X) (pa 1) B, hsW (gcA X) (pa 2) (fun j => pa (10 + j)) Hs, txW (gcA X) (pa 4) Tx, bdW (gcA X) (pa 5) Tr, heW (gcA X) (pa 6) E2, heW (gcA X) (pa 7) F, nmW (gcA X) (pa 8) Nm2, btW (pa 9) (pa 5 0) Bt] _ _ _
      refine g_iconst (pc' := 70) (v := 1) C dL_acts_69 (by decide) rfl ?_
      refine g_iadd (pc' := 71) C dL_acts_70 rfl ?_
      refine k_L_low (pc' := 74) C N p2 (r2 + (1 : Int32)) [] rfl (by decide) gL_acts_L_low ⟨Nat.le_of_ble_eq_true rfl, Nat.le_of_ble_eq_true rfl⟩ (Nat.le_of_ble_eq_true rfl) rfl dL_acts_71 rfl h (fun r3 h => ?_)
      refine g_istore (pc' := 76) C dL_acts_74 (Nat.le_of_ble_eq_true rfl) rfl (L' := [some (.ref (pa 0 0)), some (.int p1), some (.int p2), some (.int r1), some (.int r3), none, none, none, none, none, none, none, none]) rfl ?_
      refine g_iload_n (pc' := 77) C dL_acts_76 rfl rfl ?_
      refine g_iconst (pc' := 78) (v := 5) C dL_acts_77 (by decide) rfl ?_
      refine g_ishr (pc' := 79) C dL_acts_78 rfl ?_
      refine g_bipush (pc' := 81) (v := 7) C dL_acts_79 (by decide) rfl ?_
      refine k_L_low (pc' := 84) C N (p2 >>> ((5 : Int32) &&& 31)) (7 : Int32) [] rfl (by decide) gL_acts_L_low ⟨Nat.le_of_ble_eq_true rfl, Nat.le_of_ble_eq_true rfl⟩ (Nat.le_of_ble_eq_true rfl) rfl dL_acts_81 rfl h (fun r4 h => ?_)
      refine g_istore (pc' := 86) C dL_acts_84 (Nat.le_of_ble_eq_true rfl) rfl (L' := [some (.ref (pa 0 0)), some (.int p1), some (.int p2), some (.int r1), some (.int r3), some (.int r4), none, none, none, none, none, none, none]) rfl ?_
      refine g_iload (pc' := 88) C dL_acts_86 rfl rfl ?_
      refine g_aload_n (pc' := 89) C dL_acts_88 rfl rfl ?_
      refine g_iconst (pc' := 90) (v := 0) C dL_acts_89 (by decide) rfl ?_
      refine k_X5_count (pc' := 93) C pa N Tn B Hs E2 Nm2 (0 : Int32) [0, 1, 2, 5, 7] rfl (by decide) gL_acts_X5_count ⟨Nat.le_of_ble_eq_true rfl, Nat.le_of_ble_eq_true rfl⟩ (Nat.le_of_ble_eq_true rfl) rfl dL_acts_90 rfl h (fun r5 E5 Nm5 h => ?_)
      show G X _ [ntW pa Tn, bdW (gcA X) (pa 1) B, hsW (gcA X) (pa 2) (fun j => pa (10 + j)) Hs, txW (gcA X) (pa 4) Tx, bdW (gcA X) (pa 5) Tr, heW (gcA X) (pa 6) E5, heW (gcA X) (pa 7) F, nmW (gcA X) (pa 8) Nm5, btW (pa 9) (pa 5 0) Bt] _ _ _
      refine g_icmp_eq (pc' := 96) (tgt := 103) C dL_acts_93 (by decide) rfl h (fun c h => ?_) (fun c h => ?_)
      · exact G_loc (lle_s (lle_s (lle_s (lle_s (lle_s (lle_s (lle_n (lle_n (lle_n (lle_n (lle_n (lle_n (lle_n lle_0))))))))))))) (B_L_acts_103 C hf pa N p1 p2 r Tnz Bz Hsz Txz Trz Ez Fz Nmz Btz r1 r3 r4 Tn B Hs Tx Tr E5 F Nm5 Bt h)
      · refine g_iload (pc' := 98) C dL_acts_96 rfl rfl ?_
        refine g_bipush (pc' := 100) (v := 6) C dL_acts_98 (by decide) rfl ?_
        refine g_icmp_ne (pc' := 103) (tgt := 107) C dL_acts_100 (by decide) rfl h (fun c h => ?_) (fun c h => ?_)
        · exact G_loc (lle_s (lle_s (lle_s (lle_s (lle_s (lle_s (lle_n (lle_n (lle_n (lle_n (lle_n (lle_n (lle_n lle_0))))))))))))) (B_L_acts_103 C hf pa N p1 p2 r Tnz Bz Hsz Txz Trz Ez Fz Nmz Btz r1 r3 r4 Tn B Hs Tx Tr E5 F Nm5 Bt h)
        · refine g_iconst (pc' := 108) (v := 0) C dL_acts_107 (by decide) rfl ?_
          exact G_loc (lle_s (lle_s (lle_s (lle_s (lle_s (lle_s (lle_n (lle_n (lle_n (lle_n (lle_n (lle_n (lle_n lle_0))))))))))))) (B_L_acts_108 C hf pa N p1 p2 r Tnz Bz Hsz Txz Trz Ez Fz Nmz Btz r1 r3 r4 (0 : Int32) Tn B Hs Tx Tr E5 F Nm5 Bt h)
    · refine g_aload_n (pc' := 27) C dL_acts_26 rfl rfl ?_
      refine g_iload_n (pc' := 28) C dL_acts_27 rfl rfl ?_
      refine g_bipush (pc' := 30) (v := 10) C dL_acts_28 (by decide) rfl ?_
      refine g_icmp_ge (pc' := 33) (tgt := 37) C dL_acts_30 (by decide) rfl h (fun c h => ?_) (fun c h => ?_)
      · refine g_iload_n (pc' := 38) C dL_acts_37 rfl rfl ?_
        refine g_bipush (pc' := 40) (v := 10) C dL_acts_38 (by decide) rfl ?_
        refine g_icmp_ne (pc' := 43) (tgt := 47) C dL_acts_40 (by decide) rfl h (fun c h => ?_) (fun c h => ?_)
        · refine g_iconst (pc' := 44) (v := 2) C dL_acts_43 (by decide) rfl ?_
          refine g_goto (pc' := 58) C dL_acts_44 (by decide) ?_
          exact G_loc (lle_s (lle_s (lle_s (lle_n (lle_n (lle_n (lle_n (lle_n (lle_n (lle_n (lle_n (lle_n (lle_n lle_0))))))))))))) (B_L_acts_58 C hf pa N p1 p2 r Tnz Bz Hsz Txz Trz Ez Fz Nmz Btz (2 : Int32) Tn B Hs Tx Tr E F Nm Bt h)
        · refine g_iload_n (pc' := 48) C dL_acts_47 rfl rfl ?_
          refine g_bipush (pc' := 50) (v := 13) C dL_acts_48 (by decide) rfl ?_
          refine g_icmp_ge (pc' := 53) (tgt := 57) C dL_acts_50 (by decide) rfl h (fun c h => ?_) (fun c h => ?_)
          · refine g_iconst (pc' := 58) (v := 4) C dL_acts_57 (by decide) rfl ?_
            exact G_loc (lle_s (lle_s (lle_s (lle_n (lle_n (lle_n (lle_n (lle_n (lle_n (lle_n (lle_n (lle_n (lle_n lle_0))))))))))))) (B_L_acts_58 C hf pa N p1 p2 r Tnz Bz Hsz Txz Trz Ez Fz Nmz Btz (4 : Int32) Tn B Hs Tx Tr E F Nm Bt h)
          · refine g_iconst (pc' := 54) (v := 3) C dL_acts_53 (by decide) rfl ?_
            refine g_goto (pc' := 58) C dL_acts_54 (by decide) ?_
            exact G_loc (lle_s (lle_s (lle_s (lle_n (lle_n (lle_n (lle_n (lle_n (lle_n (lle_n (lle_n (lle_n (lle_n lle_0))))))))))))) (B_L_acts_58 C hf pa N p1 p2 r Tnz Bz Hsz Txz Trz Ez Fz Nmz Btz (3 : Int32) Tn B Hs Tx Tr E F Nm Bt h)
      · refine g_iconst (pc' := 34) (v := 0) C dL_acts_33 (by decide) rfl ?_
        refine g_goto (pc' := 58) C dL_acts_34 (by decide) ?_
        exact G_loc (lle_s (lle_s (lle_s (lle_n (lle_n (lle_n (lle_n (lle_n (lle_n (lle_n (lle_n (lle_n (lle_n lle_0))))))))))))) (B_L_acts_58 C hf pa N p1 p2 r Tnz Bz Hsz Txz Trz Ez Fz Nmz Btz (0 : Int32) Tn B Hs Tx Tr E F Nm Bt h)
  · refine g_aload_n (pc' := 14) C dL_acts_13 rfl rfl ?_
    refine g_iload_n (pc' := 15) C dL_acts_14 rfl rfl ?_
    refine g_iload_n (pc' := 16) C dL_acts_15 rfl rfl ?_
    refine k_L_notes (pc' := 19) C pa N Tn B Hs Tr E F Nm r1 p2 [0, 1, 2, 4, 5, 6, 7] rfl (by decide) gL_acts_L_notes ⟨Nat.le_of_ble_eq_true rfl, Nat.le_of_ble_eq_true rfl⟩ (Nat.le_of_ble_eq_true rfl) rfl dL_acts_16 rfl h (fun r6 B6 Hs6 Tr6 E6 F6 Nm6 h => ?_)
    show G X _ [ntW pa Tn, bdW (gcA X) (pa 1) B6, hsW (gcA X) (pa 2) (fun j => pa (10 + j)) Hs6, txW (gcA X) (pa 4) Tx, bdW (gcA X) (pa 5) Tr6, heW (gcA X) (pa 6) E6, heW (gcA X) (pa 7) F6, nmW (gcA X) (pa 8) Nm6, btW (pa 9) (pa 5 0) Bt] _ _ _
    obtain ⟨hz, h⟩ := og h
    obtain ⟨rfl, rfl, rfl, rfl, rfl, rfl, rfl, rfl, rfl, rfl⟩ := pj10 (Option.some.inj h)
    exact g_zret0 C (zb hz) dL_acts_19
set_option maxRecDepth 100000 in
set_option maxHeartbeats 4000000 in
theorem c_L_acts (l : Launch) (D : va_G) (cA : Nat → ClassId) (pa : Nat → Nat → Nat) (N : Nat) (Tn : tS) (B : tS) (Hs : tH) (Tx : tS) (Tr : tS) (E : tS) (F : tS) (Nm : tS) (Bt : tS) (p1 : Int32) (p2 : Int32) (r : Int32) (Tnz : tS) (Bz : tS) (Hsz : tH) (Txz : tS) (Trz : tS) (Ez : tS) (Fz : tS) (Nmz : tS) (Btz : tS) (h : f_L_acts N Tn B Hs Tx Tr E F Nm Bt p1 p2 = some (r, Tnz, Bz, Hsz, Txz, Trz, Ez, Fz, Nmz, Btz)) : MIs l D cA yL_acts wsL_acts 8 178 [.ref (pa 0 0), .int p1, .int p2] [ntW pa Tn, bdW cA (pa 1) B, hsW cA (pa 2) (fun j => pa (10 + j)) Hs, txW cA (pa 4) Tx, bdW cA (pa 5) Tr, heW cA (pa 6) E, heW cA (pa 7) F, nmW cA (pa 8) Nm, btW (pa 9) (pa 5 0) Bt] r [ntW pa Tnz, bdW cA (pa 1) Bz, hsW cA (pa 2) (fun j => pa (10 + j)) Hsz, txW cA (pa 4) Txz, bdW cA (pa 5) Trz, heW cA (pa 6) Ez, heW cA (pa 7) Fz, nmW cA (pa 8) Nmz, btW (pa 9) (pa 5 0) Btz] := MIs_of (cc := cL_acts) (maxL := 13) (rt := some .boolean) (by decide +kernel) rfl (List.forall_mem_cons.mpr ⟨rfl, List.forall_mem_cons.mpr ⟨rfl, List.forall_mem_cons.mpr ⟨rfl, List.forall_mem_nil _⟩⟩⟩) (Nat.le_of_ble_eq_true rfl) (fun X e1 e2 e3 hf C => by subst e1; subst e2; subst e3; exact B_L_acts C hf pa N Tn B Hs Tx Tr E F Nm Bt p1 p2 r Tnz Bz Hsz Txz Trz Ez Fz Nmz Btz h)
set_option maxRecDepth 100000 in
set_option maxHeartbeats 4000000 in
theorem nd_L_acts : nd yL_acts 3 := ⟨by decide +kernel, by decide +kernel, by decide +kernel⟩
set_option maxRecDepth 100000 in
set_option maxHeartbeats 4000000 in
theorem k_L_acts {X : gX} {own : String} {cc : ByteArray} {nL : Nat} {ret : Option FieldType} {Ts : List Cond} {fr lm : Nat} {Q : State → Prop} {ms : List va_W} {L : List (Option Value)} {st : List Value} {pc pc' idx : Nat} {ρ : Type} {T : Int32 → tS → tS → tH → tS → tS → tS → tS → tS → tS → Option ρ} {res : ρ} (C : cx X own cc nL ret Ts fr lm) (hf : cf X) (pa : Nat → Nat → Nat) (N : Nat) (Tn : tS) (B : tS) (Hs : tH) (Tx : tS) (Tr : tS) (E : tS) (F : tS) (Nm : tS) (Bt : tS) (p1 : Int32) (p2 : Int32) (is : List Nat) (hC : is.map (fun i => ms[i]?) = [some (ntW pa Tn), some (bdW (gcA X) (pa 1) B), some (hsW (gcA X) (pa 2) (fun j => pa (10 + j)) Hs), some (txW (gcA X) (pa 4) Tx), some (bdW (gcA X) (pa 5) Tr), some (heW (gcA X) (pa 6) E), some (heW (gcA X) (pa 7) F), some (nmW (gcA X) (pa 8) Nm), some (btW (pa 9) (pa 5 0) Bt)]) (hn : is.Nodup) (hG : GoodIn Ts (va_wsS own idx yL_acts wsL_acts)) (hR : 8 + 1 ≤ fr ∧ 8 + (13 + 11) + 178 ≤ lm) (hst : (st.map fun v => v.category).sum ≤ 8) (hLn : L.length = nL) (d : decode cc pc = .ok (.invokestatic idx, 3)) (hp : pc + 3 = pc') (h : bd10 (f_L_acts N Tn B Hs Tx Tr E F Nm Bt p1 p2) T = some res) (kk : ∀ (r : Int32) (Tnz : tS) (Bz : tS) (Hsz : tH) (Txz : tS) (Trz : tS) (Ez : tS) (Fz : tS) (Nmz : tS) (Btz : tS), T r Tnz Bz Hsz Txz Trz Ez Fz Nmz Btz = some res → G X Q (rpl ms is [ntW pa Tnz, bdW (gcA X) (pa 1) Bz, hsW (gcA X) (pa 2) (fun j => pa (10 + j)) Hsz, txW (gcA X) (pa 4) Txz, bdW (gcA X) (pa 5) Trz, heW (gcA X) (pa 6) Ez, heW (gcA X) (pa 7) Fz, nmW (gcA X) (pa 8) Nmz, btW (pa 9) (pa 5 0) Btz]) L (.int r :: st) pc') : G X Q ms L (.int p2 :: .int p1 :: .ref (pa 0 0) :: st) pc := by
  obtain ⟨r, Tnz, Bz, Hsz, Txz, Trz, Ez, Fz, Nmz, Btz, h1, h⟩ := ob10 h
  exact G_callSIs C hf (As := [.ref (pa 0 0), .int p1, .int p2]) (c_L_acts (gl X) (gD X) (gcA X) pa N Tn B Hs Tx Tr E F Nm Bt p1 p2 r Tnz Bz Hsz Txz Trz Ez Fz Nmz Btz h1) hG rfl nd_L_acts hR hC hn rfl rfl hst hLn d hp (kk r Tnz Bz Hsz Txz Trz Ez Fz Nmz Btz h)
