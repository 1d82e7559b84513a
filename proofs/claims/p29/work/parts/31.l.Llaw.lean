set_option maxRecDepth 100000 in
set_option maxHeartbeats 4000000 in
theorem B_L_law_398 {X : gX} (C : cx X RL cL_law 13 ret wsL_law 11 420) (hf : cf X) {sb sn : Nat} {xs : Nat → Int32} (hF : lF X sb) (hRm : gR X = room_1) (hs : sX X sb sn xs) (pa : Nat → Nat → Nat) (N : Nat)    (x2 : Int32) (Tn : tS) (B : tS) (Hs : tH) (Sn : tS) (Tx : tS) (Tr : tS) (E : tS) (F : tS) (Nm : tS) (Bt : tS) (h : f_L_law_398 N sn xs  x2 Tn B Hs Sn Tx Tr E F Nm Bt = some ()) : G X (QL X sb) [ntW pa Tn, bdW (gcA X) (pa 1) B, hsW (gcA X) (pa 2) (fun j => pa (10 + j)) Hs, bdW (gcA X) (pa 3) Sn, txW (gcA X) (pa 4) Tx, bdW (gcA X) (pa 5) Tr, heW (gcA X) (pa 6) E, heW (gcA X) (pa 7) F, nmW (gcA X) (pa 8) Nm, btW (pa 9) (pa 5 0) Bt] [some (.ref (sb)), some (.ref (pa 0 0)), some (.int x2), none, none, none, none, none, none, none, none, none, none] [] 398 := by
  unfold f_L_law_398 at h
  refine g_iload_n (pc' := 399) C dL_law_398 rfl rfl ?_
  refine g_if_eq (pc' := 402) (tgt := 415) C dL_law_399 (by decide) rfl h (fun c h => ?_) (fun c h => ?_)
  · refine g_iconst (pc' := 416) (v := 0) C dL_law_415 (by decide) rfl ?_
    obtain ⟨hv, -⟩ := og h
    rw [Decidable.not_not.mp hv, hRm]
    exact g_lawret C hF dL_law_416
  · refine g_aload_n (pc' := 403) C dL_law_402 rfl rfl ?_
    refine g_bipush (pc' := 405) (v := 7) C dL_law_403 (by decide) rfl ?_
    refine k_L_holds (pc' := 408) C pa N Tn B Hs Tr E F Nm (7 : Int32) [0, 1, 2, 5, 6, 7, 8] rfl (by decide) gL_law_L_holds ⟨Nat.le_of_ble_eq_true rfl, Nat.le_of_ble_eq_true rfl⟩ (Nat.le_of_ble_eq_true rfl) rfl dL_law_405 rfl h (fun r1 Tr1 E1 F1 Nm1 h => ?_)
    show G X _ [ntW pa Tn, bdW (gcA X) (pa 1) B, hsW (gcA X) (pa 2) (fun j => pa (10 + j)) Hs, bdW (gcA X) (pa 3) Sn, txW (gcA X) (pa 4) Tx, bdW (gcA X) (pa 5) Tr1, heW (gcA X) (pa 6) E1, heW (gcA X) (pa 7) F1, nmW (gcA X) (pa 8) Nm1, btW (pa 9) (pa 5 0) Bt] _ _ _
    refine g_if_eq (pc' := 411) (tgt := 415) C dL_law_408 (by decide) rfl h (fun c h => ?_) (fun c h => ?_)
    · refine g_iconst (pc' := 416) (v := 0) C dL_law_415 (by decide) rfl ?_
      obtain ⟨hv, -⟩ := og h
      rw [Decidable.not_not.mp hv, hRm]
      exact g_lawret C hF dL_law_416
    · refine g_iconst (pc' := 412) (v := 1) C dL_law_411 (by decide) rfl ?_
      refine g_goto (pc' := 416) C dL_law_412 (by decide) ?_
      obtain ⟨hv, -⟩ := og h
      rw [Decidable.not_not.mp hv, hRm]
      exact g_lawret C hF dL_law_416
set_option maxRecDepth 100000 in
set_option maxHeartbeats 4000000 in
theorem B_L_law_392 {X : gX} (C : cx X RL cL_law 13 ret wsL_law 11 420) (hf : cf X) {sb sn : Nat} {xs : Nat → Int32} (hF : lF X sb) (hRm : gR X = room_1) (hs : sX X sb sn xs) (pa : Nat → Nat → Nat) (N : Nat)   (k63 : Int32 → Int64 → Int32 → tS → tS → tH → tS → tS → tS → tS → tS → tS → tS → Option (Unit)) (hk63 : ∀ (x2 : Int32) (x3 : Int64) (x5 : Int32) (Tn : tS) (B : tS) (Hs : tH) (Sn : tS) (Tx : tS) (Tr : tS) (E : tS) (F : tS) (Nm : tS) (Bt : tS), k63 x2 x3 x5 Tn B Hs Sn Tx Tr E F Nm Bt = some () → G X (QL X sb) [ntW pa Tn, bdW (gcA X) (pa 1) B, hsW (gcA X) (pa 2) (fun j => pa (10 + j)) Hs, bdW (gcA X) (pa 3) Sn, txW (gcA X) (pa 4) Tx, bdW (gcA X) (pa 5) Tr, heW (gcA X) (pa 6) E, heW (gcA X) (pa 7) F, nmW (gcA X) (pa 8) Nm, btW (pa 9) (pa 5 0) Bt] [some (.ref (sb)), some (.ref (pa 0 0)), some (.int x2), some (.long x3), none, some (.int x5), none, none, none, none, none, none, none] [] 63) (x2 : Int32) (x3 : Int64) (x5 : Int32) (Tn : tS) (B : tS) (Hs : tH) (Sn : tS) (Tx : tS) (Tr : tS) (E : tS) (F : tS) (Nm : tS) (Bt : tS) (h : f_L_law_392 N sn xs k63 x2 x3 x5 Tn B Hs Sn Tx Tr E F Nm Bt = some ()) : G X (QL X sb) [ntW pa Tn, bdW (gcA X) (pa 1) B, hsW (gcA X) (pa 2) (fun j => pa (10 + j)) Hs, bdW (gcA X) (pa 3) Sn, txW (gcA X) (pa 4) Tx, bdW (gcA X) (pa 5) Tr, heW (gcA X) (pa 6) E, heW (gcA X) (pa 7) F, nmW (gcA X) (pa 8) Nm, btW (pa 9) (pa 5 0) Bt] [some (.ref (sb)), some (.ref (pa 0 0)), some (.int x2), some (.long x3), none, some (.int x5), none, none, none, none, none, none, none] [] 392 := by
  unfold f_L_law_392 at h
  refine g_iinc (pc' := 395) (v := (x5 + 1)) C dL_law_392 rfl rfl rfl (L' := [some (.ref (sb)), some (.ref (pa 0 0)), some (.int x2), some (.long x3), none, some (.int (x5 + 1)), none, none, none, none, none, none, none]) rfl ?_
  refine g_goto (pc' := 63) C dL_law_395 (by decide) ?_
  exact G_loc (lle_s (lle_s (lle_s (lle_s (lle_n (lle_s (lle_n (lle_n (lle_n (lle_n (lle_n (lle_n (lle_n lle_0))))))))))))) (hk63 x2 x3 (x5 + 1) Tn B Hs Sn Tx Tr E F Nm Bt h)
set_option maxRecDepth 100000 in
set_option maxHeartbeats 4000000 in
theorem B_L_law_391 {X : gX} (C : cx X RL cL_law 13 ret wsL_law 11 420) (hf : cf X) {sb sn : Nat} {xs : Nat → Int32} (hF : lF X sb) (hRm : gR X = room_1) (hs : sX X sb sn xs) (pa : Nat → Nat → Nat) (N : Nat)   (k63 : Int32 → Int64 → Int32 → tS → tS → tH → tS → tS → tS → tS → tS → tS → tS → Option (Unit)) (hk63 : ∀ (x2 : Int32) (x3 : Int64) (x5 : Int32) (Tn : tS) (B : tS) (Hs : tH) (Sn : tS) (Tx : tS) (Tr : tS) (E : tS) (F : tS) (Nm : tS) (Bt : tS), k63 x2 x3 x5 Tn B Hs Sn Tx Tr E F Nm Bt = some () → G X (QL X sb) [ntW pa Tn, bdW (gcA X) (pa 1) B, hsW (gcA X) (pa 2) (fun j => pa (10 + j)) Hs, bdW (gcA X) (pa 3) Sn, txW (gcA X) (pa 4) Tx, bdW (gcA X) (pa 5) Tr, heW (gcA X) (pa 6) E, heW (gcA X) (pa 7) F, nmW (gcA X) (pa 8) Nm, btW (pa 9) (pa 5 0) Bt] [some (.ref (sb)), some (.ref (pa 0 0)), some (.int x2), some (.long x3), none, some (.int x5), none, none, none, none, none, none, none] [] 63) (x3 : Int64) (x5 : Int32) (t0 : Int32) (Tn : tS) (B : tS) (Hs : tH) (Sn : tS) (Tx : tS) (Tr : tS) (E : tS) (F : tS) (Nm : tS) (Bt : tS) (h : f_L_law_391 N sn xs k63 x3 x5 t0 Tn B Hs Sn Tx Tr E F Nm Bt = some ()) : G X (QL X sb) [ntW pa Tn, bdW (gcA X) (pa 1) B, hsW (gcA X) (pa 2) (fun j => pa (10 + j)) Hs, bdW (gcA X) (pa 3) Sn, txW (gcA X) (pa 4) Tx, bdW (gcA X) (pa 5) Tr, heW (gcA X) (pa 6) E, heW (gcA X) (pa 7) F, nmW (gcA X) (pa 8) Nm, btW (pa 9) (pa 5 0) Bt] [some (.ref (sb)), some (.ref (pa 0 0)), none, some (.long x3), none, some (.int x5), none, none, none, none, none, none, none] [.int t0] 391 := by
  unfold f_L_law_391 at h
  refine g_istore_n (pc' := 392) C dL_law_391 (Nat.le_of_ble_eq_true rfl) rfl (L' := [some (.ref (sb)), some (.ref (pa 0 0)), some (.int t0), some (.long x3), none, some (.int x5), none, none, none, none, none, none, none]) rfl ?_
  exact G_loc (lle_s (lle_s (lle_s (lle_s (lle_n (lle_s (lle_n (lle_n (lle_n (lle_n (lle_n (lle_n (lle_n lle_0))))))))))))) (B_L_law_392 C hf hF hRm hs pa N k63 hk63 t0 x3 x5 Tn B Hs Sn Tx Tr E F Nm Bt h)
set_option maxRecDepth 100000 in
set_option maxHeartbeats 4000000 in
theorem B_L_law_383 {X : gX} (C : cx X RL cL_law 13 ret wsL_law 11 420) (hf : cf X) {sb sn : Nat} {xs : Nat → Int32} (hF : lF X sb) (hRm : gR X = room_1) (hs : sX X sb sn xs) (pa : Nat → Nat → Nat) (N : Nat)   (k63 : Int32 → Int64 → Int32 → tS → tS → tH → tS → tS → tS → tS → tS → tS → tS → Option (Unit)) (hk63 : ∀ (x2 : Int32) (x3 : Int64) (x5 : Int32) (Tn : tS) (B : tS) (Hs : tH) (Sn : tS) (Tx : tS) (Tr : tS) (E : tS) (F : tS) (Nm : tS) (Bt : tS), k63 x2 x3 x5 Tn B Hs Sn Tx Tr E F Nm Bt = some () → G X (QL X sb) [ntW pa Tn, bdW (gcA X) (pa 1) B, hsW (gcA X) (pa 2) (fun j => pa (10 + j)) Hs, bdW (gcA X) (pa 3) Sn, txW (gcA X) (pa 4) Tx, bdW (gcA X) (pa 5) Tr, heW (gcA X) (pa 6) E, heW (gcA X) (pa 7) F, nmW (gcA X) (pa 8) Nm, btW (pa 9) (pa 5 0) Bt] [some (.ref (sb)), some (.ref (pa 0 0)), some (.int x2), some (.long x3), none, some (.int x5), none, none, none, none, none, none, none] [] 63) (x3 : Int64) (x5 : Int32) (t0 : Int32) (t1 : Int32) (Tn : tS) (B : tS) (Hs : tH) (Sn : tS) (Tx : tS) (Tr : tS) (E : tS) (F : tS) (Nm : tS) (Bt : tS) (h : f_L_law_383 N sn xs k63 x3 x5 t0 t1 Tn B Hs Sn Tx Tr E F Nm Bt = some ()) : G X (QL X sb) [ntW pa Tn, bdW (gcA X) (pa 1) B, hsW (gcA X) (pa 2) (fun j => pa (10 + j)) Hs, bdW (gcA X) (pa 3) Sn, txW (gcA X) (pa 4) Tx, bdW (gcA X) (pa 5) Tr, heW (gcA X) (pa 6) E, heW (gcA X) (pa 7) F, nmW (gcA X) (pa 8) Nm, btW (pa 9) (pa 5 0) Bt] [some (.ref (sb)), some (.ref (pa 0 0)), none, some (.long x3), none, some (.int x5), none, none, none, none, none, none, none] [.int t0, .int t1] 383 := by
  unfold f_L_law_383 at h
  refine g_icmp_ne (pc' := 386) (tgt := 390) C dL_law_383 (by decide) rfl h (fun c h => ?_) (fun c h => ?_)
  · refine g_iconst (pc' := 387) (v := 1) C dL_law_386 (by decide) rfl ?_
    refine g_goto (pc' := 391) C dL_law_387 (by decide) ?_
    exact G_loc (lle_s (lle_s (lle_n (lle_s (lle_n (lle_s (lle_n (lle_n (lle_n (lle_n (lle_n (lle_n (lle_n lle_0))))))))))))) (B_L_law_391 C hf hF hRm hs pa N k63 hk63 x3 x5 (1 : Int32) Tn B Hs Sn Tx Tr E F Nm Bt h)
  · refine g_iconst (pc' := 391) (v := 0) C dL_law_390 (by decide) rfl ?_
    exact G_loc (lle_s (lle_s (lle_n (lle_s (lle_n (lle_s (lle_n (lle_n (lle_n (lle_n (lle_n (lle_n (lle_n lle_0))))))))))))) (B_L_law_391 C hf hF hRm hs pa N k63 hk63 x3 x5 (0 : Int32) Tn B Hs Sn Tx Tr E F Nm Bt h)
set_option maxRecDepth 100000 in
set_option maxHeartbeats 4000000 in
theorem B_L_law_343 {X : gX} (C : cx X RL cL_law 13 ret wsL_law 11 420) (hf : cf X) {sb sn : Nat} {xs : Nat → Int32} (hF : lF X sb) (hRm : gR X = room_1) (hs : sX X sb sn xs) (pa : Nat → Nat → Nat) (N : Nat)   (k63 : Int32 → Int64 → Int32 → tS → tS → tH → tS → tS → tS → tS → tS → tS → tS → Option (Unit)) (hk63 : ∀ (x2 : Int32) (x3 : Int64) (x5 : Int32) (Tn : tS) (B : tS) (Hs : tH) (Sn : tS) (Tx : tS) (Tr : tS) (E : tS) (F : tS) (Nm : tS) (Bt : tS), k63 x2 x3 x5 Tn B Hs Sn Tx Tr E F Nm Bt = some () → G X (QL X sb) [ntW pa Tn, bdW (gcA X) (pa 1) B, hsW (gcA X) (pa 2) (fun j => pa (10 + j)) Hs, bdW (gcA X) (pa 3) Sn, txW (gcA X) (pa 4) Tx, bdW (gcA X) (pa 5) Tr, heW (gcA X) (pa 6) E, heW (gcA X) (pa 7) F, nmW (gcA X) (pa 8) Nm, btW (pa 9) (pa 5 0) Bt] [some (.ref (sb)), some (.ref (pa 0 0)), some (.int x2), some (.long x3), none, some (.int x5), none, none, none, none, none, none, none] [] 63) (x2 : Int32) (x3 : Int64) (x5 : Int32) (Tn : tS) (B : tS) (Hs : tH) (Sn : tS) (Tx : tS) (Tr : tS) (E : tS) (F : tS) (Nm : tS) (Bt : tS) (h : f_L_law_343 N sn xs k63 x2 x3 x5 Tn B Hs Sn Tx Tr E F Nm Bt = some ()) : G X (QL X sb) [ntW pa Tn, bdW (gcA X) (pa 1) B, hsW (gcA X) (pa 2) (fun j => pa (10 + j)) Hs, bdW (gcA X) (pa 3) Sn, txW (gcA X) (pa 4) Tx, bdW (gcA X) (pa 5) Tr, heW (gcA X) (pa 6) E, heW (gcA X) (pa 7) F, nmW (gcA X) (pa 8) Nm, btW (pa 9) (pa 5 0) Bt] [some (.ref (sb)), some (.ref (pa 0 0)), some (.int x2), some (.long x3), none, some (.int x5), none, none, none, none, none, none, none] [] 343 := by
  unfold f_L_law_343 at h
  refine g_iload_n (pc' := 344) C dL_law_343 rfl rfl ?_
  refine g_if_eq (pc' := 347) (tgt := 392) C dL_law_344 (by decide) rfl h (fun c h => ?_) (fun c h => ?_)
  · exact G_loc (lle_s (lle_s (lle_s (lle_s (lle_n (lle_s (lle_n (lle_n (lle_n (lle_n (lle_n (lle_n (lle_n lle_0))))))))))))) (B_L_law_392 C hf hF hRm hs pa N k63 hk63 x2 x3 x5 Tn B Hs Sn Tx Tr E F Nm Bt h)
  · refine g_iload (pc' := 349) C dL_law_347 rfl rfl ?_
    refine g_bipush (pc' := 351) (v := 11) C dL_law_349 (by decide) rfl ?_
    refine g_irem (pc' := 352) C dL_law_351 rfl h (fun h => ?_)
    refine g_bipush (pc' := 354) (v := 10) C dL_law_352 (by decide) rfl ?_
    refine g_icmp_ne (pc' := 357) (tgt := 392) C dL_law_354 (by decide) rfl h (fun c h => ?_) (fun c h => ?_)
    · refine g_aload_n (pc' := 358) C dL_law_357 rfl rfl ?_
      refine g_bipush (pc' := 360) (v := 11) C dL_law_358 (by decide) rfl ?_
      refine k_X5_count (pc' := 363) C pa N Tn B Hs E Nm (11 : Int32) [0, 1, 2, 6, 8] rfl (by decide) gL_law_X5_count ⟨Nat.le_of_ble_eq_true rfl, Nat.le_of_ble_eq_true rfl⟩ (Nat.le_of_ble_eq_true rfl) rfl dL_law_360 rfl h (fun r1 E1 Nm1 h => ?_)
      show G X _ [ntW pa Tn, bdW (gcA X) (pa 1) B, hsW (gcA X) (pa 2) (fun j => pa (10 + j)) Hs, bdW (gcA X) (pa 3) Sn, txW (gcA X) (pa 4) Tx, bdW (gcA X) (pa 5) Tr, heW (gcA X) (pa 6) E1, heW (gcA X) (pa 7) F, nmW (gcA X) (pa 8) Nm1, btW (pa 9) (pa 5 0) Bt] _ _ _
      refine g_istore (pc' := 365) C dL_law_363 (Nat.le_of_ble_eq_true rfl) rfl (L' := [some (.ref (sb)), some (.ref (pa 0 0)), some (.int x2), some (.long x3), none, some (.int x5), none, none, none, none, none, none, some (.int r1)]) rfl ?_
      refine g_aload_n (pc' := 366) C dL_law_365 rfl rfl ?_
      refine k_X5_undo (pc' := 369) C pa N Tn B Hs [0, 1, 2] rfl (by decide) gL_law_X5_undo ⟨Nat.le_of_ble_eq_true rfl, Nat.le_of_ble_eq_true rfl⟩ (Nat.le_of_ble_eq_true rfl) rfl dL_law_366 rfl h (fun r2 B2 Hs2 h => ?_)
      show G X _ [ntW pa Tn, bdW (gcA X) (pa 1) B2, hsW (gcA X) (pa 2) (fun j => pa (10 + j)) Hs2, bdW (gcA X) (pa 3) Sn, txW (gcA X) (pa 4) Tx, bdW (gcA X) (pa 5) Tr, heW (gcA X) (pa 6) E1, heW (gcA X) (pa 7) F, nmW (gcA X) (pa 8) Nm1, btW (pa 9) (pa 5 0) Bt] _ _ _
      refine g_iload (pc' := 371) C dL_law_369 rfl rfl ?_
      refine g_if_ne (pc' := 374) (tgt := 379) C dL_law_371 (by decide) rfl h (fun c h => ?_) (fun c h => ?_)
      · refine g_bipush (pc' := 376) (v := -5) C dL_law_374 (by decide) rfl ?_
        refine g_goto (pc' := 383) C dL_law_376 (by decide) ?_
        exact G_loc (lle_s (lle_s (lle_n (lle_s (lle_n (lle_s (lle_n (lle_n (lle_n (lle_n (lle_n (lle_n (lle_n lle_0))))))))))))) (B_L_law_383 C hf hF hRm hs pa N k63 hk63 x3 x5 (-5 : Int32) r2 Tn B2 Hs2 Sn Tx Tr E1 F Nm1 Bt h)
      · refine g_iload (pc' := 381) C dL_law_379 rfl rfl ?_
        refine g_iconst (pc' := 382) (v := 1) C dL_law_381 (by decide) rfl ?_
        refine g_isub (pc' := 383) C dL_law_382 rfl ?_
        exact G_loc (lle_s (lle_s (lle_n (lle_s (lle_n (lle_s (lle_n (lle_n (lle_n (lle_n (lle_n (lle_n (lle_n lle_0))))))))))))) (B_L_law_383 C hf hF hRm hs pa N k63 hk63 x3 x5 (r1 - (1 : Int32)) r2 Tn B2 Hs2 Sn Tx Tr E1 F Nm1 Bt h)
    · exact G_loc (lle_s (lle_s (lle_s (lle_s (lle_n (lle_s (lle_n (lle_n (lle_n (lle_n (lle_n (lle_n (lle_n lle_0))))))))))))) (B_L_law_392 C hf hF hRm hs pa N k63 hk63 x2 x3 x5 Tn B Hs Sn Tx Tr E F Nm Bt h)
set_option maxRecDepth 100000 in
set_option maxHeartbeats 4000000 in
theorem B_L_law_337 {X : gX} (C : cx X RL cL_law 13 ret wsL_law 11 420) (hf : cf X) {sb sn : Nat} {xs : Nat → Int32} (hF : lF X sb) (hRm : gR X = room_1) (hs : sX X sb sn xs) (pa : Nat → Nat → Nat) (N : Nat)   (k63 : Int32 → Int64 → Int32 → tS → tS → tH → tS → tS → tS → tS → tS → tS → tS → Option (Unit)) (hk63 : ∀ (x2 : Int32) (x3 : Int64) (x5 : Int32) (Tn : tS) (B : tS) (Hs : tH) (Sn : tS) (Tx : tS) (Tr : tS) (E : tS) (F : tS) (Nm : tS) (Bt : tS), k63 x2 x3 x5 Tn B Hs Sn Tx Tr E F Nm Bt = some () → G X (QL X sb) [ntW pa Tn, bdW (gcA X) (pa 1) B, hsW (gcA X) (pa 2) (fun j => pa (10 + j)) Hs, bdW (gcA X) (pa 3) Sn, txW (gcA X) (pa 4) Tx, bdW (gcA X) (pa 5) Tr, heW (gcA X) (pa 6) E, heW (gcA X) (pa 7) F, nmW (gcA X) (pa 8) Nm, btW (pa 9) (pa 5 0) Bt] [some (.ref (sb)), some (.ref (pa 0 0)), some (.int x2), some (.long x3), none, some (.int x5), none, none, none, none, none, none, none] [] 63) (x5 : Int32) (t0 : Int32) (Tn : tS) (B : tS) (Hs : tH) (Sn : tS) (Tx : tS) (Tr : tS) (E : tS) (F : tS) (Nm : tS) (Bt : tS) (h : f_L_law_337 N sn xs k63 x5 t0 Tn B Hs Sn Tx Tr E F Nm Bt = some ()) : G X (QL X sb) [ntW pa Tn, bdW (gcA X) (pa 1) B, hsW (gcA X) (pa 2) (fun j => pa (10 + j)) Hs, bdW (gcA X) (pa 3) Sn, txW (gcA X) (pa 4) Tx, bdW (gcA X) (pa 5) Tr, heW (gcA X) (pa 6) E, heW (gcA X) (pa 7) F, nmW (gcA X) (pa 8) Nm, btW (pa 9) (pa 5 0) Bt] [some (.ref (sb)), some (.ref (pa 0 0)), none, none, none, some (.int x5), none, none, none, none, none, none, none] [.int t0] 337 := by
  unfold f_L_law_337 at h
  refine g_istore_n (pc' := 338) C dL_law_337 (Nat.le_of_ble_eq_true rfl) rfl (L' := [some (.ref (sb)), some (.ref (pa 0 0)), some (.int t0), none, none, some (.int x5), none, none, none, none, none, none, none]) rfl ?_
  refine g_aload_n (pc' := 339) C dL_law_338 rfl rfl ?_
  refine k_L_look (pc' := 342) C pa N Tn B Hs Tr E F Nm [0, 1, 2, 5, 6, 7, 8] rfl (by decide) gL_law_L_look ⟨Nat.le_of_ble_eq_true rfl, Nat.le_of_ble_eq_true rfl⟩ (Nat.le_of_ble_eq_true rfl) rfl dL_law_339 rfl h (fun r1 Tr1 E1 F1 Nm1 h => ?_)
  show G X _ [ntW pa Tn, bdW (gcA X) (pa 1) B, hsW (gcA X) (pa 2) (fun j => pa (10 + j)) Hs, bdW (gcA X) (pa 3) Sn, txW (gcA X) (pa 4) Tx, bdW (gcA X) (pa 5) Tr1, heW (gcA X) (pa 6) E1, heW (gcA X) (pa 7) F1, nmW (gcA X) (pa 8) Nm1, btW (pa 9) (pa 5 0) Bt] _ _ _
  refine g_lstore_n (pc' := 343) C dL_law_342 (Nat.le_of_ble_eq_true rfl) rfl (L' := [some (.ref (sb)), some (.ref (pa 0 0)), some (.int t0), some (.long r1), none, some (.int x5), none, none, none, none, none, none, none]) rfl ?_
  exact G_loc (lle_s (lle_s (lle_s (lle_s (lle_n (lle_s (lle_n (lle_n (lle_n (lle_n (lle_n (lle_n (lle_n lle_0))))))))))))) (B_L_law_343 C hf hF hRm hs pa N k63 hk63 t0 r1 x5 Tn B Hs Sn Tx Tr1 E1 F1 Nm1 Bt h)
set_option maxRecDepth 100000 in
set_option maxHeartbeats 4000000 in
theorem B_L_law_336 {X : gX} (C : cx X RL cL_law 13 ret wsL_law 11 420) (hf : cf X) {sb sn : Nat} {xs : Nat → Int32} (hF : lF X sb) (hRm : gR X = room_1) (hs : sX X sb sn xs) (pa : Nat → Nat → Nat) (N : Nat)   (k63 : Int32 → Int64 → Int32 → tS → tS → tH → tS → tS → tS → tS → tS → tS → tS → Option (Unit)) (hk63 : ∀ (x2 : Int32) (x3 : Int64) (x5 : Int32) (Tn : tS) (B : tS) (Hs : tH) (Sn : tS) (Tx : tS) (Tr : tS) (E : tS) (F : tS) (Nm : tS) (Bt : tS), k63 x2 x3 x5 Tn B Hs Sn Tx Tr E F Nm Bt = some () → G X (QL X sb) [ntW pa Tn, bdW (gcA X) (pa 1) B, hsW (gcA X) (pa 2) (fun j => pa (10 + j)) Hs, bdW (gcA X) (pa 3) Sn, txW (gcA X) (pa 4) Tx, bdW (gcA X) (pa 5) Tr, heW (gcA X) (pa 6) E, heW (gcA X) (pa 7) F, nmW (gcA X) (pa 8) Nm, btW (pa 9) (pa 5 0) Bt] [some (.ref (sb)), some (.ref (pa 0 0)), some (.int x2), some (.long x3), none, some (.int x5), none, none, none, none, none, none, none] [] 63) (x5 : Int32) (Tn : tS) (B : tS) (Hs : tH) (Sn : tS) (Tx : tS) (Tr : tS) (E : tS) (F : tS) (Nm : tS) (Bt : tS) (h : f_L_law_336 N sn xs k63 x5 Tn B Hs Sn Tx Tr E F Nm Bt = some ()) : G X (QL X sb) [ntW pa Tn, bdW (gcA X) (pa 1) B, hsW (gcA X) (pa 2) (fun j => pa (10 + j)) Hs, bdW (gcA X) (pa 3) Sn, txW (gcA X) (pa 4) Tx, bdW (gcA X) (pa 5) Tr, heW (gcA X) (pa 6) E, heW (gcA X) (pa 7) F, nmW (gcA X) (pa 8) Nm, btW (pa 9) (pa 5 0) Bt] [some (.ref (sb)), some (.ref (pa 0 0)), none, none, none, some (.int x5), none, none, none, none, none, none, none] [] 336 := by
  unfold f_L_law_336 at h
  refine g_iconst (pc' := 337) (v := 0) C dL_law_336 (by decide) rfl ?_
  exact G_loc (lle_s (lle_s (lle_n (lle_n (lle_n (lle_s (lle_n (lle_n (lle_n (lle_n (lle_n (lle_n (lle_n lle_0))))))))))))) (B_L_law_337 C hf hF hRm hs pa N k63 hk63 x5 (0 : Int32) Tn B Hs Sn Tx Tr E F Nm Bt h)
set_option maxRecDepth 100000 in
set_option maxHeartbeats 4000000 in
theorem B_L_law_283 {X : gX} (C : cx X RL cL_law 13 ret wsL_law 11 420) (hf : cf X) {sb sn : Nat} {xs : Nat → Int32} (hF : lF X sb) (hRm : gR X = room_1) (hs : sX X sb sn xs) (pa : Nat → Nat → Nat) (N : Nat)   (k63 : Int32 → Int64 → Int32 → tS → tS → tH → tS → tS → tS → tS → tS → tS → tS → Option (Unit)) (hk63 : ∀ (x2 : Int32) (x3 : Int64) (x5 : Int32) (Tn : tS) (B : tS) (Hs : tH) (Sn : tS) (Tx : tS) (Tr : tS) (E : tS) (F : tS) (Nm : tS) (Bt : tS), k63 x2 x3 x5 Tn B Hs Sn Tx Tr E F Nm Bt = some () → G X (QL X sb) [ntW pa Tn, bdW (gcA X) (pa 1) B, hsW (gcA X) (pa 2) (fun j => pa (10 + j)) Hs, bdW (gcA X) (pa 3) Sn, txW (gcA X) (pa 4) Tx, bdW (gcA X) (pa 5) Tr, heW (gcA X) (pa 6) E, heW (gcA X) (pa 7) F, nmW (gcA X) (pa 8) Nm, btW (pa 9) (pa 5 0) Bt] [some (.ref (sb)), some (.ref (pa 0 0)), some (.int x2), some (.long x3), none, some (.int x5), none, none, none, none, none, none, none] [] 63) (x2 : Int32) (x3 : Int64) (x5 : Int32) (Tn : tS) (B : tS) (Hs : tH) (Sn : tS) (Tx : tS) (Tr : tS) (E : tS) (F : tS) (Nm : tS) (Bt : tS) (h : f_L_law_283 N sn xs k63 x2 x3 x5 Tn B Hs Sn Tx Tr E F Nm Bt = some ()) : G X (QL X sb) [ntW pa Tn, bdW (gcA X) (pa 1) B, hsW (gcA X) (pa 2) (fun j => pa (10 + j)) Hs, bdW (gcA X) (pa 3) Sn, txW (gcA X) (pa 4) Tx, bdW (gcA X) (pa 5) Tr, heW (gcA X) (pa 6) E, heW (gcA X) (pa 7) F, nmW (gcA X) (pa 8) Nm, btW (pa 9) (pa 5 0) Bt] [some (.ref (sb)), some (.ref (pa 0 0)), some (.int x2), some (.long x3), none, some (.int x5), none, none, none, none, none, none, none] [] 283 := by
  unfold f_L_law_283 at h
  refine g_iload_n (pc' := 284) C dL_law_283 rfl rfl ?_
  refine g_if_eq (pc' := 287) (tgt := 343) C dL_law_284 (by decide) rfl h (fun c h => ?_) (fun c h => ?_)
  · exact G_loc (lle_s (lle_s (lle_s (lle_s (lle_n (lle_s (lle_n (lle_n (lle_n (lle_n (lle_n (lle_n (lle_n lle_0))))))))))))) (B_L_law_343 C hf hF hRm hs pa N k63 hk63 x2 x3 x5 Tn B Hs Sn Tx Tr E F Nm Bt h)
  · refine g_iload (pc' := 289) C dL_law_287 rfl rfl ?_
    refine g_bipush (pc' := 291) (v := 15) C dL_law_289 (by decide) rfl ?_
    refine g_irem (pc' := 292) C dL_law_291 rfl h (fun h => ?_)
    refine g_bipush (pc' := 294) (v := 14) C dL_law_292 (by decide) rfl ?_
    refine g_icmp_ne (pc' := 297) (tgt := 343) C dL_law_294 (by decide) rfl h (fun c h => ?_) (fun c h => ?_)
    · refine g_aload_n (pc' := 298) C dL_law_297 rfl rfl ?_
      refine k_X5_restore (pc' := 301) C pa N Tn B Hs Sn [0, 1, 2, 3] rfl (by decide) gL_law_X5_restore ⟨Nat.le_of_ble_eq_true rfl, Nat.le_of_ble_eq_true rfl⟩ (Nat.le_of_ble_eq_true rfl) rfl dL_law_298 rfl h (fun r1 B1 Hs1 h => ?_)
      show G X _ [ntW pa Tn, bdW (gcA X) (pa 1) B1, hsW (gcA X) (pa 2) (fun j => pa (10 + j)) Hs1, bdW (gcA X) (pa 3) Sn, txW (gcA X) (pa 4) Tx, bdW (gcA X) (pa 5) Tr, heW (gcA X) (pa 6) E, heW (gcA X) (pa 7) F, nmW (gcA X) (pa 8) Nm, btW (pa 9) (pa 5 0) Bt] _ _ _
      refine g_if_lt (pc' := 304) (tgt := 336) C dL_law_301 (by decide) rfl h (fun c h => ?_) (fun c h => ?_)
      · exact G_loc (lle_s (lle_s (lle_n (lle_n (lle_n (lle_s (lle_n (lle_n (lle_n (lle_n (lle_n (lle_n (lle_n lle_0))))))))))))) (B_L_law_336 C hf hF hRm hs pa N k63 hk63 x5 Tn B1 Hs1 Sn Tx Tr E F Nm Bt h)
      · refine g_aload_n (pc' := 305) C dL_law_304 rfl rfl ?_
        refine k_L_look (pc' := 308) C pa N Tn B1 Hs1 Tr E F Nm [0, 1, 2, 5, 6, 7, 8] rfl (by decide) gL_law_L_look ⟨Nat.le_of_ble_eq_true rfl, Nat.le_of_ble_eq_true rfl⟩ (Nat.le_of_ble_eq_true rfl) rfl dL_law_305 rfl h (fun r2 Tr2 E2 F2 Nm2 h => ?_)
        show G X _ [ntW pa Tn, bdW (gcA X) (pa 1) B1, hsW (gcA X) (pa 2) (fun j => pa (10 + j)) Hs1, bdW (gcA X) (pa 3) Sn, txW (gcA X) (pa 4) Tx, bdW (gcA X) (pa 5) Tr2, heW (gcA X) (pa 6) E2, heW (gcA X) (pa 7) F2, nmW (gcA X) (pa 8) Nm2, btW (pa 9) (pa 5 0) Bt] _ _ _
        refine g_lload_n (pc' := 309) C dL_law_308 rfl rfl ?_
        refine g_lcmp (pc' := 310) C dL_law_309 rfl ?_
        refine g_if_ne (pc' := 313) (tgt := 336) C dL_law_310 (by decide) rfl h (fun c h => ?_) (fun c h => ?_)
        · refine g_aload_n (pc' := 314) C dL_law_313 rfl rfl ?_
          refine k_X5_undo (pc' := 317) C pa N Tn B1 Hs1 [0, 1, 2] rfl (by decide) gL_law_X5_undo ⟨Nat.le_of_ble_eq_true rfl, Nat.le_of_ble_eq_true rfl⟩ (Nat.le_of_ble_eq_true rfl) rfl dL_law_314 rfl h (fun r3 B3 Hs3 h => ?_)
          show G X _ [ntW pa Tn, bdW (gcA X) (pa 1) B3, hsW (gcA X) (pa 2) (fun j => pa (10 + j)) Hs3, bdW (gcA X) (pa 3) Sn, txW (gcA X) (pa 4) Tx, bdW (gcA X) (pa 5) Tr2, heW (gcA X) (pa 6) E2, heW (gcA X) (pa 7) F2, nmW (gcA X) (pa 8) Nm2, btW (pa 9) (pa 5 0) Bt] _ _ _
          refine g_if_lt (pc' := 320) (tgt := 336) C dL_law_317 (by decide) rfl h (fun c h => ?_) (fun c h => ?_)
          · exact G_loc (lle_s (lle_s (lle_n (lle_n (lle_n (lle_s (lle_n (lle_n (lle_n (lle_n (lle_n (lle_n (lle_n lle_0))))))))))))) (B_L_law_336 C hf hF hRm hs pa N k63 hk63 x5 Tn B3 Hs3 Sn Tx Tr2 E2 F2 Nm2 Bt h)
          · refine g_aload_n (pc' := 321) C dL_law_320 rfl rfl ?_
            refine k_X5_keep (pc' := 324) C pa N Tn B3 Sn [0, 1, 3] rfl (by decide) gL_law_X5_keep ⟨Nat.le_of_ble_eq_true rfl, Nat.le_of_ble_eq_true rfl⟩ (Nat.le_of_ble_eq_true rfl) rfl dL_law_321 rfl h (fun r4 Tn4 Sn4 h => ?_)
            show G X _ [ntW pa Tn4, bdW (gcA X) (pa 1) B3, hsW (gcA X) (pa 2) (fun j => pa (10 + j)) Hs3, bdW (gcA X) (pa 3) Sn4, txW (gcA X) (pa 4) Tx, bdW (gcA X) (pa 5) Tr2, heW (gcA X) (pa 6) E2, heW (gcA X) (pa 7) F2, nmW (gcA X) (pa 8) Nm2, btW (pa 9) (pa 5 0) Bt] _ _ _
            refine g_aload_n (pc' := 325) C dL_law_324 rfl rfl ?_
            refine g_iconst (pc' := 326) (v := 0) C dL_law_325 (by decide) rfl ?_
            refine k_X5_count (pc' := 329) C pa N Tn4 B3 Hs3 E2 Nm2 (0 : Int32) [0, 1, 2, 6, 8] rfl (by decide) gL_law_X5_count ⟨Nat.le_of_ble_eq_true rfl, Nat.le_of_ble_eq_true rfl⟩ (Nat.le_of_ble_eq_true rfl) rfl dL_law_326 rfl h (fun r5 E5 Nm5 h => ?_)
            show G X _ [ntW pa Tn4, bdW (gcA X) (pa 1) B3, hsW (gcA X) (pa 2) (fun j => pa (10 + j)) Hs3, bdW (gcA X) (pa 3) Sn4, txW (gcA X) (pa 4) Tx, bdW (gcA X) (pa 5) Tr2, heW (gcA X) (pa 6) E5, heW (gcA X) (pa 7) F2, nmW (gcA X) (pa 8) Nm5, btW (pa 9) (pa 5 0) Bt] _ _ _
            refine g_icmp_ne (pc' := 332) (tgt := 336) C dL_law_329 (by decide) rfl h (fun c h => ?_) (fun c h => ?_)
            · refine g_iconst (pc' := 333) (v := 1) C dL_law_332 (by decide) rfl ?_
              refine g_goto (pc' := 337) C dL_law_333 (by decide) ?_
              exact G_loc (lle_s (lle_s (lle_n (lle_n (lle_n (lle_s (lle_n (lle_n (lle_n (lle_n (lle_n (lle_n (lle_n lle_0))))))))))))) (B_L_law_337 C hf hF hRm hs pa N k63 hk63 x5 (1 : Int32) Tn4 B3 Hs3 Sn4 Tx Tr2 E5 F2 Nm5 Bt h)
            · exact G_loc (lle_s (lle_s (lle_n (lle_n (lle_n (lle_s (lle_n (lle_n (lle_n (lle_n (lle_n (lle_n (lle_n lle_0))))))))))))) (B_L_law_336 C hf hF hRm hs pa N k63 hk63 x5 Tn4 B3 Hs3 Sn4 Tx Tr2 E5 F2 Nm5 Bt h)
        · exact G_loc (lle_s (lle_s (lle_n (lle_n (lle_n (lle_s (lle_n (lle_n (lle_n (lle_n (lle_n (lle_n (lle_n lle_0))))))))))))) (B_L_law_336 C hf hF hRm hs pa N k63 hk63 x5 Tn B1 Hs1 Sn Tx Tr2 E2 F2 Nm2 Bt h)
    · exact G_loc (lle_s (lle_s (lle_s (lle_s (lle_n (lle_s (lle_n (lle_n (lle_n (lle_n (lle_n (lle_n (lle_n lle_0))))))))))))) (B_L_law_343 C hf hF hRm hs pa N k63 hk63 x2 x3 x5 Tn B Hs Sn Tx Tr E F Nm Bt h)
set_option maxRecDepth 100000 in
set_option maxHeartbeats 4000000 in
theorem B_L_law_282 {X : gX} (C : cx X RL cL_law 13 ret wsL_law 11 420) (hf : cf X) {sb sn : Nat} {xs : Nat → Int32} (hF : lF X sb) (hRm : gR X = room_1) (hs : sX X sb sn xs) (pa : Nat → Nat → Nat) (N : Nat)   (k63 : Int32 → Int64 → Int32 → tS → tS → tH → tS → tS → tS → tS → tS → tS → tS → Option (Unit)) (hk63 : ∀ (x2 : Int32) (x3 : Int64) (x5 : Int32) (Tn : tS) (B : tS) (Hs : tH) (Sn : tS) (Tx : tS) (Tr : tS) (E : tS) (F : tS) (Nm : tS) (Bt : tS), k63 x2 x3 x5 Tn B Hs Sn Tx Tr E F Nm Bt = some () → G X (QL X sb) [ntW pa Tn, bdW (gcA X) (pa 1) B, hsW (gcA X) (pa 2) (fun j => pa (10 + j)) Hs, bdW (gcA X) (pa 3) Sn, txW (gcA X) (pa 4) Tx, bdW (gcA X) (pa 5) Tr, heW (gcA X) (pa 6) E, heW (gcA X) (pa 7) F, nmW (gcA X) (pa 8) Nm, btW (pa 9) (pa 5 0) Bt] [some (.ref (sb)), some (.ref (pa 0 0)), some (.int x2), some (.long x3), none, some (.int x5), none, none, none, none, none, none, none] [] 63) (x3 : Int64) (x5 : Int32) (t0 : Int32) (Tn : tS) (B : tS) (Hs : tH) (Sn : tS) (Tx : tS) (Tr : tS) (E : tS) (F : tS) (Nm : tS) (Bt : tS) (h : f_L_law_282 N sn xs k63 x3 x5 t0 Tn B Hs Sn Tx Tr E F Nm Bt = some ()) : G X (QL X sb) [ntW pa Tn, bdW (gcA X) (pa 1) B, hsW (gcA X) (pa 2) (fun j => pa (10 + j)) Hs, bdW (gcA X) (pa 3) Sn, txW (gcA X) (pa 4) Tx, bdW (gcA X) (pa 5) Tr, heW (gcA X) (pa 6) E, heW (gcA X) (pa 7) F, nmW (gcA X) (pa 8) Nm, btW (pa 9) (pa 5 0) Bt] [some (.ref (sb)), some (.ref (pa 0 0)), none, some (.long x3), none, some (.int x5), none, none, none, none, none, none, none] [.int t0] 282 := by
  unfold f_L_law_282 at h
  refine g_istore_n (pc' := 283) C dL_law_282 (Nat.le_of_ble_eq_true rfl) rfl (L' := [some (.ref (sb)), some (.ref (pa 0 0)), some (.int t0), some (.long x3), none, some (.int x5), none, none, none, none, none, none, none]) rfl ?_
  exact G_loc (lle_s (lle_s (lle_s (lle_s (lle_n (lle_s (lle_n (lle_n (lle_n (lle_n (lle_n (lle_n (lle_n lle_0))))))))))))) (B_L_law_283 C hf hF hRm hs pa N k63 hk63 t0 x3 x5 Tn B Hs Sn Tx Tr E F Nm Bt h)
set_option maxRecDepth 100000 in
set_option maxHeartbeats 4000000 in
theorem B_L_law_281 {X : gX} (C : cx X RL cL_law 13 ret wsL_law 11 420) (hf : cf X) {sb sn : Nat} {xs : Nat → Int32} (hF : lF X sb) (hRm : gR X = room_1) (hs : sX X sb sn xs) (pa : Nat → Nat → Nat) (N : Nat)   (k63 : Int32 → Int64 → Int32 → tS → tS → tH → tS → tS → tS → tS → tS → tS → tS → Option (Unit)) (hk63 : ∀ (x2 : Int32) (x3 : Int64) (x5 : Int32) (Tn : tS) (B : tS) (Hs : tH) (Sn : tS) (Tx : tS) (Tr : tS) (E : tS) (F : tS) (Nm : tS) (Bt : tS), k63 x2 x3 x5 Tn B Hs Sn Tx Tr E F Nm Bt = some () → G X (QL X sb) [ntW pa Tn, bdW (gcA X) (pa 1) B, hsW (gcA X) (pa 2) (fun j => pa (10 + j)) Hs, bdW (gcA X) (pa 3) Sn, txW (gcA X) (pa 4) Tx, bdW (gcA X) (pa 5) Tr, heW (gcA X) (pa 6) E, heW (gcA X) (pa 7) F, nmW (gcA X) (pa 8) Nm, btW (pa 9) (pa 5 0) Bt] [some (.ref (sb)), some (.ref (pa 0 0)), some (.int x2), some (.long x3), none, some (.int x5), none, none, none, none, none, none, none] [] 63) (x3 : Int64) (x5 : Int32) (Tn : tS) (B : tS) (Hs : tH) (Sn : tS) (Tx : tS) (Tr : tS) (E : tS) (F : tS) (Nm : tS) (Bt : tS) (h : f_L_law_281 N sn xs k63 x3 x5 Tn B Hs Sn Tx Tr E F Nm Bt = some ()) : G X (QL X sb) [ntW pa Tn, bdW (gcA X) (pa 1) B, hsW (gcA X) (pa 2) (fun j => pa (10 + j)) Hs, bdW (gcA X) (pa 3) Sn, txW (gcA X) (pa 4) Tx, bdW (gcA X) (pa 5) Tr, heW (gcA X) (pa 6) E, heW (gcA X) (pa 7) F, nmW (gcA X) (pa 8) Nm, btW (pa 9) (pa 5 0) Bt] [some (.ref (sb)), some (.ref (pa 0 0)), none, some (.long x3), none, some (.int x5), none, none, none, none, none, none, none] [] 281 := by
  unfold f_L_law_281 at h
  refine g_iconst (pc' := 282) (v := 0) C dL_law_281 (by decide) rfl ?_
  exact G_loc (lle_s (lle_s (lle_n (lle_s (lle_n (lle_s (lle_n (lle_n (lle_n (lle_n (lle_n (lle_n (lle_n lle_0))))))))))))) (B_L_law_282 C hf hF hRm hs pa N k63 hk63 x3 x5 (0 : Int32) Tn B Hs Sn Tx Tr E F Nm Bt h)
set_option maxRecDepth 100000 in
set_option maxHeartbeats 4000000 in
theorem B_L_law_232 {X : gX} (C : cx X RL cL_law 13 ret wsL_law 11 420) (hf : cf X) {sb sn : Nat} {xs : Nat → Int32} (hF : lF X sb) (hRm : gR X = room_1) (hs : sX X sb sn xs) (pa : Nat → Nat → Nat) (N : Nat)   (k63 : Int32 → Int64 → Int32 → tS → tS → tH → tS → tS → tS → tS → tS → tS → tS → Option (Unit)) (hk63 : ∀ (x2 : Int32) (x3 : Int64) (x5 : Int32) (Tn : tS) (B : tS) (Hs : tH) (Sn : tS) (Tx : tS) (Tr : tS) (E : tS) (F : tS) (Nm : tS) (Bt : tS), k63 x2 x3 x5 Tn B Hs Sn Tx Tr E F Nm Bt = some () → G X (QL X sb) [ntW pa Tn, bdW (gcA X) (pa 1) B, hsW (gcA X) (pa 2) (fun j => pa (10 + j)) Hs, bdW (gcA X) (pa 3) Sn, txW (gcA X) (pa 4) Tx, bdW (gcA X) (pa 5) Tr, heW (gcA X) (pa 6) E, heW (gcA X) (pa 7) F, nmW (gcA X) (pa 8) Nm, btW (pa 9) (pa 5 0) Bt] [some (.ref (sb)), some (.ref (pa 0 0)), some (.int x2), some (.long x3), none, some (.int x5), none, none, none, none, none, none, none] [] 63) (x3 : Int64) (x5 : Int32) (x7 : Int32) (x8 : Int64) (x10 : Int32) (x11 : Int32) (t0 : Int32) (Tn : tS) (B : tS) (Hs : tH) (Sn : tS) (Tx : tS) (Tr : tS) (E : tS) (F : tS) (Nm : tS) (Bt : tS) (h : f_L_law_232 N sn xs k63 x3 x5 x7 x8 x10 x11 t0 Tn B Hs Sn Tx Tr E F Nm Bt = some ()) : G X (QL X sb) [ntW pa Tn, bdW (gcA X) (pa 1) B, hsW (gcA X) (pa 2) (fun j => pa (10 + j)) Hs, bdW (gcA X) (pa 3) Sn, txW (gcA X) (pa 4) Tx, bdW (gcA X) (pa 5) Tr, heW (gcA X) (pa 6) E, heW (gcA X) (pa 7) F, nmW (gcA X) (pa 8) Nm, btW (pa 9) (pa 5 0) Bt] [some (.ref (sb)), some (.ref (pa 0 0)), none, some (.long x3), none, some (.int x5), none, some (.int x7), some (.long x8), none, some (.int x10), some (.int x11), none] [.int t0] 232 := by
  unfold f_L_law_232 at h
  refine g_istore_n (pc' := 233) C dL_law_232 (Nat.le_of_ble_eq_true rfl) rfl (L' := [some (.ref (sb)), some (.ref (pa 0 0)), some (.int t0), some (.long x3), none, some (.int x5), none, some (.int x7), some (.long x8), none, some (.int x10), some (.int x11), none]) rfl ?_
  refine g_iload_n (pc' := 234) C dL_law_233 rfl rfl ?_
  refine g_if_eq (pc' := 237) (tgt := 283) C dL_law_234 (by decide) rfl h (fun c h => ?_) (fun c h => ?_)
  · exact G_loc (lle_s (lle_s (lle_s (lle_s (lle_n (lle_s (lle_n (lle_n (lle_n (lle_n (lle_n (lle_n (lle_n lle_0))))))))))))) (B_L_law_283 C hf hF hRm hs pa N k63 hk63 t0 x3 x5 Tn B Hs Sn Tx Tr E F Nm Bt h)
  · refine g_iload (pc' := 239) C dL_law_237 rfl rfl ?_
    refine g_iload (pc' := 241) C dL_law_239 rfl rfl ?_
    refine g_iconst (pc' := 242) (v := 1) C dL_law_241 (by decide) rfl ?_
    refine g_iadd (pc' := 243) C dL_law_242 rfl ?_
    refine g_icmp_ne (pc' := 246) (tgt := 283) C dL_law_243 (by decide) rfl h (fun c h => ?_) (fun c h => ?_)
    · refine g_iload (pc' := 248) C dL_law_246 rfl rfl ?_
      refine g_bipush (pc' := 250) (v := 8) C dL_law_248 (by decide) rfl ?_
      refine g_ishr (pc' := 251) C dL_law_250 rfl ?_
      refine g_iconst (pc' := 252) (v := 3) C dL_law_251 (by decide) rfl ?_
      refine k_L_low (pc' := 255) C N (x7 >>> ((8 : Int32) &&& 31)) (3 : Int32) [] rfl (by decide) gL_law_L_low ⟨Nat.le_of_ble_eq_true rfl, Nat.le_of_ble_eq_true rfl⟩ (Nat.le_of_ble_eq_true rfl) rfl dL_law_252 rfl h (fun r1 h => ?_)
      refine g_if_ne (pc' := 258) (tgt := 283) C dL_law_255 (by decide) rfl h (fun c h => ?_) (fun c h => ?_)
      · refine g_aload_n (pc' := 259) C dL_law_258 rfl rfl ?_
        refine k_X5_undo (pc' := 262) C pa N Tn B Hs [0, 1, 2] rfl (by decide) gL_law_X5_undo ⟨Nat.le_of_ble_eq_true rfl, Nat.le_of_ble_eq_true rfl⟩ (Nat.le_of_ble_eq_true rfl) rfl dL_law_259 rfl h (fun r2 B2 Hs2 h => ?_)
        show G X _ [ntW pa Tn, bdW (gcA X) (pa 1) B2, hsW (gcA X) (pa 2) (fun j => pa (10 + j)) Hs2, bdW (gcA X) (pa 3) Sn, txW (gcA X) (pa 4) Tx, bdW (gcA X) (pa 5) Tr, heW (gcA X) (pa 6) E, heW (gcA X) (pa 7) F, nmW (gcA X) (pa 8) Nm, btW (pa 9) (pa 5 0) Bt] _ _ _
        refine g_iload (pc' := 264) C dL_law_262 rfl rfl ?_
        refine g_icmp_ne (pc' := 267) (tgt := 281) C dL_law_264 (by decide) rfl h (fun c h => ?_) (fun c h => ?_)
        · refine g_aload_n (pc' := 268) C dL_law_267 rfl rfl ?_
          refine k_L_look (pc' := 271) C pa N Tn B2 Hs2 Tr E F Nm [0, 1, 2, 5, 6, 7, 8] rfl (by decide) gL_law_L_look ⟨Nat.le_of_ble_eq_true rfl, Nat.le_of_ble_eq_true rfl⟩ (Nat.le_of_ble_eq_true rfl) rfl dL_law_268 rfl h (fun r3 Tr3 E3 F3 Nm3 h => ?_)
          show G X _ [ntW pa Tn, bdW (gcA X) (pa 1) B2, hsW (gcA X) (pa 2) (fun j => pa (10 + j)) Hs2, bdW (gcA X) (pa 3) Sn, txW (gcA X) (pa 4) Tx, bdW (gcA X) (pa 5) Tr3, heW (gcA X) (pa 6) E3, heW (gcA X) (pa 7) F3, nmW (gcA X) (pa 8) Nm3, btW (pa 9) (pa 5 0) Bt] _ _ _
          refine g_lload (pc' := 273) C dL_law_271 rfl rfl ?_
          refine g_lcmp (pc' := 274) C dL_law_273 rfl ?_
          refine g_if_ne (pc' := 277) (tgt := 281) C dL_law_274 (by decide) rfl h (fun c h => ?_) (fun c h => ?_)
          · refine g_iconst (pc' := 278) (v := 1) C dL_law_277 (by decide) rfl ?_
            refine g_goto (pc' := 282) C dL_law_278 (by decide) ?_
            exact G_loc (lle_s (lle_s (lle_n (lle_s (lle_n (lle_s (lle_n (lle_n (lle_n (lle_n (lle_n (lle_n (lle_n lle_0))))))))))))) (B_L_law_282 C hf hF hRm hs pa N k63 hk63 x3 x5 (1 : Int32) Tn B2 Hs2 Sn Tx Tr3 E3 F3 Nm3 Bt h)
          · exact G_loc (lle_s (lle_s (lle_n (lle_s (lle_n (lle_s (lle_n (lle_n (lle_n (lle_n (lle_n (lle_n (lle_n lle_0))))))))))))) (B_L_law_281 C hf hF hRm hs pa N k63 hk63 x3 x5 Tn B2 Hs2 Sn Tx Tr3 E3 F3 Nm3 Bt h)
        · exact G_loc (lle_s (lle_s (lle_n (lle_s (lle_n (lle_s (lle_n (lle_n (lle_n (lle_n (lle_n (lle_n (lle_n lle_0))))))))))))) (B_L_law_281 C hf hF hRm hs pa N k63 hk63 x3 x5 Tn B2 Hs2 Sn Tx Tr E F Nm Bt h)
      · exact G_loc (lle_s (lle_s (lle_s (lle_s (lle_n (lle_s (lle_n (lle_n (lle_n (lle_n (lle_n (lle_n (lle_n lle_0))))))))))))) (B_L_law_283 C hf hF hRm hs pa N k63 hk63 t0 x3 x5 Tn B Hs Sn Tx Tr E F Nm Bt h)
    · exact G_loc (lle_s (lle_s (lle_s (lle_s (lle_n (lle_s (lle_n (lle_n (lle_n (lle_n (lle_n (lle_n (lle_n lle_0))))))))))))) (B_L_law_283 C hf hF hRm hs pa N k63 hk63 t0 x3 x5 Tn B Hs Sn Tx Tr E F Nm Bt h)
set_option maxRecDepth 100000 in
set_option maxHeartbeats 4000000 in
theorem B_L_law_231 {X : gX} (C : cx X RL cL_law 13 ret wsL_law 11 420) (hf : cf X) {sb sn : Nat} {xs : Nat → Int32} (hF : lF X sb) (hRm : gR X = room_1) (hs : sX X sb sn xs) (pa : Nat → Nat → Nat) (N : Nat)   (k63 : Int32 → Int64 → Int32 → tS → tS → tH → tS → tS → tS → tS → tS → tS → tS → Option (Unit)) (hk63 : ∀ (x2 : Int32) (x3 : Int64) (x5 : Int32) (Tn : tS) (B : tS) (Hs : tH) (Sn : tS) (Tx : tS) (Tr : tS) (E : tS) (F : tS) (Nm : tS) (Bt : tS), k63 x2 x3 x5 Tn B Hs Sn Tx Tr E F Nm Bt = some () → G X (QL X sb) [ntW pa Tn, bdW (gcA X) (pa 1) B, hsW (gcA X) (pa 2) (fun j => pa (10 + j)) Hs, bdW (gcA X) (pa 3) Sn, txW (gcA X) (pa 4) Tx, bdW (gcA X) (pa 5) Tr, heW (gcA X) (pa 6) E, heW (gcA X) (pa 7) F, nmW (gcA X) (pa 8) Nm, btW (pa 9) (pa 5 0) Bt] [some (.ref (sb)), some (.ref (pa 0 0)), some (.int x2), some (.long x3), none, some (.int x5), none, none, none, none, none, none, none] [] 63) (x3 : Int64) (x5 : Int32) (x7 : Int32) (x8 : Int64) (x10 : Int32) (x11 : Int32) (Tn : tS) (B : tS) (Hs : tH) (Sn : tS) (Tx : tS) (Tr : tS) (E : tS) (F : tS) (Nm : tS) (Bt : tS) (h : f_L_law_231 N sn xs k63 x3 x5 x7 x8 x10 x11 Tn B Hs Sn Tx Tr E F Nm Bt = some ()) : G X (QL X sb) [ntW pa Tn, bdW (gcA X) (pa 1) B, hsW (gcA X) (pa 2) (fun j => pa (10 + j)) Hs, bdW (gcA X) (pa 3) Sn, txW (gcA X) (pa 4) Tx, bdW (gcA X) (pa 5) Tr, heW (gcA X) (pa 6) E, heW (gcA X) (pa 7) F, nmW (gcA X) (pa 8) Nm, btW (pa 9) (pa 5 0) Bt] [some (.ref (sb)), some (.ref (pa 0 0)), none, some (.long x3), none, some (.int x5), none, some (.int x7), some (.long x8), none, some (.int x10), some (.int x11), none] [] 231 := by
  unfold f_L_law_231 at h
  refine g_iconst (pc' := 232) (v := 0) C dL_law_231 (by decide) rfl ?_
  exact G_loc (lle_s (lle_s (lle_n (lle_s (lle_n (lle_s (lle_n (lle_s (lle_s (lle_n (lle_s (lle_s (lle_n lle_0))))))))))))) (B_L_law_232 C hf hF hRm hs pa N k63 hk63 x3 x5 x7 x8 x10 x11 (0 : Int32) Tn B Hs Sn Tx Tr E F Nm Bt h)
set_option maxRecDepth 100000 in
set_option maxHeartbeats 4000000 in
theorem B_L_law_227 {X : gX} (C : cx X RL cL_law 13 ret wsL_law 11 420) (hf : cf X) {sb sn : Nat} {xs : Nat → Int32} (hF : lF X sb) (hRm : gR X = room_1) (hs : sX X sb sn xs) (pa : Nat → Nat → Nat) (N : Nat)   (k63 : Int32 → Int64 → Int32 → tS → tS → tH → tS → tS → tS → tS → tS → tS → tS → Option (Unit)) (hk63 : ∀ (x2 : Int32) (x3 : Int64) (x5 : Int32) (Tn : tS) (B : tS) (Hs : tH) (Sn : tS) (Tx : tS) (Tr : tS) (E : tS) (F : tS) (Nm : tS) (Bt : tS), k63 x2 x3 x5 Tn B Hs Sn Tx Tr E F Nm Bt = some () → G X (QL X sb) [ntW pa Tn, bdW (gcA X) (pa 1) B, hsW (gcA X) (pa 2) (fun j => pa (10 + j)) Hs, bdW (gcA X) (pa 3) Sn, txW (gcA X) (pa 4) Tx, bdW (gcA X) (pa 5) Tr, heW (gcA X) (pa 6) E, heW (gcA X) (pa 7) F, nmW (gcA X) (pa 8) Nm, btW (pa 9) (pa 5 0) Bt] [some (.ref (sb)), some (.ref (pa 0 0)), some (.int x2), some (.long x3), none, some (.int x5), none, none, none, none, none, none, none] [] 63) (x3 : Int64) (x5 : Int32) (x7 : Int32) (x8 : Int64) (x10 : Int32) (x11 : Int32) (Tn : tS) (B : tS) (Hs : tH) (Sn : tS) (Tx : tS) (Tr : tS) (E : tS) (F : tS) (Nm : tS) (Bt : tS) (h : f_L_law_227 N sn xs k63 x3 x5 x7 x8 x10 x11 Tn B Hs Sn Tx Tr E F Nm Bt = some ()) : G X (QL X sb) [ntW pa Tn, bdW (gcA X) (pa 1) B, hsW (gcA X) (pa 2) (fun j => pa (10 + j)) Hs, bdW (gcA X) (pa 3) Sn, txW (gcA X) (pa 4) Tx, bdW (gcA X) (pa 5) Tr, heW (gcA X) (pa 6) E, heW (gcA X) (pa 7) F, nmW (gcA X) (pa 8) Nm, btW (pa 9) (pa 5 0) Bt] [some (.ref (sb)), some (.ref (pa 0 0)), none, some (.long x3), none, some (.int x5), none, some (.int x7), some (.long x8), none, some (.int x10), some (.int x11), none] [] 227 := by
  unfold f_L_law_227 at h
  refine g_iconst (pc' := 228) (v := 1) C dL_law_227 (by decide) rfl ?_
  refine g_goto (pc' := 232) C dL_law_228 (by decide) ?_
  exact G_loc (lle_s (lle_s (lle_n (lle_s (lle_n (lle_s (lle_n (lle_s (lle_s (lle_n (lle_s (lle_s (lle_n lle_0))))))))))))) (B_L_law_232 C hf hF hRm hs pa N k63 hk63 x3 x5 x7 x8 x10 x11 (1 : Int32) Tn B Hs Sn Tx Tr E F Nm Bt h)
set_option maxRecDepth 100000 in
set_option maxHeartbeats 4000000 in
theorem B_L_law_218 {X : gX} (C : cx X RL cL_law 13 ret wsL_law 11 420) (hf : cf X) {sb sn : Nat} {xs : Nat → Int32} (hF : lF X sb) (hRm : gR X = room_1) (hs : sX X sb sn xs) (pa : Nat → Nat → Nat) (N : Nat)   (k63 : Int32 → Int64 → Int32 → tS → tS → tH → tS → tS → tS → tS → tS → tS → tS → Option (Unit)) (hk63 : ∀ (x2 : Int32) (x3 : Int64) (x5 : Int32) (Tn : tS) (B : tS) (Hs : tH) (Sn : tS) (Tx : tS) (Tr : tS) (E : tS) (F : tS) (Nm : tS) (Bt : tS), k63 x2 x3 x5 Tn B Hs Sn Tx Tr E F Nm Bt = some () → G X (QL X sb) [ntW pa Tn, bdW (gcA X) (pa 1) B, hsW (gcA X) (pa 2) (fun j => pa (10 + j)) Hs, bdW (gcA X) (pa 3) Sn, txW (gcA X) (pa 4) Tx, bdW (gcA X) (pa 5) Tr, heW (gcA X) (pa 6) E, heW (gcA X) (pa 7) F, nmW (gcA X) (pa 8) Nm, btW (pa 9) (pa 5 0) Bt] [some (.ref (sb)), some (.ref (pa 0 0)), some (.int x2), some (.long x3), none, some (.int x5), none, none, none, none, none, none, none] [] 63) (x3 : Int64) (x5 : Int32) (x7 : Int32) (x8 : Int64) (x10 : Int32) (x11 : Int32) (Tn : tS) (B : tS) (Hs : tH) (Sn : tS) (Tx : tS) (Tr : tS) (E : tS) (F : tS) (Nm : tS) (Bt : tS) (h : f_L_law_218 N sn xs k63 x3 x5 x7 x8 x10 x11 Tn B Hs Sn Tx Tr E F Nm Bt = some ()) : G X (QL X sb) [ntW pa Tn, bdW (gcA X) (pa 1) B, hsW (gcA X) (pa 2) (fun j => pa (10 + j)) Hs, bdW (gcA X) (pa 3) Sn, txW (gcA X) (pa 4) Tx, bdW (gcA X) (pa 5) Tr, heW (gcA X) (pa 6) E, heW (gcA X) (pa 7) F, nmW (gcA X) (pa 8) Nm, btW (pa 9) (pa 5 0) Bt] [some (.ref (sb)), some (.ref (pa 0 0)), none, some (.long x3), none, some (.int x5), none, some (.int x7), some (.long x8), none, some (.int x10), some (.int x11), none] [] 218 := by
  unfold f_L_law_218 at h
  refine g_iload (pc' := 220) C dL_law_218 rfl rfl ?_
  refine g_iload (pc' := 222) C dL_law_220 rfl rfl ?_
  refine g_iconst (pc' := 223) (v := 1) C dL_law_222 (by decide) rfl ?_
  refine g_iadd (pc' := 224) C dL_law_223 rfl ?_
  refine g_icmp_ne (pc' := 227) (tgt := 231) C dL_law_224 (by decide) rfl h (fun c h => ?_) (fun c h => ?_)
  · exact G_loc (lle_s (lle_s (lle_n (lle_s (lle_n (lle_s (lle_n (lle_s (lle_s (lle_n (lle_s (lle_s (lle_n lle_0))))))))))))) (B_L_law_227 C hf hF hRm hs pa N k63 hk63 x3 x5 x7 x8 x10 x11 Tn B Hs Sn Tx Tr E F Nm Bt h)
  · exact G_loc (lle_s (lle_s (lle_n (lle_s (lle_n (lle_s (lle_n (lle_s (lle_s (lle_n (lle_s (lle_s (lle_n lle_0))))))))))))) (B_L_law_231 C hf hF hRm hs pa N k63 hk63 x3 x5 x7 x8 x10 x11 Tn B Hs Sn Tx Tr E F Nm Bt h)
set_option maxRecDepth 100000 in
set_option maxHeartbeats 4000000 in
theorem B_L_law_182 {X : gX} (C : cx X RL cL_law 13 ret wsL_law 11 420) (hf : cf X) {sb sn : Nat} {xs : Nat → Int32} (hF : lF X sb) (hRm : gR X = room_1) (hs : sX X sb sn xs) (pa : Nat → Nat → Nat) (N : Nat)   (k63 : Int32 → Int64 → Int32 → tS → tS → tH → tS → tS → tS → tS → tS → tS → tS → Option (Unit)) (hk63 : ∀ (x2 : Int32) (x3 : Int64) (x5 : Int32) (Tn : tS) (B : tS) (Hs : tH) (Sn : tS) (Tx : tS) (Tr : tS) (E : tS) (F : tS) (Nm : tS) (Bt : tS), k63 x2 x3 x5 Tn B Hs Sn Tx Tr E F Nm Bt = some () → G X (QL X sb) [ntW pa Tn, bdW (gcA X) (pa 1) B, hsW (gcA X) (pa 2) (fun j => pa (10 + j)) Hs, bdW (gcA X) (pa 3) Sn, txW (gcA X) (pa 4) Tx, bdW (gcA X) (pa 5) Tr, heW (gcA X) (pa 6) E, heW (gcA X) (pa 7) F, nmW (gcA X) (pa 8) Nm, btW (pa 9) (pa 5 0) Bt] [some (.ref (sb)), some (.ref (pa 0 0)), some (.int x2), some (.long x3), none, some (.int x5), none, none, none, none, none, none, none] [] 63) (x3 : Int64) (x5 : Int32) (x7 : Int32) (x8 : Int64) (x10 : Int32) (t0 : Int32) (Tn : tS) (B : tS) (Hs : tH) (Sn : tS) (Tx : tS) (Tr : tS) (E : tS) (F : tS) (Nm : tS) (Bt : tS) (h : f_L_law_182 N sn xs k63 x3 x5 x7 x8 x10 t0 Tn B Hs Sn Tx Tr E F Nm Bt = some ()) : G X (QL X sb) [ntW pa Tn, bdW (gcA X) (pa 1) B, hsW (gcA X) (pa 2) (fun j => pa (10 + j)) Hs, bdW (gcA X) (pa 3) Sn, txW (gcA X) (pa 4) Tx, bdW (gcA X) (pa 5) Tr, heW (gcA X) (pa 6) E, heW (gcA X) (pa 7) F, nmW (gcA X) (pa 8) Nm, btW (pa 9) (pa 5 0) Bt] [some (.ref (sb)), some (.ref (pa 0 0)), none, some (.long x3), none, some (.int x5), none, some (.int x7), some (.long x8), none, some (.int x10), none, none] [.int t0] 182 := by
  unfold f_L_law_182 at h
  refine g_istore_n (pc' := 183) C dL_law_182 (Nat.le_of_ble_eq_true rfl) rfl (L' := [some (.ref (sb)), some (.ref (pa 0 0)), some (.int t0), some (.long x3), none, some (.int x5), none, some (.int x7), some (.long x8), none, some (.int x10), none, none]) rfl ?_
  refine g_aload_n (pc' := 184) C dL_law_183 rfl rfl ?_
  refine g_bipush (pc' := 186) (v := 11) C dL_law_184 (by decide) rfl ?_
  refine k_X5_count (pc' := 189) C pa N Tn B Hs E Nm (11 : Int32) [0, 1, 2, 6, 8] rfl (by decide) gL_law_X5_count ⟨Nat.le_of_ble_eq_true rfl, Nat.le_of_ble_eq_true rfl⟩ (Nat.le_of_ble_eq_true rfl) rfl dL_law_186 rfl h (fun r1 E1 Nm1 h => ?_)
  show G X _ [ntW pa Tn, bdW (gcA X) (pa 1) B, hsW (gcA X) (pa 2) (fun j => pa (10 + j)) Hs, bdW (gcA X) (pa 3) Sn, txW (gcA X) (pa 4) Tx, bdW (gcA X) (pa 5) Tr, heW (gcA X) (pa 6) E1, heW (gcA X) (pa 7) F, nmW (gcA X) (pa 8) Nm1, btW (pa 9) (pa 5 0) Bt] _ _ _
  refine g_istore (pc' := 191) C dL_law_189 (Nat.le_of_ble_eq_true rfl) rfl (L' := [some (.ref (sb)), some (.ref (pa 0 0)), some (.int t0), some (.long x3), none, some (.int x5), none, some (.int x7), some (.long x8), none, some (.int x10), some (.int r1), none]) rfl ?_
  refine g_iload_n (pc' := 192) C dL_law_191 rfl rfl ?_
  refine g_if_eq (pc' := 195) (tgt := 231) C dL_law_192 (by decide) rfl h (fun c h => ?_) (fun c h => ?_)
  · exact G_loc (lle_s (lle_s (lle_n (lle_s (lle_n (lle_s (lle_n (lle_s (lle_s (lle_n (lle_s (lle_s (lle_n lle_0))))))))))))) (B_L_law_231 C hf hF hRm hs pa N k63 hk63 x3 x5 x7 x8 x10 r1 Tn B Hs Sn Tx Tr E1 F Nm1 Bt h)
  · refine g_iload (pc' := 197) C dL_law_195 rfl rfl ?_
    refine g_iload (pc' := 199) C dL_law_197 rfl rfl ?_
    refine g_icmp_ne (pc' := 202) (tgt := 218) C dL_law_199 (by decide) rfl h (fun c h => ?_) (fun c h => ?_)
    · refine g_iload (pc' := 204) C dL_law_202 rfl rfl ?_
      refine g_iconst (pc' := 205) (v := 4) C dL_law_204 (by decide) rfl ?_
      refine g_icmp_eq (pc' := 208) (tgt := 227) C dL_law_205 (by decide) rfl h (fun c h => ?_) (fun c h => ?_)
      · exact G_loc (lle_s (lle_s (lle_n (lle_s (lle_n (lle_s (lle_n (lle_s (lle_s (lle_n (lle_s (lle_s (lle_n lle_0))))))))))))) (B_L_law_227 C hf hF hRm hs pa N k63 hk63 x3 x5 x7 x8 x10 r1 Tn B Hs Sn Tx Tr E1 F Nm1 Bt h)
      · refine g_aload_n (pc' := 209) C dL_law_208 rfl rfl ?_
        refine k_L_look (pc' := 212) C pa N Tn B Hs Tr E1 F Nm1 [0, 1, 2, 5, 6, 7, 8] rfl (by decide) gL_law_L_look ⟨Nat.le_of_ble_eq_true rfl, Nat.le_of_ble_eq_true rfl⟩ (Nat.le_of_ble_eq_true rfl) rfl dL_law_209 rfl h (fun r2 Tr2 E2 F2 Nm2 h => ?_)
        show G X _ [ntW pa Tn, bdW (gcA X) (pa 1) B, hsW (gcA X) (pa 2) (fun j => pa (10 + j)) Hs, bdW (gcA X) (pa 3) Sn, txW (gcA X) (pa 4) Tx, bdW (gcA X) (pa 5) Tr2, heW (gcA X) (pa 6) E2, heW (gcA X) (pa 7) F2, nmW (gcA X) (pa 8) Nm2, btW (pa 9) (pa 5 0) Bt] _ _ _
        refine g_lload (pc' := 214) C dL_law_212 rfl rfl ?_
        refine g_lcmp (pc' := 215) C dL_law_214 rfl ?_
        refine g_if_eq (pc' := 218) (tgt := 227) C dL_law_215 (by decide) rfl h (fun c h => ?_) (fun c h => ?_)
        · exact G_loc (lle_s (lle_s (lle_n (lle_s (lle_n (lle_s (lle_n (lle_s (lle_s (lle_n (lle_s (lle_s (lle_n lle_0))))))))))))) (B_L_law_227 C hf hF hRm hs pa N k63 hk63 x3 x5 x7 x8 x10 r1 Tn B Hs Sn Tx Tr2 E2 F2 Nm2 Bt h)
        · exact G_loc (lle_s (lle_s (lle_n (lle_s (lle_n (lle_s (lle_n (lle_s (lle_s (lle_n (lle_s (lle_s (lle_n lle_0))))))))))))) (B_L_law_218 C hf hF hRm hs pa N k63 hk63 x3 x5 x7 x8 x10 r1 Tn B Hs Sn Tx Tr2 E2 F2 Nm2 Bt h)
    · exact G_loc (lle_s (lle_s (lle_n (lle_s (lle_n (lle_s (lle_n (lle_s (lle_s (lle_n (lle_s (lle_s (lle_n lle_0))))))))))))) (B_L_law_218 C hf hF hRm hs pa N k63 hk63 x3 x5 x7 x8 x10 r1 Tn B Hs Sn Tx Tr E1 F Nm1 Bt h)
set_option maxRecDepth 100000 in
set_option maxHeartbeats 4000000 in
theorem B_L_law_181 {X : gX} (C : cx X RL cL_law 13 ret wsL_law 11 420) (hf : cf X) {sb sn : Nat} {xs : Nat → Int32} (hF : lF X sb) (hRm : gR X = room_1) (hs : sX X sb sn xs) (pa : Nat → Nat → Nat) (N : Nat)   (k63 : Int32 → Int64 → Int32 → tS → tS → tH → tS → tS → tS → tS → tS → tS → tS → Option (Unit)) (hk63 : ∀ (x2 : Int32) (x3 : Int64) (x5 : Int32) (Tn : tS) (B : tS) (Hs : tH) (Sn : tS) (Tx : tS) (Tr : tS) (E : tS) (F : tS) (Nm : tS) (Bt : tS), k63 x2 x3 x5 Tn B Hs Sn Tx Tr E F Nm Bt = some () → G X (QL X sb) [ntW pa Tn, bdW (gcA X) (pa 1) B, hsW (gcA X) (pa 2) (fun j => pa (10 + j)) Hs, bdW (gcA X) (pa 3) Sn, txW (gcA X) (pa 4) Tx, bdW (gcA X) (pa 5) Tr, heW (gcA X) (pa 6) E, heW (gcA X) (pa 7) F, nmW (gcA X) (pa 8) Nm, btW (pa 9) (pa 5 0) Bt] [some (.ref (sb)), some (.ref (pa 0 0)), some (.int x2), some (.long x3), none, some (.int x5), none, none, none, none, none, none, none] [] 63) (x3 : Int64) (x5 : Int32) (x7 : Int32) (x8 : Int64) (x10 : Int32) (Tn : tS) (B : tS) (Hs : tH) (Sn : tS) (Tx : tS) (Tr : tS) (E : tS) (F : tS) (Nm : tS) (Bt : tS) (h : f_L_law_181 N sn xs k63 x3 x5 x7 x8 x10 Tn B Hs Sn Tx Tr E F Nm Bt = some ()) : G X (QL X sb) [ntW pa Tn, bdW (gcA X) (pa 1) B, hsW (gcA X) (pa 2) (fun j => pa (10 + j)) Hs, bdW (gcA X) (pa 3) Sn, txW (gcA X) (pa 4) Tx, bdW (gcA X) (pa 5) Tr, heW (gcA X) (pa 6) E, heW (gcA X) (pa 7) F, nmW (gcA X) (pa 8) Nm, btW (pa 9) (pa 5 0) Bt] [some (.ref (sb)), some (.ref (pa 0 0)), none, some (.long x3), none, some (.int x5), none, some (.int x7), some (.long x8), none, some (.int x10), none, none] [] 181 := by
  unfold f_L_law_181 at h
  refine g_iconst (pc' := 182) (v := 0) C dL_law_181 (by decide) rfl ?_
  exact G_loc (lle_s (lle_s (lle_n (lle_s (lle_n (lle_s (lle_n (lle_s (lle_s (lle_n (lle_s (lle_n (lle_n lle_0))))))))))))) (B_L_law_182 C hf hF hRm hs pa N k63 hk63 x3 x5 x7 x8 x10 (0 : Int32) Tn B Hs Sn Tx Tr E F Nm Bt h)
set_option maxRecDepth 100000 in
set_option maxHeartbeats 4000000 in
theorem B_L_law_177 {X : gX} (C : cx X RL cL_law 13 ret wsL_law 11 420) (hf : cf X) {sb sn : Nat} {xs : Nat → Int32} (hF : lF X sb) (hRm : gR X = room_1) (hs : sX X sb sn xs) (pa : Nat → Nat → Nat) (N : Nat)   (k63 : Int32 → Int64 → Int32 → tS → tS → tH → tS → tS → tS → tS → tS → tS → tS → Option (Unit)) (hk63 : ∀ (x2 : Int32) (x3 : Int64) (x5 : Int32) (Tn : tS) (B : tS) (Hs : tH) (Sn : tS) (Tx : tS) (Tr : tS) (E : tS) (F : tS) (Nm : tS) (Bt : tS), k63 x2 x3 x5 Tn B Hs Sn Tx Tr E F Nm Bt = some () → G X (QL X sb) [ntW pa Tn, bdW (gcA X) (pa 1) B, hsW (gcA X) (pa 2) (fun j => pa (10 + j)) Hs, bdW (gcA X) (pa 3) Sn, txW (gcA X) (pa 4) Tx, bdW (gcA X) (pa 5) Tr, heW (gcA X) (pa 6) E, heW (gcA X) (pa 7) F, nmW (gcA X) (pa 8) Nm, btW (pa 9) (pa 5 0) Bt] [some (.ref (sb)), some (.ref (pa 0 0)), some (.int x2), some (.long x3), none, some (.int x5), none, none, none, none, none, none, none] [] 63) (x3 : Int64) (x5 : Int32) (x7 : Int32) (x8 : Int64) (x10 : Int32) (Tn : tS) (B : tS) (Hs : tH) (Sn : tS) (Tx : tS) (Tr : tS) (E : tS) (F : tS) (Nm : tS) (Bt : tS) (h : f_L_law_177 N sn xs k63 x3 x5 x7 x8 x10 Tn B Hs Sn Tx Tr E F Nm Bt = some ()) : G X (QL X sb) [ntW pa Tn, bdW (gcA X) (pa 1) B, hsW (gcA X) (pa 2) (fun j => pa (10 + j)) Hs, bdW (gcA X) (pa 3) Sn, txW (gcA X) (pa 4) Tx, bdW (gcA X) (pa 5) Tr, heW (gcA X) (pa 6) E, heW (gcA X) (pa 7) F, nmW (gcA X) (pa 8) Nm, btW (pa 9) (pa 5 0) Bt] [some (.ref (sb)), some (.ref (pa 0 0)), none, some (.long x3), none, some (.int x5), none, some (.int x7), some (.long x8), none, some (.int x10), none, none] [] 177 := by
  unfold f_L_law_177 at h
  refine g_iconst (pc' := 178) (v := 1) C dL_law_177 (by decide) rfl ?_
  refine g_goto (pc' := 182) C dL_law_178 (by decide) ?_
  exact G_loc (lle_s (lle_s (lle_n (lle_s (lle_n (lle_s (lle_n (lle_s (lle_s (lle_n (lle_s (lle_n (lle_n lle_0))))))))))))) (B_L_law_182 C hf hF hRm hs pa N k63 hk63 x3 x5 x7 x8 x10 (1 : Int32) Tn B Hs Sn Tx Tr E F Nm Bt h)
set_option maxRecDepth 100000 in
set_option maxHeartbeats 4000000 in
theorem B_L_law_160 {X : gX} (C : cx X RL cL_law 13 ret wsL_law 11 420) (hf : cf X) {sb sn : Nat} {xs : Nat → Int32} (hF : lF X sb) (hRm : gR X = room_1) (hs : sX X sb sn xs) (pa : Nat → Nat → Nat) (N : Nat)   (k63 : Int32 → Int64 → Int32 → tS → tS → tH → tS → tS → tS → tS → tS → tS → tS → Option (Unit)) (hk63 : ∀ (x2 : Int32) (x3 : Int64) (x5 : Int32) (Tn : tS) (B : tS) (Hs : tH) (Sn : tS) (Tx : tS) (Tr : tS) (E : tS) (F : tS) (Nm : tS) (Bt : tS), k63 x2 x3 x5 Tn B Hs Sn Tx Tr E F Nm Bt = some () → G X (QL X sb) [ntW pa Tn, bdW (gcA X) (pa 1) B, hsW (gcA X) (pa 2) (fun j => pa (10 + j)) Hs, bdW (gcA X) (pa 3) Sn, txW (gcA X) (pa 4) Tx, bdW (gcA X) (pa 5) Tr, heW (gcA X) (pa 6) E, heW (gcA X) (pa 7) F, nmW (gcA X) (pa 8) Nm, btW (pa 9) (pa 5 0) Bt] [some (.ref (sb)), some (.ref (pa 0 0)), some (.int x2), some (.long x3), none, some (.int x5), none, none, none, none, none, none, none] [] 63) (x3 : Int64) (x5 : Int32) (x7 : Int32) (x8 : Int64) (x10 : Int32) (Tn : tS) (B : tS) (Hs : tH) (Sn : tS) (Tx : tS) (Tr : tS) (E : tS) (F : tS) (Nm : tS) (Bt : tS) (h : f_L_law_160 N sn xs k63 x3 x5 x7 x8 x10 Tn B Hs Sn Tx Tr E F Nm Bt = some ()) : G X (QL X sb) [ntW pa Tn, bdW (gcA X) (pa 1) B, hsW (gcA X) (pa 2) (fun j => pa (10 + j)) Hs, bdW (gcA X) (pa 3) Sn, txW (gcA X) (pa 4) Tx, bdW (gcA X) (pa 5) Tr, heW (gcA X) (pa 6) E, heW (gcA X) (pa 7) F, nmW (gcA X) (pa 8) Nm, btW (pa 9) (pa 5 0) Bt] [some (.ref (sb)), some (.ref (pa 0 0)), none, some (.long x3), none, some (.int x5), none, some (.int x7), some (.long x8), none, some (.int x10), none, none] [] 160 := by
  unfold f_L_law_160 at h
  refine g_iload (pc' := 162) C dL_law_160 rfl rfl ?_
  refine g_iconst (pc' := 163) (v := 5) C dL_law_162 (by decide) rfl ?_
  refine g_irem (pc' := 164) C dL_law_163 rfl h (fun h => ?_)
  refine g_iconst (pc' := 165) (v := 3) C dL_law_164 (by decide) rfl ?_
  refine g_icmp_ne (pc' := 168) (tgt := 177) C dL_law_165 (by decide) rfl h (fun c h => ?_) (fun c h => ?_)
  · refine g_aload_n (pc' := 169) C dL_law_168 rfl rfl ?_
    refine g_iload (pc' := 171) C dL_law_169 rfl rfl ?_
    refine k_L_would (pc' := 174) C pa N Tn B Hs Tr E F Nm x7 [0, 1, 2, 5, 6, 7, 8] rfl (by decide) gL_law_L_would ⟨Nat.le_of_ble_eq_true rfl, Nat.le_of_ble_eq_true rfl⟩ (Nat.le_of_ble_eq_true rfl) rfl dL_law_171 rfl h (fun r1 Tr1 E1 F1 Nm1 h => ?_)
    show G X _ [ntW pa Tn, bdW (gcA X) (pa 1) B, hsW (gcA X) (pa 2) (fun j => pa (10 + j)) Hs, bdW (gcA X) (pa 3) Sn, txW (gcA X) (pa 4) Tx, bdW (gcA X) (pa 5) Tr1, heW (gcA X) (pa 6) E1, heW (gcA X) (pa 7) F1, nmW (gcA X) (pa 8) Nm1, btW (pa 9) (pa 5 0) Bt] _ _ _
    refine g_if_eq (pc' := 177) (tgt := 181) C dL_law_174 (by decide) rfl h (fun c h => ?_) (fun c h => ?_)
    · exact G_loc (lle_s (lle_s (lle_n (lle_s (lle_n (lle_s (lle_n (lle_s (lle_s (lle_n (lle_s (lle_n (lle_n lle_0))))))))))))) (B_L_law_181 C hf hF hRm hs pa N k63 hk63 x3 x5 x7 x8 x10 Tn B Hs Sn Tx Tr1 E1 F1 Nm1 Bt h)
    · exact G_loc (lle_s (lle_s (lle_n (lle_s (lle_n (lle_s (lle_n (lle_s (lle_s (lle_n (lle_s (lle_n (lle_n lle_0))))))))))))) (B_L_law_177 C hf hF hRm hs pa N k63 hk63 x3 x5 x7 x8 x10 Tn B Hs Sn Tx Tr1 E1 F1 Nm1 Bt h)
  · exact G_loc (lle_s (lle_s (lle_n (lle_s (lle_n (lle_s (lle_n (lle_s (lle_s (lle_n (lle_s (lle_n (lle_n lle_0))))))))))))) (B_L_law_177 C hf hF hRm hs pa N k63 hk63 x3 x5 x7 x8 x10 Tn B Hs Sn Tx Tr E F Nm Bt h)
set_option maxRecDepth 100000 in
set_option maxHeartbeats 4000000 in
theorem B_L_law_105 {X : gX} (C : cx X RL cL_law 13 ret wsL_law 11 420) (hf : cf X) {sb sn : Nat} {xs : Nat → Int32} (hF : lF X sb) (hRm : gR X = room_1) (hs : sX X sb sn xs) (pa : Nat → Nat → Nat) (N : Nat)   (k63 : Int32 → Int64 → Int32 → tS → tS → tH → tS → tS → tS → tS → tS → tS → tS → Option (Unit)) (hk63 : ∀ (x2 : Int32) (x3 : Int64) (x5 : Int32) (Tn : tS) (B : tS) (Hs : tH) (Sn : tS) (Tx : tS) (Tr : tS) (E : tS) (F : tS) (Nm : tS) (Bt : tS), k63 x2 x3 x5 Tn B Hs Sn Tx Tr E F Nm Bt = some () → G X (QL X sb) [ntW pa Tn, bdW (gcA X) (pa 1) B, hsW (gcA X) (pa 2) (fun j => pa (10 + j)) Hs, bdW (gcA X) (pa 3) Sn, txW (gcA X) (pa 4) Tx, bdW (gcA X) (pa 5) Tr, heW (gcA X) (pa 6) E, heW (gcA X) (pa 7) F, nmW (gcA X) (pa 8) Nm, btW (pa 9) (pa 5 0) Bt] [some (.ref (sb)), some (.ref (pa 0 0)), some (.int x2), some (.long x3), none, some (.int x5), none, none, none, none, none, none, none] [] 63) (x3 : Int64) (x5 : Int32) (t0 : Int32) (Tn : tS) (B : tS) (Hs : tH) (Sn : tS) (Tx : tS) (Tr : tS) (E : tS) (F : tS) (Nm : tS) (Bt : tS) (h : f_L_law_105 N sn xs k63 x3 x5 t0 Tn B Hs Sn Tx Tr E F Nm Bt = some ()) : G X (QL X sb) [ntW pa Tn, bdW (gcA X) (pa 1) B, hsW (gcA X) (pa 2) (fun j => pa (10 + j)) Hs, bdW (gcA X) (pa 3) Sn, txW (gcA X) (pa 4) Tx, bdW (gcA X) (pa 5) Tr, heW (gcA X) (pa 6) E, heW (gcA X) (pa 7) F, nmW (gcA X) (pa 8) Nm, btW (pa 9) (pa 5 0) Bt] [some (.ref (sb)), some (.ref (pa 0 0)), none, some (.long x3), none, some (.int x5), none, none, none, none, none, none, none] [.int t0] 105 := by
  unfold f_L_law_105 at h
  refine g_istore (pc' := 107) C dL_law_105 (Nat.le_of_ble_eq_true rfl) rfl (L' := [some (.ref (sb)), some (.ref (pa 0 0)), none, some (.long x3), none, some (.int x5), some (.int t0), none, none, none, none, none, none]) rfl ?_
  refine g_aload_n (pc' := 108) C dL_law_107 rfl rfl ?_
  refine g_iconst (pc' := 109) (v := 2) C dL_law_108 (by decide) rfl ?_
  refine g_iload (pc' := 111) C dL_law_109 rfl rfl ?_
  refine g_imul (pc' := 112) C dL_law_111 rfl ?_
  refine g_iconst (pc' := 113) (v := 1) C dL_law_112 (by decide) rfl ?_
  refine g_iadd (pc' := 114) C dL_law_113 rfl ?_
  refine k_L_lot (pc' := 117) C hs gL_law_L_lot ⟨Nat.le_of_ble_eq_true rfl, Nat.le_of_ble_eq_true rfl⟩ (Nat.le_of_ble_eq_true rfl) rfl dL_law_114 rfl h (fun r1 h => ?_)
  refine g_istore (pc' := 119) C dL_law_117 (Nat.le_of_ble_eq_true rfl) rfl (L' := [some (.ref (sb)), some (.ref (pa 0 0)), none, some (.long x3), none, some (.int x5), some (.int t0), some (.int r1), none, none, none, none, none]) rfl ?_
  refine g_aload_n (pc' := 120) C dL_law_119 rfl rfl ?_
  refine k_L_look (pc' := 123) C pa N Tn B Hs Tr E F Nm [0, 1, 2, 5, 6, 7, 8] rfl (by decide) gL_law_L_look ⟨Nat.le_of_ble_eq_true rfl, Nat.le_of_ble_eq_true rfl⟩ (Nat.le_of_ble_eq_true rfl) rfl dL_law_120 rfl h (fun r2 Tr2 E2 F2 Nm2 h => ?_)
  show G X _ [ntW pa Tn, bdW (gcA X) (pa 1) B, hsW (gcA X) (pa 2) (fun j => pa (10 + j)) Hs, bdW (gcA X) (pa 3) Sn, txW (gcA X) (pa 4) Tx, bdW (gcA X) (pa 5) Tr2, heW (gcA X) (pa 6) E2, heW (gcA X) (pa 7) F2, nmW (gcA X) (pa 8) Nm2, btW (pa 9) (pa 5 0) Bt] _ _ _
  refine g_lstore (pc' := 125) C dL_law_123 (Nat.le_of_ble_eq_true rfl) rfl (L' := [some (.ref (sb)), some (.ref (pa 0 0)), none, some (.long x3), none, some (.int x5), some (.int t0), some (.int r1), some (.long r2), none, none, none, none]) rfl ?_
  refine g_aload_n (pc' := 126) C dL_law_125 rfl rfl ?_
  refine g_bipush (pc' := 128) (v := 11) C dL_law_126 (by decide) rfl ?_
  refine k_X5_count (pc' := 131) C pa N Tn B Hs E2 Nm2 (11 : Int32) [0, 1, 2, 6, 8] rfl (by decide) gL_law_X5_count ⟨Nat.le_of_ble_eq_true rfl, Nat.le_of_ble_eq_true rfl⟩ (Nat.le_of_ble_eq_true rfl) rfl dL_law_128 rfl h (fun r3 E3 Nm3 h => ?_)
  show G X _ [ntW pa Tn, bdW (gcA X) (pa 1) B, hsW (gcA X) (pa 2) (fun j => pa (10 + j)) Hs, bdW (gcA X) (pa 3) Sn, txW (gcA X) (pa 4) Tx, bdW (gcA X) (pa 5) Tr2, heW (gcA X) (pa 6) E3, heW (gcA X) (pa 7) F2, nmW (gcA X) (pa 8) Nm3, btW (pa 9) (pa 5 0) Bt] _ _ _
  refine g_istore (pc' := 133) C dL_law_131 (Nat.le_of_ble_eq_true rfl) rfl (L' := [some (.ref (sb)), some (.ref (pa 0 0)), none, some (.long x3), none, some (.int x5), some (.int t0), some (.int r1), some (.long r2), none, some (.int r3), none, none]) rfl ?_
  refine g_aload_n (pc' := 134) C dL_law_133 rfl rfl ?_
  refine g_iload (pc' := 136) C dL_law_134 rfl rfl ?_
  refine g_iload (pc' := 138) C dL_law_136 rfl rfl ?_
  refine k_L_acts (pc' := 141) C hf pa N Tn B Hs Tx Tr2 E3 F2 Nm3 Bt t0 r1 [0, 1, 2, 4, 5, 6, 7, 8, 9] rfl (by decide) gL_law_L_acts ⟨Nat.le_of_ble_eq_true rfl, Nat.le_of_ble_eq_true rfl⟩ (Nat.le_of_ble_eq_true rfl) rfl dL_law_138 rfl h (fun r4 Tn4 B4 Hs4 Tx4 Tr4 E4 F4 Nm4 Bt4 h => ?_)
  show G X _ [ntW pa Tn4, bdW (gcA X) (pa 1) B4, hsW (gcA X) (pa 2) (fun j => pa (10 + j)) Hs4, bdW (gcA X) (pa 3) Sn, txW (gcA X) (pa 4) Tx4, bdW (gcA X) (pa 5) Tr4, heW (gcA X) (pa 6) E4, heW (gcA X) (pa 7) F4, nmW (gcA X) (pa 8) Nm4, btW (pa 9) (pa 5 0) Bt4] _ _ _
  refine g_if_eq (pc' := 144) (tgt := 181) C dL_law_141 (by decide) rfl h (fun c h => ?_) (fun c h => ?_)
  · exact G_loc (lle_s (lle_s (lle_n (lle_s (lle_n (lle_s (lle_n (lle_s (lle_s (lle_n (lle_s (lle_n (lle_n lle_0))))))))))))) (B_L_law_181 C hf hF hRm hs pa N k63 hk63 x3 x5 r1 r2 r3 Tn4 B4 Hs4 Sn Tx4 Tr4 E4 F4 Nm4 Bt4 h)
  · refine g_iload (pc' := 146) C dL_law_144 rfl rfl ?_
    refine g_iconst (pc' := 147) (v := 3) C dL_law_146 (by decide) rfl ?_
    refine g_irem (pc' := 148) C dL_law_147 rfl h (fun h => ?_)
    refine g_if_gt (pc' := 151) (tgt := 160) C dL_law_148 (by decide) rfl h (fun c h => ?_) (fun c h => ?_)
    · exact G_loc (lle_s (lle_s (lle_n (lle_s (lle_n (lle_s (lle_n (lle_s (lle_s (lle_n (lle_s (lle_n (lle_n lle_0))))))))))))) (B_L_law_160 C hf hF hRm hs pa N k63 hk63 x3 x5 r1 r2 r3 Tn4 B4 Hs4 Sn Tx4 Tr4 E4 F4 Nm4 Bt4 h)
    · refine g_aload_n (pc' := 152) C dL_law_151 rfl rfl ?_
      refine g_iload (pc' := 154) C dL_law_152 rfl rfl ?_
      refine k_L_holds (pc' := 157) C pa N Tn4 B4 Hs4 Tr4 E4 F4 Nm4 r1 [0, 1, 2, 5, 6, 7, 8] rfl (by decide) gL_law_L_holds ⟨Nat.le_of_ble_eq_true rfl, Nat.le_of_ble_eq_true rfl⟩ (Nat.le_of_ble_eq_true rfl) rfl dL_law_154 rfl h (fun r5 Tr5 E5 F5 Nm5 h => ?_)
      show G X _ [ntW pa Tn4, bdW (gcA X) (pa 1) B4, hsW (gcA X) (pa 2) (fun j => pa (10 + j)) Hs4, bdW (gcA X) (pa 3) Sn, txW (gcA X) (pa 4) Tx4, bdW (gcA X) (pa 5) Tr5, heW (gcA X) (pa 6) E5, heW (gcA X) (pa 7) F5, nmW (gcA X) (pa 8) Nm5, btW (pa 9) (pa 5 0) Bt4] _ _ _
      refine g_if_eq (pc' := 160) (tgt := 181) C dL_law_157 (by decide) rfl h (fun c h => ?_) (fun c h => ?_)
      · exact G_loc (lle_s (lle_s (lle_n (lle_s (lle_n (lle_s (lle_n (lle_s (lle_s (lle_n (lle_s (lle_n (lle_n lle_0))))))))))))) (B_L_law_181 C hf hF hRm hs pa N k63 hk63 x3 x5 r1 r2 r3 Tn4 B4 Hs4 Sn Tx4 Tr5 E5 F5 Nm5 Bt4 h)
      · exact G_loc (lle_s (lle_s (lle_n (lle_s (lle_n (lle_s (lle_n (lle_s (lle_s (lle_n (lle_s (lle_n (lle_n lle_0))))))))))))) (B_L_law_160 C hf hF hRm hs pa N k63 hk63 x3 x5 r1 r2 r3 Tn4 B4 Hs4 Sn Tx4 Tr5 E5 F5 Nm5 Bt4 h)
set_option maxRecDepth 100000 in
set_option maxHeartbeats 4000000 in
theorem B_L_law_63b {X : gX} (C : cx X RL cL_law 13 ret wsL_law 11 420) (hf : cf X) {sb sn : Nat} {xs : Nat → Int32} (hF : lF X sb) (hRm : gR X = room_1) (hs : sX X sb sn xs) (pa : Nat → Nat → Nat) (N : Nat)    (k63 : Int32 → Int64 → Int32 → tS → tS → tH → tS → tS → tS → tS → tS → tS → tS → Option (Unit)) (hk63 : ∀ (x2 : Int32) (x3 : Int64) (x5 : Int32) (Tn : tS) (B : tS) (Hs : tH) (Sn : tS) (Tx : tS) (Tr : tS) (E : tS) (F : tS) (Nm : tS) (Bt : tS), k63 x2 x3 x5 Tn B Hs Sn Tx Tr E F Nm Bt = some () → G X (QL X sb) [ntW pa Tn, bdW (gcA X) (pa 1) B, hsW (gcA X) (pa 2) (fun j => pa (10 + j)) Hs, bdW (gcA X) (pa 3) Sn, txW (gcA X) (pa 4) Tx, bdW (gcA X) (pa 5) Tr, heW (gcA X) (pa 6) E, heW (gcA X) (pa 7) F, nmW (gcA X) (pa 8) Nm, btW (pa 9) (pa 5 0) Bt] [some (.ref (sb)), some (.ref (pa 0 0)), some (.int x2), some (.long x3), none, some (.int x5), none, none, none, none, none, none, none] [] 63) (x2 : Int32) (x3 : Int64) (x5 : Int32) (Tn : tS) (B : tS) (Hs : tH) (Sn : tS) (Tx : tS) (Tr : tS) (E : tS) (F : tS) (Nm : tS) (Bt : tS) (h : f_L_law_63b N sn xs  k63 x2 x3 x5 Tn B Hs Sn Tx Tr E F Nm Bt = some ()) : G X (QL X sb) [ntW pa Tn, bdW (gcA X) (pa 1) B, hsW (gcA X) (pa 2) (fun j => pa (10 + j)) Hs, bdW (gcA X) (pa 3) Sn, txW (gcA X) (pa 4) Tx, bdW (gcA X) (pa 5) Tr, heW (gcA X) (pa 6) E, heW (gcA X) (pa 7) F, nmW (gcA X) (pa 8) Nm, btW (pa 9) (pa 5 0) Bt] [some (.ref (sb)), some (.ref (pa 0 0)), some (.int x2), some (.long x3), none, some (.int x5), none, none, none, none, none, none, none] [] 63 := by
  unfold f_L_law_63b at h
  refine g_iload (pc' := 65) C dL_law_63 rfl rfl ?_
  refine g_bipush (pc' := 67) (v := 48) C dL_law_65 (by decide) rfl ?_
  refine g_icmp_ge (pc' := 70) (tgt := 398) C dL_law_67 (by decide) rfl h (fun c h => ?_) (fun c h => ?_)
  · exact G_loc (lle_s (lle_s (lle_s (lle_n (lle_n (lle_n (lle_n (lle_n (lle_n (lle_n (lle_n (lle_n (lle_n lle_0))))))))))))) (B_L_law_398 C hf hF hRm hs pa N x2 Tn B Hs Sn Tx Tr E F Nm Bt h)
  · refine g_iload_n (pc' := 71) C dL_law_70 rfl rfl ?_
    refine g_if_eq (pc' := 74) (tgt := 398) C dL_law_71 (by decide) rfl h (fun c h => ?_) (fun c h => ?_)
    · exact G_loc (lle_s (lle_s (lle_s (lle_n (lle_n (lle_n (lle_n (lle_n (lle_n (lle_n (lle_n (lle_n (lle_n lle_0))))))))))))) (B_L_law_398 C hf hF hRm hs pa N x2 Tn B Hs Sn Tx Tr E F Nm Bt h)
    · refine g_iload (pc' := 76) C dL_law_74 rfl rfl ?_
      refine g_bipush (pc' := 78) (v := 7) C dL_law_76 (by decide) rfl ?_
      refine g_icmp_ge (pc' := 81) (tgt := 85) C dL_law_78 (by decide) rfl h (fun c h => ?_) (fun c h => ?_)
      · refine g_iload (pc' := 87) C dL_law_85 rfl rfl ?_
        refine g_bipush (pc' := 89) (v := 9) C dL_law_87 (by decide) rfl ?_
        refine g_icmp_ge (pc' := 92) (tgt := 97) C dL_law_89 (by decide) rfl h (fun c h => ?_) (fun c h => ?_)
        · refine g_aload_n (pc' := 98) C dL_law_97 rfl rfl ?_
          refine g_iconst (pc' := 99) (v := 2) C dL_law_98 (by decide) rfl ?_
          refine g_iload (pc' := 101) C dL_law_99 rfl rfl ?_
          refine g_imul (pc' := 102) C dL_law_101 rfl ?_
          refine k_L_lot (pc' := 105) C hs gL_law_L_lot ⟨Nat.le_of_ble_eq_true rfl, Nat.le_of_ble_eq_true rfl⟩ (Nat.le_of_ble_eq_true rfl) rfl dL_law_102 rfl h (fun r1 h => ?_)
          exact G_loc (lle_s (lle_s (lle_n (lle_s (lle_n (lle_s (lle_n (lle_n (lle_n (lle_n (lle_n (lle_n (lle_n lle_0))))))))))))) (B_L_law_105 C hf hF hRm hs pa N k63 hk63 x3 x5 r1 Tn B Hs Sn Tx Tr E F Nm Bt h)
        · refine g_bipush (pc' := 94) (v := 8) C dL_law_92 (by decide) rfl ?_
          refine g_goto (pc' := 105) C dL_law_94 (by decide) ?_
          exact G_loc (lle_s (lle_s (lle_n (lle_s (lle_n (lle_s (lle_n (lle_n (lle_n (lle_n (lle_n (lle_n (lle_n lle_0))))))))))))) (B_L_law_105 C hf hF hRm hs pa N k63 hk63 x3 x5 (8 : Int32) Tn B Hs Sn Tx Tr E F Nm Bt h)
      · refine g_iconst (pc' := 82) (v := 0) C dL_law_81 (by decide) rfl ?_
        refine g_goto (pc' := 105) C dL_law_82 (by decide) ?_
        exact G_loc (lle_s (lle_s (lle_n (lle_s (lle_n (lle_s (lle_n (lle_n (lle_n (lle_n (lle_n (lle_n (lle_n lle_0))))))))))))) (B_L_law_105 C hf hF hRm hs pa N k63 hk63 x3 x5 (0 : Int32) Tn B Hs Sn Tx Tr E F Nm Bt h)
set_option maxRecDepth 100000 in
set_option maxHeartbeats 4000000 in
theorem L_L_law_63 {X : gX} (C : cx X RL cL_law 13 ret wsL_law 11 420) (hf : cf X) {sb sn : Nat} {xs : Nat → Int32} (hF : lF X sb) (hRm : gR X = room_1) (hs : sX X sb sn xs) (pa : Nat → Nat → Nat) (N : Nat)    : ∀ (n : Nat) (x2 : Int32) (x3 : Int64) (x5 : Int32) (Tn : tS) (B : tS) (Hs : tH) (Sn : tS) (Tx : tS) (Tr : tS) (E : tS) (F : tS) (Nm : tS) (Bt : tS), f_L_law_63 N sn xs  n x2 x3 x5 Tn B Hs Sn Tx Tr E F Nm Bt = some () → G X (QL X sb) [ntW pa Tn, bdW (gcA X) (pa 1) B, hsW (gcA X) (pa 2) (fun j => pa (10 + j)) Hs, bdW (gcA X) (pa 3) Sn, txW (gcA X) (pa 4) Tx, bdW (gcA X) (pa 5) Tr, heW (gcA X) (pa 6) E, heW (gcA X) (pa 7) F, nmW (gcA X) (pa 8) Nm, btW (pa 9) (pa 5 0) Bt] [some (.ref (sb)), some (.ref (pa 0 0)), some (.int x2), some (.long x3), none, some (.int x5), none, none, none, none, none, none, none] [] 63 := by
  intro n
  induction n with
  | zero => intro x2 x3 x5 Tn B Hs Sn Tx Tr E F Nm Bt h; have h : (none : Option (Unit)) = some () := h; cases h
  | succ n ih => intro x2 x3 x5 Tn B Hs Sn Tx Tr E F Nm Bt h; exact B_L_law_63b C hf hF hRm hs pa N   (f_L_law_63 N sn xs  n) ih x2 x3 x5 Tn B Hs Sn Tx Tr E F Nm Bt h
set_option maxRecDepth 100000 in
set_option maxHeartbeats 4000000 in
theorem B_L_law_54 {X : gX} (C : cx X RL cL_law 13 ret wsL_law 11 420) (hf : cf X) {sb sn : Nat} {xs : Nat → Int32} (hF : lF X sb) (hRm : gR X = room_1) (hs : sX X sb sn xs) (pa : Nat → Nat → Nat) (N : Nat)    (t0 : Int32) (Tn : tS) (B : tS) (Hs : tH) (Sn : tS) (Tx : tS) (Tr : tS) (E : tS) (F : tS) (Nm : tS) (Bt : tS) (h : f_L_law_54 N sn xs  t0 Tn B Hs Sn Tx Tr E F Nm Bt = some ()) : G X (QL X sb) [ntW pa Tn, bdW (gcA X) (pa 1) B, hsW (gcA X) (pa 2) (fun j => pa (10 + j)) Hs, bdW (gcA X) (pa 3) Sn, txW (gcA X) (pa 4) Tx, bdW (gcA X) (pa 5) Tr, heW (gcA X) (pa 6) E, heW (gcA X) (pa 7) F, nmW (gcA X) (pa 8) Nm, btW (pa 9) (pa 5 0) Bt] [some (.ref (sb)), some (.ref (pa 0 0)), none, none, none, none, none, none, none, none, none, none, none] [.int t0] 54 := by
  unfold f_L_law_54 at h
  refine g_istore_n (pc' := 55) C dL_law_54 (Nat.le_of_ble_eq_true rfl) rfl (L' := [some (.ref (sb)), some (.ref (pa 0 0)), some (.int t0), none, none, none, none, none, none, none, none, none, none]) rfl ?_
  refine g_aload_n (pc' := 56) C dL_law_55 rfl rfl ?_
  refine k_L_look (pc' := 59) C pa N Tn B Hs Tr E F Nm [0, 1, 2, 5, 6, 7, 8] rfl (by decide) gL_law_L_look ⟨Nat.le_of_ble_eq_true rfl, Nat.le_of_ble_eq_true rfl⟩ (Nat.le_of_ble_eq_true rfl) rfl dL_law_56 rfl h (fun r1 Tr1 E1 F1 Nm1 h => ?_)
  show G X _ [ntW pa Tn, bdW (gcA X) (pa 1) B, hsW (gcA X) (pa 2) (fun j => pa (10 + j)) Hs, bdW (gcA X) (pa 3) Sn, txW (gcA X) (pa 4) Tx, bdW (gcA X) (pa 5) Tr1, heW (gcA X) (pa 6) E1, heW (gcA X) (pa 7) F1, nmW (gcA X) (pa 8) Nm1, btW (pa 9) (pa 5 0) Bt] _ _ _
  refine g_lstore_n (pc' := 60) C dL_law_59 (Nat.le_of_ble_eq_true rfl) rfl (L' := [some (.ref (sb)), some (.ref (pa 0 0)), some (.int t0), some (.long r1), none, none, none, none, none, none, none, none, none]) rfl ?_
  refine g_iconst (pc' := 61) (v := 0) C dL_law_60 (by decide) rfl ?_
  refine g_istore (pc' := 63) C dL_law_61 (Nat.le_of_ble_eq_true rfl) rfl (L' := [some (.ref (sb)), some (.ref (pa 0 0)), some (.int t0), some (.long r1), none, some (.int (0 : Int32)), none, none, none, none, none, none, none]) rfl ?_
  exact G_loc (lle_s (lle_s (lle_s (lle_s (lle_n (lle_s (lle_n (lle_n (lle_n (lle_n (lle_n (lle_n (lle_n lle_0))))))))))))) (L_L_law_63 C hf hF hRm hs pa N N t0 r1 (0 : Int32) Tn B Hs Sn Tx Tr1 E1 F1 Nm1 Bt h)
set_option maxRecDepth 100000 in
set_option maxHeartbeats 4000000 in
theorem B_L_law_53 {X : gX} (C : cx X RL cL_law 13 ret wsL_law 11 420) (hf : cf X) {sb sn : Nat} {xs : Nat → Int32} (hF : lF X sb) (hRm : gR X = room_1) (hs : sX X sb sn xs) (pa : Nat → Nat → Nat) (N : Nat)    (Tn : tS) (B : tS) (Hs : tH) (Sn : tS) (Tx : tS) (Tr : tS) (E : tS) (F : tS) (Nm : tS) (Bt : tS) (h : f_L_law_53 N sn xs  Tn B Hs Sn Tx Tr E F Nm Bt = some ()) : G X (QL X sb) [ntW pa Tn, bdW (gcA X) (pa 1) B, hsW (gcA X) (pa 2) (fun j => pa (10 + j)) Hs, bdW (gcA X) (pa 3) Sn, txW (gcA X) (pa 4) Tx, bdW (gcA X) (pa 5) Tr, heW (gcA X) (pa 6) E, heW (gcA X) (pa 7) F, nmW (gcA X) (pa 8) Nm, btW (pa 9) (pa 5 0) Bt] [some (.ref (sb)), some (.ref (pa 0 0)), none, none, none, none, none, none, none, none, none, none, none] [] 53 := by
  unfold f_L_law_53 at h
  refine g_iconst (pc' := 54) (v := 0) C dL_law_53 (by decide) rfl ?_
  exact G_loc (lle_s (lle_s (lle_n (lle_n (lle_n (lle_n (lle_n (lle_n (lle_n (lle_n (lle_n (lle_n (lle_n lle_0))))))))))))) (B_L_law_54 C hf hF hRm hs pa N (0 : Int32) Tn B Hs Sn Tx Tr E F Nm Bt h)
set_option maxRecDepth 100000 in
set_option maxHeartbeats 4000000 in
theorem B_L_law {X : gX} (C : cx X RL cL_law 13 ret wsL_law 11 420) (hf : cf X) {sb sn : Nat} {xs : Nat → Int32} (hF : lF X sb) (hRm : gR X = room_1) (hs : sX X sb sn xs) (pa : Nat → Nat → Nat) (N : Nat) (Tn : tS) (B : tS) (Hs : tH) (Sn : tS) (Tx : tS) (Tr : tS) (E : tS) (F : tS) (Nm : tS) (Bt : tS)   (h : f_L_law N sn xs Tn B Hs Sn Tx Tr E F Nm Bt = some ()) : G X (QL X sb) [ntW pa Tn, bdW (gcA X) (pa 1) B, hsW (gcA X) (pa 2) (fun j => pa (10 + j)) Hs, bdW (gcA X) (pa 3) Sn, txW (gcA X) (pa 4) Tx, bdW (gcA X) (pa 5) Tr, heW (gcA X) (pa 6) E, heW (gcA X) (pa 7) F, nmW (gcA X) (pa 8) Nm, btW (pa 9) (pa 5 0) Bt] [some (.ref (sb)), some (.ref (pa 0 0)), none, none, none, none, none, none, none, none, none, none, none] [] 8 := by
  unfold f_L_law at h
  refine g_aload_n (pc' := 9) C dL_law_8 rfl rfl ?_
  refine g_iconst (pc' := 10) (v := 0) C dL_law_9 (by decide) rfl ?_
  refine k_L_holds (pc' := 13) C pa N Tn B Hs Tr E F Nm (0 : Int32) [0, 1, 2, 5, 6, 7, 8] rfl (by decide) gL_law_L_holds ⟨Nat.le_of_ble_eq_true rfl, Nat.le_of_ble_eq_true rfl⟩ (Nat.le_of_ble_eq_true rfl) rfl dL_law_10 rfl h (fun r1 Tr1 E1 F1 Nm1 h => ?_)
  show G X _ [ntW pa Tn, bdW (gcA X) (pa 1) B, hsW (gcA X) (pa 2) (fun j => pa (10 + j)) Hs, bdW (gcA X) (pa 3) Sn, txW (gcA X) (pa 4) Tx, bdW (gcA X) (pa 5) Tr1, heW (gcA X) (pa 6) E1, heW (gcA X) (pa 7) F1, nmW (gcA X) (pa 8) Nm1, btW (pa 9) (pa 5 0) Bt] _ _ _
  refine g_if_eq (pc' := 16) (tgt := 53) C dL_law_13 (by decide) rfl h (fun c h => ?_) (fun c h => ?_)
  · exact G_loc (lle_s (lle_s (lle_n (lle_n (lle_n (lle_n (lle_n (lle_n (lle_n (lle_n (lle_n (lle_n (lle_n lle_0))))))))))))) (B_L_law_53 C hf hF hRm hs pa N Tn B Hs Sn Tx Tr1 E1 F1 Nm1 Bt h)
  · refine g_aload_n (pc' := 17) C dL_law_16 rfl rfl ?_
    refine g_iconst (pc' := 18) (v := 0) C dL_law_17 (by decide) rfl ?_
    refine k_L_would (pc' := 21) C pa N Tn B Hs Tr1 E1 F1 Nm1 (0 : Int32) [0, 1, 2, 5, 6, 7, 8] rfl (by decide) gL_law_L_would ⟨Nat.le_of_ble_eq_true rfl, Nat.le_of_ble_eq_true rfl⟩ (Nat.le_of_ble_eq_true rfl) rfl dL_law_18 rfl h (fun r2 Tr2 E2 F2 Nm2 h => ?_)
    show G X _ [ntW pa Tn, bdW (gcA X) (pa 1) B, hsW (gcA X) (pa 2) (fun j => pa (10 + j)) Hs, bdW (gcA X) (pa 3) Sn, txW (gcA X) (pa 4) Tx, bdW (gcA X) (pa 5) Tr2, heW (gcA X) (pa 6) E2, heW (gcA X) (pa 7) F2, nmW (gcA X) (pa 8) Nm2, btW (pa 9) (pa 5 0) Bt] _ _ _
    refine g_if_eq (pc' := 24) (tgt := 53) C dL_law_21 (by decide) rfl h (fun c h => ?_) (fun c h => ?_)
    · exact G_loc (lle_s (lle_s (lle_n (lle_n (lle_n (lle_n (lle_n (lle_n (lle_n (lle_n (lle_n (lle_n (lle_n lle_0))))))))))))) (B_L_law_53 C hf hF hRm hs pa N Tn B Hs Sn Tx Tr2 E2 F2 Nm2 Bt h)
    · refine g_aload_n (pc' := 25) C dL_law_24 rfl rfl ?_
      refine k_X5_undo (pc' := 28) C pa N Tn B Hs [0, 1, 2] rfl (by decide) gL_law_X5_undo ⟨Nat.le_of_ble_eq_true rfl, Nat.le_of_ble_eq_true rfl⟩ (Nat.le_of_ble_eq_true rfl) rfl dL_law_25 rfl h (fun r3 B3 Hs3 h => ?_)
      show G X _ [ntW pa Tn, bdW (gcA X) (pa 1) B3, hsW (gcA X) (pa 2) (fun j => pa (10 + j)) Hs3, bdW (gcA X) (pa 3) Sn, txW (gcA X) (pa 4) Tx, bdW (gcA X) (pa 5) Tr2, heW (gcA X) (pa 6) E2, heW (gcA X) (pa 7) F2, nmW (gcA X) (pa 8) Nm2, btW (pa 9) (pa 5 0) Bt] _ _ _
      refine g_bipush (pc' := 30) (v := -5) C dL_law_28 (by decide) rfl ?_
      refine g_icmp_ne (pc' := 33) (tgt := 53) C dL_law_30 (by decide) rfl h (fun c h => ?_) (fun c h => ?_)
      · refine g_aload_n (pc' := 34) C dL_law_33 rfl rfl ?_
        refine k_X5_restore (pc' := 37) C pa N Tn B3 Hs3 Sn [0, 1, 2, 3] rfl (by decide) gL_law_X5_restore ⟨Nat.le_of_ble_eq_true rfl, Nat.le_of_ble_eq_true rfl⟩ (Nat.le_of_ble_eq_true rfl) rfl dL_law_34 rfl h (fun r4 B4 Hs4 h => ?_)
        show G X _ [ntW pa Tn, bdW (gcA X) (pa 1) B4, hsW (gcA X) (pa 2) (fun j => pa (10 + j)) Hs4, bdW (gcA X) (pa 3) Sn, txW (gcA X) (pa 4) Tx, bdW (gcA X) (pa 5) Tr2, heW (gcA X) (pa 6) E2, heW (gcA X) (pa 7) F2, nmW (gcA X) (pa 8) Nm2, btW (pa 9) (pa 5 0) Bt] _ _ _
        refine g_bipush (pc' := 39) (v := -5) C dL_law_37 (by decide) rfl ?_
        refine g_icmp_ne (pc' := 42) (tgt := 53) C dL_law_39 (by decide) rfl h (fun c h => ?_) (fun c h => ?_)
        · refine g_aload_n (pc' := 43) C dL_law_42 rfl rfl ?_
          refine k_X5_keep (pc' := 46) C pa N Tn B4 Sn [0, 1, 3] rfl (by decide) gL_law_X5_keep ⟨Nat.le_of_ble_eq_true rfl, Nat.le_of_ble_eq_true rfl⟩ (Nat.le_of_ble_eq_true rfl) rfl dL_law_43 rfl h (fun r5 Tn5 Sn5 h => ?_)
          show G X _ [ntW pa Tn5, bdW (gcA X) (pa 1) B4, hsW (gcA X) (pa 2) (fun j => pa (10 + j)) Hs4, bdW (gcA X) (pa 3) Sn5, txW (gcA X) (pa 4) Tx, bdW (gcA X) (pa 5) Tr2, heW (gcA X) (pa 6) E2, heW (gcA X) (pa 7) F2, nmW (gcA X) (pa 8) Nm2, btW (pa 9) (pa 5 0) Bt] _ _ _
          refine g_if_ne (pc' := 49) (tgt := 53) C dL_law_46 (by decide) rfl h (fun c h => ?_) (fun c h => ?_)
          · refine g_iconst (pc' := 50) (v := 1) C dL_law_49 (by decide) rfl ?_
            refine g_goto (pc' := 54) C dL_law_50 (by decide) ?_
            exact G_loc (lle_s (lle_s (lle_n (lle_n (lle_n (lle_n (lle_n (lle_n (lle_n (lle_n (lle_n (lle_n (lle_n lle_0))))))))))))) (B_L_law_54 C hf hF hRm hs pa N (1 : Int32) Tn5 B4 Hs4 Sn5 Tx Tr2 E2 F2 Nm2 Bt h)
          · exact G_loc (lle_s (lle_s (lle_n (lle_n (lle_n (lle_n (lle_n (lle_n (lle_n (lle_n (lle_n (lle_n (lle_n lle_0))))))))))))) (B_L_law_53 C hf hF hRm hs pa N Tn5 B4 Hs4 Sn5 Tx Tr2 E2 F2 Nm2 Bt h)
        · exact G_loc (lle_s (lle_s (lle_n (lle_n (lle_n (lle_n (lle_n (lle_n (lle_n (lle_n (lle_n (lle_n (lle_n lle_0))))))))))))) (B_L_law_53 C hf hF hRm hs pa N Tn B4 Hs4 Sn Tx Tr2 E2 F2 Nm2 Bt h)
      · exact G_loc (lle_s (lle_s (lle_n (lle_n (lle_n (lle_n (lle_n (lle_n (lle_n (lle_n (lle_n (lle_n (lle_n lle_0))))))))))))) (B_L_law_53 C hf hF hRm hs pa N Tn B3 Hs3 Sn Tx Tr2 E2 F2 Nm2 Bt h)

