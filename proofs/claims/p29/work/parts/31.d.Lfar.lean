set_option maxRecDepth 100000 in
set_option maxHeartbeats 4000000 in
theorem B_L_far {X : gX} (C : cx X RL cL_far 3 (some .int) wsL_far 6 134) (pa : Nat → Nat → Nat) (N : Nat) (Tn : tS) (B : tS) (Tr : tS) (E : tS) (F : tS) (p1 : Int32) (p2 : Int32) (r : Int32) (Trz : tS) (Ez : tS) (Fz : tS) (h : f_L_far N Tn B Tr E F p1 p2 = some (r, Trz, Ez, Fz)) : G X (QI X r [ntW pa Tn, bdW (gcA X) (pa 1) B, bdW (gcA X) (pa 5) Trz, heW (gcA X) (pa 6) Ez, heW (gcA X) (pa 7) Fz]) [ntW pa Tn, bdW (gcA X) (pa 1) B, bdW (gcA X) (pa 5) Tr, heW (gcA X) (pa 6) E, heW (gcA X) (pa 7) F] [some (.ref (pa 0 0)), some (.int p1), some (.int p2)] [] 0 := by
  unfold f_L_far at h
  refine g_aload_n (pc' := 1) C dL_far_0 rfl rfl ?_
  refine g_iload_n (pc' := 2) C dL_far_1 rfl rfl ?_
  refine g_iconst (pc' := 3) (v := 0) C dL_far_2 (by decide) rfl ?_
  refine k_X5_note (pc' := 6) C pa N Tn B Tr E F p1 (0 : Int32) [0, 1, 2, 3, 4] rfl (by decide) gL_far_X5_note ⟨Nat.le_of_ble_eq_true rfl, Nat.le_of_ble_eq_true rfl⟩ (Nat.le_of_ble_eq_true rfl) rfl dL_far_3 rfl h (fun r1 Tr1 E1 F1 h => ?_)
  show G X _ [ntW pa Tn, bdW (gcA X) (pa 1) B, bdW (gcA X) (pa 5) Tr1, heW (gcA X) (pa 6) E1, heW (gcA X) (pa 7) F1] _ _ _
  refine g_aload_n (pc' := 7) C dL_far_6 rfl rfl ?_
  refine g_iload_n (pc' := 8) C dL_far_7 rfl rfl ?_
  refine g_iconst (pc' := 9) (v := 0) C dL_far_8 (by decide) rfl ?_
  refine k_X5_note (pc' := 12) C pa N Tn B Tr1 E1 F1 p2 (0 : Int32) [0, 1, 2, 3, 4] rfl (by decide) gL_far_X5_note ⟨Nat.le_of_ble_eq_true rfl, Nat.le_of_ble_eq_true rfl⟩ (Nat.le_of_ble_eq_true rfl) rfl dL_far_9 rfl h (fun r2 Tr2 E2 F2 h => ?_)
  show G X _ [ntW pa Tn, bdW (gcA X) (pa 1) B, bdW (gcA X) (pa 5) Tr2, heW (gcA X) (pa 6) E2, heW (gcA X) (pa 7) F2] _ _ _
  refine g_isub (pc' := 13) C dL_far_12 rfl ?_
  refine k_L_abs (pc' := 16) C N (r1 - r2) [] rfl (by decide) gL_far_L_abs ⟨Nat.le_of_ble_eq_true rfl, Nat.le_of_ble_eq_true rfl⟩ (Nat.le_of_ble_eq_true rfl) rfl dL_far_13 rfl h (fun r3 h => ?_)
  refine g_aload_n (pc' := 17) C dL_far_16 rfl rfl ?_
  refine g_iload_n (pc' := 18) C dL_far_17 rfl rfl ?_
  refine g_iconst (pc' := 19) (v := 1) C dL_far_18 (by decide) rfl ?_
  refine k_X5_note (pc' := 22) C pa N Tn B Tr2 E2 F2 p1 (1 : Int32) [0, 1, 2, 3, 4] rfl (by decide) gL_far_X5_note ⟨Nat.le_of_ble_eq_true rfl, Nat.le_of_ble_eq_true rfl⟩ (Nat.le_of_ble_eq_true rfl) rfl dL_far_19 rfl h (fun r4 Tr4 E4 F4 h => ?_)
  show G X _ [ntW pa Tn, bdW (gcA X) (pa 1) B, bdW (gcA X) (pa 5) Tr4, heW (gcA X) (pa 6) E4, heW (gcA X) (pa 7) F4] _ _ _
  refine g_aload_n (pc' := 23) C dL_far_22 rfl rfl ?_
  refine g_iload_n (pc' := 24) C dL_far_23 rfl rfl ?_
  refine g_iconst (pc' := 25) (v := 1) C dL_far_24 (by decide) rfl ?_
  refine k_X5_note (pc' := 28) C pa N Tn B Tr4 E4 F4 p2 (1 : Int32) [0, 1, 2, 3, 4] rfl (by decide) gL_far_X5_note ⟨Nat.le_of_ble_eq_true rfl, Nat.le_of_ble_eq_true rfl⟩ (Nat.le_of_ble_eq_true rfl) rfl dL_far_25 rfl h (fun r5 Tr5 E5 F5 h => ?_)
  show G X _ [ntW pa Tn, bdW (gcA X) (pa 1) B, bdW (gcA X) (pa 5) Tr5, heW (gcA X) (pa 6) E5, heW (gcA X) (pa 7) F5] _ _ _
  refine g_isub (pc' := 29) C dL_far_28 rfl ?_
  refine k_L_abs (pc' := 32) C N (r4 - r5) [] rfl (by decide) gL_far_L_abs ⟨Nat.le_of_ble_eq_true rfl, Nat.le_of_ble_eq_true rfl⟩ (Nat.le_of_ble_eq_true rfl) rfl dL_far_29 rfl h (fun r6 h => ?_)
  refine g_iadd (pc' := 33) C dL_far_32 rfl ?_
  obtain ⟨rfl, rfl, rfl, rfl⟩ := pj4 (Option.some.inj h)
  exact g_iret C dL_far_33
set_option maxRecDepth 100000 in
set_option maxHeartbeats 4000000 in
theorem c_L_far (l : Launch) (D : va_G) (cA : Nat → ClassId) (pa : Nat → Nat → Nat) (N : Nat) (Tn : tS) (B : tS) (Tr : tS) (E : tS) (F : tS) (p1 : Int32) (p2 : Int32) (r : Int32) (Trz : tS) (Ez : tS) (Fz : tS) (h : f_L_far N Tn B Tr E F p1 p2 = some (r, Trz, Ez, Fz)) : MI l D cA yL_far wsL_far 6 134 [.ref (pa 0 0), .int p1, .int p2] [ntW pa Tn, bdW cA (pa 1) B, bdW cA (pa 5) Tr, heW cA (pa 6) E, heW cA (pa 7) F] r [ntW pa Tn, bdW cA (pa 1) B, bdW cA (pa 5) Trz, heW cA (pa 6) Ez, heW cA (pa 7) Fz] := MI_of (cc := cL_far) (maxL := 3) (rt := some .int) (by decide +kernel) rfl (List.forall_mem_cons.mpr ⟨rfl, List.forall_mem_cons.mpr ⟨rfl, List.forall_mem_cons.mpr ⟨rfl, List.forall_mem_nil _⟩⟩⟩) (Nat.le_of_ble_eq_true rfl) (fun X e1 e2 e3 C => by subst e1; subst e2; subst e3; exact B_L_far C pa N Tn B Tr E F p1 p2 r Trz Ez Fz h)
set_option maxRecDepth 100000 in
set_option maxHeartbeats 4000000 in
theorem nd_L_far : nd yL_far 3 := ⟨by decide +kernel, by decide +kernel, by decide +kernel⟩
set_option maxRecDepth 100000 in
set_option maxHeartbeats 4000000 in
theorem k_L_far {X : gX} {own : String} {cc : ByteArray} {nL : Nat} {ret : Option FieldType} {Ts : List Cond} {fr lm : Nat} {Q : State → Prop} {ms : List va_W} {L : List (Option Value)} {st : List Value} {pc pc' idx : Nat} {ρ : Type} {T : Int32 → tS → tS → tS → Option ρ} {res : ρ} (C : cx X own cc nL ret Ts fr lm) (pa : Nat → Nat → Nat) (N : Nat) (Tn : tS) (B : tS) (Tr : tS) (E : tS) (F : tS) (p1 : Int32) (p2 : Int32) (is : List Nat) (hC : is.map (fun i => ms[i]?) = [some (ntW pa Tn), some (bdW (gcA X) (pa 1) B), some (bdW (gcA X) (pa 5) Tr), some (heW (gcA X) (pa 6) E), some (heW (gcA X) (pa 7) F)]) (hn : is.Nodup) (hG : GoodIn Ts (va_wsS own idx yL_far wsL_far)) (hR : 6 + 1 ≤ fr ∧ 8 + (3 + 11) + 134 ≤ lm) (hst : (st.map fun v => v.category).sum ≤ 8) (hLn : L.length = nL) (d : decode cc pc = .ok (.invokestatic idx, 3)) (hp : pc + 3 = pc') (h : bd4 (f_L_far N Tn B Tr E F p1 p2) T = some res) (kk : ∀ (r : Int32) (Trz : tS) (Ez : tS) (Fz : tS), T r Trz Ez Fz = some res → G X Q (rpl ms is [ntW pa Tn, bdW (gcA X) (pa 1) B, bdW (gcA X) (pa 5) Trz, heW (gcA X) (pa 6) Ez, heW (gcA X) (pa 7) Fz]) L (.int r :: st) pc') : G X Q ms L (.int p2 :: .int p1 :: .ref (pa 0 0) :: st) pc := by
  obtain ⟨r, Trz, Ez, Fz, h1, h⟩ := ob4 h
  exact G_callSI C (As := [.ref (pa 0 0), .int p1, .int p2]) (c_L_far (gl X) (gD X) (gcA X) pa N Tn B Tr E F p1 p2 r Trz Ez Fz h1) hG rfl nd_L_far hR hC hn rfl rfl hst hLn d hp (kk r Trz Ez Fz h)
