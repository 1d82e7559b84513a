theorem lk_L_low_1 : Cond.constant RL 8 (2147483647) ∈ wsL_low := List.mem_of_getElem? (i := 1) rfl
set_option maxRecDepth 100000 in
set_option maxHeartbeats 4000000 in
theorem B_L_low {X : gX} (C : cx X RL cL_low 2 (some .int) wsL_low 0 0)  (N : Nat)  (p0 : Int32) (p1 : Int32) (r : Int32) (h : f_L_low N p0 p1 = some r) : G X (QI X r []) [] [some (.int p0), some (.int p1)] [] 0 := by
  unfold f_L_low at h
  refine g_iload_n (pc' := 1) C dL_low_0 rfl rfl ?_
  refine g_ldc (pc' := 3) (v := 2147483647) C lk_L_low_1 dL_low_1 rfl ?_
  refine g_iand (pc' := 4) C dL_low_3 rfl ?_
  refine g_iload_n (pc' := 5) C dL_low_4 rfl rfl ?_
  refine g_irem (pc' := 6) C dL_low_5 rfl h (fun h => ?_)
  obtain rfl := Option.some.inj h
  exact g_iret C dL_low_6
set_option maxRecDepth 100000 in
set_option maxHeartbeats 4000000 in
theorem c_L_low (l : Launch) (D : va_G) (cA : Nat → ClassId)  (N : Nat)  (p0 : Int32) (p1 : Int32) (r : Int32) (h : f_L_low N p0 p1 = some r) : MI l D cA yL_low wsL_low 0 0 [.int p0, .int p1] [] r [] := MI_of (cc := cL_low) (maxL := 2) (rt := some .int) (by decide +kernel) rfl (List.forall_mem_cons.mpr ⟨rfl, List.forall_mem_cons.mpr ⟨rfl, List.forall_mem_nil _⟩⟩) (Nat.le_of_ble_eq_true rfl) (fun X e1 e2 e3 C => by subst e1; subst e2; subst e3; exact B_L_low C  N p0 p1 r h)
set_option maxRecDepth 100000 in
set_option maxHeartbeats 4000000 in
theorem nd_L_low : nd yL_low 2 := ⟨by decide +kernel, by decide +kernel, by decide +kernel⟩
set_option maxRecDepth 100000 in
set_option maxHeartbeats 4000000 in
theorem k_L_low {X : gX} {own : String} {cc : ByteArray} {nL : Nat} {ret : Option FieldType} {Ts : List Cond} {fr lm : Nat} {Q : State → Prop} {ms : List va_W} {L : List (Option Value)} {st : List Value} {pc pc' idx : Nat} {ρ : Type} {T : Int32 → Option ρ} {res : ρ} (C : cx X own cc nL ret Ts fr lm)  (N : Nat)  (p0 : Int32) (p1 : Int32) (is : List Nat) (hC : is.map (fun i => ms[i]?) = []) (hn : is.Nodup) (hG : GoodIn Ts (va_wsS own idx yL_low wsL_low)) (hR : 0 + 1 ≤ fr ∧ 8 + (2 + 11) + 0 ≤ lm) (hst : (st.map fun v => v.category).sum ≤ 8) (hLn : L.length = nL) (d : decode cc pc = .ok (.invokestatic idx, 3)) (hp : pc + 3 = pc') (h : bd (f_L_low N p0 p1) T = some res) (kk : ∀ (r : Int32), T r = some res → G X Q (ms) L (.int r :: st) pc') : G X Q ms L (.int p1 :: .int p0 :: st) pc := by
  obtain ⟨r, h1, h⟩ := ob h
  exact G_callSI C (As := [.int p0, .int p1]) (c_L_low (gl X) (gD X) (gcA X)  N p0 p1 r h1) hG rfl nd_L_low hR hC hn rfl rfl hst hLn d hp (G_ms (rpl_same (mc := []) hC) (kk r h))
