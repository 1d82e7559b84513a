set_option maxRecDepth 100000 in
set_option maxHeartbeats 4000000 in
theorem B_L_abs {X : gX} (C : cx X RL cL_abs 1 (some .int) wsL_abs 0 0)  (N : Nat)  (p0 : Int32) (r : Int32) (h : f_L_abs N p0 = some r) : G X (QI X r []) [] [some (.int p0)] [] 0 := by
  unfold f_L_abs at h
  refine g_iload_n (pc' := 1) C dL_abs_0 rfl rfl ?_
  refine g_if_ge (pc' := 4) (tgt := 9) C dL_abs_1 (by decide) rfl h (fun c h => ?_) (fun c h => ?_)
  · refine g_iload_n (pc' := 10) C dL_abs_9 rfl rfl ?_
    obtain rfl := Option.some.inj h
    exact g_iret C dL_abs_10
  · refine g_iload_n (pc' := 5) C dL_abs_4 rfl rfl ?_
    refine g_ineg (pc' := 6) C dL_abs_5 rfl ?_
    refine g_goto (pc' := 10) C dL_abs_6 (by decide) ?_
    obtain rfl := Option.some.inj h
    exact g_iret C dL_abs_10
set_option maxRecDepth 100000 in
set_option maxHeartbeats 4000000 in
theorem c_L_abs (l : Launch) (D : va_G) (cA : Nat → ClassId)  (N : Nat)  (p0 : Int32) (r : Int32) (h : f_L_abs N p0 = some r) : MI l D cA yL_abs wsL_abs 0 0 [.int p0] [] r [] := MI_of (cc := cL_abs) (maxL := 1) (rt := some .int) (by decide +kernel) rfl (List.forall_mem_cons.mpr ⟨rfl, List.forall_mem_nil _⟩) (Nat.le_of_ble_eq_true rfl) (fun X e1 e2 e3 C => by subst e1; subst e2; subst e3; exact B_L_abs C  N p0 r h)
set_option maxRecDepth 100000 in
set_option maxHeartbeats 4000000 in
theorem nd_L_abs : nd yL_abs 1 := ⟨by decide +kernel, by decide +kernel, by decide +kernel⟩
set_option maxRecDepth 100000 in
set_option maxHeartbeats 4000000 in
theorem k_L_abs {X : gX} {own : String} {cc : ByteArray} {nL : Nat} {ret : Option FieldType} {Ts : List Cond} {fr lm : Nat} {Q : State → Prop} {ms : List va_W} {L : List (Option Value)} {st : List Value} {pc pc' idx : Nat} {ρ : Type} {T : Int32 → Option ρ} {res : ρ} (C : cx X own cc nL ret Ts fr lm)  (N : Nat)  (p0 : Int32) (is : List Nat) (hC : is.map (fun i => ms[i]?) = []) (hn : is.Nodup) (hG : GoodIn Ts (va_wsS own idx yL_abs wsL_abs)) (hR : 0 + 1 ≤ fr ∧ 8 + (1 + 11) + 0 ≤ lm) (hst : (st.map fun v => v.category).sum ≤ 8) (hLn : L.length = nL) (d : decode cc pc = .ok (.invokestatic idx, 3)) (hp : pc + 3 = pc') (h : bd (f_L_abs N p0) T = some res) (kk : ∀ (r : Int32), T r = some res → G X Q (ms) L (.int r :: st) pc') : G X Q ms L (.int p0 :: st) pc := by
  obtain ⟨r, h1, h⟩ := ob h
  exact G_callSI C (As := [.int p0]) (c_L_abs (gl X) (gD X) (gcA X)  N p0 r h1) hG rfl nd_L_abs hR hC hn rfl rfl hst hLn d hp (G_ms (rpl_same (mc := []) hC) (kk r h))
