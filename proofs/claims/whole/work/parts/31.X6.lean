def f_X6_in (N : Nat)  (p0 : Int32) (p1 : Int32) (p2 : Int32) : Option (Int32) := (if p0 < p1 then some (0 : Int32) else (if p2 < p0 then some (0 : Int32) else some (1 : Int32)))
set_option maxRecDepth 100000 in
set_option maxHeartbeats 4000000 in
theorem B_X6_in {X : gX} (C : cx X RX6 cX6_in 3 (some .boolean) wsX6_in 0 0)  (N : Nat)  (p0 : Int32) (p1 : Int32) (p2 : Int32) (r : Int32) (h : f_X6_in N p0 p1 p2 = some r) : G X (QI X r []) [] [some (.int p0), some (.int p1), some (.int p2)] [] 0 := by
  unfold f_X6_in at h
  refine g_iload_n (pc' := 1) C dX6_in_0 rfl rfl ?_
  refine g_iload_n (pc' := 2) C dX6_in_1 rfl rfl ?_
  refine g_icmp_lt (pc' := 5) (tgt := 14) C dX6_in_2 (by decide) rfl h (fun c h => ?_) (fun c h => ?_)
  · refine g_iconst (pc' := 15) (v := 0) C dX6_in_14 (by decide) rfl ?_
    obtain rfl := Option.some.inj h
    exact g_zret0 C rfl dX6_in_15
  · refine g_iload_n (pc' := 6) C dX6_in_5 rfl rfl ?_
    refine g_iload_n (pc' := 7) C dX6_in_6 rfl rfl ?_
    refine g_icmp_gt (pc' := 10) (tgt := 14) C dX6_in_7 (by decide) rfl h (fun c h => ?_) (fun c h => ?_)
    · refine g_iconst (pc' := 15) (v := 0) C dX6_in_14 (by decide) rfl ?_
      obtain rfl := Option.some.inj h
      exact g_zret0 C rfl dX6_in_15
    · refine g_iconst (pc' := 11) (v := 1) C dX6_in_10 (by decide) rfl ?_
      refine g_goto (pc' := 15) C dX6_in_11 (by decide) ?_
      obtain rfl := Option.some.inj h
      exact g_zret0 C rfl dX6_in_15
set_option maxRecDepth 100000 in
set_option maxHeartbeats 4000000 in
theorem c_X6_in (l : Launch) (D : va_G) (cA : Nat → ClassId)  (N : Nat)  (p0 : Int32) (p1 : Int32) (p2 : Int32) (r : Int32) (h : f_X6_in N p0 p1 p2 = some r) : MI l D cA yX6_in wsX6_in 0 0 [.int p0, .int p1, .int p2] [] r [] := MI_of (cc := cX6_in) (maxL := 3) (rt := some .boolean) (by decide +kernel) rfl (List.forall_mem_cons.mpr ⟨rfl, List.forall_mem_cons.mpr ⟨rfl, List.forall_mem_cons.mpr ⟨rfl, List.forall_mem_nil _⟩⟩⟩) (Nat.le_of_ble_eq_true rfl) (fun X e1 e2 e3 C => by subst e1; subst e2; subst e3; exact B_X6_in C  N p0 p1 p2 r h)
set_option maxRecDepth 100000 in
set_option maxHeartbeats 4000000 in
theorem nd_X6_in : nd yX6_in 3 := ⟨by decide +kernel, by decide +kernel, by decide +kernel⟩
set_option maxRecDepth 100000 in
set_option maxHeartbeats 4000000 in
theorem k_X6_in {X : gX} {own : String} {cc : ByteArray} {nL : Nat} {ret : Option FieldType} {Ts : List Cond} {fr lm : Nat} {Q : State → Prop} {ms : List va_W} {L : List (Option Value)} {st : List Value} {pc pc' idx : Nat} {ρ : Type} {T : Int32 → Option ρ} {res : ρ} (C : cx X own cc nL ret Ts fr lm)  (N : Nat)  (p0 : Int32) (p1 : Int32) (p2 : Int32) (is : List Nat) (hC : is.map (fun i => ms[i]?) = []) (hn : is.Nodup) (hG : GoodIn Ts (va_wsS own idx yX6_in wsX6_in)) (hR : 0 + 1 ≤ fr ∧ 8 + (3 + 11) + 0 ≤ lm) (hst : (st.map fun v => v.category).sum ≤ 8) (hLn : L.length = nL) (d : decode cc pc = .ok (.invokestatic idx, 3)) (hp : pc + 3 = pc') (h : bd (f_X6_in N p0 p1 p2) T = some res) (kk : ∀ (r : Int32), T r = some res → G X Q (ms) L (.int r :: st) pc') : G X Q ms L (.int p2 :: .int p1 :: .int p0 :: st) pc := by
  obtain ⟨r, h1, h⟩ := ob h
  exact G_callSI C (As := [.int p0, .int p1, .int p2]) (c_X6_in (gl X) (gD X) (gcA X)  N p0 p1 p2 r h1) hG rfl nd_X6_in hR hC hn rfl rfl hst hLn d hp (G_ms (rpl_same (mc := []) hC) (kk r h))
def f_X6_copies_0_1_3b (N : Nat) (p1 : Int32) (p3 : Int32)  (k3 : Int32 → tS → Option (tS)) (x4 : Int32) (M : tS) : Option (tS) := (if (233 : Int32) ≤ x4 then some M else (if (p1 + x4) < 0 ∨ 233 ≤ (p1 + x4).toNatClampNeg then none else (if (p3 + x4) < 0 ∨ 932 ≤ (p3 + x4).toNatClampNeg then none else k3 (x4 + 1) (va_up M 1 (upd (M 1) (p3 + x4).toNatClampNeg (M 0 (p1 + x4).toNatClampNeg))))))
def f_X6_copies_0_1_3 (N : Nat) (p1 : Int32) (p3 : Int32)  : Nat → Int32 → tS → Option (tS)
  | 0 => fun _ _ => none
  | n + 1 => f_X6_copies_0_1_3b N p1 p3  (f_X6_copies_0_1_3 N p1 p3  n)
set_option maxRecDepth 100000 in
set_option maxHeartbeats 4000000 in
theorem B_X6_copies_0_1_3b {X : gX} (C : cx X RX6 cX6_copies 5 none wsX6_copies 0 0) (a : Nat → Nat) (N : Nat) (p1 : Int32) (p3 : Int32) (Mz : tS)  (k3 : Int32 → tS → Option (tS)) (hk3 : ∀ (x4 : Int32) (M : tS), k3 x4 M = some Mz → G X (QV X [mdW (gcA X) a Mz]) [mdW (gcA X) a M] [some (.ref (a 1)), some (.int p1), some (.ref (a 2)), some (.int p3), some (.int x4)] [] 3) (x4 : Int32) (M : tS) (h : f_X6_copies_0_1_3b N p1 p3  k3 x4 M = some Mz) : G X (QV X [mdW (gcA X) a Mz]) [mdW (gcA X) a M] [some (.ref (a 1)), some (.int p1), some (.ref (a 2)), some (.int p3), some (.int x4)] [] 3 := by
  unfold f_X6_copies_0_1_3b at h
  refine g_iload (pc' := 5) C dX6_copies_3 rfl rfl ?_
  refine g_sipush (pc' := 8) (v := 233) C dX6_copies_5 (by decide) rfl ?_
  refine g_icmp_ge (pc' := 11) (tgt := 29) C dX6_copies_8 (by decide) rfl h (fun c h => ?_) (fun c h => ?_)
  · obtain rfl := Option.some.inj h
    exact g_vret C dX6_copies_29
  · refine g_aload_n (pc' := 12) C dX6_copies_11 rfl rfl ?_
    refine g_iload_n (pc' := 13) C dX6_copies_12 rfl rfl ?_
    refine g_iload (pc' := 15) C dX6_copies_13 rfl rfl ?_
    refine g_iadd (pc' := 16) C dX6_copies_15 rfl ?_
    refine g_aload_n (pc' := 17) C dX6_copies_16 rfl rfl ?_
    refine g_iload_n (pc' := 18) C dX6_copies_17 rfl rfl ?_
    refine g_iload (pc' := 20) C dX6_copies_18 rfl rfl ?_
    refine g_iadd (pc' := 21) C dX6_copies_20 rfl ?_
    refine g_iald (pc' := 22) (i := 0) (j := 1) C rfl rfl dX6_copies_21 rfl h (fun h => ?_)
    refine g_iast (pc' := 23) (i := 0) (j := 2) (w' := mdW (gcA X) a (va_up M 1 (upd (M 1) (p3 + x4).toNatClampNeg (M 0 (p1 + x4).toNatClampNeg)))) C rfl rfl rfl dX6_copies_22 rfl h (fun h => ?_)
    show G X _ [mdW (gcA X) a (va_up M 1 (upd (M 1) (p3 + x4).toNatClampNeg (M 0 (p1 + x4).toNatClampNeg)))] _ _ _
    refine g_iinc (pc' := 26) (v := (x4 + 1)) C dX6_copies_23 rfl rfl rfl (L' := [some (.ref (a 1)), some (.int p1), some (.ref (a 2)), some (.int p3), some (.int (x4 + 1))]) rfl ?_
    refine g_goto (pc' := 3) C dX6_copies_26 (by decide) ?_
    exact G_loc (lle_s (lle_s (lle_s (lle_s (lle_s lle_0))))) (hk3 (x4 + 1) (va_up M 1 (upd (M 1) (p3 + x4).toNatClampNeg (M 0 (p1 + x4).toNatClampNeg))) h)
set_option maxRecDepth 100000 in
set_option maxHeartbeats 4000000 in
theorem L_X6_copies_0_1_3 {X : gX} (C : cx X RX6 cX6_copies 5 none wsX6_copies 0 0) (a : Nat → Nat) (N : Nat) (p1 : Int32) (p3 : Int32) (Mz : tS)  : ∀ (n : Nat) (x4 : Int32) (M : tS), f_X6_copies_0_1_3 N p1 p3  n x4 M = some Mz → G X (QV X [mdW (gcA X) a Mz]) [mdW (gcA X) a M] [some (.ref (a 1)), some (.int p1), some (.ref (a 2)), some (.int p3), some (.int x4)] [] 3 := by
  intro n
  induction n with
  | zero => intro x4 M h; have h : (none : Option (tS)) = some Mz := h; cases h
  | succ n ih => intro x4 M h; exact B_X6_copies_0_1_3b C a N p1 p3 Mz  (f_X6_copies_0_1_3 N p1 p3  n) ih x4 M h
def f_X6_copies_0_1 (N : Nat) (M : tS) (p1 : Int32) (p3 : Int32) : Option (tS) := f_X6_copies_0_1_3 N p1 p3 N (0 : Int32) M
set_option maxRecDepth 100000 in
set_option maxHeartbeats 4000000 in
theorem B_X6_copies_0_1 {X : gX} (C : cx X RX6 cX6_copies 5 none wsX6_copies 0 0) (a : Nat → Nat) (N : Nat) (M : tS) (p1 : Int32) (p3 : Int32) (Mz : tS) (h : f_X6_copies_0_1 N M p1 p3 = some Mz) : G X (QV X [mdW (gcA X) a Mz]) [mdW (gcA X) a M] [some (.ref (a 1)), some (.int p1), some (.ref (a 2)), some (.int p3), none] [] 0 := by
  unfold f_X6_copies_0_1 at h
  refine g_iconst (pc' := 1) (v := 0) C dX6_copies_0 (by decide) rfl ?_
  refine g_istore (pc' := 3) C dX6_copies_1 (Nat.le_of_ble_eq_true rfl) rfl (L' := [some (.ref (a 1)), some (.int p1), some (.ref (a 2)), some (.int p3), some (.int (0 : Int32))]) rfl ?_
  exact G_loc (lle_s (lle_s (lle_s (lle_s (lle_s lle_0))))) (L_X6_copies_0_1_3 C a N p1 p3 Mz N (0 : Int32) M h)
set_option maxRecDepth 100000 in
set_option maxHeartbeats 4000000 in
theorem c_X6_copies_0_1 (l : Launch) (D : va_G) (cA : Nat → ClassId) (a : Nat → Nat) (N : Nat) (M : tS) (p1 : Int32) (p3 : Int32) (Mz : tS) (h : f_X6_copies_0_1 N M p1 p3 = some Mz) : MV l D cA yX6_copies wsX6_copies 0 0 [.ref (a 1), .int p1, .ref (a 2), .int p3] [mdW cA a M]  [mdW cA a Mz] := MV_of (cc := cX6_copies) (maxL := 5) (by decide +kernel) rfl (List.forall_mem_cons.mpr ⟨rfl, List.forall_mem_cons.mpr ⟨rfl, List.forall_mem_cons.mpr ⟨rfl, List.forall_mem_cons.mpr ⟨rfl, List.forall_mem_nil _⟩⟩⟩⟩) (Nat.le_of_ble_eq_true rfl) (fun X e1 e2 e3 C => by subst e1; subst e2; subst e3; exact B_X6_copies_0_1 C a N M p1 p3 Mz h)
set_option maxRecDepth 100000 in
set_option maxHeartbeats 4000000 in
theorem nd_X6_copies_0_1 : nd yX6_copies 4 := ⟨by decide +kernel, by decide +kernel, by decide +kernel⟩
set_option maxRecDepth 100000 in
set_option maxHeartbeats 4000000 in
theorem k_X6_copies_0_1 {X : gX} {own : String} {cc : ByteArray} {nL : Nat} {ret : Option FieldType} {Ts : List Cond} {fr lm : Nat} {Q : State → Prop} {ms : List va_W} {L : List (Option Value)} {st : List Value} {pc pc' idx : Nat} {ρ : Type} {T : tS → Option ρ} {res : ρ} (C : cx X own cc nL ret Ts fr lm) (a : Nat → Nat) (N : Nat) (M : tS) (p1 : Int32) (p3 : Int32) (is : List Nat) (hC : is.map (fun i => ms[i]?) = [some (mdW (gcA X) a M)]) (hn : is.Nodup) (hG : GoodIn Ts (va_wsS own idx yX6_copies wsX6_copies)) (hR : 0 + 1 ≤ fr ∧ 8 + (5 + 11) + 0 ≤ lm) (hst : (st.map fun v => v.category).sum ≤ 8) (hLn : L.length = nL) (d : decode cc pc = .ok (.invokestatic idx, 3)) (hp : pc + 3 = pc') (h : bd (f_X6_copies_0_1 N M p1 p3) T = some res) (kk : ∀ (Mz : tS), T Mz = some res → G X Q (rpl ms is [mdW (gcA X) a Mz]) L (st) pc') : G X Q ms L (.int p3 :: .ref (a 2) :: .int p1 :: .ref (a 1) :: st) pc := by
  obtain ⟨Mz, h1, h⟩ := ob h
  exact G_callSV C (As := [.ref (a 1), .int p1, .ref (a 2), .int p3]) (c_X6_copies_0_1 (gl X) (gD X) (gcA X) a N M p1 p3 Mz h1) hG rfl nd_X6_copies_0_1 hR hC hn rfl rfl hst hLn d hp (kk Mz h)
def f_X6_copies_1_0_3b (N : Nat) (p1 : Int32) (p3 : Int32)  (k3 : Int32 → tS → Option (tS)) (x4 : Int32) (M : tS) : Option (tS) := (if (233 : Int32) ≤ x4 then some M else (if (p1 + x4) < 0 ∨ 932 ≤ (p1 + x4).toNatClampNeg then none else (if (p3 + x4) < 0 ∨ 233 ≤ (p3 + x4).toNatClampNeg then none else k3 (x4 + 1) (va_up M 0 (upd (M 0) (p3 + x4).toNatClampNeg (M 1 (p1 + x4).toNatClampNeg))))))
def f_X6_copies_1_0_3 (N : Nat) (p1 : Int32) (p3 : Int32)  : Nat → Int32 → tS → Option (tS)
  | 0 => fun _ _ => none
  | n + 1 => f_X6_copies_1_0_3b N p1 p3  (f_X6_copies_1_0_3 N p1 p3  n)
set_option maxRecDepth 100000 in
set_option maxHeartbeats 4000000 in
theorem B_X6_copies_1_0_3b {X : gX} (C : cx X RX6 cX6_copies 5 none wsX6_copies 0 0) (a : Nat → Nat) (N : Nat) (p1 : Int32) (p3 : Int32) (Mz : tS)  (k3 : Int32 → tS → Option (tS)) (hk3 : ∀ (x4 : Int32) (M : tS), k3 x4 M = some Mz → G X (QV X [mdW (gcA X) a Mz]) [mdW (gcA X) a M] [some (.ref (a 2)), some (.int p1), some (.ref (a 1)), some (.int p3), some (.int x4)] [] 3) (x4 : Int32) (M : tS) (h : f_X6_copies_1_0_3b N p1 p3  k3 x4 M = some Mz) : G X (QV X [mdW (gcA X) a Mz]) [mdW (gcA X) a M] [some (.ref (a 2)), some (.int p1), some (.ref (a 1)), some (.int p3), some (.int x4)] [] 3 := by
  unfold f_X6_copies_1_0_3b at h
  refine g_iload (pc' := 5) C dX6_copies_3 rfl rfl ?_
  refine g_sipush (pc' := 8) (v := 233) C dX6_copies_5 (by decide) rfl ?_
  refine g_icmp_ge (pc' := 11) (tgt := 29) C dX6_copies_8 (by decide) rfl h (fun c h => ?_) (fun c h => ?_)
  · obtain rfl := Option.some.inj h
    exact g_vret C dX6_copies_29
  · refine g_aload_n (pc' := 12) C dX6_copies_11 rfl rfl ?_
    refine g_iload_n (pc' := 13) C dX6_copies_12 rfl rfl ?_
    refine g_iload (pc' := 15) C dX6_copies_13 rfl rfl ?_
    refine g_iadd (pc' := 16) C dX6_copies_15 rfl ?_
    refine g_aload_n (pc' := 17) C dX6_copies_16 rfl rfl ?_
    refine g_iload_n (pc' := 18) C dX6_copies_17 rfl rfl ?_
    refine g_iload (pc' := 20) C dX6_copies_18 rfl rfl ?_
    refine g_iadd (pc' := 21) C dX6_copies_20 rfl ?_
    refine g_iald (pc' := 22) (i := 0) (j := 2) C rfl rfl dX6_copies_21 rfl h (fun h => ?_)
    refine g_iast (pc' := 23) (i := 0) (j := 1) (w' := mdW (gcA X) a (va_up M 0 (upd (M 0) (p3 + x4).toNatClampNeg (M 1 (p1 + x4).toNatClampNeg)))) C rfl rfl rfl dX6_copies_22 rfl h (fun h => ?_)
    show G X _ [mdW (gcA X) a (va_up M 0 (upd (M 0) (p3 + x4).toNatClampNeg (M 1 (p1 + x4).toNatClampNeg)))] _ _ _
    refine g_iinc (pc' := 26) (v := (x4 + 1)) C dX6_copies_23 rfl rfl rfl (L' := [some (.ref (a 2)), some (.int p1), some (.ref (a 1)), some (.int p3), some (.int (x4 + 1))]) rfl ?_
    refine g_goto (pc' := 3) C dX6_copies_26 (by decide) ?_
    exact G_loc (lle_s (lle_s (lle_s (lle_s (lle_s lle_0))))) (hk3 (x4 + 1) (va_up M 0 (upd (M 0) (p3 + x4).toNatClampNeg (M 1 (p1 + x4).toNatClampNeg))) h)
set_option maxRecDepth 100000 in
set_option maxHeartbeats 4000000 in
theorem L_X6_copies_1_0_3 {X : gX} (C : cx X RX6 cX6_copies 5 none wsX6_copies 0 0) (a : Nat → Nat) (N : Nat) (p1 : Int32) (p3 : Int32) (Mz : tS)  : ∀ (n : Nat) (x4 : Int32) (M : tS), f_X6_copies_1_0_3 N p1 p3  n x4 M = some Mz → G X (QV X [mdW (gcA X) a Mz]) [mdW (gcA X) a M] [some (.ref (a 2)), some (.int p1), some (.ref (a 1)), some (.int p3), some (.int x4)] [] 3 := by
  intro n
  induction n with
  | zero => intro x4 M h; have h : (none : Option (tS)) = some Mz := h; cases h
  | succ n ih => intro x4 M h; exact B_X6_copies_1_0_3b C a N p1 p3 Mz  (f_X6_copies_1_0_3 N p1 p3  n) ih x4 M h
def f_X6_copies_1_0 (N : Nat) (M : tS) (p1 : Int32) (p3 : Int32) : Option (tS) := f_X6_copies_1_0_3 N p1 p3 N (0 : Int32) M
set_option maxRecDepth 100000 in
set_option maxHeartbeats 4000000 in
theorem B_X6_copies_1_0 {X : gX} (C : cx X RX6 cX6_copies 5 none wsX6_copies 0 0) (a : Nat → Nat) (N : Nat) (M : tS) (p1 : Int32) (p3 : Int32) (Mz : tS) (h : f_X6_copies_1_0 N M p1 p3 = some Mz) : G X (QV X [mdW (gcA X) a Mz]) [mdW (gcA X) a M] [some (.ref (a 2)), some (.int p1), some (.ref (a 1)), some (.int p3), none] [] 0 := by
  unfold f_X6_copies_1_0 at h
  refine g_iconst (pc' := 1) (v := 0) C dX6_copies_0 (by decide) rfl ?_
  refine g_istore (pc' := 3) C dX6_copies_1 (Nat.le_of_ble_eq_true rfl) rfl (L' := [some (.ref (a 2)), some (.int p1), some (.ref (a 1)), some (.int p3), some (.int (0 : Int32))]) rfl ?_
  exact G_loc (lle_s (lle_s (lle_s (lle_s (lle_s lle_0))))) (L_X6_copies_1_0_3 C a N p1 p3 Mz N (0 : Int32) M h)
set_option maxRecDepth 100000 in
set_option maxHeartbeats 4000000 in
theorem c_X6_copies_1_0 (l : Launch) (D : va_G) (cA : Nat → ClassId) (a : Nat → Nat) (N : Nat) (M : tS) (p1 : Int32) (p3 : Int32) (Mz : tS) (h : f_X6_copies_1_0 N M p1 p3 = some Mz) : MV l D cA yX6_copies wsX6_copies 0 0 [.ref (a 2), .int p1, .ref (a 1), .int p3] [mdW cA a M]  [mdW cA a Mz] := MV_of (cc := cX6_copies) (maxL := 5) (by decide +kernel) rfl (List.forall_mem_cons.mpr ⟨rfl, List.forall_mem_cons.mpr ⟨rfl, List.forall_mem_cons.mpr ⟨rfl, List.forall_mem_cons.mpr ⟨rfl, List.forall_mem_nil _⟩⟩⟩⟩) (Nat.le_of_ble_eq_true rfl) (fun X e1 e2 e3 C => by subst e1; subst e2; subst e3; exact B_X6_copies_1_0 C a N M p1 p3 Mz h)
set_option maxRecDepth 100000 in
set_option maxHeartbeats 4000000 in
theorem nd_X6_copies_1_0 : nd yX6_copies 4 := ⟨by decide +kernel, by decide +kernel, by decide +kernel⟩
set_option maxRecDepth 100000 in
set_option maxHeartbeats 4000000 in
theorem k_X6_copies_1_0 {X : gX} {own : String} {cc : ByteArray} {nL : Nat} {ret : Option FieldType} {Ts : List Cond} {fr lm : Nat} {Q : State → Prop} {ms : List va_W} {L : List (Option Value)} {st : List Value} {pc pc' idx : Nat} {ρ : Type} {T : tS → Option ρ} {res : ρ} (C : cx X own cc nL ret Ts fr lm) (a : Nat → Nat) (N : Nat) (M : tS) (p1 : Int32) (p3 : Int32) (is : List Nat) (hC : is.map (fun i => ms[i]?) = [some (mdW (gcA X) a M)]) (hn : is.Nodup) (hG : GoodIn Ts (va_wsS own idx yX6_copies wsX6_copies)) (hR : 0 + 1 ≤ fr ∧ 8 + (5 + 11) + 0 ≤ lm) (hst : (st.map fun v => v.category).sum ≤ 8) (hLn : L.length = nL) (d : decode cc pc = .ok (.invokestatic idx, 3)) (hp : pc + 3 = pc') (h : bd (f_X6_copies_1_0 N M p1 p3) T = some res) (kk : ∀ (Mz : tS), T Mz = some res → G X Q (rpl ms is [mdW (gcA X) a Mz]) L (st) pc') : G X Q ms L (.int p3 :: .ref (a 1) :: .int p1 :: .ref (a 2) :: st) pc := by
  obtain ⟨Mz, h1, h⟩ := ob h
  exact G_callSV C (As := [.ref (a 2), .int p1, .ref (a 1), .int p3]) (c_X6_copies_1_0 (gl X) (gD X) (gcA X) a N M p1 p3 Mz h1) hG rfl nd_X6_copies_1_0 hR hC hn rfl rfl hst hLn d hp (kk Mz h)
def f_X6_copies_0_3_3b (N : Nat) (p1 : Int32) (p3 : Int32)  (k3 : Int32 → tS → Option (tS)) (x4 : Int32) (M : tS) : Option (tS) := (if (233 : Int32) ≤ x4 then some M else (if (p1 + x4) < 0 ∨ 233 ≤ (p1 + x4).toNatClampNeg then none else (if (p3 + x4) < 0 ∨ 233 ≤ (p3 + x4).toNatClampNeg then none else k3 (x4 + 1) (va_up M 3 (upd (M 3) (p3 + x4).toNatClampNeg (M 0 (p1 + x4).toNatClampNeg))))))
def f_X6_copies_0_3_3 (N : Nat) (p1 : Int32) (p3 : Int32)  : Nat → Int32 → tS → Option (tS)
  | 0 => fun _ _ => none
  | n + 1 => f_X6_copies_0_3_3b N p1 p3  (f_X6_copies_0_3_3 N p1 p3  n)
set_option maxRecDepth 100000 in
set_option maxHeartbeats 4000000 in
theorem B_X6_copies_0_3_3b {X : gX} (C : cx X RX6 cX6_copies 5 none wsX6_copies 0 0) (a : Nat → Nat) (N : Nat) (p1 : Int32) (p3 : Int32) (Mz : tS)  (k3 : Int32 → tS → Option (tS)) (hk3 : ∀ (x4 : Int32) (M : tS), k3 x4 M = some Mz → G X (QV X [mdW (gcA X) a Mz]) [mdW (gcA X) a M] [some (.ref (a 1)), some (.int p1), some (.ref (a 4)), some (.int p3), some (.int x4)] [] 3) (x4 : Int32) (M : tS) (h : f_X6_copies_0_3_3b N p1 p3  k3 x4 M = some Mz) : G X (QV X [mdW (gcA X) a Mz]) [mdW (gcA X) a M] [some (.ref (a 1)), some (.int p1), some (.ref (a 4)), some (.int p3), some (.int x4)] [] 3 := by
  unfold f_X6_copies_0_3_3b at h
  refine g_iload (pc' := 5) C dX6_copies_3 rfl rfl ?_
  refine g_sipush (pc' := 8) (v := 233) C dX6_copies_5 (by decide) rfl ?_
  refine g_icmp_ge (pc' := 11) (tgt := 29) C dX6_copies_8 (by decide) rfl h (fun c h => ?_) (fun c h => ?_)
  · obtain rfl := Option.some.inj h
    exact g_vret C dX6_copies_29
  · refine g_aload_n (pc' := 12) C dX6_copies_11 rfl rfl ?_
    refine g_iload_n (pc' := 13) C dX6_copies_12 rfl rfl ?_
    refine g_iload (pc' := 15) C dX6_copies_13 rfl rfl ?_
    refine g_iadd (pc' := 16) C dX6_copies_15 rfl ?_
    refine g_aload_n (pc' := 17) C dX6_copies_16 rfl rfl ?_
    refine g_iload_n (pc' := 18) C dX6_copies_17 rfl rfl ?_
    refine g_iload (pc' := 20) C dX6_copies_18 rfl rfl ?_
    refine g_iadd (pc' := 21) C dX6_copies_20 rfl ?_
    refine g_iald (pc' := 22) (i := 0) (j := 1) C rfl rfl dX6_copies_21 rfl h (fun h => ?_)
    refine g_iast (pc' := 23) (i := 0) (j := 3) (w' := mdW (gcA X) a (va_up M 3 (upd (M 3) (p3 + x4).toNatClampNeg (M 0 (p1 + x4).toNatClampNeg)))) C rfl rfl rfl dX6_copies_22 rfl h (fun h => ?_)
    show G X _ [mdW (gcA X) a (va_up M 3 (upd (M 3) (p3 + x4).toNatClampNeg (M 0 (p1 + x4).toNatClampNeg)))] _ _ _
    refine g_iinc (pc' := 26) (v := (x4 + 1)) C dX6_copies_23 rfl rfl rfl (L' := [some (.ref (a 1)), some (.int p1), some (.ref (a 4)), some (.int p3), some (.int (x4 + 1))]) rfl ?_
    refine g_goto (pc' := 3) C dX6_copies_26 (by decide) ?_
    exact G_loc (lle_s (lle_s (lle_s (lle_s (lle_s lle_0))))) (hk3 (x4 + 1) (va_up M 3 (upd (M 3) (p3 + x4).toNatClampNeg (M 0 (p1 + x4).toNatClampNeg))) h)
set_option maxRecDepth 100000 in
set_option maxHeartbeats 4000000 in
theorem L_X6_copies_0_3_3 {X : gX} (C : cx X RX6 cX6_copies 5 none wsX6_copies 0 0) (a : Nat → Nat) (N : Nat) (p1 : Int32) (p3 : Int32) (Mz : tS)  : ∀ (n : Nat) (x4 : Int32) (M : tS), f_X6_copies_0_3_3 N p1 p3  n x4 M = some Mz → G X (QV X [mdW (gcA X) a Mz]) [mdW (gcA X) a M] [some (.ref (a 1)), some (.int p1), some (.ref (a 4)), some (.int p3), some (.int x4)] [] 3 := by
  intro n
  induction n with
  | zero => intro x4 M h; have h : (none : Option (tS)) = some Mz := h; cases h
  | succ n ih => intro x4 M h; exact B_X6_copies_0_3_3b C a N p1 p3 Mz  (f_X6_copies_0_3_3 N p1 p3  n) ih x4 M h
def f_X6_copies_0_3 (N : Nat) (M : tS) (p1 : Int32) (p3 : Int32) : Option (tS) := f_X6_copies_0_3_3 N p1 p3 N (0 : Int32) M
set_option maxRecDepth 100000 in
set_option maxHeartbeats 4000000 in
theorem B_X6_copies_0_3 {X : gX} (C : cx X RX6 cX6_copies 5 none wsX6_copies 0 0) (a : Nat → Nat) (N : Nat) (M : tS) (p1 : Int32) (p3 : Int32) (Mz : tS) (h : f_X6_copies_0_3 N M p1 p3 = some Mz) : G X (QV X [mdW (gcA X) a Mz]) [mdW (gcA X) a M] [some (.ref (a 1)), some (.int p1), some (.ref (a 4)), some (.int p3), none] [] 0 := by
  unfold f_X6_copies_0_3 at h
  refine g_iconst (pc' := 1) (v := 0) C dX6_copies_0 (by decide) rfl ?_
  refine g_istore (pc' := 3) C dX6_copies_1 (Nat.le_of_ble_eq_true rfl) rfl (L' := [some (.ref (a 1)), some (.int p1), some (.ref (a 4)), some (.int p3), some (.int (0 : Int32))]) rfl ?_
  exact G_loc (lle_s (lle_s (lle_s (lle_s (lle_s lle_0))))) (L_X6_copies_0_3_3 C a N p1 p3 Mz N (0 : Int32) M h)
set_option maxRecDepth 100000 in
set_option maxHeartbeats 4000000 in
theorem c_X6_copies_0_3 (l : Launch) (D : va_G) (cA : Nat → ClassId) (a : Nat → Nat) (N : Nat) (M : tS) (p1 : Int32) (p3 : Int32) (Mz : tS) (h : f_X6_copies_0_3 N M p1 p3 = some Mz) : MV l D cA yX6_copies wsX6_copies 0 0 [.ref (a 1), .int p1, .ref (a 4), .int p3] [mdW cA a M]  [mdW cA a Mz] := MV_of (cc := cX6_copies) (maxL := 5) (by decide +kernel) rfl (List.forall_mem_cons.mpr ⟨rfl, List.forall_mem_cons.mpr ⟨rfl, List.forall_mem_cons.mpr ⟨rfl, List.forall_mem_cons.mpr ⟨rfl, List.forall_mem_nil _⟩⟩⟩⟩) (Nat.le_of_ble_eq_true rfl) (fun X e1 e2 e3 C => by subst e1; subst e2; subst e3; exact B_X6_copies_0_3 C a N M p1 p3 Mz h)
set_option maxRecDepth 100000 in
set_option maxHeartbeats 4000000 in
theorem nd_X6_copies_0_3 : nd yX6_copies 4 := ⟨by decide +kernel, by decide +kernel, by decide +kernel⟩
set_option maxRecDepth 100000 in
set_option maxHeartbeats 4000000 in
theorem k_X6_copies_0_3 {X : gX} {own : String} {cc : ByteArray} {nL : Nat} {ret : Option FieldType} {Ts : List Cond} {fr lm : Nat} {Q : State → Prop} {ms : List va_W} {L : List (Option Value)} {st : List Value} {pc pc' idx : Nat} {ρ : Type} {T : tS → Option ρ} {res : ρ} (C : cx X own cc nL ret Ts fr lm) (a : Nat → Nat) (N : Nat) (M : tS) (p1 : Int32) (p3 : Int32) (is : List Nat) (hC : is.map (fun i => ms[i]?) = [some (mdW (gcA X) a M)]) (hn : is.Nodup) (hG : GoodIn Ts (va_wsS own idx yX6_copies wsX6_copies)) (hR : 0 + 1 ≤ fr ∧ 8 + (5 + 11) + 0 ≤ lm) (hst : (st.map fun v => v.category).sum ≤ 8) (hLn : L.length = nL) (d : decode cc pc = .ok (.invokestatic idx, 3)) (hp : pc + 3 = pc') (h : bd (f_X6_copies_0_3 N M p1 p3) T = some res) (kk : ∀ (Mz : tS), T Mz = some res → G X Q (rpl ms is [mdW (gcA X) a Mz]) L (st) pc') : G X Q ms L (.int p3 :: .ref (a 4) :: .int p1 :: .ref (a 1) :: st) pc := by
  obtain ⟨Mz, h1, h⟩ := ob h
  exact G_callSV C (As := [.ref (a 1), .int p1, .ref (a 4), .int p3]) (c_X6_copies_0_3 (gl X) (gD X) (gcA X) a N M p1 p3 Mz h1) hG rfl nd_X6_copies_0_3 hR hC hn rfl rfl hst hLn d hp (kk Mz h)
def f_X6_copies_3_0_3b (N : Nat) (p1 : Int32) (p3 : Int32)  (k3 : Int32 → tS → Option (tS)) (x4 : Int32) (M : tS) : Option (tS) := (if (233 : Int32) ≤ x4 then some M else (if (p1 + x4) < 0 ∨ 233 ≤ (p1 + x4).toNatClampNeg then none else (if (p3 + x4) < 0 ∨ 233 ≤ (p3 + x4).toNatClampNeg then none else k3 (x4 + 1) (va_up M 0 (upd (M 0) (p3 + x4).toNatClampNeg (M 3 (p1 + x4).toNatClampNeg))))))
def f_X6_copies_3_0_3 (N : Nat) (p1 : Int32) (p3 : Int32)  : Nat → Int32 → tS → Option (tS)
  | 0 => fun _ _ => none
  | n + 1 => f_X6_copies_3_0_3b N p1 p3  (f_X6_copies_3_0_3 N p1 p3  n)
set_option maxRecDepth 100000 in
set_option maxHeartbeats 4000000 in
theorem B_X6_copies_3_0_3b {X : gX} (C : cx X RX6 cX6_copies 5 none wsX6_copies 0 0) (a : Nat → Nat) (N : Nat) (p1 : Int32) (p3 : Int32) (Mz : tS)  (k3 : Int32 → tS → Option (tS)) (hk3 : ∀ (x4 : Int32) (M : tS), k3 x4 M = some Mz → G X (QV X [mdW (gcA X) a Mz]) [mdW (gcA X) a M] [some (.ref (a 4)), some (.int p1), some (.ref (a 1)), some (.int p3), some (.int x4)] [] 3) (x4 : Int32) (M : tS) (h : f_X6_copies_3_0_3b N p1 p3  k3 x4 M = some Mz) : G X (QV X [mdW (gcA X) a Mz]) [mdW (gcA X) a M] [some (.ref (a 4)), some (.int p1), some (.ref (a 1)), some (.int p3), some (.int x4)] [] 3 := by
  unfold f_X6_copies_3_0_3b at h
  refine g_iload (pc' := 5) C dX6_copies_3 rfl rfl ?_
  refine g_sipush (pc' := 8) (v := 233) C dX6_copies_5 (by decide) rfl ?_
  refine g_icmp_ge (pc' := 11) (tgt := 29) C dX6_copies_8 (by decide) rfl h (fun c h => ?_) (fun c h => ?_)
  · obtain rfl := Option.some.inj h
    exact g_vret C dX6_copies_29
  · refine g_aload_n (pc' := 12) C dX6_copies_11 rfl rfl ?_
    refine g_iload_n (pc' := 13) C dX6_copies_12 rfl rfl ?_
    refine g_iload (pc' := 15) C dX6_copies_13 rfl rfl ?_
    refine g_iadd (pc' := 16) C dX6_copies_15 rfl ?_
    refine g_aload_n (pc' := 17) C dX6_copies_16 rfl rfl ?_
    refine g_iload_n (pc' := 18) C dX6_copies_17 rfl rfl ?_
    refine g_iload (pc' := 20) C dX6_copies_18 rfl rfl ?_
    refine g_iadd (pc' := 21) C dX6_copies_20 rfl ?_
    refine g_iald (pc' := 22) (i := 0) (j := 3) C rfl rfl dX6_copies_21 rfl h (fun h => ?_)
    refine g_iast (pc' := 23) (i := 0) (j := 1) (w' := mdW (gcA X) a (va_up M 0 (upd (M 0) (p3 + x4).toNatClampNeg (M 3 (p1 + x4).toNatClampNeg)))) C rfl rfl rfl dX6_copies_22 rfl h (fun h => ?_)
    show G X _ [mdW (gcA X) a (va_up M 0 (upd (M 0) (p3 + x4).toNatClampNeg (M 3 (p1 + x4).toNatClampNeg)))] _ _ _
    refine g_iinc (pc' := 26) (v := (x4 + 1)) C dX6_copies_23 rfl rfl rfl (L' := [some (.ref (a 4)), some (.int p1), some (.ref (a 1)), some (.int p3), some (.int (x4 + 1))]) rfl ?_
    refine g_goto (pc' := 3) C dX6_copies_26 (by decide) ?_
    exact G_loc (lle_s (lle_s (lle_s (lle_s (lle_s lle_0))))) (hk3 (x4 + 1) (va_up M 0 (upd (M 0) (p3 + x4).toNatClampNeg (M 3 (p1 + x4).toNatClampNeg))) h)
set_option maxRecDepth 100000 in
set_option maxHeartbeats 4000000 in
theorem L_X6_copies_3_0_3 {X : gX} (C : cx X RX6 cX6_copies 5 none wsX6_copies 0 0) (a : Nat → Nat) (N : Nat) (p1 : Int32) (p3 : Int32) (Mz : tS)  : ∀ (n : Nat) (x4 : Int32) (M : tS), f_X6_copies_3_0_3 N p1 p3  n x4 M = some Mz → G X (QV X [mdW (gcA X) a Mz]) [mdW (gcA X) a M] [some (.ref (a 4)), some (.int p1), some (.ref (a 1)), some (.int p3), some (.int x4)] [] 3 := by
  intro n
  induction n with
  | zero => intro x4 M h; have h : (none : Option (tS)) = some Mz := h; cases h
  | succ n ih => intro x4 M h; exact B_X6_copies_3_0_3b C a N p1 p3 Mz  (f_X6_copies_3_0_3 N p1 p3  n) ih x4 M h
def f_X6_copies_3_0 (N : Nat) (M : tS) (p1 : Int32) (p3 : Int32) : Option (tS) := f_X6_copies_3_0_3 N p1 p3 N (0 : Int32) M
set_option maxRecDepth 100000 in
set_option maxHeartbeats 4000000 in
theorem B_X6_copies_3_0 {X : gX} (C : cx X RX6 cX6_copies 5 none wsX6_copies 0 0) (a : Nat → Nat) (N : Nat) (M : tS) (p1 : Int32) (p3 : Int32) (Mz : tS) (h : f_X6_copies_3_0 N M p1 p3 = some Mz) : G X (QV X [mdW (gcA X) a Mz]) [mdW (gcA X) a M] [some (.ref (a 4)), some (.int p1), some (.ref (a 1)), some (.int p3), none] [] 0 := by
  unfold f_X6_copies_3_0 at h
  refine g_iconst (pc' := 1) (v := 0) C dX6_copies_0 (by decide) rfl ?_
  refine g_istore (pc' := 3) C dX6_copies_1 (Nat.le_of_ble_eq_true rfl) rfl (L' := [some (.ref (a 4)), some (.int p1), some (.ref (a 1)), some (.int p3), some (.int (0 : Int32))]) rfl ?_
  exact G_loc (lle_s (lle_s (lle_s (lle_s (lle_s lle_0))))) (L_X6_copies_3_0_3 C a N p1 p3 Mz N (0 : Int32) M h)
set_option maxRecDepth 100000 in
set_option maxHeartbeats 4000000 in
theorem c_X6_copies_3_0 (l : Launch) (D : va_G) (cA : Nat → ClassId) (a : Nat → Nat) (N : Nat) (M : tS) (p1 : Int32) (p3 : Int32) (Mz : tS) (h : f_X6_copies_3_0 N M p1 p3 = some Mz) : MV l D cA yX6_copies wsX6_copies 0 0 [.ref (a 4), .int p1, .ref (a 1), .int p3] [mdW cA a M]  [mdW cA a Mz] := MV_of (cc := cX6_copies) (maxL := 5) (by decide +kernel) rfl (List.forall_mem_cons.mpr ⟨rfl, List.forall_mem_cons.mpr ⟨rfl, List.forall_mem_cons.mpr ⟨rfl, List.forall_mem_cons.mpr ⟨rfl, List.forall_mem_nil _⟩⟩⟩⟩) (Nat.le_of_ble_eq_true rfl) (fun X e1 e2 e3 C => by subst e1; subst e2; subst e3; exact B_X6_copies_3_0 C a N M p1 p3 Mz h)
set_option maxRecDepth 100000 in
set_option maxHeartbeats 4000000 in
theorem nd_X6_copies_3_0 : nd yX6_copies 4 := ⟨by decide +kernel, by decide +kernel, by decide +kernel⟩
set_option maxRecDepth 100000 in
set_option maxHeartbeats 4000000 in
theorem k_X6_copies_3_0 {X : gX} {own : String} {cc : ByteArray} {nL : Nat} {ret : Option FieldType} {Ts : List Cond} {fr lm : Nat} {Q : State → Prop} {ms : List va_W} {L : List (Option Value)} {st : List Value} {pc pc' idx : Nat} {ρ : Type} {T : tS → Option ρ} {res : ρ} (C : cx X own cc nL ret Ts fr lm) (a : Nat → Nat) (N : Nat) (M : tS) (p1 : Int32) (p3 : Int32) (is : List Nat) (hC : is.map (fun i => ms[i]?) = [some (mdW (gcA X) a M)]) (hn : is.Nodup) (hG : GoodIn Ts (va_wsS own idx yX6_copies wsX6_copies)) (hR : 0 + 1 ≤ fr ∧ 8 + (5 + 11) + 0 ≤ lm) (hst : (st.map fun v => v.category).sum ≤ 8) (hLn : L.length = nL) (d : decode cc pc = .ok (.invokestatic idx, 3)) (hp : pc + 3 = pc') (h : bd (f_X6_copies_3_0 N M p1 p3) T = some res) (kk : ∀ (Mz : tS), T Mz = some res → G X Q (rpl ms is [mdW (gcA X) a Mz]) L (st) pc') : G X Q ms L (.int p3 :: .ref (a 1) :: .int p1 :: .ref (a 4) :: st) pc := by
  obtain ⟨Mz, h1, h⟩ := ob h
  exact G_callSV C (As := [.ref (a 4), .int p1, .ref (a 1), .int p3]) (c_X6_copies_3_0 (gl X) (gD X) (gcA X) a N M p1 p3 Mz h1) hG rfl nd_X6_copies_3_0 hR hC hn rfl rfl hst hLn d hp (kk Mz h)
theorem hi_X6_records_X6 : ∀ w ∈ wsX60, w ∈ wsX6_records := fun w h => List.mem_cons_of_mem _ (List.mem_append_right _ h)
theorem lk_X6_records_1 : Cond.fieldLink RX6 35 "NoteThemesModel" "known" "I" ∈ wsX6_records := List.mem_of_getElem? (i := 1) rfl
theorem lk_X6_records_2 : Cond.fieldLink RX6 13 "NoteThemesModel" "past" "[I" ∈ wsX6_records := List.mem_of_getElem? (i := 2) rfl
theorem lk_X6_records_3 : Cond.fieldLink RX6 7 "NoteThemesModel" "s" "[I" ∈ wsX6_records := List.mem_of_getElem? (i := 3) rfl
def f_X6_records_49 (N : Nat)   (M : tS) : Option (tS) := (bd (f_X6_copies_0_1 N M (0 : Int32) ((233 : Int32) * (M 2 0))) (fun M1 => some (va_up M1 2 (fun _ => ((M1 2 0) + (1 : Int32))))))
set_option maxRecDepth 100000 in
set_option maxHeartbeats 4000000 in
theorem B_X6_records_49 {X : gX} (C : cx X RX6 cX6_records 2 none wsX6_records 1 24) (a : Nat → Nat) (N : Nat)  (Mz : tS)  (M : tS) (h : f_X6_records_49 N  M = some Mz) : G X (QV X [mdW (gcA X) a Mz]) [mdW (gcA X) a M] [some (.ref (a 0)), none] [] 49 := by
  unfold f_X6_records_49 at h
  refine g_aload_n (pc' := 50) C dX6_records_49 rfl rfl ?_
  refine gg_X6_0 (pc' := 53) (i := 0) C rfl hi_X6_records_X6 lk_X6_records_3 dX6_records_50 rfl ?_
  refine g_iconst (pc' := 54) (v := 0) C dX6_records_53 (by decide) rfl ?_
  refine g_aload_n (pc' := 55) C dX6_records_54 rfl rfl ?_
  refine gg_X6_1 (pc' := 58) (i := 0) C rfl hi_X6_records_X6 lk_X6_records_2 dX6_records_55 rfl ?_
  refine g_sipush (pc' := 61) (v := 233) C dX6_records_58 (by decide) rfl ?_
  refine g_aload_n (pc' := 62) C dX6_records_61 rfl rfl ?_
  refine gg_X6_2 (pc' := 65) (i := 0) C rfl hi_X6_records_X6 lk_X6_records_1 dX6_records_62 rfl ?_
  refine g_imul (pc' := 66) C dX6_records_65 rfl ?_
  refine k_X6_copies_0_1 (pc' := 69) C a N M (0 : Int32) ((233 : Int32) * (M 2 0)) [0] rfl (by decide) gX6_records_X6_copies ⟨Nat.le_of_ble_eq_true rfl, Nat.le_of_ble_eq_true rfl⟩ (Nat.le_of_ble_eq_true rfl) rfl dX6_records_66 rfl h (fun M1 h => ?_)
  show G X _ [mdW (gcA X) a M1] _ _ _
  refine g_aload_n (pc' := 70) C dX6_records_69 rfl rfl ?_
  refine g_dup (pc' := 71) C dX6_records_70 rfl rfl ?_
  refine gg_X6_2 (pc' := 74) (i := 0) C rfl hi_X6_records_X6 lk_X6_records_1 dX6_records_71 rfl ?_
  refine g_iconst (pc' := 75) (v := 1) C dX6_records_74 (by decide) rfl ?_
  refine g_iadd (pc' := 76) C dX6_records_75 rfl ?_
  refine gp_X6_2 (pc' := 79) (i := 0) C rfl hi_X6_records_X6 lk_X6_records_1 dX6_records_76 rfl ?_
  show G X _ [mdW (gcA X) a (va_up M1 2 (fun _ => ((M1 2 0) + (1 : Int32))))] _ _ _
  obtain rfl := Option.some.inj h
  exact g_vret C dX6_records_79
def f_X6_records_10b (N : Nat)   (k10 : Int32 → tS → Option (tS)) (x1 : Int32) (M : tS) : Option (tS) := (if (699 : Int32) ≤ x1 then f_X6_records_49 N (va_up M 2 (fun _ => ((M 2 0) - (1 : Int32)))) else (if (x1 + (233 : Int32)) < 0 ∨ 932 ≤ (x1 + (233 : Int32)).toNatClampNeg then none else (if x1 < 0 ∨ 932 ≤ x1.toNatClampNeg then none else k10 (x1 + 1) (va_up M 1 (upd (M 1) x1.toNatClampNeg (M 1 (x1 + (233 : Int32)).toNatClampNeg))))))
def f_X6_records_10 (N : Nat)   : Nat → Int32 → tS → Option (tS)
  | 0 => fun _ _ => none
  | n + 1 => f_X6_records_10b N  (f_X6_records_10 N  n)
set_option maxRecDepth 100000 in
set_option maxHeartbeats 4000000 in
theorem B_X6_records_10b {X : gX} (C : cx X RX6 cX6_records 2 none wsX6_records 1 24) (a : Nat → Nat) (N : Nat)  (Mz : tS)  (k10 : Int32 → tS → Option (tS)) (hk10 : ∀ (x1 : Int32) (M : tS), k10 x1 M = some Mz → G X (QV X [mdW (gcA X) a Mz]) [mdW (gcA X) a M] [some (.ref (a 0)), some (.int x1)] [] 10) (x1 : Int32) (M : tS) (h : f_X6_records_10b N  k10 x1 M = some Mz) : G X (QV X [mdW (gcA X) a Mz]) [mdW (gcA X) a M] [some (.ref (a 0)), some (.int x1)] [] 10 := by
  unfold f_X6_records_10b at h
  refine g_iload_n (pc' := 11) C dX6_records_10 rfl rfl ?_
  refine g_sipush (pc' := 14) (v := 699) C dX6_records_11 (by decide) rfl ?_
  refine g_icmp_ge (pc' := 17) (tgt := 39) C dX6_records_14 (by decide) rfl h (fun c h => ?_) (fun c h => ?_)
  · refine g_aload_n (pc' := 40) C dX6_records_39 rfl rfl ?_
    refine g_dup (pc' := 41) C dX6_records_40 rfl rfl ?_
    refine gg_X6_2 (pc' := 44) (i := 0) C rfl hi_X6_records_X6 lk_X6_records_1 dX6_records_41 rfl ?_
    refine g_iconst (pc' := 45) (v := 1) C dX6_records_44 (by decide) rfl ?_
    refine g_isub (pc' := 46) C dX6_records_45 rfl ?_
    refine gp_X6_2 (pc' := 49) (i := 0) C rfl hi_X6_records_X6 lk_X6_records_1 dX6_records_46 rfl ?_
    show G X _ [mdW (gcA X) a (va_up M 2 (fun _ => ((M 2 0) - (1 : Int32))))] _ _ _
    exact G_loc (lle_s (lle_n lle_0)) (B_X6_records_49 C a N Mz (va_up M 2 (fun _ => ((M 2 0) - (1 : Int32)))) h)
  · refine g_aload_n (pc' := 18) C dX6_records_17 rfl rfl ?_
    refine gg_X6_1 (pc' := 21) (i := 0) C rfl hi_X6_records_X6 lk_X6_records_2 dX6_records_18 rfl ?_
    refine g_iload_n (pc' := 22) C dX6_records_21 rfl rfl ?_
    refine g_aload_n (pc' := 23) C dX6_records_22 rfl rfl ?_
    refine gg_X6_1 (pc' := 26) (i := 0) C rfl hi_X6_records_X6 lk_X6_records_2 dX6_records_23 rfl ?_
    refine g_iload_n (pc' := 27) C dX6_records_26 rfl rfl ?_
    refine g_sipush (pc' := 30) (v := 233) C dX6_records_27 (by decide) rfl ?_
    refine g_iadd (pc' := 31) C dX6_records_30 rfl ?_
    refine g_iald (pc' := 32) (i := 0) (j := 2) C rfl rfl dX6_records_31 rfl h (fun h => ?_)
    refine g_iast (pc' := 33) (i := 0) (j := 2) (w' := mdW (gcA X) a (va_up M 1 (upd (M 1) x1.toNatClampNeg (M 1 (x1 + (233 : Int32)).toNatClampNeg)))) C rfl rfl rfl dX6_records_32 rfl h (fun h => ?_)
    show G X _ [mdW (gcA X) a (va_up M 1 (upd (M 1) x1.toNatClampNeg (M 1 (x1 + (233 : Int32)).toNatClampNeg)))] _ _ _
    refine g_iinc (pc' := 36) (v := (x1 + 1)) C dX6_records_33 rfl rfl rfl (L' := [some (.ref (a 0)), some (.int (x1 + 1))]) rfl ?_
    refine g_goto (pc' := 10) C dX6_records_36 (by decide) ?_
    exact G_loc (lle_s (lle_s lle_0)) (hk10 (x1 + 1) (va_up M 1 (upd (M 1) x1.toNatClampNeg (M 1 (x1 + (233 : Int32)).toNatClampNeg))) h)
set_option maxRecDepth 100000 in
set_option maxHeartbeats 4000000 in
theorem L_X6_records_10 {X : gX} (C : cx X RX6 cX6_records 2 none wsX6_records 1 24) (a : Nat → Nat) (N : Nat)  (Mz : tS)  : ∀ (n : Nat) (x1 : Int32) (M : tS), f_X6_records_10 N  n x1 M = some Mz → G X (QV X [mdW (gcA X) a Mz]) [mdW (gcA X) a M] [some (.ref (a 0)), some (.int x1)] [] 10 := by
  intro n
  induction n with
  | zero => intro x1 M h; have h : (none : Option (tS)) = some Mz := h; cases h
  | succ n ih => intro x1 M h; exact B_X6_records_10b C a N Mz  (f_X6_records_10 N  n) ih x1 M h
def f_X6_records (N : Nat) (M : tS)  : Option (tS) := (if (M 2 0) = (4 : Int32) then f_X6_records_10 N N (0 : Int32) M else f_X6_records_49 N M)
set_option maxRecDepth 100000 in
set_option maxHeartbeats 4000000 in
theorem B_X6_records {X : gX} (C : cx X RX6 cX6_records 2 none wsX6_records 1 24) (a : Nat → Nat) (N : Nat) (M : tS)  (Mz : tS) (h : f_X6_records N M = some Mz) : G X (QV X [mdW (gcA X) a Mz]) [mdW (gcA X) a M] [some (.ref (a 0)), none] [] 0 := by
  unfold f_X6_records at h
  refine g_aload_n (pc' := 1) C dX6_records_0 rfl rfl ?_
  refine gg_X6_2 (pc' := 4) (i := 0) C rfl hi_X6_records_X6 lk_X6_records_1 dX6_records_1 rfl ?_
  refine g_iconst (pc' := 5) (v := 4) C dX6_records_4 (by decide) rfl ?_
  refine g_icmp_ne (pc' := 8) (tgt := 49) C dX6_records_5 (by decide) rfl h (fun c h => ?_) (fun c h => ?_)
  · refine g_iconst (pc' := 9) (v := 0) C dX6_records_8 (by decide) rfl ?_
    refine g_istore_n (pc' := 10) C dX6_records_9 (Nat.le_of_ble_eq_true rfl) rfl (L' := [some (.ref (a 0)), some (.int (0 : Int32))]) rfl ?_
    exact G_loc (lle_s (lle_s lle_0)) (L_X6_records_10 C a N Mz N (0 : Int32) M h)
  · exact G_loc (lle_s (lle_n lle_0)) (B_X6_records_49 C a N Mz M h)
set_option maxRecDepth 100000 in
set_option maxHeartbeats 4000000 in
theorem c_X6_records (l : Launch) (D : va_G) (cA : Nat → ClassId) (a : Nat → Nat) (N : Nat) (M : tS)  (Mz : tS) (h : f_X6_records N M = some Mz) : MV l D cA yX6_records wsX6_records 1 24 [.ref (a 0)] [mdW cA a M]  [mdW cA a Mz] := MV_of (cc := cX6_records) (maxL := 2) (by decide +kernel) rfl (List.forall_mem_cons.mpr ⟨rfl, List.forall_mem_nil _⟩) (Nat.le_of_ble_eq_true rfl) (fun X e1 e2 e3 C => by subst e1; subst e2; subst e3; exact B_X6_records C a N M Mz h)
set_option maxRecDepth 100000 in
set_option maxHeartbeats 4000000 in
theorem nd_X6_records : nd yX6_records 0 := ⟨by decide +kernel, by decide +kernel, by decide +kernel⟩
set_option maxRecDepth 100000 in
set_option maxHeartbeats 4000000 in
theorem k_X6_records {X : gX} {own : String} {cc : ByteArray} {nL : Nat} {ret : Option FieldType} {Ts : List Cond} {fr lm : Nat} {Q : State → Prop} {ms : List va_W} {L : List (Option Value)} {st : List Value} {pc pc' idx : Nat} {ρ : Type} {T : tS → Option ρ} {res : ρ} (C : cx X own cc nL ret Ts fr lm) (a : Nat → Nat) (N : Nat) (M : tS)  (is : List Nat) (hC : is.map (fun i => ms[i]?) = [some (mdW (gcA X) a M)]) (hn : is.Nodup) (hG : GoodIn Ts (wsV own idx RX6 yX6_records wsX6_records)) (hR : 1 + 1 ≤ fr ∧ 8 + (2 + 11) + 24 ≤ lm) (hst : (st.map fun v => v.category).sum ≤ 8) (hLn : L.length = nL) (d : decode cc pc = .ok (.invokevirtual idx, 3)) (hp : pc + 3 = pc') (h : bd (f_X6_records N M) T = some res) (kk : ∀ (Mz : tS), T Mz = some res → G X Q (rpl ms is [mdW (gcA X) a Mz]) L (st) pc') : G X Q ms L (.ref (a 0) :: st) pc := by
  obtain ⟨Mz, h1, h⟩ := ob h
  exact G_callVV C (As := []) (c_X6_records (gl X) (gD X) (gcA X) a N M Mz h1) hG rfl nd_X6_records hR (q0 := 0) rfl rfl hC hn rfl rfl hst hLn d hp (kk Mz h)
theorem hi_X6_isNote_X6 : ∀ w ∈ wsX60, w ∈ wsX6_isNote := fun w h => List.mem_cons_of_mem _ (List.mem_append_right _ h)
theorem lk_X6_isNote_1 : Cond.fieldLink RX6 7 "NoteThemesModel" "s" "[I" ∈ wsX6_isNote := List.mem_of_getElem? (i := 1) rfl
def f_X6_isNote (N : Nat) (M : tS) (p0 : Int32) : Option (Int32) := (bd (f_X6_in N p0 (0 : Int32) ((M 0 (0 : Int32).toNatClampNeg) - (1 : Int32))) (fun r1 => (if ¬ (r1 = 0 ∨ r1 = 1) then none else some r1)))
set_option maxRecDepth 100000 in
set_option maxHeartbeats 4000000 in
theorem B_X6_isNote {X : gX} (C : cx X RX6 cX6_isNote 2 (some .boolean) wsX6_isNote 1 22) (a : Nat → Nat) (N : Nat) (M : tS) (p0 : Int32) (r : Int32) (h : f_X6_isNote N M p0 = some r) : G X (QI X r [mdW (gcA X) a M]) [mdW (gcA X) a M] [some (.ref (a 0)), some (.int p0)] [] 0 := by
  unfold f_X6_isNote at h
  refine g_iload_n (pc' := 1) C dX6_isNote_0 rfl rfl ?_
  refine g_iconst (pc' := 2) (v := 0) C dX6_isNote_1 (by decide) rfl ?_
  refine g_aload_n (pc' := 3) C dX6_isNote_2 rfl rfl ?_
  refine gg_X6_0 (pc' := 6) (i := 0) C rfl hi_X6_isNote_X6 lk_X6_isNote_1 dX6_isNote_3 rfl ?_
  refine g_iconst (pc' := 7) (v := 0) C dX6_isNote_6 (by decide) rfl ?_
  refine g_iald0 (pc' := 8) (i := 0) (j := 1) C rfl rfl dX6_isNote_7 rfl (by unfold vp_in; decide) ?_
  refine g_iconst (pc' := 9) (v := 1) C dX6_isNote_8 (by decide) rfl ?_
  refine g_isub (pc' := 10) C dX6_isNote_9 rfl ?_
  refine k_X6_in (pc' := 13) C N p0 (0 : Int32) ((M 0 (0 : Int32).toNatClampNeg) - (1 : Int32)) [] rfl (by decide) gX6_isNote_X6_in ⟨Nat.le_of_ble_eq_true rfl, Nat.le_of_ble_eq_true rfl⟩ (Nat.le_of_ble_eq_true rfl) rfl dX6_isNote_10 rfl h (fun r1 h => ?_)
  obtain ⟨hz, h⟩ := og h
  obtain rfl := Option.some.inj h
  exact g_zret0 C (zb hz) dX6_isNote_13
set_option maxRecDepth 100000 in
set_option maxHeartbeats 4000000 in
theorem c_X6_isNote (l : Launch) (D : va_G) (cA : Nat → ClassId) (a : Nat → Nat) (N : Nat) (M : tS) (p0 : Int32) (r : Int32) (h : f_X6_isNote N M p0 = some r) : MI l D cA yX6_isNote wsX6_isNote 1 22 [.ref (a 0), .int p0] [mdW cA a M] r [mdW cA a M] := MI_of (cc := cX6_isNote) (maxL := 2) (rt := some .boolean) (by decide +kernel) rfl (List.forall_mem_cons.mpr ⟨rfl, List.forall_mem_cons.mpr ⟨rfl, List.forall_mem_nil _⟩⟩) (Nat.le_of_ble_eq_true rfl) (fun X e1 e2 e3 C => by subst e1; subst e2; subst e3; exact B_X6_isNote C a N M p0 r h)
set_option maxRecDepth 100000 in
set_option maxHeartbeats 4000000 in
theorem nd_X6_isNote : nd yX6_isNote 1 := ⟨by decide +kernel, by decide +kernel, by decide +kernel⟩
set_option maxRecDepth 100000 in
set_option maxHeartbeats 4000000 in
theorem k_X6_isNote {X : gX} {own : String} {cc : ByteArray} {nL : Nat} {ret : Option FieldType} {Ts : List Cond} {fr lm : Nat} {Q : State → Prop} {ms : List va_W} {L : List (Option Value)} {st : List Value} {pc pc' idx : Nat} {ρ : Type} {T : Int32 → Option ρ} {res : ρ} (C : cx X own cc nL ret Ts fr lm) (a : Nat → Nat) (N : Nat) (M : tS) (p0 : Int32) (is : List Nat) (hC : is.map (fun i => ms[i]?) = [some (mdW (gcA X) a M)]) (hn : is.Nodup) (hG : GoodIn Ts (wsV own idx RX6 yX6_isNote wsX6_isNote)) (hR : 1 + 1 ≤ fr ∧ 8 + (2 + 11) + 22 ≤ lm) (hst : (st.map fun v => v.category).sum ≤ 8) (hLn : L.length = nL) (d : decode cc pc = .ok (.invokevirtual idx, 3)) (hp : pc + 3 = pc') (h : bd (f_X6_isNote N M p0) T = some res) (kk : ∀ (r : Int32), T r = some res → G X Q (ms) L (.int r :: st) pc') : G X Q ms L (.int p0 :: .ref (a 0) :: st) pc := by
  obtain ⟨r, h1, h⟩ := ob h
  exact G_callVI C (As := [.int p0]) (c_X6_isNote (gl X) (gD X) (gcA X) a N M p0 r h1) hG rfl nd_X6_isNote hR (q0 := 0) rfl rfl hC hn rfl rfl hst hLn d hp (G_ms (rpl_same (mc := [mdW (gcA X) a M]) hC) (kk r h))
theorem hi_X6_isTheme_X6 : ∀ w ∈ wsX60, w ∈ wsX6_isTheme := fun w h => List.mem_cons_of_mem _ (List.mem_append_right _ h)
theorem lk_X6_isTheme_1 : Cond.fieldLink RX6 7 "NoteThemesModel" "s" "[I" ∈ wsX6_isTheme := List.mem_of_getElem? (i := 1) rfl
def f_X6_isTheme (N : Nat) (M : tS) (p0 : Int32) : Option (Int32) := (bd (f_X6_in N p0 (0 : Int32) ((M 0 (1 : Int32).toNatClampNeg) - (1 : Int32))) (fun r1 => (if ¬ (r1 = 0 ∨ r1 = 1) then none else some r1)))
set_option maxRecDepth 100000 in
set_option maxHeartbeats 4000000 in
theorem B_X6_isTheme {X : gX} (C : cx X RX6 cX6_isTheme 2 (some .boolean) wsX6_isTheme 1 22) (a : Nat → Nat) (N : Nat) (M : tS) (p0 : Int32) (r : Int32) (h : f_X6_isTheme N M p0 = some r) : G X (QI X r [mdW (gcA X) a M]) [mdW (gcA X) a M] [some (.ref (a 0)), some (.int p0)] [] 0 := by
  unfold f_X6_isTheme at h
  refine g_iload_n (pc' := 1) C dX6_isTheme_0 rfl rfl ?_
  refine g_iconst (pc' := 2) (v := 0) C dX6_isTheme_1 (by decide) rfl ?_
  refine g_aload_n (pc' := 3) C dX6_isTheme_2 rfl rfl ?_
  refine gg_X6_0 (pc' := 6) (i := 0) C rfl hi_X6_isTheme_X6 lk_X6_isTheme_1 dX6_isTheme_3 rfl ?_
  refine g_iconst (pc' := 7) (v := 1) C dX6_isTheme_6 (by decide) rfl ?_
  refine g_iald0 (pc' := 8) (i := 0) (j := 1) C rfl rfl dX6_isTheme_7 rfl (by unfold vp_in; decide) ?_
  refine g_iconst (pc' := 9) (v := 1) C dX6_isTheme_8 (by decide) rfl ?_
  refine g_isub (pc' := 10) C dX6_isTheme_9 rfl ?_
  refine k_X6_in (pc' := 13) C N p0 (0 : Int32) ((M 0 (1 : Int32).toNatClampNeg) - (1 : Int32)) [] rfl (by decide) gX6_isTheme_X6_in ⟨Nat.le_of_ble_eq_true rfl, Nat.le_of_ble_eq_true rfl⟩ (Nat.le_of_ble_eq_true rfl) rfl dX6_isTheme_10 rfl h (fun r1 h => ?_)
  obtain ⟨hz, h⟩ := og h
  obtain rfl := Option.some.inj h
  exact g_zret0 C (zb hz) dX6_isTheme_13
set_option maxRecDepth 100000 in
set_option maxHeartbeats 4000000 in
theorem c_X6_isTheme (l : Launch) (D : va_G) (cA : Nat → ClassId) (a : Nat → Nat) (N : Nat) (M : tS) (p0 : Int32) (r : Int32) (h : f_X6_isTheme N M p0 = some r) : MI l D cA yX6_isTheme wsX6_isTheme 1 22 [.ref (a 0), .int p0] [mdW cA a M] r [mdW cA a M] := MI_of (cc := cX6_isTheme) (maxL := 2) (rt := some .boolean) (by decide +kernel) rfl (List.forall_mem_cons.mpr ⟨rfl, List.forall_mem_cons.mpr ⟨rfl, List.forall_mem_nil _⟩⟩) (Nat.le_of_ble_eq_true rfl) (fun X e1 e2 e3 C => by subst e1; subst e2; subst e3; exact B_X6_isTheme C a N M p0 r h)
set_option maxRecDepth 100000 in
set_option maxHeartbeats 4000000 in
theorem nd_X6_isTheme : nd yX6_isTheme 1 := ⟨by decide +kernel, by decide +kernel, by decide +kernel⟩
set_option maxRecDepth 100000 in
set_option maxHeartbeats 4000000 in
theorem k_X6_isTheme {X : gX} {own : String} {cc : ByteArray} {nL : Nat} {ret : Option FieldType} {Ts : List Cond} {fr lm : Nat} {Q : State → Prop} {ms : List va_W} {L : List (Option Value)} {st : List Value} {pc pc' idx : Nat} {ρ : Type} {T : Int32 → Option ρ} {res : ρ} (C : cx X own cc nL ret Ts fr lm) (a : Nat → Nat) (N : Nat) (M : tS) (p0 : Int32) (is : List Nat) (hC : is.map (fun i => ms[i]?) = [some (mdW (gcA X) a M)]) (hn : is.Nodup) (hG : GoodIn Ts (wsV own idx RX6 yX6_isTheme wsX6_isTheme)) (hR : 1 + 1 ≤ fr ∧ 8 + (2 + 11) + 22 ≤ lm) (hst : (st.map fun v => v.category).sum ≤ 8) (hLn : L.length = nL) (d : decode cc pc = .ok (.invokevirtual idx, 3)) (hp : pc + 3 = pc') (h : bd (f_X6_isTheme N M p0) T = some res) (kk : ∀ (r : Int32), T r = some res → G X Q (ms) L (.int r :: st) pc') : G X Q ms L (.int p0 :: .ref (a 0) :: st) pc := by
  obtain ⟨r, h1, h⟩ := ob h
  exact G_callVI C (As := [.int p0]) (c_X6_isTheme (gl X) (gD X) (gcA X) a N M p0 r h1) hG rfl nd_X6_isTheme hR (q0 := 0) rfl rfl hC hn rfl rfl hst hLn d hp (G_ms (rpl_same (mc := [mdW (gcA X) a M]) hC) (kk r h))
def f_X6_isPerson (N : Nat)  (p0 : Int32) : Option (Int32) := (bd (f_X6_in N p0 (0 : Int32) (5 : Int32)) (fun r1 => (if ¬ (r1 = 0 ∨ r1 = 1) then none else some r1)))
set_option maxRecDepth 100000 in
set_option maxHeartbeats 4000000 in
theorem B_X6_isPerson {X : gX} (C : cx X RX6 cX6_isPerson 1 (some .boolean) wsX6_isPerson 1 22)  (N : Nat)  (p0 : Int32) (r : Int32) (h : f_X6_isPerson N p0 = some r) : G X (QI X r []) [] [some (.int p0)] [] 0 := by
  unfold f_X6_isPerson at h
  refine g_iload_n (pc' := 1) C dX6_isPerson_0 rfl rfl ?_
  refine g_iconst (pc' := 2) (v := 0) C dX6_isPerson_1 (by decide) rfl ?_
  refine g_iconst (pc' := 3) (v := 5) C dX6_isPerson_2 (by decide) rfl ?_
  refine k_X6_in (pc' := 6) C N p0 (0 : Int32) (5 : Int32) [] rfl (by decide) gX6_isPerson_X6_in ⟨Nat.le_of_ble_eq_true rfl, Nat.le_of_ble_eq_true rfl⟩ (Nat.le_of_ble_eq_true rfl) rfl dX6_isPerson_3 rfl h (fun r1 h => ?_)
  obtain ⟨hz, h⟩ := og h
  obtain rfl := Option.some.inj h
  exact g_zret0 C (zb hz) dX6_isPerson_6
set_option maxRecDepth 100000 in
set_option maxHeartbeats 4000000 in
theorem c_X6_isPerson (l : Launch) (D : va_G) (cA : Nat → ClassId)  (N : Nat)  (p0 : Int32) (r : Int32) (h : f_X6_isPerson N p0 = some r) : MI l D cA yX6_isPerson wsX6_isPerson 1 22 [.int p0] [] r [] := MI_of (cc := cX6_isPerson) (maxL := 1) (rt := some .boolean) (by decide +kernel) rfl (List.forall_mem_cons.mpr ⟨rfl, List.forall_mem_nil _⟩) (Nat.le_of_ble_eq_true rfl) (fun X e1 e2 e3 C => by subst e1; subst e2; subst e3; exact B_X6_isPerson C  N p0 r h)
set_option maxRecDepth 100000 in
set_option maxHeartbeats 4000000 in
theorem nd_X6_isPerson : nd yX6_isPerson 1 := ⟨by decide +kernel, by decide +kernel, by decide +kernel⟩
set_option maxRecDepth 100000 in
set_option maxHeartbeats 4000000 in
theorem k_X6_isPerson {X : gX} {own : String} {cc : ByteArray} {nL : Nat} {ret : Option FieldType} {Ts : List Cond} {fr lm : Nat} {Q : State → Prop} {ms : List va_W} {L : List (Option Value)} {st : List Value} {pc pc' idx : Nat} {ρ : Type} {T : Int32 → Option ρ} {res : ρ} (C : cx X own cc nL ret Ts fr lm)  (N : Nat)  (p0 : Int32) (is : List Nat) (hC : is.map (fun i => ms[i]?) = []) (hn : is.Nodup) (hG : GoodIn Ts (va_wsS own idx yX6_isPerson wsX6_isPerson)) (hR : 1 + 1 ≤ fr ∧ 8 + (1 + 11) + 22 ≤ lm) (hst : (st.map fun v => v.category).sum ≤ 8) (hLn : L.length = nL) (d : decode cc pc = .ok (.invokestatic idx, 3)) (hp : pc + 3 = pc') (h : bd (f_X6_isPerson N p0) T = some res) (kk : ∀ (r : Int32), T r = some res → G X Q (ms) L (.int r :: st) pc') : G X Q ms L (.int p0 :: st) pc := by
  obtain ⟨r, h1, h⟩ := ob h
  exact G_callSI C (As := [.int p0]) (c_X6_isPerson (gl X) (gD X) (gcA X)  N p0 r h1) hG rfl nd_X6_isPerson hR hC hn rfl rfl hst hLn d hp (G_ms (rpl_same (mc := []) hC) (kk r h))
def f_X6_isPlace (N : Nat)  (p0 : Int32) (p1 : Int32) : Option (Int32) := (bd (f_X6_in N p0 (0 : Int32) (29 : Int32)) (fun r1 => (if r1 = 0 then some (0 : Int32) else (bd (f_X6_in N p1 (0 : Int32) (19 : Int32)) (fun r2 => (if r2 = 0 then some (0 : Int32) else some (1 : Int32)))))))
set_option maxRecDepth 100000 in
set_option maxHeartbeats 4000000 in
theorem B_X6_isPlace {X : gX} (C : cx X RX6 cX6_isPlace 2 (some .boolean) wsX6_isPlace 1 22)  (N : Nat)  (p0 : Int32) (p1 : Int32) (r : Int32) (h : f_X6_isPlace N p0 p1 = some r) : G X (QI X r []) [] [some (.int p0), some (.int p1)] [] 0 := by
  unfold f_X6_isPlace at h
  refine g_iload_n (pc' := 1) C dX6_isPlace_0 rfl rfl ?_
  refine g_iconst (pc' := 2) (v := 0) C dX6_isPlace_1 (by decide) rfl ?_
  refine g_bipush (pc' := 4) (v := 29) C dX6_isPlace_2 (by decide) rfl ?_
  refine k_X6_in (pc' := 7) C N p0 (0 : Int32) (29 : Int32) [] rfl (by decide) gX6_isPlace_X6_in ⟨Nat.le_of_ble_eq_true rfl, Nat.le_of_ble_eq_true rfl⟩ (Nat.le_of_ble_eq_true rfl) rfl dX6_isPlace_4 rfl h (fun r1 h => ?_)
  refine g_if_eq (pc' := 10) (tgt := 24) C dX6_isPlace_7 (by decide) rfl h (fun c h => ?_) (fun c h => ?_)
  · refine g_iconst (pc' := 25) (v := 0) C dX6_isPlace_24 (by decide) rfl ?_
    obtain rfl := Option.some.inj h
    exact g_zret0 C rfl dX6_isPlace_25
  · refine g_iload_n (pc' := 11) C dX6_isPlace_10 rfl rfl ?_
    refine g_iconst (pc' := 12) (v := 0) C dX6_isPlace_11 (by decide) rfl ?_
    refine g_bipush (pc' := 14) (v := 19) C dX6_isPlace_12 (by decide) rfl ?_
    refine k_X6_in (pc' := 17) C N p1 (0 : Int32) (19 : Int32) [] rfl (by decide) gX6_isPlace_X6_in ⟨Nat.le_of_ble_eq_true rfl, Nat.le_of_ble_eq_true rfl⟩ (Nat.le_of_ble_eq_true rfl) rfl dX6_isPlace_14 rfl h (fun r2 h => ?_)
    refine g_if_eq (pc' := 20) (tgt := 24) C dX6_isPlace_17 (by decide) rfl h (fun c h => ?_) (fun c h => ?_)
    · refine g_iconst (pc' := 25) (v := 0) C dX6_isPlace_24 (by decide) rfl ?_
      obtain rfl := Option.some.inj h
      exact g_zret0 C rfl dX6_isPlace_25
    · refine g_iconst (pc' := 21) (v := 1) C dX6_isPlace_20 (by decide) rfl ?_
      refine g_goto (pc' := 25) C dX6_isPlace_21 (by decide) ?_
      obtain rfl := Option.some.inj h
      exact g_zret0 C rfl dX6_isPlace_25
set_option maxRecDepth 100000 in
set_option maxHeartbeats 4000000 in
theorem c_X6_isPlace (l : Launch) (D : va_G) (cA : Nat → ClassId)  (N : Nat)  (p0 : Int32) (p1 : Int32) (r : Int32) (h : f_X6_isPlace N p0 p1 = some r) : MI l D cA yX6_isPlace wsX6_isPlace 1 22 [.int p0, .int p1] [] r [] := MI_of (cc := cX6_isPlace) (maxL := 2) (rt := some .boolean) (by decide +kernel) rfl (List.forall_mem_cons.mpr ⟨rfl, List.forall_mem_cons.mpr ⟨rfl, List.forall_mem_nil _⟩⟩) (Nat.le_of_ble_eq_true rfl) (fun X e1 e2 e3 C => by subst e1; subst e2; subst e3; exact B_X6_isPlace C  N p0 p1 r h)
set_option maxRecDepth 100000 in
set_option maxHeartbeats 4000000 in
theorem nd_X6_isPlace : nd yX6_isPlace 2 := ⟨by decide +kernel, by decide +kernel, by decide +kernel⟩
set_option maxRecDepth 100000 in
set_option maxHeartbeats 4000000 in
theorem k_X6_isPlace {X : gX} {own : String} {cc : ByteArray} {nL : Nat} {ret : Option FieldType} {Ts : List Cond} {fr lm : Nat} {Q : State → Prop} {ms : List va_W} {L : List (Option Value)} {st : List Value} {pc pc' idx : Nat} {ρ : Type} {T : Int32 → Option ρ} {res : ρ} (C : cx X own cc nL ret Ts fr lm)  (N : Nat)  (p0 : Int32) (p1 : Int32) (is : List Nat) (hC : is.map (fun i => ms[i]?) = []) (hn : is.Nodup) (hG : GoodIn Ts (va_wsS own idx yX6_isPlace wsX6_isPlace)) (hR : 1 + 1 ≤ fr ∧ 8 + (2 + 11) + 22 ≤ lm) (hst : (st.map fun v => v.category).sum ≤ 8) (hLn : L.length = nL) (d : decode cc pc = .ok (.invokestatic idx, 3)) (hp : pc + 3 = pc') (h : bd (f_X6_isPlace N p0 p1) T = some res) (kk : ∀ (r : Int32), T r = some res → G X Q (ms) L (.int r :: st) pc') : G X Q ms L (.int p1 :: .int p0 :: st) pc := by
  obtain ⟨r, h1, h⟩ := ob h
  exact G_callSI C (As := [.int p0, .int p1]) (c_X6_isPlace (gl X) (gD X) (gcA X)  N p0 p1 r h1) hG rfl nd_X6_isPlace hR hC hn rfl rfl hst hLn d hp (G_ms (rpl_same (mc := []) hC) (kk r h))
theorem hi_X6_of_X6 : ∀ w ∈ wsX60, w ∈ wsX6_of := fun w h => List.mem_cons_of_mem _ (List.mem_append_right _ h)
theorem lk_X6_of_1 : Cond.fieldLink RX6 7 "NoteThemesModel" "s" "[I" ∈ wsX6_of := List.mem_of_getElem? (i := 1) rfl
def f_X6_of (N : Nat) (M : tS) (p0 : Int32) (p1 : Int32) : Option (Int32) := (if (((5 : Int32) + ((9 : Int32) * p0)) + p1) < 0 ∨ 233 ≤ (((5 : Int32) + ((9 : Int32) * p0)) + p1).toNatClampNeg then none else some (M 0 (((5 : Int32) + ((9 : Int32) * p0)) + p1).toNatClampNeg))
set_option maxRecDepth 100000 in
set_option maxHeartbeats 4000000 in
theorem B_X6_of {X : gX} (C : cx X RX6 cX6_of 3 (some .int) wsX6_of 0 0) (a : Nat → Nat) (N : Nat) (M : tS) (p0 : Int32) (p1 : Int32) (r : Int32) (h : f_X6_of N M p0 p1 = some r) : G X (QI X r [mdW (gcA X) a M]) [mdW (gcA X) a M] [some (.ref (a 0)), some (.int p0), some (.int p1)] [] 0 := by
  unfold f_X6_of at h
  refine g_aload_n (pc' := 1) C dX6_of_0 rfl rfl ?_
  refine gg_X6_0 (pc' := 4) (i := 0) C rfl hi_X6_of_X6 lk_X6_of_1 dX6_of_1 rfl ?_
  refine g_iconst (pc' := 5) (v := 5) C dX6_of_4 (by decide) rfl ?_
  refine g_bipush (pc' := 7) (v := 9) C dX6_of_5 (by decide) rfl ?_
  refine g_iload_n (pc' := 8) C dX6_of_7 rfl rfl ?_
  refine g_imul (pc' := 9) C dX6_of_8 rfl ?_
  refine g_iadd (pc' := 10) C dX6_of_9 rfl ?_
  refine g_iload_n (pc' := 11) C dX6_of_10 rfl rfl ?_
  refine g_iadd (pc' := 12) C dX6_of_11 rfl ?_
  refine g_iald (pc' := 13) (i := 0) (j := 1) C rfl rfl dX6_of_12 rfl h (fun h => ?_)
  obtain rfl := Option.some.inj h
  exact g_iret C dX6_of_13
set_option maxRecDepth 100000 in
set_option maxHeartbeats 4000000 in
theorem c_X6_of (l : Launch) (D : va_G) (cA : Nat → ClassId) (a : Nat → Nat) (N : Nat) (M : tS) (p0 : Int32) (p1 : Int32) (r : Int32) (h : f_X6_of N M p0 p1 = some r) : MI l D cA yX6_of wsX6_of 0 0 [.ref (a 0), .int p0, .int p1] [mdW cA a M] r [mdW cA a M] := MI_of (cc := cX6_of) (maxL := 3) (rt := some .int) (by decide +kernel) rfl (List.forall_mem_cons.mpr ⟨rfl, List.forall_mem_cons.mpr ⟨rfl, List.forall_mem_cons.mpr ⟨rfl, List.forall_mem_nil _⟩⟩⟩) (Nat.le_of_ble_eq_true rfl) (fun X e1 e2 e3 C => by subst e1; subst e2; subst e3; exact B_X6_of C a N M p0 p1 r h)
set_option maxRecDepth 100000 in
set_option maxHeartbeats 4000000 in
theorem nd_X6_of : nd yX6_of 2 := ⟨by decide +kernel, by decide +kernel, by decide +kernel⟩
set_option maxRecDepth 100000 in
set_option maxHeartbeats 4000000 in
theorem k_X6_of {X : gX} {own : String} {cc : ByteArray} {nL : Nat} {ret : Option FieldType} {Ts : List Cond} {fr lm : Nat} {Q : State → Prop} {ms : List va_W} {L : List (Option Value)} {st : List Value} {pc pc' idx : Nat} {ρ : Type} {T : Int32 → Option ρ} {res : ρ} (C : cx X own cc nL ret Ts fr lm) (a : Nat → Nat) (N : Nat) (M : tS) (p0 : Int32) (p1 : Int32) (is : List Nat) (hC : is.map (fun i => ms[i]?) = [some (mdW (gcA X) a M)]) (hn : is.Nodup) (hG : GoodIn Ts (wsV own idx RX6 yX6_of wsX6_of)) (hR : 0 + 1 ≤ fr ∧ 8 + (3 + 11) + 0 ≤ lm) (hst : (st.map fun v => v.category).sum ≤ 8) (hLn : L.length = nL) (d : decode cc pc = .ok (.invokevirtual idx, 3)) (hp : pc + 3 = pc') (h : bd (f_X6_of N M p0 p1) T = some res) (kk : ∀ (r : Int32), T r = some res → G X Q (ms) L (.int r :: st) pc') : G X Q ms L (.int p1 :: .int p0 :: .ref (a 0) :: st) pc := by
  obtain ⟨r, h1, h⟩ := ob h
  exact G_callVI C (As := [.int p0, .int p1]) (c_X6_of (gl X) (gD X) (gcA X) a N M p0 p1 r h1) hG rfl nd_X6_of hR (q0 := 0) rfl rfl hC hn rfl rfl hst hLn d hp (G_ms (rpl_same (mc := [mdW (gcA X) a M]) hC) (kk r h))
theorem hi_X6_lays_X6 : ∀ w ∈ wsX60, w ∈ wsX6_lays := fun w h => List.mem_cons_of_mem _ (List.mem_append_right _ h)
theorem lk_X6_lays_1 : Cond.fieldLink RX6 7 "NoteThemesModel" "s" "[I" ∈ wsX6_lays := List.mem_of_getElem? (i := 1) rfl
def f_X6_lays (N : Nat) (M : tS) (p0 : Int32) (p1 : Int32) (p2 : Int32) : Option (tS) := (if (((5 : Int32) + ((9 : Int32) * p0)) + p1) < 0 ∨ 233 ≤ (((5 : Int32) + ((9 : Int32) * p0)) + p1).toNatClampNeg then none else some (va_up M 0 (upd (M 0) (((5 : Int32) + ((9 : Int32) * p0)) + p1).toNatClampNeg p2)))
set_option maxRecDepth 100000 in
set_option maxHeartbeats 4000000 in
theorem B_X6_lays {X : gX} (C : cx X RX6 cX6_lays 4 none wsX6_lays 0 0) (a : Nat → Nat) (N : Nat) (M : tS) (p0 : Int32) (p1 : Int32) (p2 : Int32) (Mz : tS) (h : f_X6_lays N M p0 p1 p2 = some Mz) : G X (QV X [mdW (gcA X) a Mz]) [mdW (gcA X) a M] [some (.ref (a 0)), some (.int p0), some (.int p1), some (.int p2)] [] 0 := by
  unfold f_X6_lays at h
  refine g_aload_n (pc' := 1) C dX6_lays_0 rfl rfl ?_
  refine gg_X6_0 (pc' := 4) (i := 0) C rfl hi_X6_lays_X6 lk_X6_lays_1 dX6_lays_1 rfl ?_
  refine g_iconst (pc' := 5) (v := 5) C dX6_lays_4 (by decide) rfl ?_
  refine g_bipush (pc' := 7) (v := 9) C dX6_lays_5 (by decide) rfl ?_
  refine g_iload_n (pc' := 8) C dX6_lays_7 rfl rfl ?_
  refine g_imul (pc' := 9) C dX6_lays_8 rfl ?_
  refine g_iadd (pc' := 10) C dX6_lays_9 rfl ?_
  refine g_iload_n (pc' := 11) C dX6_lays_10 rfl rfl ?_
  refine g_iadd (pc' := 12) C dX6_lays_11 rfl ?_
  refine g_iload_n (pc' := 13) C dX6_lays_12 rfl rfl ?_
  refine g_iast (pc' := 14) (i := 0) (j := 1) (w' := mdW (gcA X) a (va_up M 0 (upd (M 0) (((5 : Int32) + ((9 : Int32) * p0)) + p1).toNatClampNeg p2))) C rfl rfl rfl dX6_lays_13 rfl h (fun h => ?_)
  show G X _ [mdW (gcA X) a (va_up M 0 (upd (M 0) (((5 : Int32) + ((9 : Int32) * p0)) + p1).toNatClampNeg p2))] _ _ _
  obtain rfl := Option.some.inj h
  exact g_vret C dX6_lays_14
set_option maxRecDepth 100000 in
set_option maxHeartbeats 4000000 in
theorem c_X6_lays (l : Launch) (D : va_G) (cA : Nat → ClassId) (a : Nat → Nat) (N : Nat) (M : tS) (p0 : Int32) (p1 : Int32) (p2 : Int32) (Mz : tS) (h : f_X6_lays N M p0 p1 p2 = some Mz) : MV l D cA yX6_lays wsX6_lays 0 0 [.ref (a 0), .int p0, .int p1, .int p2] [mdW cA a M]  [mdW cA a Mz] := MV_of (cc := cX6_lays) (maxL := 4) (by decide +kernel) rfl (List.forall_mem_cons.mpr ⟨rfl, List.forall_mem_cons.mpr ⟨rfl, List.forall_mem_cons.mpr ⟨rfl, List.forall_mem_cons.mpr ⟨rfl, List.forall_mem_nil _⟩⟩⟩⟩) (Nat.le_of_ble_eq_true rfl) (fun X e1 e2 e3 C => by subst e1; subst e2; subst e3; exact B_X6_lays C a N M p0 p1 p2 Mz h)
set_option maxRecDepth 100000 in
set_option maxHeartbeats 4000000 in
theorem nd_X6_lays : nd yX6_lays 3 := ⟨by decide +kernel, by decide +kernel, by decide +kernel⟩
set_option maxRecDepth 100000 in
set_option maxHeartbeats 4000000 in
theorem k_X6_lays {X : gX} {own : String} {cc : ByteArray} {nL : Nat} {ret : Option FieldType} {Ts : List Cond} {fr lm : Nat} {Q : State → Prop} {ms : List va_W} {L : List (Option Value)} {st : List Value} {pc pc' idx : Nat} {ρ : Type} {T : tS → Option ρ} {res : ρ} (C : cx X own cc nL ret Ts fr lm) (a : Nat → Nat) (N : Nat) (M : tS) (p0 : Int32) (p1 : Int32) (p2 : Int32) (is : List Nat) (hC : is.map (fun i => ms[i]?) = [some (mdW (gcA X) a M)]) (hn : is.Nodup) (hG : GoodIn Ts (wsV own idx RX6 yX6_lays wsX6_lays)) (hR : 0 + 1 ≤ fr ∧ 8 + (4 + 11) + 0 ≤ lm) (hst : (st.map fun v => v.category).sum ≤ 8) (hLn : L.length = nL) (d : decode cc pc = .ok (.invokevirtual idx, 3)) (hp : pc + 3 = pc') (h : bd (f_X6_lays N M p0 p1 p2) T = some res) (kk : ∀ (Mz : tS), T Mz = some res → G X Q (rpl ms is [mdW (gcA X) a Mz]) L (st) pc') : G X Q ms L (.int p2 :: .int p1 :: .int p0 :: .ref (a 0) :: st) pc := by
  obtain ⟨Mz, h1, h⟩ := ob h
  exact G_callVV C (As := [.int p0, .int p1, .int p2]) (c_X6_lays (gl X) (gD X) (gcA X) a N M p0 p1 p2 Mz h1) hG rfl nd_X6_lays hR (q0 := 0) rfl rfl hC hn rfl rfl hst hLn d hp (kk Mz h)
def f_X6_themeOf (N : Nat) (M : tS) (p0 : Int32) : Option (Int32) := (bd (f_X6_of N M p0 (2 : Int32)) (fun r1 => some (r1 - (1 : Int32))))
set_option maxRecDepth 100000 in
set_option maxHeartbeats 4000000 in
theorem B_X6_themeOf {X : gX} (C : cx X RX6 cX6_themeOf 2 (some .int) wsX6_themeOf 1 22) (a : Nat → Nat) (N : Nat) (M : tS) (p0 : Int32) (r : Int32) (h : f_X6_themeOf N M p0 = some r) : G X (QI X r [mdW (gcA X) a M]) [mdW (gcA X) a M] [some (.ref (a 0)), some (.int p0)] [] 0 := by
  unfold f_X6_themeOf at h
  refine g_aload_n (pc' := 1) C dX6_themeOf_0 rfl rfl ?_
  refine g_iload_n (pc' := 2) C dX6_themeOf_1 rfl rfl ?_
  refine g_iconst (pc' := 3) (v := 2) C dX6_themeOf_2 (by decide) rfl ?_
  refine k_X6_of (pc' := 6) C a N M p0 (2 : Int32) [0] rfl (by decide) gX6_themeOf_X6_of ⟨Nat.le_of_ble_eq_true rfl, Nat.le_of_ble_eq_true rfl⟩ (Nat.le_of_ble_eq_true rfl) rfl dX6_themeOf_3 rfl h (fun r1 h => ?_)
  refine g_iconst (pc' := 7) (v := 1) C dX6_themeOf_6 (by decide) rfl ?_
  refine g_isub (pc' := 8) C dX6_themeOf_7 rfl ?_
  obtain rfl := Option.some.inj h
  exact g_iret C dX6_themeOf_8
set_option maxRecDepth 100000 in
set_option maxHeartbeats 4000000 in
theorem c_X6_themeOf (l : Launch) (D : va_G) (cA : Nat → ClassId) (a : Nat → Nat) (N : Nat) (M : tS) (p0 : Int32) (r : Int32) (h : f_X6_themeOf N M p0 = some r) : MI l D cA yX6_themeOf wsX6_themeOf 1 22 [.ref (a 0), .int p0] [mdW cA a M] r [mdW cA a M] := MI_of (cc := cX6_themeOf) (maxL := 2) (rt := some .int) (by decide +kernel) rfl (List.forall_mem_cons.mpr ⟨rfl, List.forall_mem_cons.mpr ⟨rfl, List.forall_mem_nil _⟩⟩) (Nat.le_of_ble_eq_true rfl) (fun X e1 e2 e3 C => by subst e1; subst e2; subst e3; exact B_X6_themeOf C a N M p0 r h)
set_option maxRecDepth 100000 in
set_option maxHeartbeats 4000000 in
theorem nd_X6_themeOf : nd yX6_themeOf 1 := ⟨by decide +kernel, by decide +kernel, by decide +kernel⟩
set_option maxRecDepth 100000 in
set_option maxHeartbeats 4000000 in
theorem k_X6_themeOf {X : gX} {own : String} {cc : ByteArray} {nL : Nat} {ret : Option FieldType} {Ts : List Cond} {fr lm : Nat} {Q : State → Prop} {ms : List va_W} {L : List (Option Value)} {st : List Value} {pc pc' idx : Nat} {ρ : Type} {T : Int32 → Option ρ} {res : ρ} (C : cx X own cc nL ret Ts fr lm) (a : Nat → Nat) (N : Nat) (M : tS) (p0 : Int32) (is : List Nat) (hC : is.map (fun i => ms[i]?) = [some (mdW (gcA X) a M)]) (hn : is.Nodup) (hG : GoodIn Ts (wsV own idx RX6 yX6_themeOf wsX6_themeOf)) (hR : 1 + 1 ≤ fr ∧ 8 + (2 + 11) + 22 ≤ lm) (hst : (st.map fun v => v.category).sum ≤ 8) (hLn : L.length = nL) (d : decode cc pc = .ok (.invokevirtual idx, 3)) (hp : pc + 3 = pc') (h : bd (f_X6_themeOf N M p0) T = some res) (kk : ∀ (r : Int32), T r = some res → G X Q (ms) L (.int r :: st) pc') : G X Q ms L (.int p0 :: .ref (a 0) :: st) pc := by
  obtain ⟨r, h1, h⟩ := ob h
  exact G_callVI C (As := [.int p0]) (c_X6_themeOf (gl X) (gD X) (gcA X) a N M p0 r h1) hG rfl nd_X6_themeOf hR (q0 := 0) rfl rfl hC hn rfl rfl hst hLn d hp (G_ms (rpl_same (mc := [mdW (gcA X) a M]) hC) (kk r h))
def f_X6_size (N : Nat)  (p0 : Int32) : Option (Int32) := (if 0 ≤ p0 then some p0 else some (-p0))
set_option maxRecDepth 100000 in
set_option maxHeartbeats 4000000 in
theorem B_X6_size {X : gX} (C : cx X RX6 cX6_size 1 (some .int) wsX6_size 0 0)  (N : Nat)  (p0 : Int32) (r : Int32) (h : f_X6_size N p0 = some r) : G X (QI X r []) [] [some (.int p0)] [] 0 := by
  unfold f_X6_size at h
  refine g_iload_n (pc' := 1) C dX6_size_0 rfl rfl ?_
  refine g_if_ge (pc' := 4) (tgt := 9) C dX6_size_1 (by decide) rfl h (fun c h => ?_) (fun c h => ?_)
  · refine g_iload_n (pc' := 10) C dX6_size_9 rfl rfl ?_
    obtain rfl := Option.some.inj h
    exact g_iret C dX6_size_10
  · refine g_iload_n (pc' := 5) C dX6_size_4 rfl rfl ?_
    refine g_ineg (pc' := 6) C dX6_size_5 rfl ?_
    refine g_goto (pc' := 10) C dX6_size_6 (by decide) ?_
    obtain rfl := Option.some.inj h
    exact g_iret C dX6_size_10
set_option maxRecDepth 100000 in
set_option maxHeartbeats 4000000 in
theorem c_X6_size (l : Launch) (D : va_G) (cA : Nat → ClassId)  (N : Nat)  (p0 : Int32) (r : Int32) (h : f_X6_size N p0 = some r) : MI l D cA yX6_size wsX6_size 0 0 [.int p0] [] r [] := MI_of (cc := cX6_size) (maxL := 1) (rt := some .int) (by decide +kernel) rfl (List.forall_mem_cons.mpr ⟨rfl, List.forall_mem_nil _⟩) (Nat.le_of_ble_eq_true rfl) (fun X e1 e2 e3 C => by subst e1; subst e2; subst e3; exact B_X6_size C  N p0 r h)
set_option maxRecDepth 100000 in
set_option maxHeartbeats 4000000 in
theorem nd_X6_size : nd yX6_size 1 := ⟨by decide +kernel, by decide +kernel, by decide +kernel⟩
set_option maxRecDepth 100000 in
set_option maxHeartbeats 4000000 in
theorem k_X6_size {X : gX} {own : String} {cc : ByteArray} {nL : Nat} {ret : Option FieldType} {Ts : List Cond} {fr lm : Nat} {Q : State → Prop} {ms : List va_W} {L : List (Option Value)} {st : List Value} {pc pc' idx : Nat} {ρ : Type} {T : Int32 → Option ρ} {res : ρ} (C : cx X own cc nL ret Ts fr lm)  (N : Nat)  (p0 : Int32) (is : List Nat) (hC : is.map (fun i => ms[i]?) = []) (hn : is.Nodup) (hG : GoodIn Ts (va_wsS own idx yX6_size wsX6_size)) (hR : 0 + 1 ≤ fr ∧ 8 + (1 + 11) + 0 ≤ lm) (hst : (st.map fun v => v.category).sum ≤ 8) (hLn : L.length = nL) (d : decode cc pc = .ok (.invokestatic idx, 3)) (hp : pc + 3 = pc') (h : bd (f_X6_size N p0) T = some res) (kk : ∀ (r : Int32), T r = some res → G X Q (ms) L (.int r :: st) pc') : G X Q ms L (.int p0 :: st) pc := by
  obtain ⟨r, h1, h⟩ := ob h
  exact G_callSI C (As := [.int p0]) (c_X6_size (gl X) (gD X) (gcA X)  N p0 r h1) hG rfl nd_X6_size hR hC hn rfl rfl hst hLn d hp (G_ms (rpl_same (mc := []) hC) (kk r h))
def f_X6_distance (N : Nat) (M : tS) (p0 : Int32) (p1 : Int32) : Option (Int32) := (bd (f_X6_of N M p0 (0 : Int32)) (fun r1 => (bd (f_X6_of N M p1 (0 : Int32)) (fun r2 => (bd (f_X6_size N (r1 - r2)) (fun r3 => (bd (f_X6_of N M p0 (1 : Int32)) (fun r4 => (bd (f_X6_of N M p1 (1 : Int32)) (fun r5 => (bd (f_X6_size N (r4 - r5)) (fun r6 => some (r3 + r6)))))))))))))
set_option maxRecDepth 100000 in
set_option maxHeartbeats 4000000 in
theorem B_X6_distance {X : gX} (C : cx X RX6 cX6_distance 3 (some .int) wsX6_distance 1 22) (a : Nat → Nat) (N : Nat) (M : tS) (p0 : Int32) (p1 : Int32) (r : Int32) (h : f_X6_distance N M p0 p1 = some r) : G X (QI X r [mdW (gcA X) a M]) [mdW (gcA X) a M] [some (.ref (a 0)), some (.int p0), some (.int p1)] [] 0 := by
  unfold f_X6_distance at h
  refine g_aload_n (pc' := 1) C dX6_distance_0 rfl rfl ?_
  refine g_iload_n (pc' := 2) C dX6_distance_1 rfl rfl ?_
  refine g_iconst (pc' := 3) (v := 0) C dX6_distance_2 (by decide) rfl ?_
  refine k_X6_of (pc' := 6) C a N M p0 (0 : Int32) [0] rfl (by decide) gX6_distance_X6_of ⟨Nat.le_of_ble_eq_true rfl, Nat.le_of_ble_eq_true rfl⟩ (Nat.le_of_ble_eq_true rfl) rfl dX6_distance_3 rfl h (fun r1 h => ?_)
  refine g_aload_n (pc' := 7) C dX6_distance_6 rfl rfl ?_
  refine g_iload_n (pc' := 8) C dX6_distance_7 rfl rfl ?_
  refine g_iconst (pc' := 9) (v := 0) C dX6_distance_8 (by decide) rfl ?_
  refine k_X6_of (pc' := 12) C a N M p1 (0 : Int32) [0] rfl (by decide) gX6_distance_X6_of ⟨Nat.le_of_ble_eq_true rfl, Nat.le_of_ble_eq_true rfl⟩ (Nat.le_of_ble_eq_true rfl) rfl dX6_distance_9 rfl h (fun r2 h => ?_)
  refine g_isub (pc' := 13) C dX6_distance_12 rfl ?_
  refine k_X6_size (pc' := 16) C N (r1 - r2) [] rfl (by decide) gX6_distance_X6_size ⟨Nat.le_of_ble_eq_true rfl, Nat.le_of_ble_eq_true rfl⟩ (Nat.le_of_ble_eq_true rfl) rfl dX6_distance_13 rfl h (fun r3 h => ?_)
  refine g_aload_n (pc' := 17) C dX6_distance_16 rfl rfl ?_
  refine g_iload_n (pc' := 18) C dX6_distance_17 rfl rfl ?_
  refine g_iconst (pc' := 19) (v := 1) C dX6_distance_18 (by decide) rfl ?_
  refine k_X6_of (pc' := 22) C a N M p0 (1 : Int32) [0] rfl (by decide) gX6_distance_X6_of ⟨Nat.le_of_ble_eq_true rfl, Nat.le_of_ble_eq_true rfl⟩ (Nat.le_of_ble_eq_true rfl) rfl dX6_distance_19 rfl h (fun r4 h => ?_)
  refine g_aload_n (pc' := 23) C dX6_distance_22 rfl rfl ?_
  refine g_iload_n (pc' := 24) C dX6_distance_23 rfl rfl ?_
  refine g_iconst (pc' := 25) (v := 1) C dX6_distance_24 (by decide) rfl ?_
  refine k_X6_of (pc' := 28) C a N M p1 (1 : Int32) [0] rfl (by decide) gX6_distance_X6_of ⟨Nat.le_of_ble_eq_true rfl, Nat.le_of_ble_eq_true rfl⟩ (Nat.le_of_ble_eq_true rfl) rfl dX6_distance_25 rfl h (fun r5 h => ?_)
  refine g_isub (pc' := 29) C dX6_distance_28 rfl ?_
  refine k_X6_size (pc' := 32) C N (r4 - r5) [] rfl (by decide) gX6_distance_X6_size ⟨Nat.le_of_ble_eq_true rfl, Nat.le_of_ble_eq_true rfl⟩ (Nat.le_of_ble_eq_true rfl) rfl dX6_distance_29 rfl h (fun r6 h => ?_)
  refine g_iadd (pc' := 33) C dX6_distance_32 rfl ?_
  obtain rfl := Option.some.inj h
  exact g_iret C dX6_distance_33
set_option maxRecDepth 100000 in
set_option maxHeartbeats 4000000 in
theorem c_X6_distance (l : Launch) (D : va_G) (cA : Nat → ClassId) (a : Nat → Nat) (N : Nat) (M : tS) (p0 : Int32) (p1 : Int32) (r : Int32) (h : f_X6_distance N M p0 p1 = some r) : MI l D cA yX6_distance wsX6_distance 1 22 [.ref (a 0), .int p0, .int p1] [mdW cA a M] r [mdW cA a M] := MI_of (cc := cX6_distance) (maxL := 3) (rt := some .int) (by decide +kernel) rfl (List.forall_mem_cons.mpr ⟨rfl, List.forall_mem_cons.mpr ⟨rfl, List.forall_mem_cons.mpr ⟨rfl, List.forall_mem_nil _⟩⟩⟩) (Nat.le_of_ble_eq_true rfl) (fun X e1 e2 e3 C => by subst e1; subst e2; subst e3; exact B_X6_distance C a N M p0 p1 r h)
set_option maxRecDepth 100000 in
set_option maxHeartbeats 4000000 in
theorem nd_X6_distance : nd yX6_distance 2 := ⟨by decide +kernel, by decide +kernel, by decide +kernel⟩
set_option maxRecDepth 100000 in
set_option maxHeartbeats 4000000 in
theorem k_X6_distance {X : gX} {own : String} {cc : ByteArray} {nL : Nat} {ret : Option FieldType} {Ts : List Cond} {fr lm : Nat} {Q : State → Prop} {ms : List va_W} {L : List (Option Value)} {st : List Value} {pc pc' idx : Nat} {ρ : Type} {T : Int32 → Option ρ} {res : ρ} (C : cx X own cc nL ret Ts fr lm) (a : Nat → Nat) (N : Nat) (M : tS) (p0 : Int32) (p1 : Int32) (is : List Nat) (hC : is.map (fun i => ms[i]?) = [some (mdW (gcA X) a M)]) (hn : is.Nodup) (hG : GoodIn Ts (wsV own idx RX6 yX6_distance wsX6_distance)) (hR : 1 + 1 ≤ fr ∧ 8 + (3 + 11) + 22 ≤ lm) (hst : (st.map fun v => v.category).sum ≤ 8) (hLn : L.length = nL) (d : decode cc pc = .ok (.invokevirtual idx, 3)) (hp : pc + 3 = pc') (h : bd (f_X6_distance N M p0 p1) T = some res) (kk : ∀ (r : Int32), T r = some res → G X Q (ms) L (.int r :: st) pc') : G X Q ms L (.int p1 :: .int p0 :: .ref (a 0) :: st) pc := by
  obtain ⟨r, h1, h⟩ := ob h
  exact G_callVI C (As := [.int p0, .int p1]) (c_X6_distance (gl X) (gD X) (gcA X) a N M p0 p1 r h1) hG rfl nd_X6_distance hR (q0 := 0) rfl rfl hC hn rfl rfl hst hLn d hp (G_ms (rpl_same (mc := [mdW (gcA X) a M]) hC) (kk r h))
theorem hi_X6_spreads_X6 : ∀ w ∈ wsX60, w ∈ wsX6_spreads := fun w h => List.mem_cons_of_mem _ (List.mem_append_right _ h)
theorem lk_X6_spreads_1 : Cond.fieldLink RX6 26 "NoteThemesModel" "row" "[I" ∈ wsX6_spreads := List.mem_of_getElem? (i := 1) rfl
theorem lk_X6_spreads_2 : Cond.fieldLink RX6 23 "NoteThemesModel" "heapOf" "[I" ∈ wsX6_spreads := List.mem_of_getElem? (i := 2) rfl
theorem lk_X6_spreads_3 : Cond.fieldLink RX6 55 "NoteThemesModel" "heaps" "I" ∈ wsX6_spreads := List.mem_of_getElem? (i := 3) rfl
theorem lk_X6_spreads_4 : Cond.fieldLink RX6 7 "NoteThemesModel" "s" "[I" ∈ wsX6_spreads := List.mem_of_getElem? (i := 4) rfl
def f_X6_spreads_102 (N : Nat) (p0 : Int32) (p1 : Int32) (p2 : Int32) (k23 : Int32 → Int32 → tS → Option (Int32 × tS)) (k33 : Int32 → Int32 → Int32 → tS → Option (Int32 × tS)) (x4 : Int32) (x5 : Int32) (x6 : Int32) (M : tS) : Option (Int32 × tS) := k33 x4 x5 (x6 + 1) M
set_option maxRecDepth 100000 in
set_option maxHeartbeats 4000000 in
theorem B_X6_spreads_102 {X : gX} (C : cx X RX6 cX6_spreads 7 (some .int) wsX6_spreads 2 44) (a : Nat → Nat) (N : Nat) (p0 : Int32) (p1 : Int32) (p2 : Int32) (r : Int32) (Mz : tS) (k23 : Int32 → Int32 → tS → Option (Int32 × tS)) (hk23 : ∀ (x4 : Int32) (x5 : Int32) (M : tS), k23 x4 x5 M = some (r, Mz) → G X (QI X r [mdW (gcA X) a Mz]) [mdW (gcA X) a M] [some (.ref (a 0)), some (.int p0), some (.int p1), some (.int p2), some (.int x4), some (.int x5), none] [] 23) (k33 : Int32 → Int32 → Int32 → tS → Option (Int32 × tS)) (hk33 : ∀ (x4 : Int32) (x5 : Int32) (x6 : Int32) (M : tS), k33 x4 x5 x6 M = some (r, Mz) → G X (QI X r [mdW (gcA X) a Mz]) [mdW (gcA X) a M] [some (.ref (a 0)), some (.int p0), some (.int p1), some (.int p2), some (.int x4), some (.int x5), some (.int x6)] [] 33) (x4 : Int32) (x5 : Int32) (x6 : Int32) (M : tS) (h : f_X6_spreads_102 N p0 p1 p2 k23 k33 x4 x5 x6 M = some (r, Mz)) : G X (QI X r [mdW (gcA X) a Mz]) [mdW (gcA X) a M] [some (.ref (a 0)), some (.int p0), some (.int p1), some (.int p2), some (.int x4), some (.int x5), some (.int x6)] [] 102 := by
  unfold f_X6_spreads_102 at h
  refine g_iinc (pc' := 105) (v := (x6 + 1)) C dX6_spreads_102 rfl rfl rfl (L' := [some (.ref (a 0)), some (.int p0), some (.int p1), some (.int p2), some (.int x4), some (.int x5), some (.int (x6 + 1))]) rfl ?_
  refine g_goto (pc' := 33) C dX6_spreads_105 (by decide) ?_
  exact G_loc (lle_s (lle_s (lle_s (lle_s (lle_s (lle_s (lle_s lle_0))))))) (hk33 x4 x5 (x6 + 1) M h)
def f_X6_spreads_33b (N : Nat) (p0 : Int32) (p1 : Int32) (p2 : Int32) (k23 : Int32 → Int32 → tS → Option (Int32 × tS)) (k33 : Int32 → Int32 → Int32 → tS → Option (Int32 × tS)) (x4 : Int32) (x5 : Int32) (x6 : Int32) (M : tS) : Option (Int32 × tS) := (if (M 0 (0 : Int32).toNatClampNeg) ≤ x6 then k23 x4 (x5 + 1) M else (if x6 < 0 ∨ 20 ≤ x6.toNatClampNeg then none else (if (M 7 x6.toNatClampNeg) = (-5 : Int32) then (if x6 = p2 then f_X6_spreads_102 N p0 p1 p2 k23 k33 x4 x5 x6 M else (if x5 < 0 ∨ 20 ≤ x5.toNatClampNeg then none else (bd (f_X6_distance N M (M 8 x5.toNatClampNeg) x6) (fun r1 => (if p1 < r1 then f_X6_spreads_102 N p0 p1 p2 k23 k33 x4 x5 x6 M else (if x6 < 0 ∨ 20 ≤ x6.toNatClampNeg then none else (lt_ (va_up M 7 (upd (M 7) x6.toNatClampNeg (M 9 0))) (fun M2s => (if x4 < 0 ∨ 20 ≤ x4.toNatClampNeg then none else f_X6_spreads_102 N p0 p1 p2 k23 k33 (x4 + 1) x5 x6 (va_up M2s 8 (upd (M2s 8) x4.toNatClampNeg x6))))))))))) else f_X6_spreads_102 N p0 p1 p2 k23 k33 x4 x5 x6 M)))
def f_X6_spreads_33 (N : Nat) (p0 : Int32) (p1 : Int32) (p2 : Int32) (k23 : Int32 → Int32 → tS → Option (Int32 × tS)) : Nat → Int32 → Int32 → Int32 → tS → Option (Int32 × tS)
  | 0 => fun _ _ _ _ => none
  | n + 1 => f_X6_spreads_33b N p0 p1 p2 k23 (f_X6_spreads_33 N p0 p1 p2 k23 n)
set_option maxRecDepth 100000 in
set_option maxHeartbeats 4000000 in
theorem B_X6_spreads_33b {X : gX} (C : cx X RX6 cX6_spreads 7 (some .int) wsX6_spreads 2 44) (a : Nat → Nat) (N : Nat) (p0 : Int32) (p1 : Int32) (p2 : Int32) (r : Int32) (Mz : tS) (k23 : Int32 → Int32 → tS → Option (Int32 × tS)) (hk23 : ∀ (x4 : Int32) (x5 : Int32) (M : tS), k23 x4 x5 M = some (r, Mz) → G X (QI X r [mdW (gcA X) a Mz]) [mdW (gcA X) a M] [some (.ref (a 0)), some (.int p0), some (.int p1), some (.int p2), some (.int x4), some (.int x5), none] [] 23) (k33 : Int32 → Int32 → Int32 → tS → Option (Int32 × tS)) (hk33 : ∀ (x4 : Int32) (x5 : Int32) (x6 : Int32) (M : tS), k33 x4 x5 x6 M = some (r, Mz) → G X (QI X r [mdW (gcA X) a Mz]) [mdW (gcA X) a M] [some (.ref (a 0)), some (.int p0), some (.int p1), some (.int p2), some (.int x4), some (.int x5), some (.int x6)] [] 33) (x4 : Int32) (x5 : Int32) (x6 : Int32) (M : tS) (h : f_X6_spreads_33b N p0 p1 p2 k23 k33 x4 x5 x6 M = some (r, Mz)) : G X (QI X r [mdW (gcA X) a Mz]) [mdW (gcA X) a M] [some (.ref (a 0)), some (.int p0), some (.int p1), some (.int p2), some (.int x4), some (.int x5), some (.int x6)] [] 33 := by
  unfold f_X6_spreads_33b at h
  refine g_iload (pc' := 35) C dX6_spreads_33 rfl rfl ?_
  refine g_aload_n (pc' := 36) C dX6_spreads_35 rfl rfl ?_
  refine gg_X6_0 (pc' := 39) (i := 0) C rfl hi_X6_spreads_X6 lk_X6_spreads_4 dX6_spreads_36 rfl ?_
  refine g_iconst (pc' := 40) (v := 0) C dX6_spreads_39 (by decide) rfl ?_
  refine g_iald0 (pc' := 41) (i := 0) (j := 1) C rfl rfl dX6_spreads_40 rfl (by unfold vp_in; decide) ?_
  refine g_icmp_ge (pc' := 44) (tgt := 108) C dX6_spreads_41 (by decide) rfl h (fun c h => ?_) (fun c h => ?_)
  · refine g_iinc (pc' := 111) (v := (x5 + 1)) C dX6_spreads_108 rfl rfl rfl (L' := [some (.ref (a 0)), some (.int p0), some (.int p1), some (.int p2), some (.int x4), some (.int (x5 + 1)), some (.int x6)]) rfl ?_
    refine g_goto (pc' := 23) C dX6_spreads_111 (by decide) ?_
    exact G_loc (lle_s (lle_s (lle_s (lle_s (lle_s (lle_s (lle_n lle_0))))))) (hk23 x4 (x5 + 1) M h)
  · refine g_aload_n (pc' := 45) C dX6_spreads_44 rfl rfl ?_
    refine gg_X6_7 (pc' := 48) (i := 0) C rfl hi_X6_spreads_X6 lk_X6_spreads_2 dX6_spreads_45 rfl ?_
    refine g_iload (pc' := 50) C dX6_spreads_48 rfl rfl ?_
    refine g_iald (pc' := 51) (i := 0) (j := 5) C rfl rfl dX6_spreads_50 rfl h (fun h => ?_)
    refine g_bipush (pc' := 53) (v := -5) C dX6_spreads_51 (by decide) rfl ?_
    refine g_icmp_ne (pc' := 56) (tgt := 102) C dX6_spreads_53 (by decide) rfl h (fun c h => ?_) (fun c h => ?_)
    · refine g_iload (pc' := 58) C dX6_spreads_56 rfl rfl ?_
      refine g_iload_n (pc' := 59) C dX6_spreads_58 rfl rfl ?_
      refine g_icmp_eq (pc' := 62) (tgt := 102) C dX6_spreads_59 (by decide) rfl h (fun c h => ?_) (fun c h => ?_)
      · exact G_loc (lle_s (lle_s (lle_s (lle_s (lle_s (lle_s (lle_s lle_0))))))) (B_X6_spreads_102 C a N p0 p1 p2 r Mz k23 hk23 k33 hk33 x4 x5 x6 M h)
      · refine g_aload_n (pc' := 63) C dX6_spreads_62 rfl rfl ?_
        refine g_aload_n (pc' := 64) C dX6_spreads_63 rfl rfl ?_
        refine gg_X6_8 (pc' := 67) (i := 0) C rfl hi_X6_spreads_X6 lk_X6_spreads_1 dX6_spreads_64 rfl ?_
        refine g_iload (pc' := 69) C dX6_spreads_67 rfl rfl ?_
        refine g_iald (pc' := 70) (i := 0) (j := 6) C rfl rfl dX6_spreads_69 rfl h (fun h => ?_)
        refine g_iload (pc' := 72) C dX6_spreads_70 rfl rfl ?_
        refine k_X6_distance (pc' := 75) C a N M (M 8 x5.toNatClampNeg) x6 [0] rfl (by decide) gX6_spreads_X6_distance ⟨Nat.le_of_ble_eq_true rfl, Nat.le_of_ble_eq_true rfl⟩ (Nat.le_of_ble_eq_true rfl) rfl dX6_spreads_72 rfl h (fun r1 h => ?_)
        refine g_iload_n (pc' := 76) C dX6_spreads_75 rfl rfl ?_
        refine g_icmp_gt (pc' := 79) (tgt := 102) C dX6_spreads_76 (by decide) rfl h (fun c h => ?_) (fun c h => ?_)
        · exact G_loc (lle_s (lle_s (lle_s (lle_s (lle_s (lle_s (lle_s lle_0))))))) (B_X6_spreads_102 C a N p0 p1 p2 r Mz k23 hk23 k33 hk33 x4 x5 x6 M h)
        · refine g_aload_n (pc' := 80) C dX6_spreads_79 rfl rfl ?_
          refine gg_X6_7 (pc' := 83) (i := 0) C rfl hi_X6_spreads_X6 lk_X6_spreads_2 dX6_spreads_80 rfl ?_
          refine g_iload (pc' := 85) C dX6_spreads_83 rfl rfl ?_
          refine g_aload_n (pc' := 86) C dX6_spreads_85 rfl rfl ?_
          refine gg_X6_9 (pc' := 89) (i := 0) C rfl hi_X6_spreads_X6 lk_X6_spreads_3 dX6_spreads_86 rfl ?_
          refine g_iast (pc' := 90) (i := 0) (j := 5) (w' := mdW (gcA X) a (va_up M 7 (upd (M 7) x6.toNatClampNeg (M 9 0)))) C rfl rfl rfl dX6_spreads_89 rfl h (fun h => ?_)
          show G X _ [mdW (gcA X) a (va_up M 7 (upd (M 7) x6.toNatClampNeg (M 9 0)))] _ _ _
          refine g_aload_n (pc' := 91) C dX6_spreads_90 rfl rfl ?_
          refine gg_X6_8 (pc' := 94) (i := 0) C rfl hi_X6_spreads_X6 lk_X6_spreads_1 dX6_spreads_91 rfl ?_
          refine g_iload (pc' := 96) C dX6_spreads_94 rfl rfl ?_
          refine g_iload (pc' := 98) C dX6_spreads_96 rfl rfl ?_
          obtain ⟨M2s, eM2s, h⟩ := ol h
          rw [← eM2s]
          refine g_iast (pc' := 99) (i := 0) (j := 6) (w' := mdW (gcA X) a (va_up M2s 8 (upd (M2s 8) x4.toNatClampNeg x6))) C rfl rfl rfl dX6_spreads_98 rfl h (fun h => ?_)
          show G X _ [mdW (gcA X) a (va_up M2s 8 (upd (M2s 8) x4.toNatClampNeg x6))] _ _ _
          refine g_iinc (pc' := 102) (v := (x4 + 1)) C dX6_spreads_99 rfl rfl rfl (L' := [some (.ref (a 0)), some (.int p0), some (.int p1), some (.int p2), some (.int (x4 + 1)), some (.int x5), some (.int x6)]) rfl ?_
          exact G_loc (lle_s (lle_s (lle_s (lle_s (lle_s (lle_s (lle_s lle_0))))))) (B_X6_spreads_102 C a N p0 p1 p2 r Mz k23 hk23 k33 hk33 (x4 + 1) x5 x6 (va_up M2s 8 (upd (M2s 8) x4.toNatClampNeg x6)) h)
    · exact G_loc (lle_s (lle_s (lle_s (lle_s (lle_s (lle_s (lle_s lle_0))))))) (B_X6_spreads_102 C a N p0 p1 p2 r Mz k23 hk23 k33 hk33 x4 x5 x6 M h)
set_option maxRecDepth 100000 in
set_option maxHeartbeats 4000000 in
theorem L_X6_spreads_33 {X : gX} (C : cx X RX6 cX6_spreads 7 (some .int) wsX6_spreads 2 44) (a : Nat → Nat) (N : Nat) (p0 : Int32) (p1 : Int32) (p2 : Int32) (r : Int32) (Mz : tS) (k23 : Int32 → Int32 → tS → Option (Int32 × tS)) (hk23 : ∀ (x4 : Int32) (x5 : Int32) (M : tS), k23 x4 x5 M = some (r, Mz) → G X (QI X r [mdW (gcA X) a Mz]) [mdW (gcA X) a M] [some (.ref (a 0)), some (.int p0), some (.int p1), some (.int p2), some (.int x4), some (.int x5), none] [] 23) : ∀ (n : Nat) (x4 : Int32) (x5 : Int32) (x6 : Int32) (M : tS), f_X6_spreads_33 N p0 p1 p2 k23 n x4 x5 x6 M = some (r, Mz) → G X (QI X r [mdW (gcA X) a Mz]) [mdW (gcA X) a M] [some (.ref (a 0)), some (.int p0), some (.int p1), some (.int p2), some (.int x4), some (.int x5), some (.int x6)] [] 33 := by
  intro n
  induction n with
  | zero => intro x4 x5 x6 M h; have h : (none : Option (Int32 × tS)) = some (r, Mz) := h; cases h
  | succ n ih => intro x4 x5 x6 M h; exact B_X6_spreads_33b C a N p0 p1 p2 r Mz k23 hk23 (f_X6_spreads_33 N p0 p1 p2 k23 n) ih x4 x5 x6 M h
def f_X6_spreads_23b (N : Nat) (p0 : Int32) (p1 : Int32) (p2 : Int32)  (k23 : Int32 → Int32 → tS → Option (Int32 × tS)) (x4 : Int32) (x5 : Int32) (M : tS) : Option (Int32 × tS) := (if x4 ≤ x5 then some (x4, (va_up M 9 (fun _ => ((M 9 0) + (1 : Int32))))) else f_X6_spreads_33 N p0 p1 p2 k23 N x4 x5 (0 : Int32) M)
def f_X6_spreads_23 (N : Nat) (p0 : Int32) (p1 : Int32) (p2 : Int32)  : Nat → Int32 → Int32 → tS → Option (Int32 × tS)
  | 0 => fun _ _ _ => none
  | n + 1 => f_X6_spreads_23b N p0 p1 p2  (f_X6_spreads_23 N p0 p1 p2  n)
set_option maxRecDepth 100000 in
set_option maxHeartbeats 4000000 in
theorem B_X6_spreads_23b {X : gX} (C : cx X RX6 cX6_spreads 7 (some .int) wsX6_spreads 2 44) (a : Nat → Nat) (N : Nat) (p0 : Int32) (p1 : Int32) (p2 : Int32) (r : Int32) (Mz : tS)  (k23 : Int32 → Int32 → tS → Option (Int32 × tS)) (hk23 : ∀ (x4 : Int32) (x5 : Int32) (M : tS), k23 x4 x5 M = some (r, Mz) → G X (QI X r [mdW (gcA X) a Mz]) [mdW (gcA X) a M] [some (.ref (a 0)), some (.int p0), some (.int p1), some (.int p2), some (.int x4), some (.int x5), none] [] 23) (x4 : Int32) (x5 : Int32) (M : tS) (h : f_X6_spreads_23b N p0 p1 p2  k23 x4 x5 M = some (r, Mz)) : G X (QI X r [mdW (gcA X) a Mz]) [mdW (gcA X) a M] [some (.ref (a 0)), some (.int p0), some (.int p1), some (.int p2), some (.int x4), some (.int x5), none] [] 23 := by
  unfold f_X6_spreads_23b at h
  refine g_iload (pc' := 25) C dX6_spreads_23 rfl rfl ?_
  refine g_iload (pc' := 27) C dX6_spreads_25 rfl rfl ?_
  refine g_icmp_ge (pc' := 30) (tgt := 114) C dX6_spreads_27 (by decide) rfl h (fun c h => ?_) (fun c h => ?_)
  · refine g_aload_n (pc' := 115) C dX6_spreads_114 rfl rfl ?_
    refine g_dup (pc' := 116) C dX6_spreads_115 rfl rfl ?_
    refine gg_X6_9 (pc' := 119) (i := 0) C rfl hi_X6_spreads_X6 lk_X6_spreads_3 dX6_spreads_116 rfl ?_
    refine g_iconst (pc' := 120) (v := 1) C dX6_spreads_119 (by decide) rfl ?_
    refine g_iadd (pc' := 121) C dX6_spreads_120 rfl ?_
    refine gp_X6_9 (pc' := 124) (i := 0) C rfl hi_X6_spreads_X6 lk_X6_spreads_3 dX6_spreads_121 rfl ?_
    show G X _ [mdW (gcA X) a (va_up M 9 (fun _ => ((M 9 0) + (1 : Int32))))] _ _ _
    refine g_iload (pc' := 126) C dX6_spreads_124 rfl rfl ?_
    obtain ⟨rfl, rfl⟩ := pj2 (Option.some.inj h)
    exact g_iret C dX6_spreads_126
  · refine g_iconst (pc' := 31) (v := 0) C dX6_spreads_30 (by decide) rfl ?_
    refine g_istore (pc' := 33) C dX6_spreads_31 (Nat.le_of_ble_eq_true rfl) rfl (L' := [some (.ref (a 0)), some (.int p0), some (.int p1), some (.int p2), some (.int x4), some (.int x5), some (.int (0 : Int32))]) rfl ?_
    exact G_loc (lle_s (lle_s (lle_s (lle_s (lle_s (lle_s (lle_s lle_0))))))) (L_X6_spreads_33 C a N p0 p1 p2 r Mz k23 hk23 N x4 x5 (0 : Int32) M h)
set_option maxRecDepth 100000 in
set_option maxHeartbeats 4000000 in
theorem L_X6_spreads_23 {X : gX} (C : cx X RX6 cX6_spreads 7 (some .int) wsX6_spreads 2 44) (a : Nat → Nat) (N : Nat) (p0 : Int32) (p1 : Int32) (p2 : Int32) (r : Int32) (Mz : tS)  : ∀ (n : Nat) (x4 : Int32) (x5 : Int32) (M : tS), f_X6_spreads_23 N p0 p1 p2  n x4 x5 M = some (r, Mz) → G X (QI X r [mdW (gcA X) a Mz]) [mdW (gcA X) a M] [some (.ref (a 0)), some (.int p0), some (.int p1), some (.int p2), some (.int x4), some (.int x5), none] [] 23 := by
  intro n
  induction n with
  | zero => intro x4 x5 M h; have h : (none : Option (Int32 × tS)) = some (r, Mz) := h; cases h
  | succ n ih => intro x4 x5 M h; exact B_X6_spreads_23b C a N p0 p1 p2 r Mz  (f_X6_spreads_23 N p0 p1 p2  n) ih x4 x5 M h
def f_X6_spreads (N : Nat) (M : tS) (p0 : Int32) (p1 : Int32) (p2 : Int32) : Option (Int32 × tS) := (if (0 : Int32) < 0 ∨ 20 ≤ (0 : Int32).toNatClampNeg then none else (lt_ (va_up M 8 (upd (M 8) (0 : Int32).toNatClampNeg p0)) (fun M1s => (if p0 < 0 ∨ 20 ≤ p0.toNatClampNeg then none else f_X6_spreads_23 N p0 p1 p2 N (1 : Int32) (0 : Int32) (va_up M1s 7 (upd (M1s 7) p0.toNatClampNeg (M 9 0)))))))
set_option maxRecDepth 100000 in
set_option maxHeartbeats 4000000 in
theorem B_X6_spreads {X : gX} (C : cx X RX6 cX6_spreads 7 (some .int) wsX6_spreads 2 44) (a : Nat → Nat) (N : Nat) (M : tS) (p0 : Int32) (p1 : Int32) (p2 : Int32) (r : Int32) (Mz : tS) (h : f_X6_spreads N M p0 p1 p2 = some (r, Mz)) : G X (QI X r [mdW (gcA X) a Mz]) [mdW (gcA X) a M] [some (.ref (a 0)), some (.int p0), some (.int p1), some (.int p2), none, none, none] [] 0 := by
  unfold f_X6_spreads at h
  refine g_iconst (pc' := 1) (v := 1) C dX6_spreads_0 (by decide) rfl ?_
  refine g_istore (pc' := 3) C dX6_spreads_1 (Nat.le_of_ble_eq_true rfl) rfl (L' := [some (.ref (a 0)), some (.int p0), some (.int p1), some (.int p2), some (.int (1 : Int32)), none, none]) rfl ?_
  refine g_aload_n (pc' := 4) C dX6_spreads_3 rfl rfl ?_
  refine gg_X6_8 (pc' := 7) (i := 0) C rfl hi_X6_spreads_X6 lk_X6_spreads_1 dX6_spreads_4 rfl ?_
  refine g_iconst (pc' := 8) (v := 0) C dX6_spreads_7 (by decide) rfl ?_
  refine g_iload_n (pc' := 9) C dX6_spreads_8 rfl rfl ?_
  refine g_iast (pc' := 10) (i := 0) (j := 6) (w' := mdW (gcA X) a (va_up M 8 (upd (M 8) (0 : Int32).toNatClampNeg p0))) C rfl rfl rfl dX6_spreads_9 rfl h (fun h => ?_)
  show G X _ [mdW (gcA X) a (va_up M 8 (upd (M 8) (0 : Int32).toNatClampNeg p0))] _ _ _
  refine g_aload_n (pc' := 11) C dX6_spreads_10 rfl rfl ?_
  refine gg_X6_7 (pc' := 14) (i := 0) C rfl hi_X6_spreads_X6 lk_X6_spreads_2 dX6_spreads_11 rfl ?_
  refine g_iload_n (pc' := 15) C dX6_spreads_14 rfl rfl ?_
  refine g_aload_n (pc' := 16) C dX6_spreads_15 rfl rfl ?_
  refine gg_X6_9 (pc' := 19) (i := 0) C rfl hi_X6_spreads_X6 lk_X6_spreads_3 dX6_spreads_16 rfl ?_
  refine g_vi (v := (M 9 0)) rfl ?_
  obtain ⟨M1s, eM1s, h⟩ := ol h
  rw [← eM1s]
  refine g_iast (pc' := 20) (i := 0) (j := 5) (w' := mdW (gcA X) a (va_up M1s 7 (upd (M1s 7) p0.toNatClampNeg (M 9 0)))) C rfl rfl rfl dX6_spreads_19 rfl h (fun h => ?_)
  show G X _ [mdW (gcA X) a (va_up M1s 7 (upd (M1s 7) p0.toNatClampNeg (M 9 0)))] _ _ _
  refine g_iconst (pc' := 21) (v := 0) C dX6_spreads_20 (by decide) rfl ?_
  refine g_istore (pc' := 23) C dX6_spreads_21 (Nat.le_of_ble_eq_true rfl) rfl (L' := [some (.ref (a 0)), some (.int p0), some (.int p1), some (.int p2), some (.int (1 : Int32)), some (.int (0 : Int32)), none]) rfl ?_
  exact G_loc (lle_s (lle_s (lle_s (lle_s (lle_s (lle_s (lle_n lle_0))))))) (L_X6_spreads_23 C a N p0 p1 p2 r Mz N (1 : Int32) (0 : Int32) (va_up M1s 7 (upd (M1s 7) p0.toNatClampNeg (M 9 0))) h)
set_option maxRecDepth 100000 in
set_option maxHeartbeats 4000000 in
theorem c_X6_spreads (l : Launch) (D : va_G) (cA : Nat → ClassId) (a : Nat → Nat) (N : Nat) (M : tS) (p0 : Int32) (p1 : Int32) (p2 : Int32) (r : Int32) (Mz : tS) (h : f_X6_spreads N M p0 p1 p2 = some (r, Mz)) : MI l D cA yX6_spreads wsX6_spreads 2 44 [.ref (a 0), .int p0, .int p1, .int p2] [mdW cA a M] r [mdW cA a Mz] := MI_of (cc := cX6_spreads) (maxL := 7) (rt := some .int) (by decide +kernel) rfl (List.forall_mem_cons.mpr ⟨rfl, List.forall_mem_cons.mpr ⟨rfl, List.forall_mem_cons.mpr ⟨rfl, List.forall_mem_cons.mpr ⟨rfl, List.forall_mem_nil _⟩⟩⟩⟩) (Nat.le_of_ble_eq_true rfl) (fun X e1 e2 e3 C => by subst e1; subst e2; subst e3; exact B_X6_spreads C a N M p0 p1 p2 r Mz h)
set_option maxRecDepth 100000 in
set_option maxHeartbeats 4000000 in
theorem nd_X6_spreads : nd yX6_spreads 3 := ⟨by decide +kernel, by decide +kernel, by decide +kernel⟩
set_option maxRecDepth 100000 in
set_option maxHeartbeats 4000000 in
theorem k_X6_spreads {X : gX} {own : String} {cc : ByteArray} {nL : Nat} {ret : Option FieldType} {Ts : List Cond} {fr lm : Nat} {Q : State → Prop} {ms : List va_W} {L : List (Option Value)} {st : List Value} {pc pc' idx : Nat} {ρ : Type} {T : Int32 → tS → Option ρ} {res : ρ} (C : cx X own cc nL ret Ts fr lm) (a : Nat → Nat) (N : Nat) (M : tS) (p0 : Int32) (p1 : Int32) (p2 : Int32) (is : List Nat) (hC : is.map (fun i => ms[i]?) = [some (mdW (gcA X) a M)]) (hn : is.Nodup) (hG : GoodIn Ts (wsV own idx RX6 yX6_spreads wsX6_spreads)) (hR : 2 + 1 ≤ fr ∧ 8 + (7 + 11) + 44 ≤ lm) (hst : (st.map fun v => v.category).sum ≤ 8) (hLn : L.length = nL) (d : decode cc pc = .ok (.invokevirtual idx, 3)) (hp : pc + 3 = pc') (h : bd2 (f_X6_spreads N M p0 p1 p2) T = some res) (kk : ∀ (r : Int32) (Mz : tS), T r Mz = some res → G X Q (rpl ms is [mdW (gcA X) a Mz]) L (.int r :: st) pc') : G X Q ms L (.int p2 :: .int p1 :: .int p0 :: .ref (a 0) :: st) pc := by
  obtain ⟨r, Mz, h1, h⟩ := ob2 h
  exact G_callVI C (As := [.int p0, .int p1, .int p2]) (c_X6_spreads (gl X) (gD X) (gcA X) a N M p0 p1 p2 r Mz h1) hG rfl nd_X6_spreads hR (q0 := 0) rfl rfl hC hn rfl rfl hst hLn d hp (kk r Mz h)
theorem hi_X6_laysHeaps_X6 : ∀ w ∈ wsX60, w ∈ wsX6_laysHeaps := fun w h => List.mem_cons_of_mem _ (List.mem_append_right _ h)
theorem lk_X6_laysHeaps_1 : Cond.fieldLink RX6 55 "NoteThemesModel" "heaps" "I" ∈ wsX6_laysHeaps := List.mem_of_getElem? (i := 1) rfl
theorem lk_X6_laysHeaps_2 : Cond.fieldLink RX6 23 "NoteThemesModel" "heapOf" "[I" ∈ wsX6_laysHeaps := List.mem_of_getElem? (i := 2) rfl
theorem lk_X6_laysHeaps_3 : Cond.fieldLink RX6 7 "NoteThemesModel" "s" "[I" ∈ wsX6_laysHeaps := List.mem_of_getElem? (i := 3) rfl
def f_X6_laysHeaps_66 (N : Nat) (p0 : Int32) (p1 : Int32) (k29 : Int32 → tS → Option (Int32 × tS)) (x3 : Int32) (t0 : Int32) (M : tS) : Option (Int32 × tS) := k29 (x3 + 1) M
set_option maxRecDepth 100000 in
set_option maxHeartbeats 4000000 in
theorem B_X6_laysHeaps_66 {X : gX} (C : cx X RX6 cX6_laysHeaps 5 (some .int) wsX6_laysHeaps 3 70) (a : Nat → Nat) (N : Nat) (p0 : Int32) (p1 : Int32) (r : Int32) (Mz : tS) (k29 : Int32 → tS → Option (Int32 × tS)) (hk29 : ∀ (x3 : Int32) (M : tS), k29 x3 M = some (r, Mz) → G X (QI X r [mdW (gcA X) a Mz]) [mdW (gcA X) a M] [some (.ref (a 0)), some (.int p0), some (.int p1), some (.int x3), none] [] 29) (x3 : Int32) (t0 : Int32) (M : tS) (h : f_X6_laysHeaps_66 N p0 p1 k29 x3 t0 M = some (r, Mz)) : G X (QI X r [mdW (gcA X) a Mz]) [mdW (gcA X) a M] [some (.ref (a 0)), some (.int p0), some (.int p1), some (.int x3), none] [.int t0] 66 := by
  unfold f_X6_laysHeaps_66 at h
  refine g_istore (pc' := 68) C dX6_laysHeaps_66 (Nat.le_of_ble_eq_true rfl) rfl (L' := [some (.ref (a 0)), some (.int p0), some (.int p1), some (.int x3), some (.int t0)]) rfl ?_
  refine g_iinc (pc' := 71) (v := (x3 + 1)) C dX6_laysHeaps_68 rfl rfl rfl (L' := [some (.ref (a 0)), some (.int p0), some (.int p1), some (.int (x3 + 1)), some (.int t0)]) rfl ?_
  refine g_goto (pc' := 29) C dX6_laysHeaps_71 (by decide) ?_
  exact G_loc (lle_s (lle_s (lle_s (lle_s (lle_n lle_0))))) (hk29 (x3 + 1) M h)
def f_X6_laysHeaps_65 (N : Nat) (p0 : Int32) (p1 : Int32) (k29 : Int32 → tS → Option (Int32 × tS)) (x3 : Int32) (M : tS) : Option (Int32 × tS) := f_X6_laysHeaps_66 N p0 p1 k29 x3 (0 : Int32) M
set_option maxRecDepth 100000 in
set_option maxHeartbeats 4000000 in
theorem B_X6_laysHeaps_65 {X : gX} (C : cx X RX6 cX6_laysHeaps 5 (some .int) wsX6_laysHeaps 3 70) (a : Nat → Nat) (N : Nat) (p0 : Int32) (p1 : Int32) (r : Int32) (Mz : tS) (k29 : Int32 → tS → Option (Int32 × tS)) (hk29 : ∀ (x3 : Int32) (M : tS), k29 x3 M = some (r, Mz) → G X (QI X r [mdW (gcA X) a Mz]) [mdW (gcA X) a M] [some (.ref (a 0)), some (.int p0), some (.int p1), some (.int x3), none] [] 29) (x3 : Int32) (M : tS) (h : f_X6_laysHeaps_65 N p0 p1 k29 x3 M = some (r, Mz)) : G X (QI X r [mdW (gcA X) a Mz]) [mdW (gcA X) a M] [some (.ref (a 0)), some (.int p0), some (.int p1), some (.int x3), none] [] 65 := by
  unfold f_X6_laysHeaps_65 at h
  refine g_iconst (pc' := 66) (v := 0) C dX6_laysHeaps_65 (by decide) rfl ?_
  exact G_loc (lle_s (lle_s (lle_s (lle_s (lle_n lle_0))))) (B_X6_laysHeaps_66 C a N p0 p1 r Mz k29 hk29 x3 (0 : Int32) M h)
def f_X6_laysHeaps_29b (N : Nat) (p0 : Int32) (p1 : Int32)  (k29 : Int32 → tS → Option (Int32 × tS)) (x3 : Int32) (M : tS) : Option (Int32 × tS) := (if (M 0 (0 : Int32).toNatClampNeg) ≤ x3 then some ((M 9 0), M) else (if x3 < 0 ∨ 20 ≤ x3.toNatClampNeg then none else (if (M 7 x3.toNatClampNeg) = (-5 : Int32) then (if x3 = p1 then f_X6_laysHeaps_65 N p0 p1 k29 x3 M else (bd2 (f_X6_spreads N M x3 p0 p1) (fun r1 M1 => f_X6_laysHeaps_66 N p0 p1 k29 x3 r1 M1))) else f_X6_laysHeaps_65 N p0 p1 k29 x3 M)))
def f_X6_laysHeaps_29 (N : Nat) (p0 : Int32) (p1 : Int32)  : Nat → Int32 → tS → Option (Int32 × tS)
  | 0 => fun _ _ => none
  | n + 1 => f_X6_laysHeaps_29b N p0 p1  (f_X6_laysHeaps_29 N p0 p1  n)
set_option maxRecDepth 100000 in
set_option maxHeartbeats 4000000 in
theorem B_X6_laysHeaps_29b {X : gX} (C : cx X RX6 cX6_laysHeaps 5 (some .int) wsX6_laysHeaps 3 70) (a : Nat → Nat) (N : Nat) (p0 : Int32) (p1 : Int32) (r : Int32) (Mz : tS)  (k29 : Int32 → tS → Option (Int32 × tS)) (hk29 : ∀ (x3 : Int32) (M : tS), k29 x3 M = some (r, Mz) → G X (QI X r [mdW (gcA X) a Mz]) [mdW (gcA X) a M] [some (.ref (a 0)), some (.int p0), some (.int p1), some (.int x3), none] [] 29) (x3 : Int32) (M : tS) (h : f_X6_laysHeaps_29b N p0 p1  k29 x3 M = some (r, Mz)) : G X (QI X r [mdW (gcA X) a Mz]) [mdW (gcA X) a M] [some (.ref (a 0)), some (.int p0), some (.int p1), some (.int x3), none] [] 29 := by
  unfold f_X6_laysHeaps_29b at h
  refine g_iload_n (pc' := 30) C dX6_laysHeaps_29 rfl rfl ?_
  refine g_aload_n (pc' := 31) C dX6_laysHeaps_30 rfl rfl ?_
  refine gg_X6_0 (pc' := 34) (i := 0) C rfl hi_X6_laysHeaps_X6 lk_X6_laysHeaps_3 dX6_laysHeaps_31 rfl ?_
  refine g_iconst (pc' := 35) (v := 0) C dX6_laysHeaps_34 (by decide) rfl ?_
  refine g_iald0 (pc' := 36) (i := 0) (j := 1) C rfl rfl dX6_laysHeaps_35 rfl (by unfold vp_in; decide) ?_
  refine g_icmp_ge (pc' := 39) (tgt := 74) C dX6_laysHeaps_36 (by decide) rfl h (fun c h => ?_) (fun c h => ?_)
  · refine g_aload_n (pc' := 75) C dX6_laysHeaps_74 rfl rfl ?_
    refine gg_X6_9 (pc' := 78) (i := 0) C rfl hi_X6_laysHeaps_X6 lk_X6_laysHeaps_1 dX6_laysHeaps_75 rfl ?_
    obtain ⟨rfl, rfl⟩ := pj2 (Option.some.inj h)
    exact g_iret C dX6_laysHeaps_78
  · refine g_aload_n (pc' := 40) C dX6_laysHeaps_39 rfl rfl ?_
    refine gg_X6_7 (pc' := 43) (i := 0) C rfl hi_X6_laysHeaps_X6 lk_X6_laysHeaps_2 dX6_laysHeaps_40 rfl ?_
    refine g_iload_n (pc' := 44) C dX6_laysHeaps_43 rfl rfl ?_
    refine g_iald (pc' := 45) (i := 0) (j := 5) C rfl rfl dX6_laysHeaps_44 rfl h (fun h => ?_)
    refine g_bipush (pc' := 47) (v := -5) C dX6_laysHeaps_45 (by decide) rfl ?_
    refine g_icmp_ne (pc' := 50) (tgt := 65) C dX6_laysHeaps_47 (by decide) rfl h (fun c h => ?_) (fun c h => ?_)
    · refine g_iload_n (pc' := 51) C dX6_laysHeaps_50 rfl rfl ?_
      refine g_iload_n (pc' := 52) C dX6_laysHeaps_51 rfl rfl ?_
      refine g_icmp_eq (pc' := 55) (tgt := 65) C dX6_laysHeaps_52 (by decide) rfl h (fun c h => ?_) (fun c h => ?_)
      · exact G_loc (lle_s (lle_s (lle_s (lle_s (lle_n lle_0))))) (B_X6_laysHeaps_65 C a N p0 p1 r Mz k29 hk29 x3 M h)
      · refine g_aload_n (pc' := 56) C dX6_laysHeaps_55 rfl rfl ?_
        refine g_iload_n (pc' := 57) C dX6_laysHeaps_56 rfl rfl ?_
        refine g_iload_n (pc' := 58) C dX6_laysHeaps_57 rfl rfl ?_
        refine g_iload_n (pc' := 59) C dX6_laysHeaps_58 rfl rfl ?_
        refine k_X6_spreads (pc' := 62) C a N M x3 p0 p1 [0] rfl (by decide) gX6_laysHeaps_X6_spreads ⟨Nat.le_of_ble_eq_true rfl, Nat.le_of_ble_eq_true rfl⟩ (Nat.le_of_ble_eq_true rfl) rfl dX6_laysHeaps_59 rfl h (fun r1 M1 h => ?_)
        show G X _ [mdW (gcA X) a M1] _ _ _
        refine g_goto (pc' := 66) C dX6_laysHeaps_62 (by decide) ?_
        exact G_loc (lle_s (lle_s (lle_s (lle_s (lle_n lle_0))))) (B_X6_laysHeaps_66 C a N p0 p1 r Mz k29 hk29 x3 r1 M1 h)
    · exact G_loc (lle_s (lle_s (lle_s (lle_s (lle_n lle_0))))) (B_X6_laysHeaps_65 C a N p0 p1 r Mz k29 hk29 x3 M h)
set_option maxRecDepth 100000 in
set_option maxHeartbeats 4000000 in
theorem L_X6_laysHeaps_29 {X : gX} (C : cx X RX6 cX6_laysHeaps 5 (some .int) wsX6_laysHeaps 3 70) (a : Nat → Nat) (N : Nat) (p0 : Int32) (p1 : Int32) (r : Int32) (Mz : tS)  : ∀ (n : Nat) (x3 : Int32) (M : tS), f_X6_laysHeaps_29 N p0 p1  n x3 M = some (r, Mz) → G X (QI X r [mdW (gcA X) a Mz]) [mdW (gcA X) a M] [some (.ref (a 0)), some (.int p0), some (.int p1), some (.int x3), none] [] 29 := by
  intro n
  induction n with
  | zero => intro x3 M h; have h : (none : Option (Int32 × tS)) = some (r, Mz) := h; cases h
  | succ n ih => intro x3 M h; exact B_X6_laysHeaps_29b C a N p0 p1 r Mz  (f_X6_laysHeaps_29 N p0 p1  n) ih x3 M h
def f_X6_laysHeaps_7b (N : Nat) (p0 : Int32) (p1 : Int32)  (k7 : Int32 → tS → Option (Int32 × tS)) (x3 : Int32) (M : tS) : Option (Int32 × tS) := (if (20 : Int32) ≤ x3 then f_X6_laysHeaps_29 N p0 p1 N (0 : Int32) M else (if x3 < 0 ∨ 20 ≤ x3.toNatClampNeg then none else k7 (x3 + 1) (va_up M 7 (upd (M 7) x3.toNatClampNeg (-5 : Int32)))))
def f_X6_laysHeaps_7 (N : Nat) (p0 : Int32) (p1 : Int32)  : Nat → Int32 → tS → Option (Int32 × tS)
  | 0 => fun _ _ => none
  | n + 1 => f_X6_laysHeaps_7b N p0 p1  (f_X6_laysHeaps_7 N p0 p1  n)
set_option maxRecDepth 100000 in
set_option maxHeartbeats 4000000 in
theorem B_X6_laysHeaps_7b {X : gX} (C : cx X RX6 cX6_laysHeaps 5 (some .int) wsX6_laysHeaps 3 70) (a : Nat → Nat) (N : Nat) (p0 : Int32) (p1 : Int32) (r : Int32) (Mz : tS)  (k7 : Int32 → tS → Option (Int32 × tS)) (hk7 : ∀ (x3 : Int32) (M : tS), k7 x3 M = some (r, Mz) → G X (QI X r [mdW (gcA X) a Mz]) [mdW (gcA X) a M] [some (.ref (a 0)), some (.int p0), some (.int p1), some (.int x3), none] [] 7) (x3 : Int32) (M : tS) (h : f_X6_laysHeaps_7b N p0 p1  k7 x3 M = some (r, Mz)) : G X (QI X r [mdW (gcA X) a Mz]) [mdW (gcA X) a M] [some (.ref (a 0)), some (.int p0), some (.int p1), some (.int x3), none] [] 7 := by
  unfold f_X6_laysHeaps_7b at h
  refine g_iload_n (pc' := 8) C dX6_laysHeaps_7 rfl rfl ?_
  refine g_bipush (pc' := 10) (v := 20) C dX6_laysHeaps_8 (by decide) rfl ?_
  refine g_icmp_ge (pc' := 13) (tgt := 27) C dX6_laysHeaps_10 (by decide) rfl h (fun c h => ?_) (fun c h => ?_)
  · refine g_iconst (pc' := 28) (v := 0) C dX6_laysHeaps_27 (by decide) rfl ?_
    refine g_istore_n (pc' := 29) C dX6_laysHeaps_28 (Nat.le_of_ble_eq_true rfl) rfl (L' := [some (.ref (a 0)), some (.int p0), some (.int p1), some (.int (0 : Int32)), none]) rfl ?_
    exact G_loc (lle_s (lle_s (lle_s (lle_s (lle_n lle_0))))) (L_X6_laysHeaps_29 C a N p0 p1 r Mz N (0 : Int32) M h)
  · refine g_aload_n (pc' := 14) C dX6_laysHeaps_13 rfl rfl ?_
    refine gg_X6_7 (pc' := 17) (i := 0) C rfl hi_X6_laysHeaps_X6 lk_X6_laysHeaps_2 dX6_laysHeaps_14 rfl ?_
    refine g_iload_n (pc' := 18) C dX6_laysHeaps_17 rfl rfl ?_
    refine g_bipush (pc' := 20) (v := -5) C dX6_laysHeaps_18 (by decide) rfl ?_
    refine g_iast (pc' := 21) (i := 0) (j := 5) (w' := mdW (gcA X) a (va_up M 7 (upd (M 7) x3.toNatClampNeg (-5 : Int32)))) C rfl rfl rfl dX6_laysHeaps_20 rfl h (fun h => ?_)
    show G X _ [mdW (gcA X) a (va_up M 7 (upd (M 7) x3.toNatClampNeg (-5 : Int32)))] _ _ _
    refine g_iinc (pc' := 24) (v := (x3 + 1)) C dX6_laysHeaps_21 rfl rfl rfl (L' := [some (.ref (a 0)), some (.int p0), some (.int p1), some (.int (x3 + 1)), none]) rfl ?_
    refine g_goto (pc' := 7) C dX6_laysHeaps_24 (by decide) ?_
    exact G_loc (lle_s (lle_s (lle_s (lle_s (lle_n lle_0))))) (hk7 (x3 + 1) (va_up M 7 (upd (M 7) x3.toNatClampNeg (-5 : Int32))) h)
set_option maxRecDepth 100000 in
set_option maxHeartbeats 4000000 in
theorem L_X6_laysHeaps_7 {X : gX} (C : cx X RX6 cX6_laysHeaps 5 (some .int) wsX6_laysHeaps 3 70) (a : Nat → Nat) (N : Nat) (p0 : Int32) (p1 : Int32) (r : Int32) (Mz : tS)  : ∀ (n : Nat) (x3 : Int32) (M : tS), f_X6_laysHeaps_7 N p0 p1  n x3 M = some (r, Mz) → G X (QI X r [mdW (gcA X) a Mz]) [mdW (gcA X) a M] [some (.ref (a 0)), some (.int p0), some (.int p1), some (.int x3), none] [] 7 := by
  intro n
  induction n with
  | zero => intro x3 M h; have h : (none : Option (Int32 × tS)) = some (r, Mz) := h; cases h
  | succ n ih => intro x3 M h; exact B_X6_laysHeaps_7b C a N p0 p1 r Mz  (f_X6_laysHeaps_7 N p0 p1  n) ih x3 M h
def f_X6_laysHeaps (N : Nat) (M : tS) (p0 : Int32) (p1 : Int32) : Option (Int32 × tS) := f_X6_laysHeaps_7 N p0 p1 N (0 : Int32) (va_up M 9 (fun _ => (0 : Int32)))
set_option maxRecDepth 100000 in
set_option maxHeartbeats 4000000 in
theorem B_X6_laysHeaps {X : gX} (C : cx X RX6 cX6_laysHeaps 5 (some .int) wsX6_laysHeaps 3 70) (a : Nat → Nat) (N : Nat) (M : tS) (p0 : Int32) (p1 : Int32) (r : Int32) (Mz : tS) (h : f_X6_laysHeaps N M p0 p1 = some (r, Mz)) : G X (QI X r [mdW (gcA X) a Mz]) [mdW (gcA X) a M] [some (.ref (a 0)), some (.int p0), some (.int p1), none, none] [] 0 := by
  unfold f_X6_laysHeaps at h
  refine g_aload_n (pc' := 1) C dX6_laysHeaps_0 rfl rfl ?_
  refine g_iconst (pc' := 2) (v := 0) C dX6_laysHeaps_1 (by decide) rfl ?_
  refine gp_X6_9 (pc' := 5) (i := 0) C rfl hi_X6_laysHeaps_X6 lk_X6_laysHeaps_1 dX6_laysHeaps_2 rfl ?_
  show G X _ [mdW (gcA X) a (va_up M 9 (fun _ => (0 : Int32)))] _ _ _
  refine g_iconst (pc' := 6) (v := 0) C dX6_laysHeaps_5 (by decide) rfl ?_
  refine g_istore_n (pc' := 7) C dX6_laysHeaps_6 (Nat.le_of_ble_eq_true rfl) rfl (L' := [some (.ref (a 0)), some (.int p0), some (.int p1), some (.int (0 : Int32)), none]) rfl ?_
  exact G_loc (lle_s (lle_s (lle_s (lle_s (lle_n lle_0))))) (L_X6_laysHeaps_7 C a N p0 p1 r Mz N (0 : Int32) (va_up M 9 (fun _ => (0 : Int32))) h)
set_option maxRecDepth 100000 in
set_option maxHeartbeats 4000000 in
theorem c_X6_laysHeaps (l : Launch) (D : va_G) (cA : Nat → ClassId) (a : Nat → Nat) (N : Nat) (M : tS) (p0 : Int32) (p1 : Int32) (r : Int32) (Mz : tS) (h : f_X6_laysHeaps N M p0 p1 = some (r, Mz)) : MI l D cA yX6_laysHeaps wsX6_laysHeaps 3 70 [.ref (a 0), .int p0, .int p1] [mdW cA a M] r [mdW cA a Mz] := MI_of (cc := cX6_laysHeaps) (maxL := 5) (rt := some .int) (by decide +kernel) rfl (List.forall_mem_cons.mpr ⟨rfl, List.forall_mem_cons.mpr ⟨rfl, List.forall_mem_cons.mpr ⟨rfl, List.forall_mem_nil _⟩⟩⟩) (Nat.le_of_ble_eq_true rfl) (fun X e1 e2 e3 C => by subst e1; subst e2; subst e3; exact B_X6_laysHeaps C a N M p0 p1 r Mz h)
set_option maxRecDepth 100000 in
set_option maxHeartbeats 4000000 in
theorem nd_X6_laysHeaps : nd yX6_laysHeaps 2 := ⟨by decide +kernel, by decide +kernel, by decide +kernel⟩
set_option maxRecDepth 100000 in
set_option maxHeartbeats 4000000 in
theorem k_X6_laysHeaps {X : gX} {own : String} {cc : ByteArray} {nL : Nat} {ret : Option FieldType} {Ts : List Cond} {fr lm : Nat} {Q : State → Prop} {ms : List va_W} {L : List (Option Value)} {st : List Value} {pc pc' idx : Nat} {ρ : Type} {T : Int32 → tS → Option ρ} {res : ρ} (C : cx X own cc nL ret Ts fr lm) (a : Nat → Nat) (N : Nat) (M : tS) (p0 : Int32) (p1 : Int32) (is : List Nat) (hC : is.map (fun i => ms[i]?) = [some (mdW (gcA X) a M)]) (hn : is.Nodup) (hG : GoodIn Ts (wsV own idx RX6 yX6_laysHeaps wsX6_laysHeaps)) (hR : 3 + 1 ≤ fr ∧ 8 + (5 + 11) + 70 ≤ lm) (hst : (st.map fun v => v.category).sum ≤ 8) (hLn : L.length = nL) (d : decode cc pc = .ok (.invokevirtual idx, 3)) (hp : pc + 3 = pc') (h : bd2 (f_X6_laysHeaps N M p0 p1) T = some res) (kk : ∀ (r : Int32) (Mz : tS), T r Mz = some res → G X Q (rpl ms is [mdW (gcA X) a Mz]) L (.int r :: st) pc') : G X Q ms L (.int p1 :: .int p0 :: .ref (a 0) :: st) pc := by
  obtain ⟨r, Mz, h1, h⟩ := ob2 h
  exact G_callVI C (As := [.int p0, .int p1]) (c_X6_laysHeaps (gl X) (gD X) (gcA X) a N M p0 p1 r Mz h1) hG rfl nd_X6_laysHeaps hR (q0 := 0) rfl rfl hC hn rfl rfl hst hLn d hp (kk r Mz h)
theorem hi_X6_laysNow_X6 : ∀ w ∈ wsX60, w ∈ wsX6_laysNow := fun w h => List.mem_cons_of_mem _ (List.mem_append_right _ h)
theorem lk_X6_laysNow_1 : Cond.fieldLink RX6 7 "NoteThemesModel" "s" "[I" ∈ wsX6_laysNow := List.mem_of_getElem? (i := 1) rfl
def f_X6_laysNow (N : Nat) (M : tS)  : Option (Int32 × tS) := (bd2 (f_X6_laysHeaps N M (M 0 (2 : Int32).toNatClampNeg) (-5 : Int32)) (fun r1 M1 => some (r1, M1)))
set_option maxRecDepth 100000 in
set_option maxHeartbeats 4000000 in
theorem B_X6_laysNow {X : gX} (C : cx X RX6 cX6_laysNow 1 (some .int) wsX6_laysNow 4 94) (a : Nat → Nat) (N : Nat) (M : tS)  (r : Int32) (Mz : tS) (h : f_X6_laysNow N M = some (r, Mz)) : G X (QI X r [mdW (gcA X) a Mz]) [mdW (gcA X) a M] [some (.ref (a 0))] [] 0 := by
  unfold f_X6_laysNow at h
  refine g_aload_n (pc' := 1) C dX6_laysNow_0 rfl rfl ?_
  refine g_aload_n (pc' := 2) C dX6_laysNow_1 rfl rfl ?_
  refine gg_X6_0 (pc' := 5) (i := 0) C rfl hi_X6_laysNow_X6 lk_X6_laysNow_1 dX6_laysNow_2 rfl ?_
  refine g_iconst (pc' := 6) (v := 2) C dX6_laysNow_5 (by decide) rfl ?_
  refine g_iald0 (pc' := 7) (i := 0) (j := 1) C rfl rfl dX6_laysNow_6 rfl (by unfold vp_in; decide) ?_
  refine g_bipush (pc' := 9) (v := -5) C dX6_laysNow_7 (by decide) rfl ?_
  refine k_X6_laysHeaps (pc' := 12) C a N M (M 0 (2 : Int32).toNatClampNeg) (-5 : Int32) [0] rfl (by decide) gX6_laysNow_X6_laysHeaps ⟨Nat.le_of_ble_eq_true rfl, Nat.le_of_ble_eq_true rfl⟩ (Nat.le_of_ble_eq_true rfl) rfl dX6_laysNow_9 rfl h (fun r1 M1 h => ?_)
  show G X _ [mdW (gcA X) a M1] _ _ _
  obtain ⟨rfl, rfl⟩ := pj2 (Option.some.inj h)
  exact g_iret C dX6_laysNow_12
set_option maxRecDepth 100000 in
set_option maxHeartbeats 4000000 in
theorem c_X6_laysNow (l : Launch) (D : va_G) (cA : Nat → ClassId) (a : Nat → Nat) (N : Nat) (M : tS)  (r : Int32) (Mz : tS) (h : f_X6_laysNow N M = some (r, Mz)) : MI l D cA yX6_laysNow wsX6_laysNow 4 94 [.ref (a 0)] [mdW cA a M] r [mdW cA a Mz] := MI_of (cc := cX6_laysNow) (maxL := 1) (rt := some .int) (by decide +kernel) rfl (List.forall_mem_cons.mpr ⟨rfl, List.forall_mem_nil _⟩) (Nat.le_of_ble_eq_true rfl) (fun X e1 e2 e3 C => by subst e1; subst e2; subst e3; exact B_X6_laysNow C a N M r Mz h)
set_option maxRecDepth 100000 in
set_option maxHeartbeats 4000000 in
theorem nd_X6_laysNow : nd yX6_laysNow 0 := ⟨by decide +kernel, by decide +kernel, by decide +kernel⟩
set_option maxRecDepth 100000 in
set_option maxHeartbeats 4000000 in
theorem k_X6_laysNow {X : gX} {own : String} {cc : ByteArray} {nL : Nat} {ret : Option FieldType} {Ts : List Cond} {fr lm : Nat} {Q : State → Prop} {ms : List va_W} {L : List (Option Value)} {st : List Value} {pc pc' idx : Nat} {ρ : Type} {T : Int32 → tS → Option ρ} {res : ρ} (C : cx X own cc nL ret Ts fr lm) (a : Nat → Nat) (N : Nat) (M : tS)  (is : List Nat) (hC : is.map (fun i => ms[i]?) = [some (mdW (gcA X) a M)]) (hn : is.Nodup) (hG : GoodIn Ts (wsV own idx RX6 yX6_laysNow wsX6_laysNow)) (hR : 4 + 1 ≤ fr ∧ 8 + (1 + 11) + 94 ≤ lm) (hst : (st.map fun v => v.category).sum ≤ 8) (hLn : L.length = nL) (d : decode cc pc = .ok (.invokevirtual idx, 3)) (hp : pc + 3 = pc') (h : bd2 (f_X6_laysNow N M) T = some res) (kk : ∀ (r : Int32) (Mz : tS), T r Mz = some res → G X Q (rpl ms is [mdW (gcA X) a Mz]) L (.int r :: st) pc') : G X Q ms L (.ref (a 0) :: st) pc := by
  obtain ⟨r, Mz, h1, h⟩ := ob2 h
  exact G_callVI C (As := []) (c_X6_laysNow (gl X) (gD X) (gcA X) a N M r Mz h1) hG rfl nd_X6_laysNow hR (q0 := 0) rfl rfl hC hn rfl rfl hst hLn d hp (kk r Mz h)
theorem hi_X6_notesIn_X6 : ∀ w ∈ wsX60, w ∈ wsX6_notesIn := fun w h => List.mem_cons_of_mem _ (List.mem_append_right _ h)
theorem lk_X6_notesIn_1 : Cond.fieldLink RX6 7 "NoteThemesModel" "s" "[I" ∈ wsX6_notesIn := List.mem_of_getElem? (i := 1) rfl
theorem lk_X6_notesIn_2 : Cond.fieldLink RX6 23 "NoteThemesModel" "heapOf" "[I" ∈ wsX6_notesIn := List.mem_of_getElem? (i := 2) rfl
def f_X6_notesIn_30 (N : Nat) (M : tS) (p0 : Int32) (k4 : Int32 → Int32 → Option (Int32)) (x3 : Int32) (t0 : Int32) (t1 : Int32) : Option (Int32) := k4 (t1 + t0) (x3 + 1)
set_option maxRecDepth 100000 in
set_option maxHeartbeats 4000000 in
theorem B_X6_notesIn_30 {X : gX} (C : cx X RX6 cX6_notesIn 4 (some .int) wsX6_notesIn 0 0) (a : Nat → Nat) (N : Nat) (M : tS) (p0 : Int32) (r : Int32) (k4 : Int32 → Int32 → Option (Int32)) (hk4 : ∀ (x2 : Int32) (x3 : Int32), k4 x2 x3 = some r → G X (QI X r [mdW (gcA X) a M]) [mdW (gcA X) a M] [some (.ref (a 0)), some (.int p0), some (.int x2), some (.int x3)] [] 4) (x3 : Int32) (t0 : Int32) (t1 : Int32) (h : f_X6_notesIn_30 N M p0 k4 x3 t0 t1 = some r) : G X (QI X r [mdW (gcA X) a M]) [mdW (gcA X) a M] [some (.ref (a 0)), some (.int p0), none, some (.int x3)] [.int t0, .int t1] 30 := by
  unfold f_X6_notesIn_30 at h
  refine g_iadd (pc' := 31) C dX6_notesIn_30 rfl ?_
  refine g_istore_n (pc' := 32) C dX6_notesIn_31 (Nat.le_of_ble_eq_true rfl) rfl (L' := [some (.ref (a 0)), some (.int p0), some (.int (t1 + t0)), some (.int x3)]) rfl ?_
  refine g_iinc (pc' := 35) (v := (x3 + 1)) C dX6_notesIn_32 rfl rfl rfl (L' := [some (.ref (a 0)), some (.int p0), some (.int (t1 + t0)), some (.int (x3 + 1))]) rfl ?_
  refine g_goto (pc' := 4) C dX6_notesIn_35 (by decide) ?_
  exact G_loc (lle_s (lle_s (lle_s (lle_s lle_0)))) (hk4 (t1 + t0) (x3 + 1) h)
def f_X6_notesIn_4b (N : Nat) (M : tS) (p0 : Int32)  (k4 : Int32 → Int32 → Option (Int32)) (x2 : Int32) (x3 : Int32) : Option (Int32) := (if (M 0 (0 : Int32).toNatClampNeg) ≤ x3 then some x2 else (if x3 < 0 ∨ 20 ≤ x3.toNatClampNeg then none else (if (M 7 x3.toNatClampNeg) = p0 then f_X6_notesIn_30 N M p0 k4 x3 (1 : Int32) x2 else f_X6_notesIn_30 N M p0 k4 x3 (0 : Int32) x2)))
def f_X6_notesIn_4 (N : Nat) (M : tS) (p0 : Int32)  : Nat → Int32 → Int32 → Option (Int32)
  | 0 => fun _ _ => none
  | n + 1 => f_X6_notesIn_4b N M p0  (f_X6_notesIn_4 N M p0  n)
set_option maxRecDepth 100000 in
set_option maxHeartbeats 4000000 in
theorem B_X6_notesIn_4b {X : gX} (C : cx X RX6 cX6_notesIn 4 (some .int) wsX6_notesIn 0 0) (a : Nat → Nat) (N : Nat) (M : tS) (p0 : Int32) (r : Int32)  (k4 : Int32 → Int32 → Option (Int32)) (hk4 : ∀ (x2 : Int32) (x3 : Int32), k4 x2 x3 = some r → G X (QI X r [mdW (gcA X) a M]) [mdW (gcA X) a M] [some (.ref (a 0)), some (.int p0), some (.int x2), some (.int x3)] [] 4) (x2 : Int32) (x3 : Int32) (h : f_X6_notesIn_4b N M p0  k4 x2 x3 = some r) : G X (QI X r [mdW (gcA X) a M]) [mdW (gcA X) a M] [some (.ref (a 0)), some (.int p0), some (.int x2), some (.int x3)] [] 4 := by
  unfold f_X6_notesIn_4b at h
  refine g_iload_n (pc' := 5) C dX6_notesIn_4 rfl rfl ?_
  refine g_aload_n (pc' := 6) C dX6_notesIn_5 rfl rfl ?_
  refine gg_X6_0 (pc' := 9) (i := 0) C rfl hi_X6_notesIn_X6 lk_X6_notesIn_1 dX6_notesIn_6 rfl ?_
  refine g_iconst (pc' := 10) (v := 0) C dX6_notesIn_9 (by decide) rfl ?_
  refine g_iald0 (pc' := 11) (i := 0) (j := 1) C rfl rfl dX6_notesIn_10 rfl (by unfold vp_in; decide) ?_
  refine g_icmp_ge (pc' := 14) (tgt := 38) C dX6_notesIn_11 (by decide) rfl h (fun c h => ?_) (fun c h => ?_)
  · refine g_iload_n (pc' := 39) C dX6_notesIn_38 rfl rfl ?_
    obtain rfl := Option.some.inj h
    exact g_iret C dX6_notesIn_39
  · refine g_iload_n (pc' := 15) C dX6_notesIn_14 rfl rfl ?_
    refine g_aload_n (pc' := 16) C dX6_notesIn_15 rfl rfl ?_
    refine gg_X6_7 (pc' := 19) (i := 0) C rfl hi_X6_notesIn_X6 lk_X6_notesIn_2 dX6_notesIn_16 rfl ?_
    refine g_iload_n (pc' := 20) C dX6_notesIn_19 rfl rfl ?_
    refine g_iald (pc' := 21) (i := 0) (j := 5) C rfl rfl dX6_notesIn_20 rfl h (fun h => ?_)
    refine g_iload_n (pc' := 22) C dX6_notesIn_21 rfl rfl ?_
    refine g_icmp_ne (pc' := 25) (tgt := 29) C dX6_notesIn_22 (by decide) rfl h (fun c h => ?_) (fun c h => ?_)
    · refine g_iconst (pc' := 26) (v := 1) C dX6_notesIn_25 (by decide) rfl ?_
      refine g_goto (pc' := 30) C dX6_notesIn_26 (by decide) ?_
      exact G_loc (lle_s (lle_s (lle_n (lle_s lle_0)))) (B_X6_notesIn_30 C a N M p0 r k4 hk4 x3 (1 : Int32) x2 h)
    · refine g_iconst (pc' := 30) (v := 0) C dX6_notesIn_29 (by decide) rfl ?_
      exact G_loc (lle_s (lle_s (lle_n (lle_s lle_0)))) (B_X6_notesIn_30 C a N M p0 r k4 hk4 x3 (0 : Int32) x2 h)
set_option maxRecDepth 100000 in
set_option maxHeartbeats 4000000 in
theorem L_X6_notesIn_4 {X : gX} (C : cx X RX6 cX6_notesIn 4 (some .int) wsX6_notesIn 0 0) (a : Nat → Nat) (N : Nat) (M : tS) (p0 : Int32) (r : Int32)  : ∀ (n : Nat) (x2 : Int32) (x3 : Int32), f_X6_notesIn_4 N M p0  n x2 x3 = some r → G X (QI X r [mdW (gcA X) a M]) [mdW (gcA X) a M] [some (.ref (a 0)), some (.int p0), some (.int x2), some (.int x3)] [] 4 := by
  intro n
  induction n with
  | zero => intro x2 x3 h; have h : (none : Option (Int32)) = some r := h; cases h
  | succ n ih => intro x2 x3 h; exact B_X6_notesIn_4b C a N M p0 r  (f_X6_notesIn_4 N M p0  n) ih x2 x3 h
def f_X6_notesIn (N : Nat) (M : tS) (p0 : Int32) : Option (Int32) := f_X6_notesIn_4 N M p0 N (0 : Int32) (0 : Int32)
set_option maxRecDepth 100000 in
set_option maxHeartbeats 4000000 in
theorem B_X6_notesIn {X : gX} (C : cx X RX6 cX6_notesIn 4 (some .int) wsX6_notesIn 0 0) (a : Nat → Nat) (N : Nat) (M : tS) (p0 : Int32) (r : Int32) (h : f_X6_notesIn N M p0 = some r) : G X (QI X r [mdW (gcA X) a M]) [mdW (gcA X) a M] [some (.ref (a 0)), some (.int p0), none, none] [] 0 := by
  unfold f_X6_notesIn at h
  refine g_iconst (pc' := 1) (v := 0) C dX6_notesIn_0 (by decide) rfl ?_
  refine g_istore_n (pc' := 2) C dX6_notesIn_1 (Nat.le_of_ble_eq_true rfl) rfl (L' := [some (.ref (a 0)), some (.int p0), some (.int (0 : Int32)), none]) rfl ?_
  refine g_iconst (pc' := 3) (v := 0) C dX6_notesIn_2 (by decide) rfl ?_
  refine g_istore_n (pc' := 4) C dX6_notesIn_3 (Nat.le_of_ble_eq_true rfl) rfl (L' := [some (.ref (a 0)), some (.int p0), some (.int (0 : Int32)), some (.int (0 : Int32))]) rfl ?_
  exact G_loc (lle_s (lle_s (lle_s (lle_s lle_0)))) (L_X6_notesIn_4 C a N M p0 r N (0 : Int32) (0 : Int32) h)
set_option maxRecDepth 100000 in
set_option maxHeartbeats 4000000 in
theorem c_X6_notesIn (l : Launch) (D : va_G) (cA : Nat → ClassId) (a : Nat → Nat) (N : Nat) (M : tS) (p0 : Int32) (r : Int32) (h : f_X6_notesIn N M p0 = some r) : MI l D cA yX6_notesIn wsX6_notesIn 0 0 [.ref (a 0), .int p0] [mdW cA a M] r [mdW cA a M] := MI_of (cc := cX6_notesIn) (maxL := 4) (rt := some .int) (by decide +kernel) rfl (List.forall_mem_cons.mpr ⟨rfl, List.forall_mem_cons.mpr ⟨rfl, List.forall_mem_nil _⟩⟩) (Nat.le_of_ble_eq_true rfl) (fun X e1 e2 e3 C => by subst e1; subst e2; subst e3; exact B_X6_notesIn C a N M p0 r h)
set_option maxRecDepth 100000 in
set_option maxHeartbeats 4000000 in
theorem nd_X6_notesIn : nd yX6_notesIn 1 := ⟨by decide +kernel, by decide +kernel, by decide +kernel⟩
set_option maxRecDepth 100000 in
set_option maxHeartbeats 4000000 in
theorem k_X6_notesIn {X : gX} {own : String} {cc : ByteArray} {nL : Nat} {ret : Option FieldType} {Ts : List Cond} {fr lm : Nat} {Q : State → Prop} {ms : List va_W} {L : List (Option Value)} {st : List Value} {pc pc' idx : Nat} {ρ : Type} {T : Int32 → Option ρ} {res : ρ} (C : cx X own cc nL ret Ts fr lm) (a : Nat → Nat) (N : Nat) (M : tS) (p0 : Int32) (is : List Nat) (hC : is.map (fun i => ms[i]?) = [some (mdW (gcA X) a M)]) (hn : is.Nodup) (hG : GoodIn Ts (wsV own idx RX6 yX6_notesIn wsX6_notesIn)) (hR : 0 + 1 ≤ fr ∧ 8 + (4 + 11) + 0 ≤ lm) (hst : (st.map fun v => v.category).sum ≤ 8) (hLn : L.length = nL) (d : decode cc pc = .ok (.invokevirtual idx, 3)) (hp : pc + 3 = pc') (h : bd (f_X6_notesIn N M p0) T = some res) (kk : ∀ (r : Int32), T r = some res → G X Q (ms) L (.int r :: st) pc') : G X Q ms L (.int p0 :: .ref (a 0) :: st) pc := by
  obtain ⟨r, h1, h⟩ := ob h
  exact G_callVI C (As := [.int p0]) (c_X6_notesIn (gl X) (gD X) (gcA X) a N M p0 r h1) hG rfl nd_X6_notesIn hR (q0 := 0) rfl rfl hC hn rfl rfl hst hLn d hp (G_ms (rpl_same (mc := [mdW (gcA X) a M]) hC) (kk r h))
def f_X6_dotsOf_4b (N : Nat) (M : tS) (p0 : Int32)  (k4 : Int32 → Int32 → Option (Int32)) (x2 : Int32) (x3 : Int32) : Option (Int32) := (if (6 : Int32) ≤ x3 then some x2 else (bd (f_X6_of N M p0 ((3 : Int32) + x3)) (fun r1 => k4 (x2 + r1) (x3 + 1))))
def f_X6_dotsOf_4 (N : Nat) (M : tS) (p0 : Int32)  : Nat → Int32 → Int32 → Option (Int32)
  | 0 => fun _ _ => none
  | n + 1 => f_X6_dotsOf_4b N M p0  (f_X6_dotsOf_4 N M p0  n)
set_option maxRecDepth 100000 in
set_option maxHeartbeats 4000000 in
theorem B_X6_dotsOf_4b {X : gX} (C : cx X RX6 cX6_dotsOf 4 (some .int) wsX6_dotsOf 1 22) (a : Nat → Nat) (N : Nat) (M : tS) (p0 : Int32) (r : Int32)  (k4 : Int32 → Int32 → Option (Int32)) (hk4 : ∀ (x2 : Int32) (x3 : Int32), k4 x2 x3 = some r → G X (QI X r [mdW (gcA X) a M]) [mdW (gcA X) a M] [some (.ref (a 0)), some (.int p0), some (.int x2), some (.int x3)] [] 4) (x2 : Int32) (x3 : Int32) (h : f_X6_dotsOf_4b N M p0  k4 x2 x3 = some r) : G X (QI X r [mdW (gcA X) a M]) [mdW (gcA X) a M] [some (.ref (a 0)), some (.int p0), some (.int x2), some (.int x3)] [] 4 := by
  unfold f_X6_dotsOf_4b at h
  refine g_iload_n (pc' := 5) C dX6_dotsOf_4 rfl rfl ?_
  refine g_bipush (pc' := 7) (v := 6) C dX6_dotsOf_5 (by decide) rfl ?_
  refine g_icmp_ge (pc' := 10) (tgt := 27) C dX6_dotsOf_7 (by decide) rfl h (fun c h => ?_) (fun c h => ?_)
  · refine g_iload_n (pc' := 28) C dX6_dotsOf_27 rfl rfl ?_
    obtain rfl := Option.some.inj h
    exact g_iret C dX6_dotsOf_28
  · refine g_iload_n (pc' := 11) C dX6_dotsOf_10 rfl rfl ?_
    refine g_aload_n (pc' := 12) C dX6_dotsOf_11 rfl rfl ?_
    refine g_iload_n (pc' := 13) C dX6_dotsOf_12 rfl rfl ?_
    refine g_iconst (pc' := 14) (v := 3) C dX6_dotsOf_13 (by decide) rfl ?_
    refine g_iload_n (pc' := 15) C dX6_dotsOf_14 rfl rfl ?_
    refine g_iadd (pc' := 16) C dX6_dotsOf_15 rfl ?_
    refine k_X6_of (pc' := 19) C a N M p0 ((3 : Int32) + x3) [0] rfl (by decide) gX6_dotsOf_X6_of ⟨Nat.le_of_ble_eq_true rfl, Nat.le_of_ble_eq_true rfl⟩ (Nat.le_of_ble_eq_true rfl) rfl dX6_dotsOf_16 rfl h (fun r1 h => ?_)
    refine g_iadd (pc' := 20) C dX6_dotsOf_19 rfl ?_
    refine g_istore_n (pc' := 21) C dX6_dotsOf_20 (Nat.le_of_ble_eq_true rfl) rfl (L' := [some (.ref (a 0)), some (.int p0), some (.int (x2 + r1)), some (.int x3)]) rfl ?_
    refine g_iinc (pc' := 24) (v := (x3 + 1)) C dX6_dotsOf_21 rfl rfl rfl (L' := [some (.ref (a 0)), some (.int p0), some (.int (x2 + r1)), some (.int (x3 + 1))]) rfl ?_
    refine g_goto (pc' := 4) C dX6_dotsOf_24 (by decide) ?_
    exact G_loc (lle_s (lle_s (lle_s (lle_s lle_0)))) (hk4 (x2 + r1) (x3 + 1) h)
set_option maxRecDepth 100000 in
set_option maxHeartbeats 4000000 in
theorem L_X6_dotsOf_4 {X : gX} (C : cx X RX6 cX6_dotsOf 4 (some .int) wsX6_dotsOf 1 22) (a : Nat → Nat) (N : Nat) (M : tS) (p0 : Int32) (r : Int32)  : ∀ (n : Nat) (x2 : Int32) (x3 : Int32), f_X6_dotsOf_4 N M p0  n x2 x3 = some r → G X (QI X r [mdW (gcA X) a M]) [mdW (gcA X) a M] [some (.ref (a 0)), some (.int p0), some (.int x2), some (.int x3)] [] 4 := by
  intro n
  induction n with
  | zero => intro x2 x3 h; have h : (none : Option (Int32)) = some r := h; cases h
  | succ n ih => intro x2 x3 h; exact B_X6_dotsOf_4b C a N M p0 r  (f_X6_dotsOf_4 N M p0  n) ih x2 x3 h
def f_X6_dotsOf (N : Nat) (M : tS) (p0 : Int32) : Option (Int32) := f_X6_dotsOf_4 N M p0 N (0 : Int32) (0 : Int32)
set_option maxRecDepth 100000 in
set_option maxHeartbeats 4000000 in
theorem B_X6_dotsOf {X : gX} (C : cx X RX6 cX6_dotsOf 4 (some .int) wsX6_dotsOf 1 22) (a : Nat → Nat) (N : Nat) (M : tS) (p0 : Int32) (r : Int32) (h : f_X6_dotsOf N M p0 = some r) : G X (QI X r [mdW (gcA X) a M]) [mdW (gcA X) a M] [some (.ref (a 0)), some (.int p0), none, none] [] 0 := by
  unfold f_X6_dotsOf at h
  refine g_iconst (pc' := 1) (v := 0) C dX6_dotsOf_0 (by decide) rfl ?_
  refine g_istore_n (pc' := 2) C dX6_dotsOf_1 (Nat.le_of_ble_eq_true rfl) rfl (L' := [some (.ref (a 0)), some (.int p0), some (.int (0 : Int32)), none]) rfl ?_
  refine g_iconst (pc' := 3) (v := 0) C dX6_dotsOf_2 (by decide) rfl ?_
  refine g_istore_n (pc' := 4) C dX6_dotsOf_3 (Nat.le_of_ble_eq_true rfl) rfl (L' := [some (.ref (a 0)), some (.int p0), some (.int (0 : Int32)), some (.int (0 : Int32))]) rfl ?_
  exact G_loc (lle_s (lle_s (lle_s (lle_s lle_0)))) (L_X6_dotsOf_4 C a N M p0 r N (0 : Int32) (0 : Int32) h)
set_option maxRecDepth 100000 in
set_option maxHeartbeats 4000000 in
theorem c_X6_dotsOf (l : Launch) (D : va_G) (cA : Nat → ClassId) (a : Nat → Nat) (N : Nat) (M : tS) (p0 : Int32) (r : Int32) (h : f_X6_dotsOf N M p0 = some r) : MI l D cA yX6_dotsOf wsX6_dotsOf 1 22 [.ref (a 0), .int p0] [mdW cA a M] r [mdW cA a M] := MI_of (cc := cX6_dotsOf) (maxL := 4) (rt := some .int) (by decide +kernel) rfl (List.forall_mem_cons.mpr ⟨rfl, List.forall_mem_cons.mpr ⟨rfl, List.forall_mem_nil _⟩⟩) (Nat.le_of_ble_eq_true rfl) (fun X e1 e2 e3 C => by subst e1; subst e2; subst e3; exact B_X6_dotsOf C a N M p0 r h)
set_option maxRecDepth 100000 in
set_option maxHeartbeats 4000000 in
theorem nd_X6_dotsOf : nd yX6_dotsOf 1 := ⟨by decide +kernel, by decide +kernel, by decide +kernel⟩
set_option maxRecDepth 100000 in
set_option maxHeartbeats 4000000 in
theorem k_X6_dotsOf {X : gX} {own : String} {cc : ByteArray} {nL : Nat} {ret : Option FieldType} {Ts : List Cond} {fr lm : Nat} {Q : State → Prop} {ms : List va_W} {L : List (Option Value)} {st : List Value} {pc pc' idx : Nat} {ρ : Type} {T : Int32 → Option ρ} {res : ρ} (C : cx X own cc nL ret Ts fr lm) (a : Nat → Nat) (N : Nat) (M : tS) (p0 : Int32) (is : List Nat) (hC : is.map (fun i => ms[i]?) = [some (mdW (gcA X) a M)]) (hn : is.Nodup) (hG : GoodIn Ts (wsV own idx RX6 yX6_dotsOf wsX6_dotsOf)) (hR : 1 + 1 ≤ fr ∧ 8 + (4 + 11) + 22 ≤ lm) (hst : (st.map fun v => v.category).sum ≤ 8) (hLn : L.length = nL) (d : decode cc pc = .ok (.invokevirtual idx, 3)) (hp : pc + 3 = pc') (h : bd (f_X6_dotsOf N M p0) T = some res) (kk : ∀ (r : Int32), T r = some res → G X Q (ms) L (.int r :: st) pc') : G X Q ms L (.int p0 :: .ref (a 0) :: st) pc := by
  obtain ⟨r, h1, h⟩ := ob h
  exact G_callVI C (As := [.int p0]) (c_X6_dotsOf (gl X) (gD X) (gcA X) a N M p0 r h1) hG rfl nd_X6_dotsOf hR (q0 := 0) rfl rfl hC hn rfl rfl hst hLn d hp (G_ms (rpl_same (mc := [mdW (gcA X) a M]) hC) (kk r h))
theorem hi_X6_stuckBy_X6 : ∀ w ∈ wsX60, w ∈ wsX6_stuckBy := fun w h => List.mem_cons_of_mem _ (List.mem_append_right _ h)
theorem lk_X6_stuckBy_1 : Cond.fieldLink RX6 7 "NoteThemesModel" "s" "[I" ∈ wsX6_stuckBy := List.mem_of_getElem? (i := 1) rfl
def f_X6_stuckBy_4b (N : Nat) (M : tS) (p0 : Int32)  (k4 : Int32 → Int32 → Option (Int32)) (x2 : Int32) (x3 : Int32) : Option (Int32) := (if (M 0 (0 : Int32).toNatClampNeg) ≤ x3 then some x2 else (bd (f_X6_of N M x3 ((3 : Int32) + p0)) (fun r1 => k4 (x2 + r1) (x3 + 1))))
def f_X6_stuckBy_4 (N : Nat) (M : tS) (p0 : Int32)  : Nat → Int32 → Int32 → Option (Int32)
  | 0 => fun _ _ => none
  | n + 1 => f_X6_stuckBy_4b N M p0  (f_X6_stuckBy_4 N M p0  n)
set_option maxRecDepth 100000 in
set_option maxHeartbeats 4000000 in
theorem B_X6_stuckBy_4b {X : gX} (C : cx X RX6 cX6_stuckBy 4 (some .int) wsX6_stuckBy 1 22) (a : Nat → Nat) (N : Nat) (M : tS) (p0 : Int32) (r : Int32)  (k4 : Int32 → Int32 → Option (Int32)) (hk4 : ∀ (x2 : Int32) (x3 : Int32), k4 x2 x3 = some r → G X (QI X r [mdW (gcA X) a M]) [mdW (gcA X) a M] [some (.ref (a 0)), some (.int p0), some (.int x2), some (.int x3)] [] 4) (x2 : Int32) (x3 : Int32) (h : f_X6_stuckBy_4b N M p0  k4 x2 x3 = some r) : G X (QI X r [mdW (gcA X) a M]) [mdW (gcA X) a M] [some (.ref (a 0)), some (.int p0), some (.int x2), some (.int x3)] [] 4 := by
  unfold f_X6_stuckBy_4b at h
  refine g_iload_n (pc' := 5) C dX6_stuckBy_4 rfl rfl ?_
  refine g_aload_n (pc' := 6) C dX6_stuckBy_5 rfl rfl ?_
  refine gg_X6_0 (pc' := 9) (i := 0) C rfl hi_X6_stuckBy_X6 lk_X6_stuckBy_1 dX6_stuckBy_6 rfl ?_
  refine g_iconst (pc' := 10) (v := 0) C dX6_stuckBy_9 (by decide) rfl ?_
  refine g_iald0 (pc' := 11) (i := 0) (j := 1) C rfl rfl dX6_stuckBy_10 rfl (by unfold vp_in; decide) ?_
  refine g_icmp_ge (pc' := 14) (tgt := 31) C dX6_stuckBy_11 (by decide) rfl h (fun c h => ?_) (fun c h => ?_)
  · refine g_iload_n (pc' := 32) C dX6_stuckBy_31 rfl rfl ?_
    obtain rfl := Option.some.inj h
    exact g_iret C dX6_stuckBy_32
  · refine g_iload_n (pc' := 15) C dX6_stuckBy_14 rfl rfl ?_
    refine g_aload_n (pc' := 16) C dX6_stuckBy_15 rfl rfl ?_
    refine g_iload_n (pc' := 17) C dX6_stuckBy_16 rfl rfl ?_
    refine g_iconst (pc' := 18) (v := 3) C dX6_stuckBy_17 (by decide) rfl ?_
    refine g_iload_n (pc' := 19) C dX6_stuckBy_18 rfl rfl ?_
    refine g_iadd (pc' := 20) C dX6_stuckBy_19 rfl ?_
    refine k_X6_of (pc' := 23) C a N M x3 ((3 : Int32) + p0) [0] rfl (by decide) gX6_stuckBy_X6_of ⟨Nat.le_of_ble_eq_true rfl, Nat.le_of_ble_eq_true rfl⟩ (Nat.le_of_ble_eq_true rfl) rfl dX6_stuckBy_20 rfl h (fun r1 h => ?_)
    refine g_iadd (pc' := 24) C dX6_stuckBy_23 rfl ?_
    refine g_istore_n (pc' := 25) C dX6_stuckBy_24 (Nat.le_of_ble_eq_true rfl) rfl (L' := [some (.ref (a 0)), some (.int p0), some (.int (x2 + r1)), some (.int x3)]) rfl ?_
    refine g_iinc (pc' := 28) (v := (x3 + 1)) C dX6_stuckBy_25 rfl rfl rfl (L' := [some (.ref (a 0)), some (.int p0), some (.int (x2 + r1)), some (.int (x3 + 1))]) rfl ?_
    refine g_goto (pc' := 4) C dX6_stuckBy_28 (by decide) ?_
    exact G_loc (lle_s (lle_s (lle_s (lle_s lle_0)))) (hk4 (x2 + r1) (x3 + 1) h)
set_option maxRecDepth 100000 in
set_option maxHeartbeats 4000000 in
theorem L_X6_stuckBy_4 {X : gX} (C : cx X RX6 cX6_stuckBy 4 (some .int) wsX6_stuckBy 1 22) (a : Nat → Nat) (N : Nat) (M : tS) (p0 : Int32) (r : Int32)  : ∀ (n : Nat) (x2 : Int32) (x3 : Int32), f_X6_stuckBy_4 N M p0  n x2 x3 = some r → G X (QI X r [mdW (gcA X) a M]) [mdW (gcA X) a M] [some (.ref (a 0)), some (.int p0), some (.int x2), some (.int x3)] [] 4 := by
  intro n
  induction n with
  | zero => intro x2 x3 h; have h : (none : Option (Int32)) = some r := h; cases h
  | succ n ih => intro x2 x3 h; exact B_X6_stuckBy_4b C a N M p0 r  (f_X6_stuckBy_4 N M p0  n) ih x2 x3 h
def f_X6_stuckBy (N : Nat) (M : tS) (p0 : Int32) : Option (Int32) := f_X6_stuckBy_4 N M p0 N (0 : Int32) (0 : Int32)
set_option maxRecDepth 100000 in
set_option maxHeartbeats 4000000 in
theorem B_X6_stuckBy {X : gX} (C : cx X RX6 cX6_stuckBy 4 (some .int) wsX6_stuckBy 1 22) (a : Nat → Nat) (N : Nat) (M : tS) (p0 : Int32) (r : Int32) (h : f_X6_stuckBy N M p0 = some r) : G X (QI X r [mdW (gcA X) a M]) [mdW (gcA X) a M] [some (.ref (a 0)), some (.int p0), none, none] [] 0 := by
  unfold f_X6_stuckBy at h
  refine g_iconst (pc' := 1) (v := 0) C dX6_stuckBy_0 (by decide) rfl ?_
  refine g_istore_n (pc' := 2) C dX6_stuckBy_1 (Nat.le_of_ble_eq_true rfl) rfl (L' := [some (.ref (a 0)), some (.int p0), some (.int (0 : Int32)), none]) rfl ?_
  refine g_iconst (pc' := 3) (v := 0) C dX6_stuckBy_2 (by decide) rfl ?_
  refine g_istore_n (pc' := 4) C dX6_stuckBy_3 (Nat.le_of_ble_eq_true rfl) rfl (L' := [some (.ref (a 0)), some (.int p0), some (.int (0 : Int32)), some (.int (0 : Int32))]) rfl ?_
  exact G_loc (lle_s (lle_s (lle_s (lle_s lle_0)))) (L_X6_stuckBy_4 C a N M p0 r N (0 : Int32) (0 : Int32) h)
set_option maxRecDepth 100000 in
set_option maxHeartbeats 4000000 in
theorem c_X6_stuckBy (l : Launch) (D : va_G) (cA : Nat → ClassId) (a : Nat → Nat) (N : Nat) (M : tS) (p0 : Int32) (r : Int32) (h : f_X6_stuckBy N M p0 = some r) : MI l D cA yX6_stuckBy wsX6_stuckBy 1 22 [.ref (a 0), .int p0] [mdW cA a M] r [mdW cA a M] := MI_of (cc := cX6_stuckBy) (maxL := 4) (rt := some .int) (by decide +kernel) rfl (List.forall_mem_cons.mpr ⟨rfl, List.forall_mem_cons.mpr ⟨rfl, List.forall_mem_nil _⟩⟩) (Nat.le_of_ble_eq_true rfl) (fun X e1 e2 e3 C => by subst e1; subst e2; subst e3; exact B_X6_stuckBy C a N M p0 r h)
set_option maxRecDepth 100000 in
set_option maxHeartbeats 4000000 in
theorem nd_X6_stuckBy : nd yX6_stuckBy 1 := ⟨by decide +kernel, by decide +kernel, by decide +kernel⟩
set_option maxRecDepth 100000 in
set_option maxHeartbeats 4000000 in
theorem k_X6_stuckBy {X : gX} {own : String} {cc : ByteArray} {nL : Nat} {ret : Option FieldType} {Ts : List Cond} {fr lm : Nat} {Q : State → Prop} {ms : List va_W} {L : List (Option Value)} {st : List Value} {pc pc' idx : Nat} {ρ : Type} {T : Int32 → Option ρ} {res : ρ} (C : cx X own cc nL ret Ts fr lm) (a : Nat → Nat) (N : Nat) (M : tS) (p0 : Int32) (is : List Nat) (hC : is.map (fun i => ms[i]?) = [some (mdW (gcA X) a M)]) (hn : is.Nodup) (hG : GoodIn Ts (wsV own idx RX6 yX6_stuckBy wsX6_stuckBy)) (hR : 1 + 1 ≤ fr ∧ 8 + (4 + 11) + 22 ≤ lm) (hst : (st.map fun v => v.category).sum ≤ 8) (hLn : L.length = nL) (d : decode cc pc = .ok (.invokevirtual idx, 3)) (hp : pc + 3 = pc') (h : bd (f_X6_stuckBy N M p0) T = some res) (kk : ∀ (r : Int32), T r = some res → G X Q (ms) L (.int r :: st) pc') : G X Q ms L (.int p0 :: .ref (a 0) :: st) pc := by
  obtain ⟨r, h1, h⟩ := ob h
  exact G_callVI C (As := [.int p0]) (c_X6_stuckBy (gl X) (gD X) (gcA X) a N M p0 r h1) hG rfl nd_X6_stuckBy hR (q0 := 0) rfl rfl hC hn rfl rfl hst hLn d hp (G_ms (rpl_same (mc := [mdW (gcA X) a M]) hC) (kk r h))
theorem hi_X6_voteOf_X6 : ∀ w ∈ wsX60, w ∈ wsX6_voteOf := fun w h => List.mem_cons_of_mem _ (List.mem_append_right _ h)
theorem lk_X6_voteOf_1 : Cond.fieldLink RX6 7 "NoteThemesModel" "s" "[I" ∈ wsX6_voteOf := List.mem_of_getElem? (i := 1) rfl
def f_X6_voteOf (N : Nat) (M : tS) (p0 : Int32) (p1 : Int32) : Option (Int32) := (if (((185 : Int32) + ((6 : Int32) * p0)) + p1) < 0 ∨ 233 ≤ (((185 : Int32) + ((6 : Int32) * p0)) + p1).toNatClampNeg then none else some ((M 0 (((185 : Int32) + ((6 : Int32) * p0)) + p1).toNatClampNeg) - (1 : Int32)))
set_option maxRecDepth 100000 in
set_option maxHeartbeats 4000000 in
theorem B_X6_voteOf {X : gX} (C : cx X RX6 cX6_voteOf 3 (some .int) wsX6_voteOf 0 0) (a : Nat → Nat) (N : Nat) (M : tS) (p0 : Int32) (p1 : Int32) (r : Int32) (h : f_X6_voteOf N M p0 p1 = some r) : G X (QI X r [mdW (gcA X) a M]) [mdW (gcA X) a M] [some (.ref (a 0)), some (.int p0), some (.int p1)] [] 0 := by
  unfold f_X6_voteOf at h
  refine g_aload_n (pc' := 1) C dX6_voteOf_0 rfl rfl ?_
  refine gg_X6_0 (pc' := 4) (i := 0) C rfl hi_X6_voteOf_X6 lk_X6_voteOf_1 dX6_voteOf_1 rfl ?_
  refine g_sipush (pc' := 7) (v := 185) C dX6_voteOf_4 (by decide) rfl ?_
  refine g_bipush (pc' := 9) (v := 6) C dX6_voteOf_7 (by decide) rfl ?_
  refine g_iload_n (pc' := 10) C dX6_voteOf_9 rfl rfl ?_
  refine g_imul (pc' := 11) C dX6_voteOf_10 rfl ?_
  refine g_iadd (pc' := 12) C dX6_voteOf_11 rfl ?_
  refine g_iload_n (pc' := 13) C dX6_voteOf_12 rfl rfl ?_
  refine g_iadd (pc' := 14) C dX6_voteOf_13 rfl ?_
  refine g_iald (pc' := 15) (i := 0) (j := 1) C rfl rfl dX6_voteOf_14 rfl h (fun h => ?_)
  refine g_iconst (pc' := 16) (v := 1) C dX6_voteOf_15 (by decide) rfl ?_
  refine g_isub (pc' := 17) C dX6_voteOf_16 rfl ?_
  obtain rfl := Option.some.inj h
  exact g_iret C dX6_voteOf_17
set_option maxRecDepth 100000 in
set_option maxHeartbeats 4000000 in
theorem c_X6_voteOf (l : Launch) (D : va_G) (cA : Nat → ClassId) (a : Nat → Nat) (N : Nat) (M : tS) (p0 : Int32) (p1 : Int32) (r : Int32) (h : f_X6_voteOf N M p0 p1 = some r) : MI l D cA yX6_voteOf wsX6_voteOf 0 0 [.ref (a 0), .int p0, .int p1] [mdW cA a M] r [mdW cA a M] := MI_of (cc := cX6_voteOf) (maxL := 3) (rt := some .int) (by decide +kernel) rfl (List.forall_mem_cons.mpr ⟨rfl, List.forall_mem_cons.mpr ⟨rfl, List.forall_mem_cons.mpr ⟨rfl, List.forall_mem_nil _⟩⟩⟩) (Nat.le_of_ble_eq_true rfl) (fun X e1 e2 e3 C => by subst e1; subst e2; subst e3; exact B_X6_voteOf C a N M p0 p1 r h)
set_option maxRecDepth 100000 in
set_option maxHeartbeats 4000000 in
theorem nd_X6_voteOf : nd yX6_voteOf 2 := ⟨by decide +kernel, by decide +kernel, by decide +kernel⟩
set_option maxRecDepth 100000 in
set_option maxHeartbeats 4000000 in
theorem k_X6_voteOf {X : gX} {own : String} {cc : ByteArray} {nL : Nat} {ret : Option FieldType} {Ts : List Cond} {fr lm : Nat} {Q : State → Prop} {ms : List va_W} {L : List (Option Value)} {st : List Value} {pc pc' idx : Nat} {ρ : Type} {T : Int32 → Option ρ} {res : ρ} (C : cx X own cc nL ret Ts fr lm) (a : Nat → Nat) (N : Nat) (M : tS) (p0 : Int32) (p1 : Int32) (is : List Nat) (hC : is.map (fun i => ms[i]?) = [some (mdW (gcA X) a M)]) (hn : is.Nodup) (hG : GoodIn Ts (wsV own idx RX6 yX6_voteOf wsX6_voteOf)) (hR : 0 + 1 ≤ fr ∧ 8 + (3 + 11) + 0 ≤ lm) (hst : (st.map fun v => v.category).sum ≤ 8) (hLn : L.length = nL) (d : decode cc pc = .ok (.invokevirtual idx, 3)) (hp : pc + 3 = pc') (h : bd (f_X6_voteOf N M p0 p1) T = some res) (kk : ∀ (r : Int32), T r = some res → G X Q (ms) L (.int r :: st) pc') : G X Q ms L (.int p1 :: .int p0 :: .ref (a 0) :: st) pc := by
  obtain ⟨r, h1, h⟩ := ob h
  exact G_callVI C (As := [.int p0, .int p1]) (c_X6_voteOf (gl X) (gD X) (gcA X) a N M p0 p1 r h1) hG rfl nd_X6_voteOf hR (q0 := 0) rfl rfl hC hn rfl rfl hst hLn d hp (G_ms (rpl_same (mc := [mdW (gcA X) a M]) hC) (kk r h))
theorem hi_X6_notesOf_X6 : ∀ w ∈ wsX60, w ∈ wsX6_notesOf := fun w h => List.mem_cons_of_mem _ (List.mem_append_right _ h)
theorem lk_X6_notesOf_1 : Cond.fieldLink RX6 7 "NoteThemesModel" "s" "[I" ∈ wsX6_notesOf := List.mem_of_getElem? (i := 1) rfl
def f_X6_notesOf_29 (N : Nat) (M : tS) (p0 : Int32) (k4 : Int32 → Int32 → Option (Int32)) (x3 : Int32) (t0 : Int32) (t1 : Int32) : Option (Int32) := k4 (t1 + t0) (x3 + 1)
set_option maxRecDepth 100000 in
set_option maxHeartbeats 4000000 in
theorem B_X6_notesOf_29 {X : gX} (C : cx X RX6 cX6_notesOf 4 (some .int) wsX6_notesOf 2 43) (a : Nat → Nat) (N : Nat) (M : tS) (p0 : Int32) (r : Int32) (k4 : Int32 → Int32 → Option (Int32)) (hk4 : ∀ (x2 : Int32) (x3 : Int32), k4 x2 x3 = some r → G X (QI X r [mdW (gcA X) a M]) [mdW (gcA X) a M] [some (.ref (a 0)), some (.int p0), some (.int x2), some (.int x3)] [] 4) (x3 : Int32) (t0 : Int32) (t1 : Int32) (h : f_X6_notesOf_29 N M p0 k4 x3 t0 t1 = some r) : G X (QI X r [mdW (gcA X) a M]) [mdW (gcA X) a M] [some (.ref (a 0)), some (.int p0), none, some (.int x3)] [.int t0, .int t1] 29 := by
  unfold f_X6_notesOf_29 at h
  refine g_iadd (pc' := 30) C dX6_notesOf_29 rfl ?_
  refine g_istore_n (pc' := 31) C dX6_notesOf_30 (Nat.le_of_ble_eq_true rfl) rfl (L' := [some (.ref (a 0)), some (.int p0), some (.int (t1 + t0)), some (.int x3)]) rfl ?_
  refine g_iinc (pc' := 34) (v := (x3 + 1)) C dX6_notesOf_31 rfl rfl rfl (L' := [some (.ref (a 0)), some (.int p0), some (.int (t1 + t0)), some (.int (x3 + 1))]) rfl ?_
  refine g_goto (pc' := 4) C dX6_notesOf_34 (by decide) ?_
  exact G_loc (lle_s (lle_s (lle_s (lle_s lle_0)))) (hk4 (t1 + t0) (x3 + 1) h)
def f_X6_notesOf_4b (N : Nat) (M : tS) (p0 : Int32)  (k4 : Int32 → Int32 → Option (Int32)) (x2 : Int32) (x3 : Int32) : Option (Int32) := (if (M 0 (0 : Int32).toNatClampNeg) ≤ x3 then some x2 else (bd (f_X6_themeOf N M x3) (fun r1 => (if r1 = p0 then f_X6_notesOf_29 N M p0 k4 x3 (1 : Int32) x2 else f_X6_notesOf_29 N M p0 k4 x3 (0 : Int32) x2))))
def f_X6_notesOf_4 (N : Nat) (M : tS) (p0 : Int32)  : Nat → Int32 → Int32 → Option (Int32)
  | 0 => fun _ _ => none
  | n + 1 => f_X6_notesOf_4b N M p0  (f_X6_notesOf_4 N M p0  n)
set_option maxRecDepth 100000 in
set_option maxHeartbeats 4000000 in
theorem B_X6_notesOf_4b {X : gX} (C : cx X RX6 cX6_notesOf 4 (some .int) wsX6_notesOf 2 43) (a : Nat → Nat) (N : Nat) (M : tS) (p0 : Int32) (r : Int32)  (k4 : Int32 → Int32 → Option (Int32)) (hk4 : ∀ (x2 : Int32) (x3 : Int32), k4 x2 x3 = some r → G X (QI X r [mdW (gcA X) a M]) [mdW (gcA X) a M] [some (.ref (a 0)), some (.int p0), some (.int x2), some (.int x3)] [] 4) (x2 : Int32) (x3 : Int32) (h : f_X6_notesOf_4b N M p0  k4 x2 x3 = some r) : G X (QI X r [mdW (gcA X) a M]) [mdW (gcA X) a M] [some (.ref (a 0)), some (.int p0), some (.int x2), some (.int x3)] [] 4 := by
  unfold f_X6_notesOf_4b at h
  refine g_iload_n (pc' := 5) C dX6_notesOf_4 rfl rfl ?_
  refine g_aload_n (pc' := 6) C dX6_notesOf_5 rfl rfl ?_
  refine gg_X6_0 (pc' := 9) (i := 0) C rfl hi_X6_notesOf_X6 lk_X6_notesOf_1 dX6_notesOf_6 rfl ?_
  refine g_iconst (pc' := 10) (v := 0) C dX6_notesOf_9 (by decide) rfl ?_
  refine g_iald0 (pc' := 11) (i := 0) (j := 1) C rfl rfl dX6_notesOf_10 rfl (by unfold vp_in; decide) ?_
  refine g_icmp_ge (pc' := 14) (tgt := 37) C dX6_notesOf_11 (by decide) rfl h (fun c h => ?_) (fun c h => ?_)
  · refine g_iload_n (pc' := 38) C dX6_notesOf_37 rfl rfl ?_
    obtain rfl := Option.some.inj h
    exact g_iret C dX6_notesOf_38
  · refine g_iload_n (pc' := 15) C dX6_notesOf_14 rfl rfl ?_
    refine g_aload_n (pc' := 16) C dX6_notesOf_15 rfl rfl ?_
    refine g_iload_n (pc' := 17) C dX6_notesOf_16 rfl rfl ?_
    refine k_X6_themeOf (pc' := 20) C a N M x3 [0] rfl (by decide) gX6_notesOf_X6_themeOf ⟨Nat.le_of_ble_eq_true rfl, Nat.le_of_ble_eq_true rfl⟩ (Nat.le_of_ble_eq_true rfl) rfl dX6_notesOf_17 rfl h (fun r1 h => ?_)
    refine g_iload_n (pc' := 21) C dX6_notesOf_20 rfl rfl ?_
    refine g_icmp_ne (pc' := 24) (tgt := 28) C dX6_notesOf_21 (by decide) rfl h (fun c h => ?_) (fun c h => ?_)
    · refine g_iconst (pc' := 25) (v := 1) C dX6_notesOf_24 (by decide) rfl ?_
      refine g_goto (pc' := 29) C dX6_notesOf_25 (by decide) ?_
      exact G_loc (lle_s (lle_s (lle_n (lle_s lle_0)))) (B_X6_notesOf_29 C a N M p0 r k4 hk4 x3 (1 : Int32) x2 h)
    · refine g_iconst (pc' := 29) (v := 0) C dX6_notesOf_28 (by decide) rfl ?_
      exact G_loc (lle_s (lle_s (lle_n (lle_s lle_0)))) (B_X6_notesOf_29 C a N M p0 r k4 hk4 x3 (0 : Int32) x2 h)
set_option maxRecDepth 100000 in
set_option maxHeartbeats 4000000 in
theorem L_X6_notesOf_4 {X : gX} (C : cx X RX6 cX6_notesOf 4 (some .int) wsX6_notesOf 2 43) (a : Nat → Nat) (N : Nat) (M : tS) (p0 : Int32) (r : Int32)  : ∀ (n : Nat) (x2 : Int32) (x3 : Int32), f_X6_notesOf_4 N M p0  n x2 x3 = some r → G X (QI X r [mdW (gcA X) a M]) [mdW (gcA X) a M] [some (.ref (a 0)), some (.int p0), some (.int x2), some (.int x3)] [] 4 := by
  intro n
  induction n with
  | zero => intro x2 x3 h; have h : (none : Option (Int32)) = some r := h; cases h
  | succ n ih => intro x2 x3 h; exact B_X6_notesOf_4b C a N M p0 r  (f_X6_notesOf_4 N M p0  n) ih x2 x3 h
def f_X6_notesOf (N : Nat) (M : tS) (p0 : Int32) : Option (Int32) := f_X6_notesOf_4 N M p0 N (0 : Int32) (0 : Int32)
set_option maxRecDepth 100000 in
set_option maxHeartbeats 4000000 in
theorem B_X6_notesOf {X : gX} (C : cx X RX6 cX6_notesOf 4 (some .int) wsX6_notesOf 2 43) (a : Nat → Nat) (N : Nat) (M : tS) (p0 : Int32) (r : Int32) (h : f_X6_notesOf N M p0 = some r) : G X (QI X r [mdW (gcA X) a M]) [mdW (gcA X) a M] [some (.ref (a 0)), some (.int p0), none, none] [] 0 := by
  unfold f_X6_notesOf at h
  refine g_iconst (pc' := 1) (v := 0) C dX6_notesOf_0 (by decide) rfl ?_
  refine g_istore_n (pc' := 2) C dX6_notesOf_1 (Nat.le_of_ble_eq_true rfl) rfl (L' := [some (.ref (a 0)), some (.int p0), some (.int (0 : Int32)), none]) rfl ?_
  refine g_iconst (pc' := 3) (v := 0) C dX6_notesOf_2 (by decide) rfl ?_
  refine g_istore_n (pc' := 4) C dX6_notesOf_3 (Nat.le_of_ble_eq_true rfl) rfl (L' := [some (.ref (a 0)), some (.int p0), some (.int (0 : Int32)), some (.int (0 : Int32))]) rfl ?_
  exact G_loc (lle_s (lle_s (lle_s (lle_s lle_0)))) (L_X6_notesOf_4 C a N M p0 r N (0 : Int32) (0 : Int32) h)
set_option maxRecDepth 100000 in
set_option maxHeartbeats 4000000 in
theorem c_X6_notesOf (l : Launch) (D : va_G) (cA : Nat → ClassId) (a : Nat → Nat) (N : Nat) (M : tS) (p0 : Int32) (r : Int32) (h : f_X6_notesOf N M p0 = some r) : MI l D cA yX6_notesOf wsX6_notesOf 2 43 [.ref (a 0), .int p0] [mdW cA a M] r [mdW cA a M] := MI_of (cc := cX6_notesOf) (maxL := 4) (rt := some .int) (by decide +kernel) rfl (List.forall_mem_cons.mpr ⟨rfl, List.forall_mem_cons.mpr ⟨rfl, List.forall_mem_nil _⟩⟩) (Nat.le_of_ble_eq_true rfl) (fun X e1 e2 e3 C => by subst e1; subst e2; subst e3; exact B_X6_notesOf C a N M p0 r h)
set_option maxRecDepth 100000 in
set_option maxHeartbeats 4000000 in
theorem nd_X6_notesOf : nd yX6_notesOf 1 := ⟨by decide +kernel, by decide +kernel, by decide +kernel⟩
set_option maxRecDepth 100000 in
set_option maxHeartbeats 4000000 in
theorem k_X6_notesOf {X : gX} {own : String} {cc : ByteArray} {nL : Nat} {ret : Option FieldType} {Ts : List Cond} {fr lm : Nat} {Q : State → Prop} {ms : List va_W} {L : List (Option Value)} {st : List Value} {pc pc' idx : Nat} {ρ : Type} {T : Int32 → Option ρ} {res : ρ} (C : cx X own cc nL ret Ts fr lm) (a : Nat → Nat) (N : Nat) (M : tS) (p0 : Int32) (is : List Nat) (hC : is.map (fun i => ms[i]?) = [some (mdW (gcA X) a M)]) (hn : is.Nodup) (hG : GoodIn Ts (wsV own idx RX6 yX6_notesOf wsX6_notesOf)) (hR : 2 + 1 ≤ fr ∧ 8 + (4 + 11) + 43 ≤ lm) (hst : (st.map fun v => v.category).sum ≤ 8) (hLn : L.length = nL) (d : decode cc pc = .ok (.invokevirtual idx, 3)) (hp : pc + 3 = pc') (h : bd (f_X6_notesOf N M p0) T = some res) (kk : ∀ (r : Int32), T r = some res → G X Q (ms) L (.int r :: st) pc') : G X Q ms L (.int p0 :: .ref (a 0) :: st) pc := by
  obtain ⟨r, h1, h⟩ := ob h
  exact G_callVI C (As := [.int p0]) (c_X6_notesOf (gl X) (gD X) (gcA X) a N M p0 r h1) hG rfl nd_X6_notesOf hR (q0 := 0) rfl rfl hC hn rfl rfl hst hLn d hp (G_ms (rpl_same (mc := [mdW (gcA X) a M]) hC) (kk r h))
theorem hi_X6_dropsTheme_X6 : ∀ w ∈ wsX60, w ∈ wsX6_dropsTheme := fun w h => List.mem_cons_of_mem _ (List.mem_append_right _ h)
theorem lk_X6_dropsTheme_1 : Cond.fieldLink RX6 7 "NoteThemesModel" "s" "[I" ∈ wsX6_dropsTheme := List.mem_of_getElem? (i := 1) rfl
def f_X6_dropsTheme_89 (N : Nat) (p0 : Int32) (k54 : Int32 → tS → Option (tS)) (x2 : Int32) (t0 : Int32) (t1 : Int32) (M : tS) : Option (tS) := (if t1 < 0 ∨ 233 ≤ t1.toNatClampNeg then none else k54 (x2 + 1) (va_up M 0 (upd (M 0) t1.toNatClampNeg t0)))
set_option maxRecDepth 100000 in
set_option maxHeartbeats 4000000 in
theorem B_X6_dropsTheme_89 {X : gX} (C : cx X RX6 cX6_dropsTheme 3 none wsX6_dropsTheme 2 43) (a : Nat → Nat) (N : Nat) (p0 : Int32) (Mz : tS) (k54 : Int32 → tS → Option (tS)) (hk54 : ∀ (x2 : Int32) (M : tS), k54 x2 M = some Mz → G X (QV X [mdW (gcA X) a Mz]) [mdW (gcA X) a M] [some (.ref (a 0)), some (.int p0), some (.int x2)] [] 54) (x2 : Int32) (t0 : Int32) (t1 : Int32) (M : tS) (h : f_X6_dropsTheme_89 N p0 k54 x2 t0 t1 M = some Mz) : G X (QV X [mdW (gcA X) a Mz]) [mdW (gcA X) a M] [some (.ref (a 0)), some (.int p0), some (.int x2)] [.int t0, .int t1, .ref (a 1)] 89 := by
  unfold f_X6_dropsTheme_89 at h
  refine g_iast (pc' := 90) (i := 0) (j := 1) (w' := mdW (gcA X) a (va_up M 0 (upd (M 0) t1.toNatClampNeg t0))) C rfl rfl rfl dX6_dropsTheme_89 rfl h (fun h => ?_)
  show G X _ [mdW (gcA X) a (va_up M 0 (upd (M 0) t1.toNatClampNeg t0))] _ _ _
  refine g_iinc (pc' := 93) (v := (x2 + 1)) C dX6_dropsTheme_90 rfl rfl rfl (L' := [some (.ref (a 0)), some (.int p0), some (.int (x2 + 1))]) rfl ?_
  refine g_goto (pc' := 54) C dX6_dropsTheme_93 (by decide) ?_
  exact G_loc (lle_s (lle_s (lle_s lle_0))) (hk54 (x2 + 1) (va_up M 0 (upd (M 0) t1.toNatClampNeg t0)) h)
def f_X6_dropsTheme_54b (N : Nat) (p0 : Int32)  (k54 : Int32 → tS → Option (tS)) (x2 : Int32) (M : tS) : Option (tS) := (if (233 : Int32) ≤ x2 then (if (1 : Int32) < 0 ∨ 233 ≤ (1 : Int32).toNatClampNeg then none else some (va_up M 0 (upd (M 0) (1 : Int32).toNatClampNeg ((M 0 (1 : Int32).toNatClampNeg) - (1 : Int32))))) else (if (233 : Int32) ≤ (x2 + (6 : Int32)) then f_X6_dropsTheme_89 N p0 k54 x2 (0 : Int32) x2 M else (if (x2 + (6 : Int32)) < 0 ∨ 233 ≤ (x2 + (6 : Int32)).toNatClampNeg then none else f_X6_dropsTheme_89 N p0 k54 x2 (M 0 (x2 + (6 : Int32)).toNatClampNeg) x2 M)))
def f_X6_dropsTheme_54 (N : Nat) (p0 : Int32)  : Nat → Int32 → tS → Option (tS)
  | 0 => fun _ _ => none
  | n + 1 => f_X6_dropsTheme_54b N p0  (f_X6_dropsTheme_54 N p0  n)
set_option maxRecDepth 100000 in
set_option maxHeartbeats 4000000 in
theorem B_X6_dropsTheme_54b {X : gX} (C : cx X RX6 cX6_dropsTheme 3 none wsX6_dropsTheme 2 43) (a : Nat → Nat) (N : Nat) (p0 : Int32) (Mz : tS)  (k54 : Int32 → tS → Option (tS)) (hk54 : ∀ (x2 : Int32) (M : tS), k54 x2 M = some Mz → G X (QV X [mdW (gcA X) a Mz]) [mdW (gcA X) a M] [some (.ref (a 0)), some (.int p0), some (.int x2)] [] 54) (x2 : Int32) (M : tS) (h : f_X6_dropsTheme_54b N p0  k54 x2 M = some Mz) : G X (QV X [mdW (gcA X) a Mz]) [mdW (gcA X) a M] [some (.ref (a 0)), some (.int p0), some (.int x2)] [] 54 := by
  unfold f_X6_dropsTheme_54b at h
  refine g_iload_n (pc' := 55) C dX6_dropsTheme_54 rfl rfl ?_
  refine g_sipush (pc' := 58) (v := 233) C dX6_dropsTheme_55 (by decide) rfl ?_
  refine g_icmp_ge (pc' := 61) (tgt := 96) C dX6_dropsTheme_58 (by decide) rfl h (fun c h => ?_) (fun c h => ?_)
  · refine g_aload_n (pc' := 97) C dX6_dropsTheme_96 rfl rfl ?_
    refine gg_X6_0 (pc' := 100) (i := 0) C rfl hi_X6_dropsTheme_X6 lk_X6_dropsTheme_1 dX6_dropsTheme_97 rfl ?_
    refine g_iconst (pc' := 101) (v := 1) C dX6_dropsTheme_100 (by decide) rfl ?_
    refine g_dup2 (pc' := 102) C dX6_dropsTheme_101 rfl rfl rfl ?_
    refine g_iald0 (pc' := 103) (i := 0) (j := 1) C rfl rfl dX6_dropsTheme_102 rfl (by unfold vp_in; decide) ?_
    refine g_iconst (pc' := 104) (v := 1) C dX6_dropsTheme_103 (by decide) rfl ?_
    refine g_isub (pc' := 105) C dX6_dropsTheme_104 rfl ?_
    refine g_iast (pc' := 106) (i := 0) (j := 1) (w' := mdW (gcA X) a (va_up M 0 (upd (M 0) (1 : Int32).toNatClampNeg ((M 0 (1 : Int32).toNatClampNeg) - (1 : Int32))))) C rfl rfl rfl dX6_dropsTheme_105 rfl h (fun h => ?_)
    show G X _ [mdW (gcA X) a (va_up M 0 (upd (M 0) (1 : Int32).toNatClampNeg ((M 0 (1 : Int32).toNatClampNeg) - (1 : Int32))))] _ _ _
    obtain rfl := Option.some.inj h
    exact g_vret C dX6_dropsTheme_106
  · refine g_aload_n (pc' := 62) C dX6_dropsTheme_61 rfl rfl ?_
    refine gg_X6_0 (pc' := 65) (i := 0) C rfl hi_X6_dropsTheme_X6 lk_X6_dropsTheme_1 dX6_dropsTheme_62 rfl ?_
    refine g_iload_n (pc' := 66) C dX6_dropsTheme_65 rfl rfl ?_
    refine g_iload_n (pc' := 67) C dX6_dropsTheme_66 rfl rfl ?_
    refine g_bipush (pc' := 69) (v := 6) C dX6_dropsTheme_67 (by decide) rfl ?_
    refine g_iadd (pc' := 70) C dX6_dropsTheme_69 rfl ?_
    refine g_sipush (pc' := 73) (v := 233) C dX6_dropsTheme_70 (by decide) rfl ?_
    refine g_icmp_ge (pc' := 76) (tgt := 88) C dX6_dropsTheme_73 (by decide) rfl h (fun c h => ?_) (fun c h => ?_)
    · refine g_iconst (pc' := 89) (v := 0) C dX6_dropsTheme_88 (by decide) rfl ?_
      exact G_loc (lle_s (lle_s (lle_s lle_0))) (B_X6_dropsTheme_89 C a N p0 Mz k54 hk54 x2 (0 : Int32) x2 M h)
    · refine g_aload_n (pc' := 77) C dX6_dropsTheme_76 rfl rfl ?_
      refine gg_X6_0 (pc' := 80) (i := 0) C rfl hi_X6_dropsTheme_X6 lk_X6_dropsTheme_1 dX6_dropsTheme_77 rfl ?_
      refine g_iload_n (pc' := 81) C dX6_dropsTheme_80 rfl rfl ?_
      refine g_bipush (pc' := 83) (v := 6) C dX6_dropsTheme_81 (by decide) rfl ?_
      refine g_iadd (pc' := 84) C dX6_dropsTheme_83 rfl ?_
      refine g_iald (pc' := 85) (i := 0) (j := 1) C rfl rfl dX6_dropsTheme_84 rfl h (fun h => ?_)
      refine g_goto (pc' := 89) C dX6_dropsTheme_85 (by decide) ?_
      exact G_loc (lle_s (lle_s (lle_s lle_0))) (B_X6_dropsTheme_89 C a N p0 Mz k54 hk54 x2 (M 0 (x2 + (6 : Int32)).toNatClampNeg) x2 M h)
set_option maxRecDepth 100000 in
set_option maxHeartbeats 4000000 in
theorem L_X6_dropsTheme_54 {X : gX} (C : cx X RX6 cX6_dropsTheme 3 none wsX6_dropsTheme 2 43) (a : Nat → Nat) (N : Nat) (p0 : Int32) (Mz : tS)  : ∀ (n : Nat) (x2 : Int32) (M : tS), f_X6_dropsTheme_54 N p0  n x2 M = some Mz → G X (QV X [mdW (gcA X) a Mz]) [mdW (gcA X) a M] [some (.ref (a 0)), some (.int p0), some (.int x2)] [] 54 := by
  intro n
  induction n with
  | zero => intro x2 M h; have h : (none : Option (tS)) = some Mz := h; cases h
  | succ n ih => intro x2 M h; exact B_X6_dropsTheme_54b C a N p0 Mz  (f_X6_dropsTheme_54 N p0  n) ih x2 M h
def f_X6_dropsTheme_35 (N : Nat) (p0 : Int32) (k2 : Int32 → tS → Option (tS)) (x2 : Int32) (t0 : Int32) (t1 : Int32) (t2 : Int32) (t3 : Int32) (M : tS) : Option (tS) := (bd (f_X6_lays N M t3 t2 (t1 - t0)) (fun M1 => k2 (x2 + 1) M1))
set_option maxRecDepth 100000 in
set_option maxHeartbeats 4000000 in
theorem B_X6_dropsTheme_35 {X : gX} (C : cx X RX6 cX6_dropsTheme 3 none wsX6_dropsTheme 2 43) (a : Nat → Nat) (N : Nat) (p0 : Int32) (Mz : tS) (k2 : Int32 → tS → Option (tS)) (hk2 : ∀ (x2 : Int32) (M : tS), k2 x2 M = some Mz → G X (QV X [mdW (gcA X) a Mz]) [mdW (gcA X) a M] [some (.ref (a 0)), some (.int p0), some (.int x2)] [] 2) (x2 : Int32) (t0 : Int32) (t1 : Int32) (t2 : Int32) (t3 : Int32) (M : tS) (h : f_X6_dropsTheme_35 N p0 k2 x2 t0 t1 t2 t3 M = some Mz) : G X (QV X [mdW (gcA X) a Mz]) [mdW (gcA X) a M] [some (.ref (a 0)), some (.int p0), some (.int x2)] [.int t0, .int t1, .int t2, .int t3, .ref (a 0)] 35 := by
  unfold f_X6_dropsTheme_35 at h
  refine g_isub (pc' := 36) C dX6_dropsTheme_35 rfl ?_
  refine k_X6_lays (pc' := 39) C a N M t3 t2 (t1 - t0) [0] rfl (by decide) gX6_dropsTheme_X6_lays ⟨Nat.le_of_ble_eq_true rfl, Nat.le_of_ble_eq_true rfl⟩ (Nat.le_of_ble_eq_true rfl) rfl dX6_dropsTheme_36 rfl h (fun M1 h => ?_)
  show G X _ [mdW (gcA X) a M1] _ _ _
  refine g_iinc (pc' := 42) (v := (x2 + 1)) C dX6_dropsTheme_39 rfl rfl rfl (L' := [some (.ref (a 0)), some (.int p0), some (.int (x2 + 1))]) rfl ?_
  refine g_goto (pc' := 2) C dX6_dropsTheme_42 (by decide) ?_
  exact G_loc (lle_s (lle_s (lle_s lle_0))) (hk2 (x2 + 1) M1 h)
def f_X6_dropsTheme_2b (N : Nat) (p0 : Int32)  (k2 : Int32 → tS → Option (tS)) (x2 : Int32) (M : tS) : Option (tS) := (if (M 0 (0 : Int32).toNatClampNeg) ≤ x2 then f_X6_dropsTheme_54 N p0 N ((185 : Int32) + ((6 : Int32) * p0)) M else (bd (f_X6_of N M x2 (2 : Int32)) (fun r1 => (bd (f_X6_themeOf N M x2) (fun r2 => (if r2 ≤ p0 then f_X6_dropsTheme_35 N p0 k2 x2 (0 : Int32) r1 (2 : Int32) x2 M else f_X6_dropsTheme_35 N p0 k2 x2 (1 : Int32) r1 (2 : Int32) x2 M))))))
def f_X6_dropsTheme_2 (N : Nat) (p0 : Int32)  : Nat → Int32 → tS → Option (tS)
  | 0 => fun _ _ => none
  | n + 1 => f_X6_dropsTheme_2b N p0  (f_X6_dropsTheme_2 N p0  n)
set_option maxRecDepth 100000 in
set_option maxHeartbeats 4000000 in
theorem B_X6_dropsTheme_2b {X : gX} (C : cx X RX6 cX6_dropsTheme 3 none wsX6_dropsTheme 2 43) (a : Nat → Nat) (N : Nat) (p0 : Int32) (Mz : tS)  (k2 : Int32 → tS → Option (tS)) (hk2 : ∀ (x2 : Int32) (M : tS), k2 x2 M = some Mz → G X (QV X [mdW (gcA X) a Mz]) [mdW (gcA X) a M] [some (.ref (a 0)), some (.int p0), some (.int x2)] [] 2) (x2 : Int32) (M : tS) (h : f_X6_dropsTheme_2b N p0  k2 x2 M = some Mz) : G X (QV X [mdW (gcA X) a Mz]) [mdW (gcA X) a M] [some (.ref (a 0)), some (.int p0), some (.int x2)] [] 2 := by
  unfold f_X6_dropsTheme_2b at h
  refine g_iload_n (pc' := 3) C dX6_dropsTheme_2 rfl rfl ?_
  refine g_aload_n (pc' := 4) C dX6_dropsTheme_3 rfl rfl ?_
  refine gg_X6_0 (pc' := 7) (i := 0) C rfl hi_X6_dropsTheme_X6 lk_X6_dropsTheme_1 dX6_dropsTheme_4 rfl ?_
  refine g_iconst (pc' := 8) (v := 0) C dX6_dropsTheme_7 (by decide) rfl ?_
  refine g_iald0 (pc' := 9) (i := 0) (j := 1) C rfl rfl dX6_dropsTheme_8 rfl (by unfold vp_in; decide) ?_
  refine g_icmp_ge (pc' := 12) (tgt := 45) C dX6_dropsTheme_9 (by decide) rfl h (fun c h => ?_) (fun c h => ?_)
  · refine g_sipush (pc' := 48) (v := 185) C dX6_dropsTheme_45 (by decide) rfl ?_
    refine g_bipush (pc' := 50) (v := 6) C dX6_dropsTheme_48 (by decide) rfl ?_
    refine g_iload_n (pc' := 51) C dX6_dropsTheme_50 rfl rfl ?_
    refine g_imul (pc' := 52) C dX6_dropsTheme_51 rfl ?_
    refine g_iadd (pc' := 53) C dX6_dropsTheme_52 rfl ?_
    refine g_istore_n (pc' := 54) C dX6_dropsTheme_53 (Nat.le_of_ble_eq_true rfl) rfl (L' := [some (.ref (a 0)), some (.int p0), some (.int ((185 : Int32) + ((6 : Int32) * p0)))]) rfl ?_
    exact G_loc (lle_s (lle_s (lle_s lle_0))) (L_X6_dropsTheme_54 C a N p0 Mz N ((185 : Int32) + ((6 : Int32) * p0)) M h)
  · refine g_aload_n (pc' := 13) C dX6_dropsTheme_12 rfl rfl ?_
    refine g_iload_n (pc' := 14) C dX6_dropsTheme_13 rfl rfl ?_
    refine g_iconst (pc' := 15) (v := 2) C dX6_dropsTheme_14 (by decide) rfl ?_
    refine g_aload_n (pc' := 16) C dX6_dropsTheme_15 rfl rfl ?_
    refine g_iload_n (pc' := 17) C dX6_dropsTheme_16 rfl rfl ?_
    refine g_iconst (pc' := 18) (v := 2) C dX6_dropsTheme_17 (by decide) rfl ?_
    refine k_X6_of (pc' := 21) C a N M x2 (2 : Int32) [0] rfl (by decide) gX6_dropsTheme_X6_of ⟨Nat.le_of_ble_eq_true rfl, Nat.le_of_ble_eq_true rfl⟩ (Nat.le_of_ble_eq_true rfl) rfl dX6_dropsTheme_18 rfl h (fun r1 h => ?_)
    refine g_aload_n (pc' := 22) C dX6_dropsTheme_21 rfl rfl ?_
    refine g_iload_n (pc' := 23) C dX6_dropsTheme_22 rfl rfl ?_
    refine k_X6_themeOf (pc' := 26) C a N M x2 [0] rfl (by decide) gX6_dropsTheme_X6_themeOf ⟨Nat.le_of_ble_eq_true rfl, Nat.le_of_ble_eq_true rfl⟩ (Nat.le_of_ble_eq_true rfl) rfl dX6_dropsTheme_23 rfl h (fun r2 h => ?_)
    refine g_iload_n (pc' := 27) C dX6_dropsTheme_26 rfl rfl ?_
    refine g_icmp_le (pc' := 30) (tgt := 34) C dX6_dropsTheme_27 (by decide) rfl h (fun c h => ?_) (fun c h => ?_)
    · refine g_iconst (pc' := 35) (v := 0) C dX6_dropsTheme_34 (by decide) rfl ?_
      exact G_loc (lle_s (lle_s (lle_s lle_0))) (B_X6_dropsTheme_35 C a N p0 Mz k2 hk2 x2 (0 : Int32) r1 (2 : Int32) x2 M h)
    · refine g_iconst (pc' := 31) (v := 1) C dX6_dropsTheme_30 (by decide) rfl ?_
      refine g_goto (pc' := 35) C dX6_dropsTheme_31 (by decide) ?_
      exact G_loc (lle_s (lle_s (lle_s lle_0))) (B_X6_dropsTheme_35 C a N p0 Mz k2 hk2 x2 (1 : Int32) r1 (2 : Int32) x2 M h)
set_option maxRecDepth 100000 in
set_option maxHeartbeats 4000000 in
theorem L_X6_dropsTheme_2 {X : gX} (C : cx X RX6 cX6_dropsTheme 3 none wsX6_dropsTheme 2 43) (a : Nat → Nat) (N : Nat) (p0 : Int32) (Mz : tS)  : ∀ (n : Nat) (x2 : Int32) (M : tS), f_X6_dropsTheme_2 N p0  n x2 M = some Mz → G X (QV X [mdW (gcA X) a Mz]) [mdW (gcA X) a M] [some (.ref (a 0)), some (.int p0), some (.int x2)] [] 2 := by
  intro n
  induction n with
  | zero => intro x2 M h; have h : (none : Option (tS)) = some Mz := h; cases h
  | succ n ih => intro x2 M h; exact B_X6_dropsTheme_2b C a N p0 Mz  (f_X6_dropsTheme_2 N p0  n) ih x2 M h
def f_X6_dropsTheme (N : Nat) (M : tS) (p0 : Int32) : Option (tS) := f_X6_dropsTheme_2 N p0 N (0 : Int32) M
set_option maxRecDepth 100000 in
set_option maxHeartbeats 4000000 in
theorem B_X6_dropsTheme {X : gX} (C : cx X RX6 cX6_dropsTheme 3 none wsX6_dropsTheme 2 43) (a : Nat → Nat) (N : Nat) (M : tS) (p0 : Int32) (Mz : tS) (h : f_X6_dropsTheme N M p0 = some Mz) : G X (QV X [mdW (gcA X) a Mz]) [mdW (gcA X) a M] [some (.ref (a 0)), some (.int p0), none] [] 0 := by
  unfold f_X6_dropsTheme at h
  refine g_iconst (pc' := 1) (v := 0) C dX6_dropsTheme_0 (by decide) rfl ?_
  refine g_istore_n (pc' := 2) C dX6_dropsTheme_1 (Nat.le_of_ble_eq_true rfl) rfl (L' := [some (.ref (a 0)), some (.int p0), some (.int (0 : Int32))]) rfl ?_
  exact G_loc (lle_s (lle_s (lle_s lle_0))) (L_X6_dropsTheme_2 C a N p0 Mz N (0 : Int32) M h)
set_option maxRecDepth 100000 in
set_option maxHeartbeats 4000000 in
theorem c_X6_dropsTheme (l : Launch) (D : va_G) (cA : Nat → ClassId) (a : Nat → Nat) (N : Nat) (M : tS) (p0 : Int32) (Mz : tS) (h : f_X6_dropsTheme N M p0 = some Mz) : MV l D cA yX6_dropsTheme wsX6_dropsTheme 2 43 [.ref (a 0), .int p0] [mdW cA a M]  [mdW cA a Mz] := MV_of (cc := cX6_dropsTheme) (maxL := 3) (by decide +kernel) rfl (List.forall_mem_cons.mpr ⟨rfl, List.forall_mem_cons.mpr ⟨rfl, List.forall_mem_nil _⟩⟩) (Nat.le_of_ble_eq_true rfl) (fun X e1 e2 e3 C => by subst e1; subst e2; subst e3; exact B_X6_dropsTheme C a N M p0 Mz h)
set_option maxRecDepth 100000 in
set_option maxHeartbeats 4000000 in
theorem nd_X6_dropsTheme : nd yX6_dropsTheme 1 := ⟨by decide +kernel, by decide +kernel, by decide +kernel⟩
set_option maxRecDepth 100000 in
set_option maxHeartbeats 4000000 in
theorem k_X6_dropsTheme {X : gX} {own : String} {cc : ByteArray} {nL : Nat} {ret : Option FieldType} {Ts : List Cond} {fr lm : Nat} {Q : State → Prop} {ms : List va_W} {L : List (Option Value)} {st : List Value} {pc pc' idx : Nat} {ρ : Type} {T : tS → Option ρ} {res : ρ} (C : cx X own cc nL ret Ts fr lm) (a : Nat → Nat) (N : Nat) (M : tS) (p0 : Int32) (is : List Nat) (hC : is.map (fun i => ms[i]?) = [some (mdW (gcA X) a M)]) (hn : is.Nodup) (hG : GoodIn Ts (wsV own idx RX6 yX6_dropsTheme wsX6_dropsTheme)) (hR : 2 + 1 ≤ fr ∧ 8 + (3 + 11) + 43 ≤ lm) (hst : (st.map fun v => v.category).sum ≤ 8) (hLn : L.length = nL) (d : decode cc pc = .ok (.invokevirtual idx, 3)) (hp : pc + 3 = pc') (h : bd (f_X6_dropsTheme N M p0) T = some res) (kk : ∀ (Mz : tS), T Mz = some res → G X Q (rpl ms is [mdW (gcA X) a Mz]) L (st) pc') : G X Q ms L (.int p0 :: .ref (a 0) :: st) pc := by
  obtain ⟨Mz, h1, h⟩ := ob h
  exact G_callVV C (As := [.int p0]) (c_X6_dropsTheme (gl X) (gD X) (gcA X) a N M p0 Mz h1) hG rfl nd_X6_dropsTheme hR (q0 := 0) rfl rfl hC hn rfl rfl hst hLn d hp (kk Mz h)
def f_X6_dropsEmpty (N : Nat) (M : tS) (p0 : Int32) : Option (tS) := (if p0 < 0 then some M else (bd (f_X6_notesOf N M p0) (fun r1 => (if r1 = 0 then (bd (f_X6_dropsTheme N M p0) (fun M2 => some M2)) else some M))))
set_option maxRecDepth 100000 in
set_option maxHeartbeats 4000000 in
theorem B_X6_dropsEmpty {X : gX} (C : cx X RX6 cX6_dropsEmpty 2 none wsX6_dropsEmpty 3 66) (a : Nat → Nat) (N : Nat) (M : tS) (p0 : Int32) (Mz : tS) (h : f_X6_dropsEmpty N M p0 = some Mz) : G X (QV X [mdW (gcA X) a Mz]) [mdW (gcA X) a M] [some (.ref (a 0)), some (.int p0)] [] 0 := by
  unfold f_X6_dropsEmpty at h
  refine g_iload_n (pc' := 1) C dX6_dropsEmpty_0 rfl rfl ?_
  refine g_if_lt (pc' := 4) (tgt := 17) C dX6_dropsEmpty_1 (by decide) rfl h (fun c h => ?_) (fun c h => ?_)
  · obtain rfl := Option.some.inj h
    exact g_vret C dX6_dropsEmpty_17
  · refine g_aload_n (pc' := 5) C dX6_dropsEmpty_4 rfl rfl ?_
    refine g_iload_n (pc' := 6) C dX6_dropsEmpty_5 rfl rfl ?_
    refine k_X6_notesOf (pc' := 9) C a N M p0 [0] rfl (by decide) gX6_dropsEmpty_X6_notesOf ⟨Nat.le_of_ble_eq_true rfl, Nat.le_of_ble_eq_true rfl⟩ (Nat.le_of_ble_eq_true rfl) rfl dX6_dropsEmpty_6 rfl h (fun r1 h => ?_)
    refine g_if_ne (pc' := 12) (tgt := 17) C dX6_dropsEmpty_9 (by decide) rfl h (fun c h => ?_) (fun c h => ?_)
    · refine g_aload_n (pc' := 13) C dX6_dropsEmpty_12 rfl rfl ?_
      refine g_iload_n (pc' := 14) C dX6_dropsEmpty_13 rfl rfl ?_
      refine k_X6_dropsTheme (pc' := 17) C a N M p0 [0] rfl (by decide) gX6_dropsEmpty_X6_dropsTheme ⟨Nat.le_of_ble_eq_true rfl, Nat.le_of_ble_eq_true rfl⟩ (Nat.le_of_ble_eq_true rfl) rfl dX6_dropsEmpty_14 rfl h (fun M2 h => ?_)
      show G X _ [mdW (gcA X) a M2] _ _ _
      obtain rfl := Option.some.inj h
      exact g_vret C dX6_dropsEmpty_17
    · obtain rfl := Option.some.inj h
      exact g_vret C dX6_dropsEmpty_17
set_option maxRecDepth 100000 in
set_option maxHeartbeats 4000000 in
theorem c_X6_dropsEmpty (l : Launch) (D : va_G) (cA : Nat → ClassId) (a : Nat → Nat) (N : Nat) (M : tS) (p0 : Int32) (Mz : tS) (h : f_X6_dropsEmpty N M p0 = some Mz) : MV l D cA yX6_dropsEmpty wsX6_dropsEmpty 3 66 [.ref (a 0), .int p0] [mdW cA a M]  [mdW cA a Mz] := MV_of (cc := cX6_dropsEmpty) (maxL := 2) (by decide +kernel) rfl (List.forall_mem_cons.mpr ⟨rfl, List.forall_mem_cons.mpr ⟨rfl, List.forall_mem_nil _⟩⟩) (Nat.le_of_ble_eq_true rfl) (fun X e1 e2 e3 C => by subst e1; subst e2; subst e3; exact B_X6_dropsEmpty C a N M p0 Mz h)
set_option maxRecDepth 100000 in
set_option maxHeartbeats 4000000 in
theorem nd_X6_dropsEmpty : nd yX6_dropsEmpty 1 := ⟨by decide +kernel, by decide +kernel, by decide +kernel⟩
set_option maxRecDepth 100000 in
set_option maxHeartbeats 4000000 in
theorem k_X6_dropsEmpty {X : gX} {own : String} {cc : ByteArray} {nL : Nat} {ret : Option FieldType} {Ts : List Cond} {fr lm : Nat} {Q : State → Prop} {ms : List va_W} {L : List (Option Value)} {st : List Value} {pc pc' idx : Nat} {ρ : Type} {T : tS → Option ρ} {res : ρ} (C : cx X own cc nL ret Ts fr lm) (a : Nat → Nat) (N : Nat) (M : tS) (p0 : Int32) (is : List Nat) (hC : is.map (fun i => ms[i]?) = [some (mdW (gcA X) a M)]) (hn : is.Nodup) (hG : GoodIn Ts (wsV own idx RX6 yX6_dropsEmpty wsX6_dropsEmpty)) (hR : 3 + 1 ≤ fr ∧ 8 + (2 + 11) + 66 ≤ lm) (hst : (st.map fun v => v.category).sum ≤ 8) (hLn : L.length = nL) (d : decode cc pc = .ok (.invokevirtual idx, 3)) (hp : pc + 3 = pc') (h : bd (f_X6_dropsEmpty N M p0) T = some res) (kk : ∀ (Mz : tS), T Mz = some res → G X Q (rpl ms is [mdW (gcA X) a Mz]) L (st) pc') : G X Q ms L (.int p0 :: .ref (a 0) :: st) pc := by
  obtain ⟨Mz, h1, h⟩ := ob h
  exact G_callVV C (As := [.int p0]) (c_X6_dropsEmpty (gl X) (gD X) (gcA X) a N M p0 Mz h1) hG rfl nd_X6_dropsEmpty hR (q0 := 0) rfl rfl hC hn rfl rfl hst hLn d hp (kk Mz h)
def f_X6_votesFor_29 (N : Nat) (M : tS) (p0 : Int32) (p1 : Int32) (k5 : Int32 → Int32 → Option (Int32)) (x4 : Int32) (t0 : Int32) (t1 : Int32) : Option (Int32) := k5 (t1 + t0) (x4 + 1)
set_option maxRecDepth 100000 in
set_option maxHeartbeats 4000000 in
theorem B_X6_votesFor_29 {X : gX} (C : cx X RX6 cX6_votesFor 5 (some .int) wsX6_votesFor 1 22) (a : Nat → Nat) (N : Nat) (M : tS) (p0 : Int32) (p1 : Int32) (r : Int32) (k5 : Int32 → Int32 → Option (Int32)) (hk5 : ∀ (x3 : Int32) (x4 : Int32), k5 x3 x4 = some r → G X (QI X r [mdW (gcA X) a M]) [mdW (gcA X) a M] [some (.ref (a 0)), some (.int p0), some (.int p1), some (.int x3), some (.int x4)] [] 5) (x4 : Int32) (t0 : Int32) (t1 : Int32) (h : f_X6_votesFor_29 N M p0 p1 k5 x4 t0 t1 = some r) : G X (QI X r [mdW (gcA X) a M]) [mdW (gcA X) a M] [some (.ref (a 0)), some (.int p0), some (.int p1), none, some (.int x4)] [.int t0, .int t1] 29 := by
  unfold f_X6_votesFor_29 at h
  refine g_iadd (pc' := 30) C dX6_votesFor_29 rfl ?_
  refine g_istore_n (pc' := 31) C dX6_votesFor_30 (Nat.le_of_ble_eq_true rfl) rfl (L' := [some (.ref (a 0)), some (.int p0), some (.int p1), some (.int (t1 + t0)), some (.int x4)]) rfl ?_
  refine g_iinc (pc' := 34) (v := (x4 + 1)) C dX6_votesFor_31 rfl rfl rfl (L' := [some (.ref (a 0)), some (.int p0), some (.int p1), some (.int (t1 + t0)), some (.int (x4 + 1))]) rfl ?_
  refine g_goto (pc' := 5) C dX6_votesFor_34 (by decide) ?_
  exact G_loc (lle_s (lle_s (lle_s (lle_s (lle_s lle_0))))) (hk5 (t1 + t0) (x4 + 1) h)
def f_X6_votesFor_5b (N : Nat) (M : tS) (p0 : Int32) (p1 : Int32)  (k5 : Int32 → Int32 → Option (Int32)) (x3 : Int32) (x4 : Int32) : Option (Int32) := (if (6 : Int32) ≤ x4 then some x3 else (bd (f_X6_voteOf N M p0 x4) (fun r1 => (if r1 = p1 then f_X6_votesFor_29 N M p0 p1 k5 x4 (1 : Int32) x3 else f_X6_votesFor_29 N M p0 p1 k5 x4 (0 : Int32) x3))))
def f_X6_votesFor_5 (N : Nat) (M : tS) (p0 : Int32) (p1 : Int32)  : Nat → Int32 → Int32 → Option (Int32)
  | 0 => fun _ _ => none
  | n + 1 => f_X6_votesFor_5b N M p0 p1  (f_X6_votesFor_5 N M p0 p1  n)
set_option maxRecDepth 100000 in
set_option maxHeartbeats 4000000 in
theorem B_X6_votesFor_5b {X : gX} (C : cx X RX6 cX6_votesFor 5 (some .int) wsX6_votesFor 1 22) (a : Nat → Nat) (N : Nat) (M : tS) (p0 : Int32) (p1 : Int32) (r : Int32)  (k5 : Int32 → Int32 → Option (Int32)) (hk5 : ∀ (x3 : Int32) (x4 : Int32), k5 x3 x4 = some r → G X (QI X r [mdW (gcA X) a M]) [mdW (gcA X) a M] [some (.ref (a 0)), some (.int p0), some (.int p1), some (.int x3), some (.int x4)] [] 5) (x3 : Int32) (x4 : Int32) (h : f_X6_votesFor_5b N M p0 p1  k5 x3 x4 = some r) : G X (QI X r [mdW (gcA X) a M]) [mdW (gcA X) a M] [some (.ref (a 0)), some (.int p0), some (.int p1), some (.int x3), some (.int x4)] [] 5 := by
  unfold f_X6_votesFor_5b at h
  refine g_iload (pc' := 7) C dX6_votesFor_5 rfl rfl ?_
  refine g_bipush (pc' := 9) (v := 6) C dX6_votesFor_7 (by decide) rfl ?_
  refine g_icmp_ge (pc' := 12) (tgt := 37) C dX6_votesFor_9 (by decide) rfl h (fun c h => ?_) (fun c h => ?_)
  · refine g_iload_n (pc' := 38) C dX6_votesFor_37 rfl rfl ?_
    obtain rfl := Option.some.inj h
    exact g_iret C dX6_votesFor_38
  · refine g_iload_n (pc' := 13) C dX6_votesFor_12 rfl rfl ?_
    refine g_aload_n (pc' := 14) C dX6_votesFor_13 rfl rfl ?_
    refine g_iload_n (pc' := 15) C dX6_votesFor_14 rfl rfl ?_
    refine g_iload (pc' := 17) C dX6_votesFor_15 rfl rfl ?_
    refine k_X6_voteOf (pc' := 20) C a N M p0 x4 [0] rfl (by decide) gX6_votesFor_X6_voteOf ⟨Nat.le_of_ble_eq_true rfl, Nat.le_of_ble_eq_true rfl⟩ (Nat.le_of_ble_eq_true rfl) rfl dX6_votesFor_17 rfl h (fun r1 h => ?_)
    refine g_iload_n (pc' := 21) C dX6_votesFor_20 rfl rfl ?_
    refine g_icmp_ne (pc' := 24) (tgt := 28) C dX6_votesFor_21 (by decide) rfl h (fun c h => ?_) (fun c h => ?_)
    · refine g_iconst (pc' := 25) (v := 1) C dX6_votesFor_24 (by decide) rfl ?_
      refine g_goto (pc' := 29) C dX6_votesFor_25 (by decide) ?_
      exact G_loc (lle_s (lle_s (lle_s (lle_n (lle_s lle_0))))) (B_X6_votesFor_29 C a N M p0 p1 r k5 hk5 x4 (1 : Int32) x3 h)
    · refine g_iconst (pc' := 29) (v := 0) C dX6_votesFor_28 (by decide) rfl ?_
      exact G_loc (lle_s (lle_s (lle_s (lle_n (lle_s lle_0))))) (B_X6_votesFor_29 C a N M p0 p1 r k5 hk5 x4 (0 : Int32) x3 h)
set_option maxRecDepth 100000 in
set_option maxHeartbeats 4000000 in
theorem L_X6_votesFor_5 {X : gX} (C : cx X RX6 cX6_votesFor 5 (some .int) wsX6_votesFor 1 22) (a : Nat → Nat) (N : Nat) (M : tS) (p0 : Int32) (p1 : Int32) (r : Int32)  : ∀ (n : Nat) (x3 : Int32) (x4 : Int32), f_X6_votesFor_5 N M p0 p1  n x3 x4 = some r → G X (QI X r [mdW (gcA X) a M]) [mdW (gcA X) a M] [some (.ref (a 0)), some (.int p0), some (.int p1), some (.int x3), some (.int x4)] [] 5 := by
  intro n
  induction n with
  | zero => intro x3 x4 h; have h : (none : Option (Int32)) = some r := h; cases h
  | succ n ih => intro x3 x4 h; exact B_X6_votesFor_5b C a N M p0 p1 r  (f_X6_votesFor_5 N M p0 p1  n) ih x3 x4 h
def f_X6_votesFor (N : Nat) (M : tS) (p0 : Int32) (p1 : Int32) : Option (Int32) := f_X6_votesFor_5 N M p0 p1 N (0 : Int32) (0 : Int32)
set_option maxRecDepth 100000 in
set_option maxHeartbeats 4000000 in
theorem B_X6_votesFor {X : gX} (C : cx X RX6 cX6_votesFor 5 (some .int) wsX6_votesFor 1 22) (a : Nat → Nat) (N : Nat) (M : tS) (p0 : Int32) (p1 : Int32) (r : Int32) (h : f_X6_votesFor N M p0 p1 = some r) : G X (QI X r [mdW (gcA X) a M]) [mdW (gcA X) a M] [some (.ref (a 0)), some (.int p0), some (.int p1), none, none] [] 0 := by
  unfold f_X6_votesFor at h
  refine g_iconst (pc' := 1) (v := 0) C dX6_votesFor_0 (by decide) rfl ?_
  refine g_istore_n (pc' := 2) C dX6_votesFor_1 (Nat.le_of_ble_eq_true rfl) rfl (L' := [some (.ref (a 0)), some (.int p0), some (.int p1), some (.int (0 : Int32)), none]) rfl ?_
  refine g_iconst (pc' := 3) (v := 0) C dX6_votesFor_2 (by decide) rfl ?_
  refine g_istore (pc' := 5) C dX6_votesFor_3 (Nat.le_of_ble_eq_true rfl) rfl (L' := [some (.ref (a 0)), some (.int p0), some (.int p1), some (.int (0 : Int32)), some (.int (0 : Int32))]) rfl ?_
  exact G_loc (lle_s (lle_s (lle_s (lle_s (lle_s lle_0))))) (L_X6_votesFor_5 C a N M p0 p1 r N (0 : Int32) (0 : Int32) h)
set_option maxRecDepth 100000 in
set_option maxHeartbeats 4000000 in
theorem c_X6_votesFor (l : Launch) (D : va_G) (cA : Nat → ClassId) (a : Nat → Nat) (N : Nat) (M : tS) (p0 : Int32) (p1 : Int32) (r : Int32) (h : f_X6_votesFor N M p0 p1 = some r) : MI l D cA yX6_votesFor wsX6_votesFor 1 22 [.ref (a 0), .int p0, .int p1] [mdW cA a M] r [mdW cA a M] := MI_of (cc := cX6_votesFor) (maxL := 5) (rt := some .int) (by decide +kernel) rfl (List.forall_mem_cons.mpr ⟨rfl, List.forall_mem_cons.mpr ⟨rfl, List.forall_mem_cons.mpr ⟨rfl, List.forall_mem_nil _⟩⟩⟩) (Nat.le_of_ble_eq_true rfl) (fun X e1 e2 e3 C => by subst e1; subst e2; subst e3; exact B_X6_votesFor C a N M p0 p1 r h)
set_option maxRecDepth 100000 in
set_option maxHeartbeats 4000000 in
theorem nd_X6_votesFor : nd yX6_votesFor 2 := ⟨by decide +kernel, by decide +kernel, by decide +kernel⟩
set_option maxRecDepth 100000 in
set_option maxHeartbeats 4000000 in
theorem k_X6_votesFor {X : gX} {own : String} {cc : ByteArray} {nL : Nat} {ret : Option FieldType} {Ts : List Cond} {fr lm : Nat} {Q : State → Prop} {ms : List va_W} {L : List (Option Value)} {st : List Value} {pc pc' idx : Nat} {ρ : Type} {T : Int32 → Option ρ} {res : ρ} (C : cx X own cc nL ret Ts fr lm) (a : Nat → Nat) (N : Nat) (M : tS) (p0 : Int32) (p1 : Int32) (is : List Nat) (hC : is.map (fun i => ms[i]?) = [some (mdW (gcA X) a M)]) (hn : is.Nodup) (hG : GoodIn Ts (wsV own idx RX6 yX6_votesFor wsX6_votesFor)) (hR : 1 + 1 ≤ fr ∧ 8 + (5 + 11) + 22 ≤ lm) (hst : (st.map fun v => v.category).sum ≤ 8) (hLn : L.length = nL) (d : decode cc pc = .ok (.invokevirtual idx, 3)) (hp : pc + 3 = pc') (h : bd (f_X6_votesFor N M p0 p1) T = some res) (kk : ∀ (r : Int32), T r = some res → G X Q (ms) L (.int r :: st) pc') : G X Q ms L (.int p1 :: .int p0 :: .ref (a 0) :: st) pc := by
  obtain ⟨r, h1, h⟩ := ob h
  exact G_callVI C (As := [.int p0, .int p1]) (c_X6_votesFor (gl X) (gD X) (gcA X) a N M p0 p1 r h1) hG rfl nd_X6_votesFor hR (q0 := 0) rfl rfl hC hn rfl rfl hst hLn d hp (G_ms (rpl_same (mc := [mdW (gcA X) a M]) hC) (kk r h))
def f_X6_nameOf_111 (N : Nat) (M : tS) (p0 : Int32) (k8 : Int32 → Int32 → Int32 → Option (Int32)) (x3 : Int32) (x4 : Int32) (t0 : Int32) (t1 : Int32) : Option (Int32) := k8 (t1 ||| t0) x3 (x4 + 1)
set_option maxRecDepth 100000 in
set_option maxHeartbeats 4000000 in
theorem B_X6_nameOf_111 {X : gX} (C : cx X RX6 cX6_nameOf 8 (some .int) wsX6_nameOf 2 46) (a : Nat → Nat) (N : Nat) (M : tS) (p0 : Int32) (r : Int32) (k8 : Int32 → Int32 → Int32 → Option (Int32)) (hk8 : ∀ (x2 : Int32) (x3 : Int32) (x4 : Int32), k8 x2 x3 x4 = some r → G X (QI X r [mdW (gcA X) a M]) [mdW (gcA X) a M] [some (.ref (a 0)), some (.int p0), some (.int x2), some (.int x3), some (.int x4), none, none, none] [] 8) (x3 : Int32) (x4 : Int32) (t0 : Int32) (t1 : Int32) (h : f_X6_nameOf_111 N M p0 k8 x3 x4 t0 t1 = some r) : G X (QI X r [mdW (gcA X) a M]) [mdW (gcA X) a M] [some (.ref (a 0)), some (.int p0), none, some (.int x3), some (.int x4), none, none, none] [.int t0, .int t1] 111 := by
  unfold f_X6_nameOf_111 at h
  refine g_ior (pc' := 112) C dX6_nameOf_111 rfl ?_
  refine g_istore_n (pc' := 113) C dX6_nameOf_112 (Nat.le_of_ble_eq_true rfl) rfl (L' := [some (.ref (a 0)), some (.int p0), some (.int (t1 ||| t0)), some (.int x3), some (.int x4), none, none, none]) rfl ?_
  refine g_iinc (pc' := 116) (v := (x4 + 1)) C dX6_nameOf_113 rfl rfl rfl (L' := [some (.ref (a 0)), some (.int p0), some (.int (t1 ||| t0)), some (.int x3), some (.int (x4 + 1)), none, none, none]) rfl ?_
  refine g_goto (pc' := 8) C dX6_nameOf_116 (by decide) ?_
  exact G_loc (lle_s (lle_s (lle_s (lle_s (lle_s (lle_n (lle_n (lle_n lle_0)))))))) (hk8 (t1 ||| t0) x3 (x4 + 1) h)
def f_X6_nameOf_90 (N : Nat) (M : tS) (p0 : Int32) (k8 : Int32 → Int32 → Int32 → Option (Int32)) (k23 : Int32 → Int32 → Int32 → Int32 → Int32 → Option (Int32)) (x2 : Int32) (x4 : Int32) (x5 : Int32) (x6 : Int32) (t0 : Int32) : Option (Int32) := k23 x2 t0 x4 x5 (x6 + 1)
set_option maxRecDepth 100000 in
set_option maxHeartbeats 4000000 in
theorem B_X6_nameOf_90 {X : gX} (C : cx X RX6 cX6_nameOf 8 (some .int) wsX6_nameOf 2 46) (a : Nat → Nat) (N : Nat) (M : tS) (p0 : Int32) (r : Int32) (k8 : Int32 → Int32 → Int32 → Option (Int32)) (hk8 : ∀ (x2 : Int32) (x3 : Int32) (x4 : Int32), k8 x2 x3 x4 = some r → G X (QI X r [mdW (gcA X) a M]) [mdW (gcA X) a M] [some (.ref (a 0)), some (.int p0), some (.int x2), some (.int x3), some (.int x4), none, none, none] [] 8) (k23 : Int32 → Int32 → Int32 → Int32 → Int32 → Option (Int32)) (hk23 : ∀ (x2 : Int32) (x3 : Int32) (x4 : Int32) (x5 : Int32) (x6 : Int32), k23 x2 x3 x4 x5 x6 = some r → G X (QI X r [mdW (gcA X) a M]) [mdW (gcA X) a M] [some (.ref (a 0)), some (.int p0), some (.int x2), some (.int x3), some (.int x4), some (.int x5), some (.int x6), none] [] 23) (x2 : Int32) (x4 : Int32) (x5 : Int32) (x6 : Int32) (t0 : Int32) (h : f_X6_nameOf_90 N M p0 k8 k23 x2 x4 x5 x6 t0 = some r) : G X (QI X r [mdW (gcA X) a M]) [mdW (gcA X) a M] [some (.ref (a 0)), some (.int p0), some (.int x2), none, some (.int x4), some (.int x5), some (.int x6), none] [.int t0] 90 := by
  unfold f_X6_nameOf_90 at h
  refine g_istore_n (pc' := 91) C dX6_nameOf_90 (Nat.le_of_ble_eq_true rfl) rfl (L' := [some (.ref (a 0)), some (.int p0), some (.int x2), some (.int t0), some (.int x4), some (.int x5), some (.int x6), none]) rfl ?_
  refine g_iinc (pc' := 94) (v := (x6 + 1)) C dX6_nameOf_91 rfl rfl rfl (L' := [some (.ref (a 0)), some (.int p0), some (.int x2), some (.int t0), some (.int x4), some (.int x5), some (.int (x6 + 1)), none]) rfl ?_
  refine g_goto (pc' := 23) C dX6_nameOf_94 (by decide) ?_
  exact G_loc (lle_s (lle_s (lle_s (lle_s (lle_s (lle_s (lle_s (lle_n lle_0)))))))) (hk23 x2 t0 x4 x5 (x6 + 1) h)
def f_X6_nameOf_77 (N : Nat) (M : tS) (p0 : Int32) (k8 : Int32 → Int32 → Int32 → Option (Int32)) (k23 : Int32 → Int32 → Int32 → Int32 → Int32 → Option (Int32)) (x2 : Int32) (x3 : Int32) (x4 : Int32) (x6 : Int32) (x7 : Int32) (t0 : Int32) : Option (Int32) := (if x7 = 0 then f_X6_nameOf_90 N M p0 k8 k23 x2 x4 t0 x6 x3 else f_X6_nameOf_90 N M p0 k8 k23 x2 x4 t0 x6 x6)
set_option maxRecDepth 100000 in
set_option maxHeartbeats 4000000 in
theorem B_X6_nameOf_77 {X : gX} (C : cx X RX6 cX6_nameOf 8 (some .int) wsX6_nameOf 2 46) (a : Nat → Nat) (N : Nat) (M : tS) (p0 : Int32) (r : Int32) (k8 : Int32 → Int32 → Int32 → Option (Int32)) (hk8 : ∀ (x2 : Int32) (x3 : Int32) (x4 : Int32), k8 x2 x3 x4 = some r → G X (QI X r [mdW (gcA X) a M]) [mdW (gcA X) a M] [some (.ref (a 0)), some (.int p0), some (.int x2), some (.int x3), some (.int x4), none, none, none] [] 8) (k23 : Int32 → Int32 → Int32 → Int32 → Int32 → Option (Int32)) (hk23 : ∀ (x2 : Int32) (x3 : Int32) (x4 : Int32) (x5 : Int32) (x6 : Int32), k23 x2 x3 x4 x5 x6 = some r → G X (QI X r [mdW (gcA X) a M]) [mdW (gcA X) a M] [some (.ref (a 0)), some (.int p0), some (.int x2), some (.int x3), some (.int x4), some (.int x5), some (.int x6), none] [] 23) (x2 : Int32) (x3 : Int32) (x4 : Int32) (x6 : Int32) (x7 : Int32) (t0 : Int32) (h : f_X6_nameOf_77 N M p0 k8 k23 x2 x3 x4 x6 x7 t0 = some r) : G X (QI X r [mdW (gcA X) a M]) [mdW (gcA X) a M] [some (.ref (a 0)), some (.int p0), some (.int x2), some (.int x3), some (.int x4), none, some (.int x6), some (.int x7)] [.int t0] 77 := by
  unfold f_X6_nameOf_77 at h
  refine g_istore (pc' := 79) C dX6_nameOf_77 (Nat.le_of_ble_eq_true rfl) rfl (L' := [some (.ref (a 0)), some (.int p0), some (.int x2), some (.int x3), some (.int x4), some (.int t0), some (.int x6), some (.int x7)]) rfl ?_
  refine g_iload (pc' := 81) C dX6_nameOf_79 rfl rfl ?_
  refine g_if_eq (pc' := 84) (tgt := 89) C dX6_nameOf_81 (by decide) rfl h (fun c h => ?_) (fun c h => ?_)
  · refine g_iload_n (pc' := 90) C dX6_nameOf_89 rfl rfl ?_
    exact G_loc (lle_s (lle_s (lle_s (lle_n (lle_s (lle_s (lle_s (lle_n lle_0)))))))) (B_X6_nameOf_90 C a N M p0 r k8 hk8 k23 hk23 x2 x4 t0 x6 x3 h)
  · refine g_iload (pc' := 86) C dX6_nameOf_84 rfl rfl ?_
    refine g_goto (pc' := 90) C dX6_nameOf_86 (by decide) ?_
    exact G_loc (lle_s (lle_s (lle_s (lle_n (lle_s (lle_s (lle_s (lle_n lle_0)))))))) (B_X6_nameOf_90 C a N M p0 r k8 hk8 k23 hk23 x2 x4 t0 x6 x6 h)
def f_X6_nameOf_57 (N : Nat) (M : tS) (p0 : Int32) (k8 : Int32 → Int32 → Int32 → Option (Int32)) (k23 : Int32 → Int32 → Int32 → Int32 → Int32 → Option (Int32)) (x2 : Int32) (x3 : Int32) (x4 : Int32) (x5 : Int32) (x6 : Int32) (t0 : Int32) : Option (Int32) := (if t0 = 0 then f_X6_nameOf_77 N M p0 k8 k23 x2 x3 x4 x6 t0 x5 else (bd (f_X6_votesFor N M x4 x6) (fun r1 => f_X6_nameOf_77 N M p0 k8 k23 x2 x3 x4 x6 t0 r1)))
set_option maxRecDepth 100000 in
set_option maxHeartbeats 4000000 in
theorem B_X6_nameOf_57 {X : gX} (C : cx X RX6 cX6_nameOf 8 (some .int) wsX6_nameOf 2 46) (a : Nat → Nat) (N : Nat) (M : tS) (p0 : Int32) (r : Int32) (k8 : Int32 → Int32 → Int32 → Option (Int32)) (hk8 : ∀ (x2 : Int32) (x3 : Int32) (x4 : Int32), k8 x2 x3 x4 = some r → G X (QI X r [mdW (gcA X) a M]) [mdW (gcA X) a M] [some (.ref (a 0)), some (.int p0), some (.int x2), some (.int x3), some (.int x4), none, none, none] [] 8) (k23 : Int32 → Int32 → Int32 → Int32 → Int32 → Option (Int32)) (hk23 : ∀ (x2 : Int32) (x3 : Int32) (x4 : Int32) (x5 : Int32) (x6 : Int32), k23 x2 x3 x4 x5 x6 = some r → G X (QI X r [mdW (gcA X) a M]) [mdW (gcA X) a M] [some (.ref (a 0)), some (.int p0), some (.int x2), some (.int x3), some (.int x4), some (.int x5), some (.int x6), none] [] 23) (x2 : Int32) (x3 : Int32) (x4 : Int32) (x5 : Int32) (x6 : Int32) (t0 : Int32) (h : f_X6_nameOf_57 N M p0 k8 k23 x2 x3 x4 x5 x6 t0 = some r) : G X (QI X r [mdW (gcA X) a M]) [mdW (gcA X) a M] [some (.ref (a 0)), some (.int p0), some (.int x2), some (.int x3), some (.int x4), some (.int x5), some (.int x6), none] [.int t0] 57 := by
  unfold f_X6_nameOf_57 at h
  refine g_istore (pc' := 59) C dX6_nameOf_57 (Nat.le_of_ble_eq_true rfl) rfl (L' := [some (.ref (a 0)), some (.int p0), some (.int x2), some (.int x3), some (.int x4), some (.int x5), some (.int x6), some (.int t0)]) rfl ?_
  refine g_iload (pc' := 61) C dX6_nameOf_59 rfl rfl ?_
  refine g_if_eq (pc' := 64) (tgt := 75) C dX6_nameOf_61 (by decide) rfl h (fun c h => ?_) (fun c h => ?_)
  · refine g_iload (pc' := 77) C dX6_nameOf_75 rfl rfl ?_
    exact G_loc (lle_s (lle_s (lle_s (lle_s (lle_s (lle_n (lle_s (lle_s lle_0)))))))) (B_X6_nameOf_77 C a N M p0 r k8 hk8 k23 hk23 x2 x3 x4 x6 t0 x5 h)
  · refine g_aload_n (pc' := 65) C dX6_nameOf_64 rfl rfl ?_
    refine g_iload (pc' := 67) C dX6_nameOf_65 rfl rfl ?_
    refine g_iload (pc' := 69) C dX6_nameOf_67 rfl rfl ?_
    refine k_X6_votesFor (pc' := 72) C a N M x4 x6 [0] rfl (by decide) gX6_nameOf_X6_votesFor ⟨Nat.le_of_ble_eq_true rfl, Nat.le_of_ble_eq_true rfl⟩ (Nat.le_of_ble_eq_true rfl) rfl dX6_nameOf_69 rfl h (fun r1 h => ?_)
    refine g_goto (pc' := 77) C dX6_nameOf_72 (by decide) ?_
    exact G_loc (lle_s (lle_s (lle_s (lle_s (lle_s (lle_n (lle_s (lle_s lle_0)))))))) (B_X6_nameOf_77 C a N M p0 r k8 hk8 k23 hk23 x2 x3 x4 x6 t0 r1 h)
def f_X6_nameOf_56 (N : Nat) (M : tS) (p0 : Int32) (k8 : Int32 → Int32 → Int32 → Option (Int32)) (k23 : Int32 → Int32 → Int32 → Int32 → Int32 → Option (Int32)) (x2 : Int32) (x3 : Int32) (x4 : Int32) (x5 : Int32) (x6 : Int32) : Option (Int32) := f_X6_nameOf_57 N M p0 k8 k23 x2 x3 x4 x5 x6 (0 : Int32)
set_option maxRecDepth 100000 in
set_option maxHeartbeats 4000000 in
theorem B_X6_nameOf_56 {X : gX} (C : cx X RX6 cX6_nameOf 8 (some .int) wsX6_nameOf 2 46) (a : Nat → Nat) (N : Nat) (M : tS) (p0 : Int32) (r : Int32) (k8 : Int32 → Int32 → Int32 → Option (Int32)) (hk8 : ∀ (x2 : Int32) (x3 : Int32) (x4 : Int32), k8 x2 x3 x4 = some r → G X (QI X r [mdW (gcA X) a M]) [mdW (gcA X) a M] [some (.ref (a 0)), some (.int p0), some (.int x2), some (.int x3), some (.int x4), none, none, none] [] 8) (k23 : Int32 → Int32 → Int32 → Int32 → Int32 → Option (Int32)) (hk23 : ∀ (x2 : Int32) (x3 : Int32) (x4 : Int32) (x5 : Int32) (x6 : Int32), k23 x2 x3 x4 x5 x6 = some r → G X (QI X r [mdW (gcA X) a M]) [mdW (gcA X) a M] [some (.ref (a 0)), some (.int p0), some (.int x2), some (.int x3), some (.int x4), some (.int x5), some (.int x6), none] [] 23) (x2 : Int32) (x3 : Int32) (x4 : Int32) (x5 : Int32) (x6 : Int32) (h : f_X6_nameOf_56 N M p0 k8 k23 x2 x3 x4 x5 x6 = some r) : G X (QI X r [mdW (gcA X) a M]) [mdW (gcA X) a M] [some (.ref (a 0)), some (.int p0), some (.int x2), some (.int x3), some (.int x4), some (.int x5), some (.int x6), none] [] 56 := by
  unfold f_X6_nameOf_56 at h
  refine g_iconst (pc' := 57) (v := 0) C dX6_nameOf_56 (by decide) rfl ?_
  exact G_loc (lle_s (lle_s (lle_s (lle_s (lle_s (lle_s (lle_s (lle_n lle_0)))))))) (B_X6_nameOf_57 C a N M p0 r k8 hk8 k23 hk23 x2 x3 x4 x5 x6 (0 : Int32) h)
def f_X6_nameOf_23b (N : Nat) (M : tS) (p0 : Int32) (k8 : Int32 → Int32 → Int32 → Option (Int32)) (k23 : Int32 → Int32 → Int32 → Int32 → Int32 → Option (Int32)) (x2 : Int32) (x3 : Int32) (x4 : Int32) (x5 : Int32) (x6 : Int32) : Option (Int32) := (if (10 : Int32) ≤ x6 then (if x3 = (-5 : Int32) then f_X6_nameOf_111 N M p0 k8 x3 x4 (0 : Int32) x2 else f_X6_nameOf_111 N M p0 k8 x3 x4 ((1 : Int32) <<< (x3 &&& 31)) x2) else (if ((x2 >>> (x6 &&& 31)) &&& (1 : Int32)) = 0 then (bd (f_X6_votesFor N M x4 x6) (fun r1 => (if r1 ≤ x5 then f_X6_nameOf_56 N M p0 k8 k23 x2 x3 x4 x5 x6 else f_X6_nameOf_57 N M p0 k8 k23 x2 x3 x4 x5 x6 (1 : Int32)))) else f_X6_nameOf_56 N M p0 k8 k23 x2 x3 x4 x5 x6))
def f_X6_nameOf_23 (N : Nat) (M : tS) (p0 : Int32) (k8 : Int32 → Int32 → Int32 → Option (Int32)) : Nat → Int32 → Int32 → Int32 → Int32 → Int32 → Option (Int32)
  | 0 => fun _ _ _ _ _ => none
  | n + 1 => f_X6_nameOf_23b N M p0 k8 (f_X6_nameOf_23 N M p0 k8 n)
set_option maxRecDepth 100000 in
set_option maxHeartbeats 4000000 in
theorem B_X6_nameOf_23b {X : gX} (C : cx X RX6 cX6_nameOf 8 (some .int) wsX6_nameOf 2 46) (a : Nat → Nat) (N : Nat) (M : tS) (p0 : Int32) (r : Int32) (k8 : Int32 → Int32 → Int32 → Option (Int32)) (hk8 : ∀ (x2 : Int32) (x3 : Int32) (x4 : Int32), k8 x2 x3 x4 = some r → G X (QI X r [mdW (gcA X) a M]) [mdW (gcA X) a M] [some (.ref (a 0)), some (.int p0), some (.int x2), some (.int x3), some (.int x4), none, none, none] [] 8) (k23 : Int32 → Int32 → Int32 → Int32 → Int32 → Option (Int32)) (hk23 : ∀ (x2 : Int32) (x3 : Int32) (x4 : Int32) (x5 : Int32) (x6 : Int32), k23 x2 x3 x4 x5 x6 = some r → G X (QI X r [mdW (gcA X) a M]) [mdW (gcA X) a M] [some (.ref (a 0)), some (.int p0), some (.int x2), some (.int x3), some (.int x4), some (.int x5), some (.int x6), none] [] 23) (x2 : Int32) (x3 : Int32) (x4 : Int32) (x5 : Int32) (x6 : Int32) (h : f_X6_nameOf_23b N M p0 k8 k23 x2 x3 x4 x5 x6 = some r) : G X (QI X r [mdW (gcA X) a M]) [mdW (gcA X) a M] [some (.ref (a 0)), some (.int p0), some (.int x2), some (.int x3), some (.int x4), some (.int x5), some (.int x6), none] [] 23 := by
  unfold f_X6_nameOf_23b at h
  refine g_iload (pc' := 25) C dX6_nameOf_23 rfl rfl ?_
  refine g_bipush (pc' := 27) (v := 10) C dX6_nameOf_25 (by decide) rfl ?_
  refine g_icmp_ge (pc' := 30) (tgt := 97) C dX6_nameOf_27 (by decide) rfl h (fun c h => ?_) (fun c h => ?_)
  · refine g_iload_n (pc' := 98) C dX6_nameOf_97 rfl rfl ?_
    refine g_iload_n (pc' := 99) C dX6_nameOf_98 rfl rfl ?_
    refine g_bipush (pc' := 101) (v := -5) C dX6_nameOf_99 (by decide) rfl ?_
    refine g_icmp_ne (pc' := 104) (tgt := 108) C dX6_nameOf_101 (by decide) rfl h (fun c h => ?_) (fun c h => ?_)
    · refine g_iconst (pc' := 105) (v := 0) C dX6_nameOf_104 (by decide) rfl ?_
      refine g_goto (pc' := 111) C dX6_nameOf_105 (by decide) ?_
      exact G_loc (lle_s (lle_s (lle_n (lle_s (lle_s (lle_n (lle_n (lle_n lle_0)))))))) (B_X6_nameOf_111 C a N M p0 r k8 hk8 x3 x4 (0 : Int32) x2 h)
    · refine g_iconst (pc' := 109) (v := 1) C dX6_nameOf_108 (by decide) rfl ?_
      refine g_iload_n (pc' := 110) C dX6_nameOf_109 rfl rfl ?_
      refine g_ishl (pc' := 111) C dX6_nameOf_110 rfl ?_
      exact G_loc (lle_s (lle_s (lle_n (lle_s (lle_s (lle_n (lle_n (lle_n lle_0)))))))) (B_X6_nameOf_111 C a N M p0 r k8 hk8 x3 x4 ((1 : Int32) <<< (x3 &&& 31)) x2 h)
  · refine g_iload_n (pc' := 31) C dX6_nameOf_30 rfl rfl ?_
    refine g_iload (pc' := 33) C dX6_nameOf_31 rfl rfl ?_
    refine g_ishr (pc' := 34) C dX6_nameOf_33 rfl ?_
    refine g_iconst (pc' := 35) (v := 1) C dX6_nameOf_34 (by decide) rfl ?_
    refine g_iand (pc' := 36) C dX6_nameOf_35 rfl ?_
    refine g_if_ne (pc' := 39) (tgt := 56) C dX6_nameOf_36 (by decide) rfl h (fun c h => ?_) (fun c h => ?_)
    · refine g_aload_n (pc' := 40) C dX6_nameOf_39 rfl rfl ?_
      refine g_iload (pc' := 42) C dX6_nameOf_40 rfl rfl ?_
      refine g_iload (pc' := 44) C dX6_nameOf_42 rfl rfl ?_
      refine k_X6_votesFor (pc' := 47) C a N M x4 x6 [0] rfl (by decide) gX6_nameOf_X6_votesFor ⟨Nat.le_of_ble_eq_true rfl, Nat.le_of_ble_eq_true rfl⟩ (Nat.le_of_ble_eq_true rfl) rfl dX6_nameOf_44 rfl h (fun r1 h => ?_)
      refine g_iload (pc' := 49) C dX6_nameOf_47 rfl rfl ?_
      refine g_icmp_le (pc' := 52) (tgt := 56) C dX6_nameOf_49 (by decide) rfl h (fun c h => ?_) (fun c h => ?_)
      · exact G_loc (lle_s (lle_s (lle_s (lle_s (lle_s (lle_s (lle_s (lle_n lle_0)))))))) (B_X6_nameOf_56 C a N M p0 r k8 hk8 k23 hk23 x2 x3 x4 x5 x6 h)
      · refine g_iconst (pc' := 53) (v := 1) C dX6_nameOf_52 (by decide) rfl ?_
        refine g_goto (pc' := 57) C dX6_nameOf_53 (by decide) ?_
        exact G_loc (lle_s (lle_s (lle_s (lle_s (lle_s (lle_s (lle_s (lle_n lle_0)))))))) (B_X6_nameOf_57 C a N M p0 r k8 hk8 k23 hk23 x2 x3 x4 x5 x6 (1 : Int32) h)
    · exact G_loc (lle_s (lle_s (lle_s (lle_s (lle_s (lle_s (lle_s (lle_n lle_0)))))))) (B_X6_nameOf_56 C a N M p0 r k8 hk8 k23 hk23 x2 x3 x4 x5 x6 h)
set_option maxRecDepth 100000 in
set_option maxHeartbeats 4000000 in
theorem L_X6_nameOf_23 {X : gX} (C : cx X RX6 cX6_nameOf 8 (some .int) wsX6_nameOf 2 46) (a : Nat → Nat) (N : Nat) (M : tS) (p0 : Int32) (r : Int32) (k8 : Int32 → Int32 → Int32 → Option (Int32)) (hk8 : ∀ (x2 : Int32) (x3 : Int32) (x4 : Int32), k8 x2 x3 x4 = some r → G X (QI X r [mdW (gcA X) a M]) [mdW (gcA X) a M] [some (.ref (a 0)), some (.int p0), some (.int x2), some (.int x3), some (.int x4), none, none, none] [] 8) : ∀ (n : Nat) (x2 : Int32) (x3 : Int32) (x4 : Int32) (x5 : Int32) (x6 : Int32), f_X6_nameOf_23 N M p0 k8 n x2 x3 x4 x5 x6 = some r → G X (QI X r [mdW (gcA X) a M]) [mdW (gcA X) a M] [some (.ref (a 0)), some (.int p0), some (.int x2), some (.int x3), some (.int x4), some (.int x5), some (.int x6), none] [] 23 := by
  intro n
  induction n with
  | zero => intro x2 x3 x4 x5 x6 h; have h : (none : Option (Int32)) = some r := h; cases h
  | succ n ih => intro x2 x3 x4 x5 x6 h; exact B_X6_nameOf_23b C a N M p0 r k8 hk8 (f_X6_nameOf_23 N M p0 k8 n) ih x2 x3 x4 x5 x6 h
def f_X6_nameOf_8b (N : Nat) (M : tS) (p0 : Int32)  (k8 : Int32 → Int32 → Int32 → Option (Int32)) (x2 : Int32) (x3 : Int32) (x4 : Int32) : Option (Int32) := (if p0 < x4 then some x3 else f_X6_nameOf_23 N M p0 k8 N x2 (-5 : Int32) x4 (1 : Int32) (0 : Int32))
def f_X6_nameOf_8 (N : Nat) (M : tS) (p0 : Int32)  : Nat → Int32 → Int32 → Int32 → Option (Int32)
  | 0 => fun _ _ _ => none
  | n + 1 => f_X6_nameOf_8b N M p0  (f_X6_nameOf_8 N M p0  n)
set_option maxRecDepth 100000 in
set_option maxHeartbeats 4000000 in
theorem B_X6_nameOf_8b {X : gX} (C : cx X RX6 cX6_nameOf 8 (some .int) wsX6_nameOf 2 46) (a : Nat → Nat) (N : Nat) (M : tS) (p0 : Int32) (r : Int32)  (k8 : Int32 → Int32 → Int32 → Option (Int32)) (hk8 : ∀ (x2 : Int32) (x3 : Int32) (x4 : Int32), k8 x2 x3 x4 = some r → G X (QI X r [mdW (gcA X) a M]) [mdW (gcA X) a M] [some (.ref (a 0)), some (.int p0), some (.int x2), some (.int x3), some (.int x4), none, none, none] [] 8) (x2 : Int32) (x3 : Int32) (x4 : Int32) (h : f_X6_nameOf_8b N M p0  k8 x2 x3 x4 = some r) : G X (QI X r [mdW (gcA X) a M]) [mdW (gcA X) a M] [some (.ref (a 0)), some (.int p0), some (.int x2), some (.int x3), some (.int x4), none, none, none] [] 8 := by
  unfold f_X6_nameOf_8b at h
  refine g_iload (pc' := 10) C dX6_nameOf_8 rfl rfl ?_
  refine g_iload_n (pc' := 11) C dX6_nameOf_10 rfl rfl ?_
  refine g_icmp_gt (pc' := 14) (tgt := 119) C dX6_nameOf_11 (by decide) rfl h (fun c h => ?_) (fun c h => ?_)
  · refine g_iload_n (pc' := 120) C dX6_nameOf_119 rfl rfl ?_
    obtain rfl := Option.some.inj h
    exact g_iret C dX6_nameOf_120
  · refine g_iconst (pc' := 15) (v := 1) C dX6_nameOf_14 (by decide) rfl ?_
    refine g_istore (pc' := 17) C dX6_nameOf_15 (Nat.le_of_ble_eq_true rfl) rfl (L' := [some (.ref (a 0)), some (.int p0), some (.int x2), some (.int x3), some (.int x4), some (.int (1 : Int32)), none, none]) rfl ?_
    refine g_bipush (pc' := 19) (v := -5) C dX6_nameOf_17 (by decide) rfl ?_
    refine g_istore_n (pc' := 20) C dX6_nameOf_19 (Nat.le_of_ble_eq_true rfl) rfl (L' := [some (.ref (a 0)), some (.int p0), some (.int x2), some (.int (-5 : Int32)), some (.int x4), some (.int (1 : Int32)), none, none]) rfl ?_
    refine g_iconst (pc' := 21) (v := 0) C dX6_nameOf_20 (by decide) rfl ?_
    refine g_istore (pc' := 23) C dX6_nameOf_21 (Nat.le_of_ble_eq_true rfl) rfl (L' := [some (.ref (a 0)), some (.int p0), some (.int x2), some (.int (-5 : Int32)), some (.int x4), some (.int (1 : Int32)), some (.int (0 : Int32)), none]) rfl ?_
    exact G_loc (lle_s (lle_s (lle_s (lle_s (lle_s (lle_s (lle_s (lle_n lle_0)))))))) (L_X6_nameOf_23 C a N M p0 r k8 hk8 N x2 (-5 : Int32) x4 (1 : Int32) (0 : Int32) h)
set_option maxRecDepth 100000 in
set_option maxHeartbeats 4000000 in
theorem L_X6_nameOf_8 {X : gX} (C : cx X RX6 cX6_nameOf 8 (some .int) wsX6_nameOf 2 46) (a : Nat → Nat) (N : Nat) (M : tS) (p0 : Int32) (r : Int32)  : ∀ (n : Nat) (x2 : Int32) (x3 : Int32) (x4 : Int32), f_X6_nameOf_8 N M p0  n x2 x3 x4 = some r → G X (QI X r [mdW (gcA X) a M]) [mdW (gcA X) a M] [some (.ref (a 0)), some (.int p0), some (.int x2), some (.int x3), some (.int x4), none, none, none] [] 8 := by
  intro n
  induction n with
  | zero => intro x2 x3 x4 h; have h : (none : Option (Int32)) = some r := h; cases h
  | succ n ih => intro x2 x3 x4 h; exact B_X6_nameOf_8b C a N M p0 r  (f_X6_nameOf_8 N M p0  n) ih x2 x3 x4 h
def f_X6_nameOf (N : Nat) (M : tS) (p0 : Int32) : Option (Int32) := f_X6_nameOf_8 N M p0 N (0 : Int32) (-5 : Int32) (0 : Int32)
set_option maxRecDepth 100000 in
set_option maxHeartbeats 4000000 in
theorem B_X6_nameOf {X : gX} (C : cx X RX6 cX6_nameOf 8 (some .int) wsX6_nameOf 2 46) (a : Nat → Nat) (N : Nat) (M : tS) (p0 : Int32) (r : Int32) (h : f_X6_nameOf N M p0 = some r) : G X (QI X r [mdW (gcA X) a M]) [mdW (gcA X) a M] [some (.ref (a 0)), some (.int p0), none, none, none, none, none, none] [] 0 := by
  unfold f_X6_nameOf at h
  refine g_iconst (pc' := 1) (v := 0) C dX6_nameOf_0 (by decide) rfl ?_
  refine g_istore_n (pc' := 2) C dX6_nameOf_1 (Nat.le_of_ble_eq_true rfl) rfl (L' := [some (.ref (a 0)), some (.int p0), some (.int (0 : Int32)), none, none, none, none, none]) rfl ?_
  refine g_bipush (pc' := 4) (v := -5) C dX6_nameOf_2 (by decide) rfl ?_
  refine g_istore_n (pc' := 5) C dX6_nameOf_4 (Nat.le_of_ble_eq_true rfl) rfl (L' := [some (.ref (a 0)), some (.int p0), some (.int (0 : Int32)), some (.int (-5 : Int32)), none, none, none, none]) rfl ?_
  refine g_iconst (pc' := 6) (v := 0) C dX6_nameOf_5 (by decide) rfl ?_
  refine g_istore (pc' := 8) C dX6_nameOf_6 (Nat.le_of_ble_eq_true rfl) rfl (L' := [some (.ref (a 0)), some (.int p0), some (.int (0 : Int32)), some (.int (-5 : Int32)), some (.int (0 : Int32)), none, none, none]) rfl ?_
  exact G_loc (lle_s (lle_s (lle_s (lle_s (lle_s (lle_n (lle_n (lle_n lle_0)))))))) (L_X6_nameOf_8 C a N M p0 r N (0 : Int32) (-5 : Int32) (0 : Int32) h)
set_option maxRecDepth 100000 in
set_option maxHeartbeats 4000000 in
theorem c_X6_nameOf (l : Launch) (D : va_G) (cA : Nat → ClassId) (a : Nat → Nat) (N : Nat) (M : tS) (p0 : Int32) (r : Int32) (h : f_X6_nameOf N M p0 = some r) : MI l D cA yX6_nameOf wsX6_nameOf 2 46 [.ref (a 0), .int p0] [mdW cA a M] r [mdW cA a M] := MI_of (cc := cX6_nameOf) (maxL := 8) (rt := some .int) (by decide +kernel) rfl (List.forall_mem_cons.mpr ⟨rfl, List.forall_mem_cons.mpr ⟨rfl, List.forall_mem_nil _⟩⟩) (Nat.le_of_ble_eq_true rfl) (fun X e1 e2 e3 C => by subst e1; subst e2; subst e3; exact B_X6_nameOf C a N M p0 r h)
set_option maxRecDepth 100000 in
set_option maxHeartbeats 4000000 in
theorem nd_X6_nameOf : nd yX6_nameOf 1 := ⟨by decide +kernel, by decide +kernel, by decide +kernel⟩
set_option maxRecDepth 100000 in
set_option maxHeartbeats 4000000 in
theorem k_X6_nameOf {X : gX} {own : String} {cc : ByteArray} {nL : Nat} {ret : Option FieldType} {Ts : List Cond} {fr lm : Nat} {Q : State → Prop} {ms : List va_W} {L : List (Option Value)} {st : List Value} {pc pc' idx : Nat} {ρ : Type} {T : Int32 → Option ρ} {res : ρ} (C : cx X own cc nL ret Ts fr lm) (a : Nat → Nat) (N : Nat) (M : tS) (p0 : Int32) (is : List Nat) (hC : is.map (fun i => ms[i]?) = [some (mdW (gcA X) a M)]) (hn : is.Nodup) (hG : GoodIn Ts (wsV own idx RX6 yX6_nameOf wsX6_nameOf)) (hR : 2 + 1 ≤ fr ∧ 8 + (8 + 11) + 46 ≤ lm) (hst : (st.map fun v => v.category).sum ≤ 8) (hLn : L.length = nL) (d : decode cc pc = .ok (.invokevirtual idx, 3)) (hp : pc + 3 = pc') (h : bd (f_X6_nameOf N M p0) T = some res) (kk : ∀ (r : Int32), T r = some res → G X Q (ms) L (.int r :: st) pc') : G X Q ms L (.int p0 :: .ref (a 0) :: st) pc := by
  obtain ⟨r, h1, h⟩ := ob h
  exact G_callVI C (As := [.int p0]) (c_X6_nameOf (gl X) (gD X) (gcA X) a N M p0 r h1) hG rfl nd_X6_nameOf hR (q0 := 0) rfl rfl hC hn rfl rfl hst hLn d hp (G_ms (rpl_same (mc := [mdW (gcA X) a M]) hC) (kk r h))
theorem hi_X6_adds_X6 : ∀ w ∈ wsX60, w ∈ wsX6_adds := fun w h => List.mem_cons_of_mem _ (List.mem_append_right _ h)
theorem lk_X6_adds_1 : Cond.fieldLink RX6 7 "NoteThemesModel" "s" "[I" ∈ wsX6_adds := List.mem_of_getElem? (i := 1) rfl
def f_X6_adds_10b (N : Nat) (p0 : Int32) (p1 : Int32)  (k10 : Int32 → Int32 → tS → Option (Int32 × tS)) (x3 : Int32) (x4 : Int32) (M : tS) : Option (Int32 × tS) := (if (9 : Int32) ≤ x4 then (bd (f_X6_lays N M x3 (0 : Int32) p0) (fun M1 => (bd (f_X6_lays N M1 x3 (1 : Int32) p1) (fun M2 => (if (0 : Int32) < 0 ∨ 233 ≤ (0 : Int32).toNatClampNeg then none else some (x3, (va_up M2 0 (upd (M2 0) (0 : Int32).toNatClampNeg ((M2 0 (0 : Int32).toNatClampNeg) + (1 : Int32)))))))))) else (bd (f_X6_lays N M x3 x4 (0 : Int32)) (fun M3 => k10 x3 (x4 + 1) M3)))
def f_X6_adds_10 (N : Nat) (p0 : Int32) (p1 : Int32)  : Nat → Int32 → Int32 → tS → Option (Int32 × tS)
  | 0 => fun _ _ _ => none
  | n + 1 => f_X6_adds_10b N p0 p1  (f_X6_adds_10 N p0 p1  n)
set_option maxRecDepth 100000 in
set_option maxHeartbeats 4000000 in
theorem B_X6_adds_10b {X : gX} (C : cx X RX6 cX6_adds 5 (some .int) wsX6_adds 1 23) (a : Nat → Nat) (N : Nat) (p0 : Int32) (p1 : Int32) (r : Int32) (Mz : tS)  (k10 : Int32 → Int32 → tS → Option (Int32 × tS)) (hk10 : ∀ (x3 : Int32) (x4 : Int32) (M : tS), k10 x3 x4 M = some (r, Mz) → G X (QI X r [mdW (gcA X) a Mz]) [mdW (gcA X) a M] [some (.ref (a 0)), some (.int p0), some (.int p1), some (.int x3), some (.int x4)] [] 10) (x3 : Int32) (x4 : Int32) (M : tS) (h : f_X6_adds_10b N p0 p1  k10 x3 x4 M = some (r, Mz)) : G X (QI X r [mdW (gcA X) a Mz]) [mdW (gcA X) a M] [some (.ref (a 0)), some (.int p0), some (.int p1), some (.int x3), some (.int x4)] [] 10 := by
  unfold f_X6_adds_10b at h
  refine g_iload (pc' := 12) C dX6_adds_10 rfl rfl ?_
  refine g_bipush (pc' := 14) (v := 9) C dX6_adds_12 (by decide) rfl ?_
  refine g_icmp_ge (pc' := 17) (tgt := 31) C dX6_adds_14 (by decide) rfl h (fun c h => ?_) (fun c h => ?_)
  · refine g_aload_n (pc' := 32) C dX6_adds_31 rfl rfl ?_
    refine g_iload_n (pc' := 33) C dX6_adds_32 rfl rfl ?_
    refine g_iconst (pc' := 34) (v := 0) C dX6_adds_33 (by decide) rfl ?_
    refine g_iload_n (pc' := 35) C dX6_adds_34 rfl rfl ?_
    refine k_X6_lays (pc' := 38) C a N M x3 (0 : Int32) p0 [0] rfl (by decide) gX6_adds_X6_lays ⟨Nat.le_of_ble_eq_true rfl, Nat.le_of_ble_eq_true rfl⟩ (Nat.le_of_ble_eq_true rfl) rfl dX6_adds_35 rfl h (fun M1 h => ?_)
    show G X _ [mdW (gcA X) a M1] _ _ _
    refine g_aload_n (pc' := 39) C dX6_adds_38 rfl rfl ?_
    refine g_iload_n (pc' := 40) C dX6_adds_39 rfl rfl ?_
    refine g_iconst (pc' := 41) (v := 1) C dX6_adds_40 (by decide) rfl ?_
    refine g_iload_n (pc' := 42) C dX6_adds_41 rfl rfl ?_
    refine k_X6_lays (pc' := 45) C a N M1 x3 (1 : Int32) p1 [0] rfl (by decide) gX6_adds_X6_lays ⟨Nat.le_of_ble_eq_true rfl, Nat.le_of_ble_eq_true rfl⟩ (Nat.le_of_ble_eq_true rfl) rfl dX6_adds_42 rfl h (fun M2 h => ?_)
    show G X _ [mdW (gcA X) a M2] _ _ _
    refine g_aload_n (pc' := 46) C dX6_adds_45 rfl rfl ?_
    refine gg_X6_0 (pc' := 49) (i := 0) C rfl hi_X6_adds_X6 lk_X6_adds_1 dX6_adds_46 rfl ?_
    refine g_iconst (pc' := 50) (v := 0) C dX6_adds_49 (by decide) rfl ?_
    refine g_dup2 (pc' := 51) C dX6_adds_50 rfl rfl rfl ?_
    refine g_iald0 (pc' := 52) (i := 0) (j := 1) C rfl rfl dX6_adds_51 rfl (by unfold vp_in; decide) ?_
    refine g_iconst (pc' := 53) (v := 1) C dX6_adds_52 (by decide) rfl ?_
    refine g_iadd (pc' := 54) C dX6_adds_53 rfl ?_
    refine g_iast (pc' := 55) (i := 0) (j := 1) (w' := mdW (gcA X) a (va_up M2 0 (upd (M2 0) (0 : Int32).toNatClampNeg ((M2 0 (0 : Int32).toNatClampNeg) + (1 : Int32))))) C rfl rfl rfl dX6_adds_54 rfl h (fun h => ?_)
    show G X _ [mdW (gcA X) a (va_up M2 0 (upd (M2 0) (0 : Int32).toNatClampNeg ((M2 0 (0 : Int32).toNatClampNeg) + (1 : Int32))))] _ _ _
    refine g_iload_n (pc' := 56) C dX6_adds_55 rfl rfl ?_
    obtain ⟨rfl, rfl⟩ := pj2 (Option.some.inj h)
    exact g_iret C dX6_adds_56
  · refine g_aload_n (pc' := 18) C dX6_adds_17 rfl rfl ?_
    refine g_iload_n (pc' := 19) C dX6_adds_18 rfl rfl ?_
    refine g_iload (pc' := 21) C dX6_adds_19 rfl rfl ?_
    refine g_iconst (pc' := 22) (v := 0) C dX6_adds_21 (by decide) rfl ?_
    refine k_X6_lays (pc' := 25) C a N M x3 x4 (0 : Int32) [0] rfl (by decide) gX6_adds_X6_lays ⟨Nat.le_of_ble_eq_true rfl, Nat.le_of_ble_eq_true rfl⟩ (Nat.le_of_ble_eq_true rfl) rfl dX6_adds_22 rfl h (fun M3 h => ?_)
    show G X _ [mdW (gcA X) a M3] _ _ _
    refine g_iinc (pc' := 28) (v := (x4 + 1)) C dX6_adds_25 rfl rfl rfl (L' := [some (.ref (a 0)), some (.int p0), some (.int p1), some (.int x3), some (.int (x4 + 1))]) rfl ?_
    refine g_goto (pc' := 10) C dX6_adds_28 (by decide) ?_
    exact G_loc (lle_s (lle_s (lle_s (lle_s (lle_s lle_0))))) (hk10 x3 (x4 + 1) M3 h)
set_option maxRecDepth 100000 in
set_option maxHeartbeats 4000000 in
theorem L_X6_adds_10 {X : gX} (C : cx X RX6 cX6_adds 5 (some .int) wsX6_adds 1 23) (a : Nat → Nat) (N : Nat) (p0 : Int32) (p1 : Int32) (r : Int32) (Mz : tS)  : ∀ (n : Nat) (x3 : Int32) (x4 : Int32) (M : tS), f_X6_adds_10 N p0 p1  n x3 x4 M = some (r, Mz) → G X (QI X r [mdW (gcA X) a Mz]) [mdW (gcA X) a M] [some (.ref (a 0)), some (.int p0), some (.int p1), some (.int x3), some (.int x4)] [] 10 := by
  intro n
  induction n with
  | zero => intro x3 x4 M h; have h : (none : Option (Int32 × tS)) = some (r, Mz) := h; cases h
  | succ n ih => intro x3 x4 M h; exact B_X6_adds_10b C a N p0 p1 r Mz  (f_X6_adds_10 N p0 p1  n) ih x3 x4 M h
def f_X6_adds (N : Nat) (M : tS) (p0 : Int32) (p1 : Int32) : Option (Int32 × tS) := f_X6_adds_10 N p0 p1 N (M 0 (0 : Int32).toNatClampNeg) (0 : Int32) M
set_option maxRecDepth 100000 in
set_option maxHeartbeats 4000000 in
theorem B_X6_adds {X : gX} (C : cx X RX6 cX6_adds 5 (some .int) wsX6_adds 1 23) (a : Nat → Nat) (N : Nat) (M : tS) (p0 : Int32) (p1 : Int32) (r : Int32) (Mz : tS) (h : f_X6_adds N M p0 p1 = some (r, Mz)) : G X (QI X r [mdW (gcA X) a Mz]) [mdW (gcA X) a M] [some (.ref (a 0)), some (.int p0), some (.int p1), none, none] [] 0 := by
  unfold f_X6_adds at h
  refine g_aload_n (pc' := 1) C dX6_adds_0 rfl rfl ?_
  refine gg_X6_0 (pc' := 4) (i := 0) C rfl hi_X6_adds_X6 lk_X6_adds_1 dX6_adds_1 rfl ?_
  refine g_iconst (pc' := 5) (v := 0) C dX6_adds_4 (by decide) rfl ?_
  refine g_iald0 (pc' := 6) (i := 0) (j := 1) C rfl rfl dX6_adds_5 rfl (by unfold vp_in; decide) ?_
  refine g_istore_n (pc' := 7) C dX6_adds_6 (Nat.le_of_ble_eq_true rfl) rfl (L' := [some (.ref (a 0)), some (.int p0), some (.int p1), some (.int (M 0 (0 : Int32).toNatClampNeg)), none]) rfl ?_
  refine g_iconst (pc' := 8) (v := 0) C dX6_adds_7 (by decide) rfl ?_
  refine g_istore (pc' := 10) C dX6_adds_8 (Nat.le_of_ble_eq_true rfl) rfl (L' := [some (.ref (a 0)), some (.int p0), some (.int p1), some (.int (M 0 (0 : Int32).toNatClampNeg)), some (.int (0 : Int32))]) rfl ?_
  exact G_loc (lle_s (lle_s (lle_s (lle_s (lle_s lle_0))))) (L_X6_adds_10 C a N p0 p1 r Mz N (M 0 (0 : Int32).toNatClampNeg) (0 : Int32) M h)
set_option maxRecDepth 100000 in
set_option maxHeartbeats 4000000 in
theorem c_X6_adds (l : Launch) (D : va_G) (cA : Nat → ClassId) (a : Nat → Nat) (N : Nat) (M : tS) (p0 : Int32) (p1 : Int32) (r : Int32) (Mz : tS) (h : f_X6_adds N M p0 p1 = some (r, Mz)) : MI l D cA yX6_adds wsX6_adds 1 23 [.ref (a 0), .int p0, .int p1] [mdW cA a M] r [mdW cA a Mz] := MI_of (cc := cX6_adds) (maxL := 5) (rt := some .int) (by decide +kernel) rfl (List.forall_mem_cons.mpr ⟨rfl, List.forall_mem_cons.mpr ⟨rfl, List.forall_mem_cons.mpr ⟨rfl, List.forall_mem_nil _⟩⟩⟩) (Nat.le_of_ble_eq_true rfl) (fun X e1 e2 e3 C => by subst e1; subst e2; subst e3; exact B_X6_adds C a N M p0 p1 r Mz h)
set_option maxRecDepth 100000 in
set_option maxHeartbeats 4000000 in
theorem nd_X6_adds : nd yX6_adds 2 := ⟨by decide +kernel, by decide +kernel, by decide +kernel⟩
set_option maxRecDepth 100000 in
set_option maxHeartbeats 4000000 in
theorem k_X6_adds {X : gX} {own : String} {cc : ByteArray} {nL : Nat} {ret : Option FieldType} {Ts : List Cond} {fr lm : Nat} {Q : State → Prop} {ms : List va_W} {L : List (Option Value)} {st : List Value} {pc pc' idx : Nat} {ρ : Type} {T : Int32 → tS → Option ρ} {res : ρ} (C : cx X own cc nL ret Ts fr lm) (a : Nat → Nat) (N : Nat) (M : tS) (p0 : Int32) (p1 : Int32) (is : List Nat) (hC : is.map (fun i => ms[i]?) = [some (mdW (gcA X) a M)]) (hn : is.Nodup) (hG : GoodIn Ts (wsV own idx RX6 yX6_adds wsX6_adds)) (hR : 1 + 1 ≤ fr ∧ 8 + (5 + 11) + 23 ≤ lm) (hst : (st.map fun v => v.category).sum ≤ 8) (hLn : L.length = nL) (d : decode cc pc = .ok (.invokevirtual idx, 3)) (hp : pc + 3 = pc') (h : bd2 (f_X6_adds N M p0 p1) T = some res) (kk : ∀ (r : Int32) (Mz : tS), T r Mz = some res → G X Q (rpl ms is [mdW (gcA X) a Mz]) L (.int r :: st) pc') : G X Q ms L (.int p1 :: .int p0 :: .ref (a 0) :: st) pc := by
  obtain ⟨r, Mz, h1, h⟩ := ob2 h
  exact G_callVI C (As := [.int p0, .int p1]) (c_X6_adds (gl X) (gD X) (gcA X) a N M p0 p1 r Mz h1) hG rfl nd_X6_adds hR (q0 := 0) rfl rfl hC hn rfl rfl hst hLn d hp (kk r Mz h)
theorem hi_X6_put_X6 : ∀ w ∈ wsX60, w ∈ wsX6_put := fun w h => List.mem_cons_of_mem _ (List.mem_append_right _ h)
theorem lk_X6_put_1 : Cond.fieldLink RX6 7 "NoteThemesModel" "s" "[I" ∈ wsX6_put := List.mem_of_getElem? (i := 1) rfl
def f_X6_put (N : Nat) (M : tS) (p0 : Int32) (p1 : Int32) : Option (Int32 × tS) := (bd (f_X6_isPlace N p0 p1) (fun r1 => (if r1 = 0 then some ((-1 : Int32), M) else (if (M 0 (0 : Int32).toNatClampNeg) = (20 : Int32) then some ((-3 : Int32), M) else (bd (f_X6_records N M) (fun M2 => (bd2 (f_X6_adds N M2 p0 p1) (fun r3 M3 => some (r3, M3)))))))))
set_option maxRecDepth 100000 in
set_option maxHeartbeats 4000000 in
theorem B_X6_put {X : gX} (C : cx X RX6 cX6_put 3 (some .int) wsX6_put 2 47) (a : Nat → Nat) (N : Nat) (M : tS) (p0 : Int32) (p1 : Int32) (r : Int32) (Mz : tS) (h : f_X6_put N M p0 p1 = some (r, Mz)) : G X (QI X r [mdW (gcA X) a Mz]) [mdW (gcA X) a M] [some (.ref (a 0)), some (.int p0), some (.int p1)] [] 0 := by
  unfold f_X6_put at h
  refine g_iload_n (pc' := 1) C dX6_put_0 rfl rfl ?_
  refine g_iload_n (pc' := 2) C dX6_put_1 rfl rfl ?_
  refine k_X6_isPlace (pc' := 5) C N p0 p1 [] rfl (by decide) gX6_put_X6_isPlace ⟨Nat.le_of_ble_eq_true rfl, Nat.le_of_ble_eq_true rfl⟩ (Nat.le_of_ble_eq_true rfl) rfl dX6_put_2 rfl h (fun r1 h => ?_)
  refine g_if_ne (pc' := 8) (tgt := 10) C dX6_put_5 (by decide) rfl h (fun c h => ?_) (fun c h => ?_)
  · refine g_iconst (pc' := 9) (v := -1) C dX6_put_8 (by decide) rfl ?_
    obtain ⟨rfl, rfl⟩ := pj2 (Option.some.inj h)
    exact g_iret C dX6_put_9
  · refine g_aload_n (pc' := 11) C dX6_put_10 rfl rfl ?_
    refine gg_X6_0 (pc' := 14) (i := 0) C rfl hi_X6_put_X6 lk_X6_put_1 dX6_put_11 rfl ?_
    refine g_iconst (pc' := 15) (v := 0) C dX6_put_14 (by decide) rfl ?_
    refine g_iald0 (pc' := 16) (i := 0) (j := 1) C rfl rfl dX6_put_15 rfl (by unfold vp_in; decide) ?_
    refine g_bipush (pc' := 18) (v := 20) C dX6_put_16 (by decide) rfl ?_
    refine g_icmp_ne (pc' := 21) (tgt := 24) C dX6_put_18 (by decide) rfl h (fun c h => ?_) (fun c h => ?_)
    · refine g_bipush (pc' := 23) (v := -3) C dX6_put_21 (by decide) rfl ?_
      obtain ⟨rfl, rfl⟩ := pj2 (Option.some.inj h)
      exact g_iret C dX6_put_23
    · refine g_aload_n (pc' := 25) C dX6_put_24 rfl rfl ?_
      refine k_X6_records (pc' := 28) C a N M [0] rfl (by decide) gX6_put_X6_records ⟨Nat.le_of_ble_eq_true rfl, Nat.le_of_ble_eq_true rfl⟩ (Nat.le_of_ble_eq_true rfl) rfl dX6_put_25 rfl h (fun M2 h => ?_)
      show G X _ [mdW (gcA X) a M2] _ _ _
      refine g_aload_n (pc' := 29) C dX6_put_28 rfl rfl ?_
      refine g_iload_n (pc' := 30) C dX6_put_29 rfl rfl ?_
      refine g_iload_n (pc' := 31) C dX6_put_30 rfl rfl ?_
      refine k_X6_adds (pc' := 34) C a N M2 p0 p1 [0] rfl (by decide) gX6_put_X6_adds ⟨Nat.le_of_ble_eq_true rfl, Nat.le_of_ble_eq_true rfl⟩ (Nat.le_of_ble_eq_true rfl) rfl dX6_put_31 rfl h (fun r3 M3 h => ?_)
      show G X _ [mdW (gcA X) a M3] _ _ _
      obtain ⟨rfl, rfl⟩ := pj2 (Option.some.inj h)
      exact g_iret C dX6_put_34
set_option maxRecDepth 100000 in
set_option maxHeartbeats 4000000 in
theorem c_X6_put (l : Launch) (D : va_G) (cA : Nat → ClassId) (a : Nat → Nat) (N : Nat) (M : tS) (p0 : Int32) (p1 : Int32) (r : Int32) (Mz : tS) (h : f_X6_put N M p0 p1 = some (r, Mz)) : MI l D cA yX6_put wsX6_put 2 47 [.ref (a 0), .int p0, .int p1] [mdW cA a M] r [mdW cA a Mz] := MI_of (cc := cX6_put) (maxL := 3) (rt := some .int) (by decide +kernel) rfl (List.forall_mem_cons.mpr ⟨rfl, List.forall_mem_cons.mpr ⟨rfl, List.forall_mem_cons.mpr ⟨rfl, List.forall_mem_nil _⟩⟩⟩) (Nat.le_of_ble_eq_true rfl) (fun X e1 e2 e3 C => by subst e1; subst e2; subst e3; exact B_X6_put C a N M p0 p1 r Mz h)
set_option maxRecDepth 100000 in
set_option maxHeartbeats 4000000 in
theorem nd_X6_put : nd yX6_put 2 := ⟨by decide +kernel, by decide +kernel, by decide +kernel⟩
set_option maxRecDepth 100000 in
set_option maxHeartbeats 4000000 in
theorem k_X6_put {X : gX} {own : String} {cc : ByteArray} {nL : Nat} {ret : Option FieldType} {Ts : List Cond} {fr lm : Nat} {Q : State → Prop} {ms : List va_W} {L : List (Option Value)} {st : List Value} {pc pc' idx : Nat} {ρ : Type} {T : Int32 → tS → Option ρ} {res : ρ} (C : cx X own cc nL ret Ts fr lm) (a : Nat → Nat) (N : Nat) (M : tS) (p0 : Int32) (p1 : Int32) (is : List Nat) (hC : is.map (fun i => ms[i]?) = [some (mdW (gcA X) a M)]) (hn : is.Nodup) (hG : GoodIn Ts (wsV own idx RX6 yX6_put wsX6_put)) (hR : 2 + 1 ≤ fr ∧ 8 + (3 + 11) + 47 ≤ lm) (hst : (st.map fun v => v.category).sum ≤ 8) (hLn : L.length = nL) (d : decode cc pc = .ok (.invokevirtual idx, 3)) (hp : pc + 3 = pc') (h : bd2 (f_X6_put N M p0 p1) T = some res) (kk : ∀ (r : Int32) (Mz : tS), T r Mz = some res → G X Q (rpl ms is [mdW (gcA X) a Mz]) L (.int r :: st) pc') : G X Q ms L (.int p1 :: .int p0 :: .ref (a 0) :: st) pc := by
  obtain ⟨r, Mz, h1, h⟩ := ob2 h
  exact G_callVI C (As := [.int p0, .int p1]) (c_X6_put (gl X) (gD X) (gcA X) a N M p0 p1 r Mz h1) hG rfl nd_X6_put hR (q0 := 0) rfl rfl hC hn rfl rfl hst hLn d hp (kk r Mz h)
theorem hi_X6_takeOff_X6 : ∀ w ∈ wsX60, w ∈ wsX6_takeOff := fun w h => List.mem_cons_of_mem _ (List.mem_append_right _ h)
theorem lk_X6_takeOff_1 : Cond.fieldLink RX6 7 "NoteThemesModel" "s" "[I" ∈ wsX6_takeOff := List.mem_of_getElem? (i := 1) rfl
def f_X6_takeOff_73 (N : Nat) (p0 : Int32) (k34 : Int32 → Int32 → Int32 → tS → Option (Int32 × tS)) (x2 : Int32) (x3 : Int32) (x4 : Int32) (t0 : Int32) (t1 : Int32) (M : tS) : Option (Int32 × tS) := (if t1 < 0 ∨ 233 ≤ t1.toNatClampNeg then none else k34 x2 x3 (x4 + 1) (va_up M 0 (upd (M 0) t1.toNatClampNeg t0)))
set_option maxRecDepth 100000 in
set_option maxHeartbeats 4000000 in
theorem B_X6_takeOff_73 {X : gX} (C : cx X RX6 cX6_takeOff 5 (some .int) wsX6_takeOff 4 87) (a : Nat → Nat) (N : Nat) (p0 : Int32) (r : Int32) (Mz : tS) (k34 : Int32 → Int32 → Int32 → tS → Option (Int32 × tS)) (hk34 : ∀ (x2 : Int32) (x3 : Int32) (x4 : Int32) (M : tS), k34 x2 x3 x4 M = some (r, Mz) → G X (QI X r [mdW (gcA X) a Mz]) [mdW (gcA X) a M] [some (.ref (a 0)), some (.int p0), some (.int x2), some (.int x3), some (.int x4)] [] 34) (x2 : Int32) (x3 : Int32) (x4 : Int32) (t0 : Int32) (t1 : Int32) (M : tS) (h : f_X6_takeOff_73 N p0 k34 x2 x3 x4 t0 t1 M = some (r, Mz)) : G X (QI X r [mdW (gcA X) a Mz]) [mdW (gcA X) a M] [some (.ref (a 0)), some (.int p0), some (.int x2), some (.int x3), some (.int x4)] [.int t0, .int t1, .ref (a 1)] 73 := by
  unfold f_X6_takeOff_73 at h
  refine g_iast (pc' := 74) (i := 0) (j := 1) (w' := mdW (gcA X) a (va_up M 0 (upd (M 0) t1.toNatClampNeg t0))) C rfl rfl rfl dX6_takeOff_73 rfl h (fun h => ?_)
  show G X _ [mdW (gcA X) a (va_up M 0 (upd (M 0) t1.toNatClampNeg t0))] _ _ _
  refine g_iinc (pc' := 77) (v := (x4 + 1)) C dX6_takeOff_74 rfl rfl rfl (L' := [some (.ref (a 0)), some (.int p0), some (.int x2), some (.int x3), some (.int (x4 + 1))]) rfl ?_
  refine g_goto (pc' := 34) C dX6_takeOff_77 (by decide) ?_
  exact G_loc (lle_s (lle_s (lle_s (lle_s (lle_s lle_0))))) (hk34 x2 x3 (x4 + 1) (va_up M 0 (upd (M 0) t1.toNatClampNeg t0)) h)
def f_X6_takeOff_34b (N : Nat) (p0 : Int32)  (k34 : Int32 → Int32 → Int32 → tS → Option (Int32 × tS)) (x2 : Int32) (x3 : Int32) (x4 : Int32) (M : tS) : Option (Int32 × tS) := (if (185 : Int32) ≤ x4 then (if (0 : Int32) < 0 ∨ 233 ≤ (0 : Int32).toNatClampNeg then none else (bd (f_X6_dropsEmpty N (va_up M 0 (upd (M 0) (0 : Int32).toNatClampNeg ((M 0 (0 : Int32).toNatClampNeg) - (1 : Int32)))) x3) (fun M1 => some (x2, M1)))) else (if (185 : Int32) ≤ (x4 + (9 : Int32)) then f_X6_takeOff_73 N p0 k34 x2 x3 x4 (0 : Int32) x4 M else (if (x4 + (9 : Int32)) < 0 ∨ 233 ≤ (x4 + (9 : Int32)).toNatClampNeg then none else f_X6_takeOff_73 N p0 k34 x2 x3 x4 (M 0 (x4 + (9 : Int32)).toNatClampNeg) x4 M)))
def f_X6_takeOff_34 (N : Nat) (p0 : Int32)  : Nat → Int32 → Int32 → Int32 → tS → Option (Int32 × tS)
  | 0 => fun _ _ _ _ => none
  | n + 1 => f_X6_takeOff_34b N p0  (f_X6_takeOff_34 N p0  n)
set_option maxRecDepth 100000 in
set_option maxHeartbeats 4000000 in
theorem B_X6_takeOff_34b {X : gX} (C : cx X RX6 cX6_takeOff 5 (some .int) wsX6_takeOff 4 87) (a : Nat → Nat) (N : Nat) (p0 : Int32) (r : Int32) (Mz : tS)  (k34 : Int32 → Int32 → Int32 → tS → Option (Int32 × tS)) (hk34 : ∀ (x2 : Int32) (x3 : Int32) (x4 : Int32) (M : tS), k34 x2 x3 x4 M = some (r, Mz) → G X (QI X r [mdW (gcA X) a Mz]) [mdW (gcA X) a M] [some (.ref (a 0)), some (.int p0), some (.int x2), some (.int x3), some (.int x4)] [] 34) (x2 : Int32) (x3 : Int32) (x4 : Int32) (M : tS) (h : f_X6_takeOff_34b N p0  k34 x2 x3 x4 M = some (r, Mz)) : G X (QI X r [mdW (gcA X) a Mz]) [mdW (gcA X) a M] [some (.ref (a 0)), some (.int p0), some (.int x2), some (.int x3), some (.int x4)] [] 34 := by
  unfold f_X6_takeOff_34b at h
  refine g_iload (pc' := 36) C dX6_takeOff_34 rfl rfl ?_
  refine g_sipush (pc' := 39) (v := 185) C dX6_takeOff_36 (by decide) rfl ?_
  refine g_icmp_ge (pc' := 42) (tgt := 80) C dX6_takeOff_39 (by decide) rfl h (fun c h => ?_) (fun c h => ?_)
  · refine g_aload_n (pc' := 81) C dX6_takeOff_80 rfl rfl ?_
    refine gg_X6_0 (pc' := 84) (i := 0) C rfl hi_X6_takeOff_X6 lk_X6_takeOff_1 dX6_takeOff_81 rfl ?_
    refine g_iconst (pc' := 85) (v := 0) C dX6_takeOff_84 (by decide) rfl ?_
    refine g_dup2 (pc' := 86) C dX6_takeOff_85 rfl rfl rfl ?_
    refine g_iald0 (pc' := 87) (i := 0) (j := 1) C rfl rfl dX6_takeOff_86 rfl (by unfold vp_in; decide) ?_
    refine g_iconst (pc' := 88) (v := 1) C dX6_takeOff_87 (by decide) rfl ?_
    refine g_isub (pc' := 89) C dX6_takeOff_88 rfl ?_
    refine g_iast (pc' := 90) (i := 0) (j := 1) (w' := mdW (gcA X) a (va_up M 0 (upd (M 0) (0 : Int32).toNatClampNeg ((M 0 (0 : Int32).toNatClampNeg) - (1 : Int32))))) C rfl rfl rfl dX6_takeOff_89 rfl h (fun h => ?_)
    show G X _ [mdW (gcA X) a (va_up M 0 (upd (M 0) (0 : Int32).toNatClampNeg ((M 0 (0 : Int32).toNatClampNeg) - (1 : Int32))))] _ _ _
    refine g_aload_n (pc' := 91) C dX6_takeOff_90 rfl rfl ?_
    refine g_iload_n (pc' := 92) C dX6_takeOff_91 rfl rfl ?_
    refine k_X6_dropsEmpty (pc' := 95) C a N (va_up M 0 (upd (M 0) (0 : Int32).toNatClampNeg ((M 0 (0 : Int32).toNatClampNeg) - (1 : Int32)))) x3 [0] rfl (by decide) gX6_takeOff_X6_dropsEmpty ⟨Nat.le_of_ble_eq_true rfl, Nat.le_of_ble_eq_true rfl⟩ (Nat.le_of_ble_eq_true rfl) rfl dX6_takeOff_92 rfl h (fun M1 h => ?_)
    show G X _ [mdW (gcA X) a M1] _ _ _
    refine g_iload_n (pc' := 96) C dX6_takeOff_95 rfl rfl ?_
    obtain ⟨rfl, rfl⟩ := pj2 (Option.some.inj h)
    exact g_iret C dX6_takeOff_96
  · refine g_aload_n (pc' := 43) C dX6_takeOff_42 rfl rfl ?_
    refine gg_X6_0 (pc' := 46) (i := 0) C rfl hi_X6_takeOff_X6 lk_X6_takeOff_1 dX6_takeOff_43 rfl ?_
    refine g_iload (pc' := 48) C dX6_takeOff_46 rfl rfl ?_
    refine g_iload (pc' := 50) C dX6_takeOff_48 rfl rfl ?_
    refine g_bipush (pc' := 52) (v := 9) C dX6_takeOff_50 (by decide) rfl ?_
    refine g_iadd (pc' := 53) C dX6_takeOff_52 rfl ?_
    refine g_sipush (pc' := 56) (v := 185) C dX6_takeOff_53 (by decide) rfl ?_
    refine g_icmp_ge (pc' := 59) (tgt := 72) C dX6_takeOff_56 (by decide) rfl h (fun c h => ?_) (fun c h => ?_)
    · refine g_iconst (pc' := 73) (v := 0) C dX6_takeOff_72 (by decide) rfl ?_
      exact G_loc (lle_s (lle_s (lle_s (lle_s (lle_s lle_0))))) (B_X6_takeOff_73 C a N p0 r Mz k34 hk34 x2 x3 x4 (0 : Int32) x4 M h)
    · refine g_aload_n (pc' := 60) C dX6_takeOff_59 rfl rfl ?_
      refine gg_X6_0 (pc' := 63) (i := 0) C rfl hi_X6_takeOff_X6 lk_X6_takeOff_1 dX6_takeOff_60 rfl ?_
      refine g_iload (pc' := 65) C dX6_takeOff_63 rfl rfl ?_
      refine g_bipush (pc' := 67) (v := 9) C dX6_takeOff_65 (by decide) rfl ?_
      refine g_iadd (pc' := 68) C dX6_takeOff_67 rfl ?_
      refine g_iald (pc' := 69) (i := 0) (j := 1) C rfl rfl dX6_takeOff_68 rfl h (fun h => ?_)
      refine g_goto (pc' := 73) C dX6_takeOff_69 (by decide) ?_
      exact G_loc (lle_s (lle_s (lle_s (lle_s (lle_s lle_0))))) (B_X6_takeOff_73 C a N p0 r Mz k34 hk34 x2 x3 x4 (M 0 (x4 + (9 : Int32)).toNatClampNeg) x4 M h)
set_option maxRecDepth 100000 in
set_option maxHeartbeats 4000000 in
theorem L_X6_takeOff_34 {X : gX} (C : cx X RX6 cX6_takeOff 5 (some .int) wsX6_takeOff 4 87) (a : Nat → Nat) (N : Nat) (p0 : Int32) (r : Int32) (Mz : tS)  : ∀ (n : Nat) (x2 : Int32) (x3 : Int32) (x4 : Int32) (M : tS), f_X6_takeOff_34 N p0  n x2 x3 x4 M = some (r, Mz) → G X (QI X r [mdW (gcA X) a Mz]) [mdW (gcA X) a M] [some (.ref (a 0)), some (.int p0), some (.int x2), some (.int x3), some (.int x4)] [] 34 := by
  intro n
  induction n with
  | zero => intro x2 x3 x4 M h; have h : (none : Option (Int32 × tS)) = some (r, Mz) := h; cases h
  | succ n ih => intro x2 x3 x4 M h; exact B_X6_takeOff_34b C a N p0 r Mz  (f_X6_takeOff_34 N p0  n) ih x2 x3 x4 M h
def f_X6_takeOff (N : Nat) (M : tS) (p0 : Int32) : Option (Int32 × tS) := (bd (f_X6_isNote N M p0) (fun r1 => (if r1 = 0 then some ((-1 : Int32), M) else (bd (f_X6_records N M) (fun M2 => (bd (f_X6_dotsOf N M2 p0) (fun r3 => (bd (f_X6_themeOf N M2 p0) (fun r4 => f_X6_takeOff_34 N p0 N r3 r4 ((5 : Int32) + ((9 : Int32) * p0)) M2)))))))))
set_option maxRecDepth 100000 in
set_option maxHeartbeats 4000000 in
theorem B_X6_takeOff {X : gX} (C : cx X RX6 cX6_takeOff 5 (some .int) wsX6_takeOff 4 87) (a : Nat → Nat) (N : Nat) (M : tS) (p0 : Int32) (r : Int32) (Mz : tS) (h : f_X6_takeOff N M p0 = some (r, Mz)) : G X (QI X r [mdW (gcA X) a Mz]) [mdW (gcA X) a M] [some (.ref (a 0)), some (.int p0), none, none, none] [] 0 := by
  unfold f_X6_takeOff at h
  refine g_aload_n (pc' := 1) C dX6_takeOff_0 rfl rfl ?_
  refine g_iload_n (pc' := 2) C dX6_takeOff_1 rfl rfl ?_
  refine k_X6_isNote (pc' := 5) C a N M p0 [0] rfl (by decide) gX6_takeOff_X6_isNote ⟨Nat.le_of_ble_eq_true rfl, Nat.le_of_ble_eq_true rfl⟩ (Nat.le_of_ble_eq_true rfl) rfl dX6_takeOff_2 rfl h (fun r1 h => ?_)
  refine g_if_ne (pc' := 8) (tgt := 10) C dX6_takeOff_5 (by decide) rfl h (fun c h => ?_) (fun c h => ?_)
  · refine g_iconst (pc' := 9) (v := -1) C dX6_takeOff_8 (by decide) rfl ?_
    obtain ⟨rfl, rfl⟩ := pj2 (Option.some.inj h)
    exact g_iret C dX6_takeOff_9
  · refine g_aload_n (pc' := 11) C dX6_takeOff_10 rfl rfl ?_
    refine k_X6_records (pc' := 14) C a N M [0] rfl (by decide) gX6_takeOff_X6_records ⟨Nat.le_of_ble_eq_true rfl, Nat.le_of_ble_eq_true rfl⟩ (Nat.le_of_ble_eq_true rfl) rfl dX6_takeOff_11 rfl h (fun M2 h => ?_)
    show G X _ [mdW (gcA X) a M2] _ _ _
    refine g_aload_n (pc' := 15) C dX6_takeOff_14 rfl rfl ?_
    refine g_iload_n (pc' := 16) C dX6_takeOff_15 rfl rfl ?_
    refine k_X6_dotsOf (pc' := 19) C a N M2 p0 [0] rfl (by decide) gX6_takeOff_X6_dotsOf ⟨Nat.le_of_ble_eq_true rfl, Nat.le_of_ble_eq_true rfl⟩ (Nat.le_of_ble_eq_true rfl) rfl dX6_takeOff_16 rfl h (fun r3 h => ?_)
    refine g_istore_n (pc' := 20) C dX6_takeOff_19 (Nat.le_of_ble_eq_true rfl) rfl (L' := [some (.ref (a 0)), some (.int p0), some (.int r3), none, none]) rfl ?_
    refine g_aload_n (pc' := 21) C dX6_takeOff_20 rfl rfl ?_
    refine g_iload_n (pc' := 22) C dX6_takeOff_21 rfl rfl ?_
    refine k_X6_themeOf (pc' := 25) C a N M2 p0 [0] rfl (by decide) gX6_takeOff_X6_themeOf ⟨Nat.le_of_ble_eq_true rfl, Nat.le_of_ble_eq_true rfl⟩ (Nat.le_of_ble_eq_true rfl) rfl dX6_takeOff_22 rfl h (fun r4 h => ?_)
    refine g_istore_n (pc' := 26) C dX6_takeOff_25 (Nat.le_of_ble_eq_true rfl) rfl (L' := [some (.ref (a 0)), some (.int p0), some (.int r3), some (.int r4), none]) rfl ?_
    refine g_iconst (pc' := 27) (v := 5) C dX6_takeOff_26 (by decide) rfl ?_
    refine g_bipush (pc' := 29) (v := 9) C dX6_takeOff_27 (by decide) rfl ?_
    refine g_iload_n (pc' := 30) C dX6_takeOff_29 rfl rfl ?_
    refine g_imul (pc' := 31) C dX6_takeOff_30 rfl ?_
    refine g_iadd (pc' := 32) C dX6_takeOff_31 rfl ?_
    refine g_istore (pc' := 34) C dX6_takeOff_32 (Nat.le_of_ble_eq_true rfl) rfl (L' := [some (.ref (a 0)), some (.int p0), some (.int r3), some (.int r4), some (.int ((5 : Int32) + ((9 : Int32) * p0)))]) rfl ?_
    exact G_loc (lle_s (lle_s (lle_s (lle_s (lle_s lle_0))))) (L_X6_takeOff_34 C a N p0 r Mz N r3 r4 ((5 : Int32) + ((9 : Int32) * p0)) M2 h)
set_option maxRecDepth 100000 in
set_option maxHeartbeats 4000000 in
theorem c_X6_takeOff (l : Launch) (D : va_G) (cA : Nat → ClassId) (a : Nat → Nat) (N : Nat) (M : tS) (p0 : Int32) (r : Int32) (Mz : tS) (h : f_X6_takeOff N M p0 = some (r, Mz)) : MI l D cA yX6_takeOff wsX6_takeOff 4 87 [.ref (a 0), .int p0] [mdW cA a M] r [mdW cA a Mz] := MI_of (cc := cX6_takeOff) (maxL := 5) (rt := some .int) (by decide +kernel) rfl (List.forall_mem_cons.mpr ⟨rfl, List.forall_mem_cons.mpr ⟨rfl, List.forall_mem_nil _⟩⟩) (Nat.le_of_ble_eq_true rfl) (fun X e1 e2 e3 C => by subst e1; subst e2; subst e3; exact B_X6_takeOff C a N M p0 r Mz h)
set_option maxRecDepth 100000 in
set_option maxHeartbeats 4000000 in
theorem nd_X6_takeOff : nd yX6_takeOff 1 := ⟨by decide +kernel, by decide +kernel, by decide +kernel⟩
set_option maxRecDepth 100000 in
set_option maxHeartbeats 4000000 in
theorem k_X6_takeOff {X : gX} {own : String} {cc : ByteArray} {nL : Nat} {ret : Option FieldType} {Ts : List Cond} {fr lm : Nat} {Q : State → Prop} {ms : List va_W} {L : List (Option Value)} {st : List Value} {pc pc' idx : Nat} {ρ : Type} {T : Int32 → tS → Option ρ} {res : ρ} (C : cx X own cc nL ret Ts fr lm) (a : Nat → Nat) (N : Nat) (M : tS) (p0 : Int32) (is : List Nat) (hC : is.map (fun i => ms[i]?) = [some (mdW (gcA X) a M)]) (hn : is.Nodup) (hG : GoodIn Ts (wsV own idx RX6 yX6_takeOff wsX6_takeOff)) (hR : 4 + 1 ≤ fr ∧ 8 + (5 + 11) + 87 ≤ lm) (hst : (st.map fun v => v.category).sum ≤ 8) (hLn : L.length = nL) (d : decode cc pc = .ok (.invokevirtual idx, 3)) (hp : pc + 3 = pc') (h : bd2 (f_X6_takeOff N M p0) T = some res) (kk : ∀ (r : Int32) (Mz : tS), T r Mz = some res → G X Q (rpl ms is [mdW (gcA X) a Mz]) L (.int r :: st) pc') : G X Q ms L (.int p0 :: .ref (a 0) :: st) pc := by
  obtain ⟨r, Mz, h1, h⟩ := ob2 h
  exact G_callVI C (As := [.int p0]) (c_X6_takeOff (gl X) (gD X) (gcA X) a N M p0 r Mz h1) hG rfl nd_X6_takeOff hR (q0 := 0) rfl rfl hC hn rfl rfl hst hLn d hp (kk r Mz h)
def f_X6_comes (N : Nat) (M : tS) (p0 : Int32) (p1 : Int32) (p2 : Int32) : Option (tS) := (bd (f_X6_lays N M p0 (0 : Int32) p1) (fun M1 => (bd (f_X6_lays N M1 p0 (1 : Int32) p2) (fun M2 => some M2))))
set_option maxRecDepth 100000 in
set_option maxHeartbeats 4000000 in
theorem B_X6_comes {X : gX} (C : cx X RX6 cX6_comes 4 none wsX6_comes 1 23) (a : Nat → Nat) (N : Nat) (M : tS) (p0 : Int32) (p1 : Int32) (p2 : Int32) (Mz : tS) (h : f_X6_comes N M p0 p1 p2 = some Mz) : G X (QV X [mdW (gcA X) a Mz]) [mdW (gcA X) a M] [some (.ref (a 0)), some (.int p0), some (.int p1), some (.int p2)] [] 0 := by
  unfold f_X6_comes at h
  refine g_aload_n (pc' := 1) C dX6_comes_0 rfl rfl ?_
  refine g_iload_n (pc' := 2) C dX6_comes_1 rfl rfl ?_
  refine g_iconst (pc' := 3) (v := 0) C dX6_comes_2 (by decide) rfl ?_
  refine g_iload_n (pc' := 4) C dX6_comes_3 rfl rfl ?_
  refine k_X6_lays (pc' := 7) C a N M p0 (0 : Int32) p1 [0] rfl (by decide) gX6_comes_X6_lays ⟨Nat.le_of_ble_eq_true rfl, Nat.le_of_ble_eq_true rfl⟩ (Nat.le_of_ble_eq_true rfl) rfl dX6_comes_4 rfl h (fun M1 h => ?_)
  show G X _ [mdW (gcA X) a M1] _ _ _
  refine g_aload_n (pc' := 8) C dX6_comes_7 rfl rfl ?_
  refine g_iload_n (pc' := 9) C dX6_comes_8 rfl rfl ?_
  refine g_iconst (pc' := 10) (v := 1) C dX6_comes_9 (by decide) rfl ?_
  refine g_iload_n (pc' := 11) C dX6_comes_10 rfl rfl ?_
  refine k_X6_lays (pc' := 14) C a N M1 p0 (1 : Int32) p2 [0] rfl (by decide) gX6_comes_X6_lays ⟨Nat.le_of_ble_eq_true rfl, Nat.le_of_ble_eq_true rfl⟩ (Nat.le_of_ble_eq_true rfl) rfl dX6_comes_11 rfl h (fun M2 h => ?_)
  show G X _ [mdW (gcA X) a M2] _ _ _
  obtain rfl := Option.some.inj h
  exact g_vret C dX6_comes_14
set_option maxRecDepth 100000 in
set_option maxHeartbeats 4000000 in
theorem c_X6_comes (l : Launch) (D : va_G) (cA : Nat → ClassId) (a : Nat → Nat) (N : Nat) (M : tS) (p0 : Int32) (p1 : Int32) (p2 : Int32) (Mz : tS) (h : f_X6_comes N M p0 p1 p2 = some Mz) : MV l D cA yX6_comes wsX6_comes 1 23 [.ref (a 0), .int p0, .int p1, .int p2] [mdW cA a M]  [mdW cA a Mz] := MV_of (cc := cX6_comes) (maxL := 4) (by decide +kernel) rfl (List.forall_mem_cons.mpr ⟨rfl, List.forall_mem_cons.mpr ⟨rfl, List.forall_mem_cons.mpr ⟨rfl, List.forall_mem_cons.mpr ⟨rfl, List.forall_mem_nil _⟩⟩⟩⟩) (Nat.le_of_ble_eq_true rfl) (fun X e1 e2 e3 C => by subst e1; subst e2; subst e3; exact B_X6_comes C a N M p0 p1 p2 Mz h)
set_option maxRecDepth 100000 in
set_option maxHeartbeats 4000000 in
theorem nd_X6_comes : nd yX6_comes 3 := ⟨by decide +kernel, by decide +kernel, by decide +kernel⟩
set_option maxRecDepth 100000 in
set_option maxHeartbeats 4000000 in
theorem k_X6_comes {X : gX} {own : String} {cc : ByteArray} {nL : Nat} {ret : Option FieldType} {Ts : List Cond} {fr lm : Nat} {Q : State → Prop} {ms : List va_W} {L : List (Option Value)} {st : List Value} {pc pc' idx : Nat} {ρ : Type} {T : tS → Option ρ} {res : ρ} (C : cx X own cc nL ret Ts fr lm) (a : Nat → Nat) (N : Nat) (M : tS) (p0 : Int32) (p1 : Int32) (p2 : Int32) (is : List Nat) (hC : is.map (fun i => ms[i]?) = [some (mdW (gcA X) a M)]) (hn : is.Nodup) (hG : GoodIn Ts (wsV own idx RX6 yX6_comes wsX6_comes)) (hR : 1 + 1 ≤ fr ∧ 8 + (4 + 11) + 23 ≤ lm) (hst : (st.map fun v => v.category).sum ≤ 8) (hLn : L.length = nL) (d : decode cc pc = .ok (.invokevirtual idx, 3)) (hp : pc + 3 = pc') (h : bd (f_X6_comes N M p0 p1 p2) T = some res) (kk : ∀ (Mz : tS), T Mz = some res → G X Q (rpl ms is [mdW (gcA X) a Mz]) L (st) pc') : G X Q ms L (.int p2 :: .int p1 :: .int p0 :: .ref (a 0) :: st) pc := by
  obtain ⟨Mz, h1, h⟩ := ob h
  exact G_callVV C (As := [.int p0, .int p1, .int p2]) (c_X6_comes (gl X) (gD X) (gcA X) a N M p0 p1 p2 Mz h1) hG rfl nd_X6_comes hR (q0 := 0) rfl rfl hC hn rfl rfl hst hLn d hp (kk Mz h)
def f_X6_drag_41 (N : Nat) (p0 : Int32) (p1 : Int32) (p2 : Int32)  (M : tS) : Option (Int32 × tS) := (bd (f_X6_records N M) (fun M1 => (bd (f_X6_comes N M1 p0 p1 p2) (fun M2 => (bd2 (f_X6_laysNow N M2) (fun r3 M3 => some (r3, M3)))))))
set_option maxRecDepth 100000 in
set_option maxHeartbeats 4000000 in
theorem B_X6_drag_41 {X : gX} (C : cx X RX6 cX6_drag 4 (some .int) wsX6_drag 5 114) (a : Nat → Nat) (N : Nat) (p0 : Int32) (p1 : Int32) (p2 : Int32) (r : Int32) (Mz : tS)  (M : tS) (h : f_X6_drag_41 N p0 p1 p2  M = some (r, Mz)) : G X (QI X r [mdW (gcA X) a Mz]) [mdW (gcA X) a M] [some (.ref (a 0)), some (.int p0), some (.int p1), some (.int p2)] [] 41 := by
  unfold f_X6_drag_41 at h
  refine g_aload_n (pc' := 42) C dX6_drag_41 rfl rfl ?_
  refine k_X6_records (pc' := 45) C a N M [0] rfl (by decide) gX6_drag_X6_records ⟨Nat.le_of_ble_eq_true rfl, Nat.le_of_ble_eq_true rfl⟩ (Nat.le_of_ble_eq_true rfl) rfl dX6_drag_42 rfl h (fun M1 h => ?_)
  show G X _ [mdW (gcA X) a M1] _ _ _
  refine g_aload_n (pc' := 46) C dX6_drag_45 rfl rfl ?_
  refine g_iload_n (pc' := 47) C dX6_drag_46 rfl rfl ?_
  refine g_iload_n (pc' := 48) C dX6_drag_47 rfl rfl ?_
  refine g_iload_n (pc' := 49) C dX6_drag_48 rfl rfl ?_
  refine k_X6_comes (pc' := 52) C a N M1 p0 p1 p2 [0] rfl (by decide) gX6_drag_X6_comes ⟨Nat.le_of_ble_eq_true rfl, Nat.le_of_ble_eq_true rfl⟩ (Nat.le_of_ble_eq_true rfl) rfl dX6_drag_49 rfl h (fun M2 h => ?_)
  show G X _ [mdW (gcA X) a M2] _ _ _
  refine g_aload_n (pc' := 53) C dX6_drag_52 rfl rfl ?_
  refine k_X6_laysNow (pc' := 56) C a N M2 [0] rfl (by decide) gX6_drag_X6_laysNow ⟨Nat.le_of_ble_eq_true rfl, Nat.le_of_ble_eq_true rfl⟩ (Nat.le_of_ble_eq_true rfl) rfl dX6_drag_53 rfl h (fun r3 M3 h => ?_)
  show G X _ [mdW (gcA X) a M3] _ _ _
  obtain ⟨rfl, rfl⟩ := pj2 (Option.some.inj h)
  exact g_iret C dX6_drag_56
def f_X6_drag (N : Nat) (M : tS) (p0 : Int32) (p1 : Int32) (p2 : Int32) : Option (Int32 × tS) := (bd (f_X6_isNote N M p0) (fun r1 => (if r1 = 0 then some ((-1 : Int32), M) else (bd (f_X6_isPlace N p1 p2) (fun r2 => (if r2 = 0 then some ((-1 : Int32), M) else (bd (f_X6_of N M p0 (0 : Int32)) (fun r3 => (if r3 = p1 then (bd (f_X6_of N M p0 (1 : Int32)) (fun r4 => (if r4 = p2 then some ((-5 : Int32), M) else f_X6_drag_41 N p0 p1 p2 M))) else f_X6_drag_41 N p0 p1 p2 M)))))))))
set_option maxRecDepth 100000 in
set_option maxHeartbeats 4000000 in
theorem B_X6_drag {X : gX} (C : cx X RX6 cX6_drag 4 (some .int) wsX6_drag 5 114) (a : Nat → Nat) (N : Nat) (M : tS) (p0 : Int32) (p1 : Int32) (p2 : Int32) (r : Int32) (Mz : tS) (h : f_X6_drag N M p0 p1 p2 = some (r, Mz)) : G X (QI X r [mdW (gcA X) a Mz]) [mdW (gcA X) a M] [some (.ref (a 0)), some (.int p0), some (.int p1), some (.int p2)] [] 0 := by
  unfold f_X6_drag at h
  refine g_aload_n (pc' := 1) C dX6_drag_0 rfl rfl ?_
  refine g_iload_n (pc' := 2) C dX6_drag_1 rfl rfl ?_
  refine k_X6_isNote (pc' := 5) C a N M p0 [0] rfl (by decide) gX6_drag_X6_isNote ⟨Nat.le_of_ble_eq_true rfl, Nat.le_of_ble_eq_true rfl⟩ (Nat.le_of_ble_eq_true rfl) rfl dX6_drag_2 rfl h (fun r1 h => ?_)
  refine g_if_eq (pc' := 8) (tgt := 16) C dX6_drag_5 (by decide) rfl h (fun c h => ?_) (fun c h => ?_)
  · refine g_iconst (pc' := 17) (v := -1) C dX6_drag_16 (by decide) rfl ?_
    obtain ⟨rfl, rfl⟩ := pj2 (Option.some.inj h)
    exact g_iret C dX6_drag_17
  · refine g_iload_n (pc' := 9) C dX6_drag_8 rfl rfl ?_
    refine g_iload_n (pc' := 10) C dX6_drag_9 rfl rfl ?_
    refine k_X6_isPlace (pc' := 13) C N p1 p2 [] rfl (by decide) gX6_drag_X6_isPlace ⟨Nat.le_of_ble_eq_true rfl, Nat.le_of_ble_eq_true rfl⟩ (Nat.le_of_ble_eq_true rfl) rfl dX6_drag_10 rfl h (fun r2 h => ?_)
    refine g_if_ne (pc' := 16) (tgt := 18) C dX6_drag_13 (by decide) rfl h (fun c h => ?_) (fun c h => ?_)
    · refine g_iconst (pc' := 17) (v := -1) C dX6_drag_16 (by decide) rfl ?_
      obtain ⟨rfl, rfl⟩ := pj2 (Option.some.inj h)
      exact g_iret C dX6_drag_17
    · refine g_aload_n (pc' := 19) C dX6_drag_18 rfl rfl ?_
      refine g_iload_n (pc' := 20) C dX6_drag_19 rfl rfl ?_
      refine g_iconst (pc' := 21) (v := 0) C dX6_drag_20 (by decide) rfl ?_
      refine k_X6_of (pc' := 24) C a N M p0 (0 : Int32) [0] rfl (by decide) gX6_drag_X6_of ⟨Nat.le_of_ble_eq_true rfl, Nat.le_of_ble_eq_true rfl⟩ (Nat.le_of_ble_eq_true rfl) rfl dX6_drag_21 rfl h (fun r3 h => ?_)
      refine g_iload_n (pc' := 25) C dX6_drag_24 rfl rfl ?_
      refine g_icmp_ne (pc' := 28) (tgt := 41) C dX6_drag_25 (by decide) rfl h (fun c h => ?_) (fun c h => ?_)
      · refine g_aload_n (pc' := 29) C dX6_drag_28 rfl rfl ?_
        refine g_iload_n (pc' := 30) C dX6_drag_29 rfl rfl ?_
        refine g_iconst (pc' := 31) (v := 1) C dX6_drag_30 (by decide) rfl ?_
        refine k_X6_of (pc' := 34) C a N M p0 (1 : Int32) [0] rfl (by decide) gX6_drag_X6_of ⟨Nat.le_of_ble_eq_true rfl, Nat.le_of_ble_eq_true rfl⟩ (Nat.le_of_ble_eq_true rfl) rfl dX6_drag_31 rfl h (fun r4 h => ?_)
        refine g_iload_n (pc' := 35) C dX6_drag_34 rfl rfl ?_
        refine g_icmp_ne (pc' := 38) (tgt := 41) C dX6_drag_35 (by decide) rfl h (fun c h => ?_) (fun c h => ?_)
        · refine g_bipush (pc' := 40) (v := -5) C dX6_drag_38 (by decide) rfl ?_
          obtain ⟨rfl, rfl⟩ := pj2 (Option.some.inj h)
          exact g_iret C dX6_drag_40
        · exact G_loc (lle_s (lle_s (lle_s (lle_s lle_0)))) (B_X6_drag_41 C a N p0 p1 p2 r Mz M h)
      · exact G_loc (lle_s (lle_s (lle_s (lle_s lle_0)))) (B_X6_drag_41 C a N p0 p1 p2 r Mz M h)
set_option maxRecDepth 100000 in
set_option maxHeartbeats 4000000 in
theorem c_X6_drag (l : Launch) (D : va_G) (cA : Nat → ClassId) (a : Nat → Nat) (N : Nat) (M : tS) (p0 : Int32) (p1 : Int32) (p2 : Int32) (r : Int32) (Mz : tS) (h : f_X6_drag N M p0 p1 p2 = some (r, Mz)) : MI l D cA yX6_drag wsX6_drag 5 114 [.ref (a 0), .int p0, .int p1, .int p2] [mdW cA a M] r [mdW cA a Mz] := MI_of (cc := cX6_drag) (maxL := 4) (rt := some .int) (by decide +kernel) rfl (List.forall_mem_cons.mpr ⟨rfl, List.forall_mem_cons.mpr ⟨rfl, List.forall_mem_cons.mpr ⟨rfl, List.forall_mem_cons.mpr ⟨rfl, List.forall_mem_nil _⟩⟩⟩⟩) (Nat.le_of_ble_eq_true rfl) (fun X e1 e2 e3 C => by subst e1; subst e2; subst e3; exact B_X6_drag C a N M p0 p1 p2 r Mz h)
set_option maxRecDepth 100000 in
set_option maxHeartbeats 4000000 in
theorem nd_X6_drag : nd yX6_drag 3 := ⟨by decide +kernel, by decide +kernel, by decide +kernel⟩
set_option maxRecDepth 100000 in
set_option maxHeartbeats 4000000 in
theorem k_X6_drag {X : gX} {own : String} {cc : ByteArray} {nL : Nat} {ret : Option FieldType} {Ts : List Cond} {fr lm : Nat} {Q : State → Prop} {ms : List va_W} {L : List (Option Value)} {st : List Value} {pc pc' idx : Nat} {ρ : Type} {T : Int32 → tS → Option ρ} {res : ρ} (C : cx X own cc nL ret Ts fr lm) (a : Nat → Nat) (N : Nat) (M : tS) (p0 : Int32) (p1 : Int32) (p2 : Int32) (is : List Nat) (hC : is.map (fun i => ms[i]?) = [some (mdW (gcA X) a M)]) (hn : is.Nodup) (hG : GoodIn Ts (wsV own idx RX6 yX6_drag wsX6_drag)) (hR : 5 + 1 ≤ fr ∧ 8 + (4 + 11) + 114 ≤ lm) (hst : (st.map fun v => v.category).sum ≤ 8) (hLn : L.length = nL) (d : decode cc pc = .ok (.invokevirtual idx, 3)) (hp : pc + 3 = pc') (h : bd2 (f_X6_drag N M p0 p1 p2) T = some res) (kk : ∀ (r : Int32) (Mz : tS), T r Mz = some res → G X Q (rpl ms is [mdW (gcA X) a Mz]) L (.int r :: st) pc') : G X Q ms L (.int p2 :: .int p1 :: .int p0 :: .ref (a 0) :: st) pc := by
  obtain ⟨r, Mz, h1, h⟩ := ob2 h
  exact G_callVI C (As := [.int p0, .int p1, .int p2]) (c_X6_drag (gl X) (gD X) (gcA X) a N M p0 p1 p2 r Mz h1) hG rfl nd_X6_drag hR (q0 := 0) rfl rfl hC hn rfl rfl hst hLn d hp (kk r Mz h)
theorem hi_X6_canDrag_X6 : ∀ w ∈ wsX60, w ∈ wsX6_canDrag := fun w h => List.mem_cons_of_mem _ (List.mem_append_right _ h)
theorem lk_X6_canDrag_1 : Cond.fieldLink RX6 7 "NoteThemesModel" "s" "[I" ∈ wsX6_canDrag := List.mem_of_getElem? (i := 1) rfl
theorem lk_X6_canDrag_2 : Cond.fieldLink RX6 23 "NoteThemesModel" "heapOf" "[I" ∈ wsX6_canDrag := List.mem_of_getElem? (i := 2) rfl
def f_X6_canDrag_62 (N : Nat) (M : tS) (p0 : Int32) (p1 : Int32) (p2 : Int32) (k6 : Int32 → Int32 → Option (Int32)) (x5 : Int32) (t0 : Int32) : Option (Int32) := k6 t0 (x5 + 1)
set_option maxRecDepth 100000 in
set_option maxHeartbeats 4000000 in
theorem B_X6_canDrag_62 {X : gX} (C : cx X RX6 cX6_canDrag 6 (some .boolean) wsX6_canDrag 2 43) (a : Nat → Nat) (N : Nat) (M : tS) (p0 : Int32) (p1 : Int32) (p2 : Int32) (r : Int32) (k6 : Int32 → Int32 → Option (Int32)) (hk6 : ∀ (x4 : Int32) (x5 : Int32), k6 x4 x5 = some r → G X (QI X r [mdW (gcA X) a M]) [mdW (gcA X) a M] [some (.ref (a 0)), some (.int p0), some (.int p1), some (.int p2), some (.int x4), some (.int x5)] [] 6) (x5 : Int32) (t0 : Int32) (h : f_X6_canDrag_62 N M p0 p1 p2 k6 x5 t0 = some r) : G X (QI X r [mdW (gcA X) a M]) [mdW (gcA X) a M] [some (.ref (a 0)), some (.int p0), some (.int p1), some (.int p2), none, some (.int x5)] [.int t0] 62 := by
  unfold f_X6_canDrag_62 at h
  refine g_istore (pc' := 64) C dX6_canDrag_62 (Nat.le_of_ble_eq_true rfl) rfl (L' := [some (.ref (a 0)), some (.int p0), some (.int p1), some (.int p2), some (.int t0), some (.int x5)]) rfl ?_
  refine g_iinc (pc' := 67) (v := (x5 + 1)) C dX6_canDrag_64 rfl rfl rfl (L' := [some (.ref (a 0)), some (.int p0), some (.int p1), some (.int p2), some (.int t0), some (.int (x5 + 1))]) rfl ?_
  refine g_goto (pc' := 6) C dX6_canDrag_67 (by decide) ?_
  exact G_loc (lle_s (lle_s (lle_s (lle_s (lle_s (lle_s lle_0)))))) (hk6 t0 (x5 + 1) h)
def f_X6_canDrag_61 (N : Nat) (M : tS) (p0 : Int32) (p1 : Int32) (p2 : Int32) (k6 : Int32 → Int32 → Option (Int32)) (x5 : Int32) : Option (Int32) := f_X6_canDrag_62 N M p0 p1 p2 k6 x5 (0 : Int32)
set_option maxRecDepth 100000 in
set_option maxHeartbeats 4000000 in
theorem B_X6_canDrag_61 {X : gX} (C : cx X RX6 cX6_canDrag 6 (some .boolean) wsX6_canDrag 2 43) (a : Nat → Nat) (N : Nat) (M : tS) (p0 : Int32) (p1 : Int32) (p2 : Int32) (r : Int32) (k6 : Int32 → Int32 → Option (Int32)) (hk6 : ∀ (x4 : Int32) (x5 : Int32), k6 x4 x5 = some r → G X (QI X r [mdW (gcA X) a M]) [mdW (gcA X) a M] [some (.ref (a 0)), some (.int p0), some (.int p1), some (.int p2), some (.int x4), some (.int x5)] [] 6) (x5 : Int32) (h : f_X6_canDrag_61 N M p0 p1 p2 k6 x5 = some r) : G X (QI X r [mdW (gcA X) a M]) [mdW (gcA X) a M] [some (.ref (a 0)), some (.int p0), some (.int p1), some (.int p2), none, some (.int x5)] [] 61 := by
  unfold f_X6_canDrag_61 at h
  refine g_iconst (pc' := 62) (v := 0) C dX6_canDrag_61 (by decide) rfl ?_
  exact G_loc (lle_s (lle_s (lle_s (lle_s (lle_n (lle_s lle_0)))))) (B_X6_canDrag_62 C a N M p0 p1 p2 r k6 hk6 x5 (0 : Int32) h)
def f_X6_canDrag_57 (N : Nat) (M : tS) (p0 : Int32) (p1 : Int32) (p2 : Int32) (k6 : Int32 → Int32 → Option (Int32)) (x5 : Int32) : Option (Int32) := f_X6_canDrag_62 N M p0 p1 p2 k6 x5 (1 : Int32)
set_option maxRecDepth 100000 in
set_option maxHeartbeats 4000000 in
theorem B_X6_canDrag_57 {X : gX} (C : cx X RX6 cX6_canDrag 6 (some .boolean) wsX6_canDrag 2 43) (a : Nat → Nat) (N : Nat) (M : tS) (p0 : Int32) (p1 : Int32) (p2 : Int32) (r : Int32) (k6 : Int32 → Int32 → Option (Int32)) (hk6 : ∀ (x4 : Int32) (x5 : Int32), k6 x4 x5 = some r → G X (QI X r [mdW (gcA X) a M]) [mdW (gcA X) a M] [some (.ref (a 0)), some (.int p0), some (.int p1), some (.int p2), some (.int x4), some (.int x5)] [] 6) (x5 : Int32) (h : f_X6_canDrag_57 N M p0 p1 p2 k6 x5 = some r) : G X (QI X r [mdW (gcA X) a M]) [mdW (gcA X) a M] [some (.ref (a 0)), some (.int p0), some (.int p1), some (.int p2), none, some (.int x5)] [] 57 := by
  unfold f_X6_canDrag_57 at h
  refine g_iconst (pc' := 58) (v := 1) C dX6_canDrag_57 (by decide) rfl ?_
  refine g_goto (pc' := 62) C dX6_canDrag_58 (by decide) ?_
  exact G_loc (lle_s (lle_s (lle_s (lle_s (lle_n (lle_s lle_0)))))) (B_X6_canDrag_62 C a N M p0 p1 p2 r k6 hk6 x5 (1 : Int32) h)
def f_X6_canDrag_6b (N : Nat) (M : tS) (p0 : Int32) (p1 : Int32) (p2 : Int32)  (k6 : Int32 → Int32 → Option (Int32)) (x4 : Int32) (x5 : Int32) : Option (Int32) := (if (M 0 (0 : Int32).toNatClampNeg) ≤ x5 then (if ¬ (x4 = 0 ∨ x4 = 1) then none else some x4) else (if x4 = 0 then f_X6_canDrag_61 N M p0 p1 p2 k6 x5 else (if x5 < 0 ∨ 20 ≤ x5.toNatClampNeg then none else (if (M 7 x5.toNatClampNeg) = p0 then (bd (f_X6_of N M x5 (0 : Int32)) (fun r1 => (bd (f_X6_of N M x5 (1 : Int32)) (fun r2 => (bd (f_X6_isPlace N (r1 + p1) (r2 + p2)) (fun r3 => (if r3 = 0 then f_X6_canDrag_61 N M p0 p1 p2 k6 x5 else f_X6_canDrag_57 N M p0 p1 p2 k6 x5))))))) else f_X6_canDrag_57 N M p0 p1 p2 k6 x5))))
def f_X6_canDrag_6 (N : Nat) (M : tS) (p0 : Int32) (p1 : Int32) (p2 : Int32)  : Nat → Int32 → Int32 → Option (Int32)
  | 0 => fun _ _ => none
  | n + 1 => f_X6_canDrag_6b N M p0 p1 p2  (f_X6_canDrag_6 N M p0 p1 p2  n)
set_option maxRecDepth 100000 in
set_option maxHeartbeats 4000000 in
theorem B_X6_canDrag_6b {X : gX} (C : cx X RX6 cX6_canDrag 6 (some .boolean) wsX6_canDrag 2 43) (a : Nat → Nat) (N : Nat) (M : tS) (p0 : Int32) (p1 : Int32) (p2 : Int32) (r : Int32)  (k6 : Int32 → Int32 → Option (Int32)) (hk6 : ∀ (x4 : Int32) (x5 : Int32), k6 x4 x5 = some r → G X (QI X r [mdW (gcA X) a M]) [mdW (gcA X) a M] [some (.ref (a 0)), some (.int p0), some (.int p1), some (.int p2), some (.int x4), some (.int x5)] [] 6) (x4 : Int32) (x5 : Int32) (h : f_X6_canDrag_6b N M p0 p1 p2  k6 x4 x5 = some r) : G X (QI X r [mdW (gcA X) a M]) [mdW (gcA X) a M] [some (.ref (a 0)), some (.int p0), some (.int p1), some (.int p2), some (.int x4), some (.int x5)] [] 6 := by
  unfold f_X6_canDrag_6b at h
  refine g_iload (pc' := 8) C dX6_canDrag_6 rfl rfl ?_
  refine g_aload_n (pc' := 9) C dX6_canDrag_8 rfl rfl ?_
  refine gg_X6_0 (pc' := 12) (i := 0) C rfl hi_X6_canDrag_X6 lk_X6_canDrag_1 dX6_canDrag_9 rfl ?_
  refine g_iconst (pc' := 13) (v := 0) C dX6_canDrag_12 (by decide) rfl ?_
  refine g_iald0 (pc' := 14) (i := 0) (j := 1) C rfl rfl dX6_canDrag_13 rfl (by unfold vp_in; decide) ?_
  refine g_icmp_ge (pc' := 17) (tgt := 70) C dX6_canDrag_14 (by decide) rfl h (fun c h => ?_) (fun c h => ?_)
  · refine g_iload (pc' := 72) C dX6_canDrag_70 rfl rfl ?_
    obtain ⟨hz, h⟩ := og h
    obtain rfl := Option.some.inj h
    exact g_zret0 C (zb hz) dX6_canDrag_72
  · refine g_iload (pc' := 19) C dX6_canDrag_17 rfl rfl ?_
    refine g_if_eq (pc' := 22) (tgt := 61) C dX6_canDrag_19 (by decide) rfl h (fun c h => ?_) (fun c h => ?_)
    · exact G_loc (lle_s (lle_s (lle_s (lle_s (lle_n (lle_s lle_0)))))) (B_X6_canDrag_61 C a N M p0 p1 p2 r k6 hk6 x5 h)
    · refine g_aload_n (pc' := 23) C dX6_canDrag_22 rfl rfl ?_
      refine gg_X6_7 (pc' := 26) (i := 0) C rfl hi_X6_canDrag_X6 lk_X6_canDrag_2 dX6_canDrag_23 rfl ?_
      refine g_iload (pc' := 28) C dX6_canDrag_26 rfl rfl ?_
      refine g_iald (pc' := 29) (i := 0) (j := 5) C rfl rfl dX6_canDrag_28 rfl h (fun h => ?_)
      refine g_iload_n (pc' := 30) C dX6_canDrag_29 rfl rfl ?_
      refine g_icmp_ne (pc' := 33) (tgt := 57) C dX6_canDrag_30 (by decide) rfl h (fun c h => ?_) (fun c h => ?_)
      · refine g_aload_n (pc' := 34) C dX6_canDrag_33 rfl rfl ?_
        refine g_iload (pc' := 36) C dX6_canDrag_34 rfl rfl ?_
        refine g_iconst (pc' := 37) (v := 0) C dX6_canDrag_36 (by decide) rfl ?_
        refine k_X6_of (pc' := 40) C a N M x5 (0 : Int32) [0] rfl (by decide) gX6_canDrag_X6_of ⟨Nat.le_of_ble_eq_true rfl, Nat.le_of_ble_eq_true rfl⟩ (Nat.le_of_ble_eq_true rfl) rfl dX6_canDrag_37 rfl h (fun r1 h => ?_)
        refine g_iload_n (pc' := 41) C dX6_canDrag_40 rfl rfl ?_
        refine g_iadd (pc' := 42) C dX6_canDrag_41 rfl ?_
        refine g_aload_n (pc' := 43) C dX6_canDrag_42 rfl rfl ?_
        refine g_iload (pc' := 45) C dX6_canDrag_43 rfl rfl ?_
        refine g_iconst (pc' := 46) (v := 1) C dX6_canDrag_45 (by decide) rfl ?_
        refine k_X6_of (pc' := 49) C a N M x5 (1 : Int32) [0] rfl (by decide) gX6_canDrag_X6_of ⟨Nat.le_of_ble_eq_true rfl, Nat.le_of_ble_eq_true rfl⟩ (Nat.le_of_ble_eq_true rfl) rfl dX6_canDrag_46 rfl h (fun r2 h => ?_)
        refine g_iload_n (pc' := 50) C dX6_canDrag_49 rfl rfl ?_
        refine g_iadd (pc' := 51) C dX6_canDrag_50 rfl ?_
        refine k_X6_isPlace (pc' := 54) C N (r1 + p1) (r2 + p2) [] rfl (by decide) gX6_canDrag_X6_isPlace ⟨Nat.le_of_ble_eq_true rfl, Nat.le_of_ble_eq_true rfl⟩ (Nat.le_of_ble_eq_true rfl) rfl dX6_canDrag_51 rfl h (fun r3 h => ?_)
        refine g_if_eq (pc' := 57) (tgt := 61) C dX6_canDrag_54 (by decide) rfl h (fun c h => ?_) (fun c h => ?_)
        · exact G_loc (lle_s (lle_s (lle_s (lle_s (lle_n (lle_s lle_0)))))) (B_X6_canDrag_61 C a N M p0 p1 p2 r k6 hk6 x5 h)
        · exact G_loc (lle_s (lle_s (lle_s (lle_s (lle_n (lle_s lle_0)))))) (B_X6_canDrag_57 C a N M p0 p1 p2 r k6 hk6 x5 h)
      · exact G_loc (lle_s (lle_s (lle_s (lle_s (lle_n (lle_s lle_0)))))) (B_X6_canDrag_57 C a N M p0 p1 p2 r k6 hk6 x5 h)
set_option maxRecDepth 100000 in
set_option maxHeartbeats 4000000 in
theorem L_X6_canDrag_6 {X : gX} (C : cx X RX6 cX6_canDrag 6 (some .boolean) wsX6_canDrag 2 43) (a : Nat → Nat) (N : Nat) (M : tS) (p0 : Int32) (p1 : Int32) (p2 : Int32) (r : Int32)  : ∀ (n : Nat) (x4 : Int32) (x5 : Int32), f_X6_canDrag_6 N M p0 p1 p2  n x4 x5 = some r → G X (QI X r [mdW (gcA X) a M]) [mdW (gcA X) a M] [some (.ref (a 0)), some (.int p0), some (.int p1), some (.int p2), some (.int x4), some (.int x5)] [] 6 := by
  intro n
  induction n with
  | zero => intro x4 x5 h; have h : (none : Option (Int32)) = some r := h; cases h
  | succ n ih => intro x4 x5 h; exact B_X6_canDrag_6b C a N M p0 p1 p2 r  (f_X6_canDrag_6 N M p0 p1 p2  n) ih x4 x5 h
def f_X6_canDrag (N : Nat) (M : tS) (p0 : Int32) (p1 : Int32) (p2 : Int32) : Option (Int32) := f_X6_canDrag_6 N M p0 p1 p2 N (1 : Int32) (0 : Int32)
set_option maxRecDepth 100000 in
set_option maxHeartbeats 4000000 in
theorem B_X6_canDrag {X : gX} (C : cx X RX6 cX6_canDrag 6 (some .boolean) wsX6_canDrag 2 43) (a : Nat → Nat) (N : Nat) (M : tS) (p0 : Int32) (p1 : Int32) (p2 : Int32) (r : Int32) (h : f_X6_canDrag N M p0 p1 p2 = some r) : G X (QI X r [mdW (gcA X) a M]) [mdW (gcA X) a M] [some (.ref (a 0)), some (.int p0), some (.int p1), some (.int p2), none, none] [] 0 := by
  unfold f_X6_canDrag at h
  refine g_iconst (pc' := 1) (v := 1) C dX6_canDrag_0 (by decide) rfl ?_
  refine g_istore (pc' := 3) C dX6_canDrag_1 (Nat.le_of_ble_eq_true rfl) rfl (L' := [some (.ref (a 0)), some (.int p0), some (.int p1), some (.int p2), some (.int (1 : Int32)), none]) rfl ?_
  refine g_iconst (pc' := 4) (v := 0) C dX6_canDrag_3 (by decide) rfl ?_
  refine g_istore (pc' := 6) C dX6_canDrag_4 (Nat.le_of_ble_eq_true rfl) rfl (L' := [some (.ref (a 0)), some (.int p0), some (.int p1), some (.int p2), some (.int (1 : Int32)), some (.int (0 : Int32))]) rfl ?_
  exact G_loc (lle_s (lle_s (lle_s (lle_s (lle_s (lle_s lle_0)))))) (L_X6_canDrag_6 C a N M p0 p1 p2 r N (1 : Int32) (0 : Int32) h)
set_option maxRecDepth 100000 in
set_option maxHeartbeats 4000000 in
theorem c_X6_canDrag (l : Launch) (D : va_G) (cA : Nat → ClassId) (a : Nat → Nat) (N : Nat) (M : tS) (p0 : Int32) (p1 : Int32) (p2 : Int32) (r : Int32) (h : f_X6_canDrag N M p0 p1 p2 = some r) : MI l D cA yX6_canDrag wsX6_canDrag 2 43 [.ref (a 0), .int p0, .int p1, .int p2] [mdW cA a M] r [mdW cA a M] := MI_of (cc := cX6_canDrag) (maxL := 6) (rt := some .boolean) (by decide +kernel) rfl (List.forall_mem_cons.mpr ⟨rfl, List.forall_mem_cons.mpr ⟨rfl, List.forall_mem_cons.mpr ⟨rfl, List.forall_mem_cons.mpr ⟨rfl, List.forall_mem_nil _⟩⟩⟩⟩) (Nat.le_of_ble_eq_true rfl) (fun X e1 e2 e3 C => by subst e1; subst e2; subst e3; exact B_X6_canDrag C a N M p0 p1 p2 r h)
set_option maxRecDepth 100000 in
set_option maxHeartbeats 4000000 in
theorem nd_X6_canDrag : nd yX6_canDrag 3 := ⟨by decide +kernel, by decide +kernel, by decide +kernel⟩
set_option maxRecDepth 100000 in
set_option maxHeartbeats 4000000 in
theorem k_X6_canDrag {X : gX} {own : String} {cc : ByteArray} {nL : Nat} {ret : Option FieldType} {Ts : List Cond} {fr lm : Nat} {Q : State → Prop} {ms : List va_W} {L : List (Option Value)} {st : List Value} {pc pc' idx : Nat} {ρ : Type} {T : Int32 → Option ρ} {res : ρ} (C : cx X own cc nL ret Ts fr lm) (a : Nat → Nat) (N : Nat) (M : tS) (p0 : Int32) (p1 : Int32) (p2 : Int32) (is : List Nat) (hC : is.map (fun i => ms[i]?) = [some (mdW (gcA X) a M)]) (hn : is.Nodup) (hG : GoodIn Ts (wsV own idx RX6 yX6_canDrag wsX6_canDrag)) (hR : 2 + 1 ≤ fr ∧ 8 + (6 + 11) + 43 ≤ lm) (hst : (st.map fun v => v.category).sum ≤ 8) (hLn : L.length = nL) (d : decode cc pc = .ok (.invokevirtual idx, 3)) (hp : pc + 3 = pc') (h : bd (f_X6_canDrag N M p0 p1 p2) T = some res) (kk : ∀ (r : Int32), T r = some res → G X Q (ms) L (.int r :: st) pc') : G X Q ms L (.int p2 :: .int p1 :: .int p0 :: .ref (a 0) :: st) pc := by
  obtain ⟨r, h1, h⟩ := ob h
  exact G_callVI C (As := [.int p0, .int p1, .int p2]) (c_X6_canDrag (gl X) (gD X) (gcA X) a N M p0 p1 p2 r h1) hG rfl nd_X6_canDrag hR (q0 := 0) rfl rfl hC hn rfl rfl hst hLn d hp (G_ms (rpl_same (mc := [mdW (gcA X) a M]) hC) (kk r h))
theorem hi_X6_dragHeap_X6 : ∀ w ∈ wsX60, w ∈ wsX6_dragHeap := fun w h => List.mem_cons_of_mem _ (List.mem_append_right _ h)
theorem lk_X6_dragHeap_1 : Cond.fieldLink RX6 7 "NoteThemesModel" "s" "[I" ∈ wsX6_dragHeap := List.mem_of_getElem? (i := 1) rfl
theorem lk_X6_dragHeap_2 : Cond.fieldLink RX6 23 "NoteThemesModel" "heapOf" "[I" ∈ wsX6_dragHeap := List.mem_of_getElem? (i := 2) rfl
def f_X6_dragHeap_118 (N : Nat) (p0 : Int32) (p1 : Int32) (p2 : Int32) (k72 : Int32 → tS → Option (Int32 × tS)) (x4 : Int32) (M : tS) : Option (Int32 × tS) := k72 (x4 + 1) M
set_option maxRecDepth 100000 in
set_option maxHeartbeats 4000000 in
theorem B_X6_dragHeap_118 {X : gX} (C : cx X RX6 cX6_dragHeap 5 (some .int) wsX6_dragHeap 5 114) (a : Nat → Nat) (N : Nat) (p0 : Int32) (p1 : Int32) (p2 : Int32) (r : Int32) (Mz : tS) (k72 : Int32 → tS → Option (Int32 × tS)) (hk72 : ∀ (x4 : Int32) (M : tS), k72 x4 M = some (r, Mz) → G X (QI X r [mdW (gcA X) a Mz]) [mdW (gcA X) a M] [some (.ref (a 0)), some (.int p0), some (.int p1), some (.int p2), some (.int x4)] [] 72) (x4 : Int32) (M : tS) (h : f_X6_dragHeap_118 N p0 p1 p2 k72 x4 M = some (r, Mz)) : G X (QI X r [mdW (gcA X) a Mz]) [mdW (gcA X) a M] [some (.ref (a 0)), some (.int p0), some (.int p1), some (.int p2), some (.int x4)] [] 118 := by
  unfold f_X6_dragHeap_118 at h
  refine g_iinc (pc' := 121) (v := (x4 + 1)) C dX6_dragHeap_118 rfl rfl rfl (L' := [some (.ref (a 0)), some (.int p0), some (.int p1), some (.int p2), some (.int (x4 + 1))]) rfl ?_
  refine g_goto (pc' := 72) C dX6_dragHeap_121 (by decide) ?_
  exact G_loc (lle_s (lle_s (lle_s (lle_s (lle_s lle_0))))) (hk72 (x4 + 1) M h)
def f_X6_dragHeap_72b (N : Nat) (p0 : Int32) (p1 : Int32) (p2 : Int32)  (k72 : Int32 → tS → Option (Int32 × tS)) (x4 : Int32) (M : tS) : Option (Int32 × tS) := (if (M 0 (0 : Int32).toNatClampNeg) ≤ x4 then (bd2 (f_X6_laysNow N M) (fun r1 M1 => some (r1, M1))) else (if x4 < 0 ∨ 20 ≤ x4.toNatClampNeg then none else (if (M 7 x4.toNatClampNeg) = p0 then (bd (f_X6_of N M x4 (0 : Int32)) (fun r2 => (bd (f_X6_of N M x4 (1 : Int32)) (fun r3 => (bd (f_X6_comes N M x4 (r2 + p1) (r3 + p2)) (fun M4 => f_X6_dragHeap_118 N p0 p1 p2 k72 x4 M4)))))) else f_X6_dragHeap_118 N p0 p1 p2 k72 x4 M)))
def f_X6_dragHeap_72 (N : Nat) (p0 : Int32) (p1 : Int32) (p2 : Int32)  : Nat → Int32 → tS → Option (Int32 × tS)
  | 0 => fun _ _ => none
  | n + 1 => f_X6_dragHeap_72b N p0 p1 p2  (f_X6_dragHeap_72 N p0 p1 p2  n)
set_option maxRecDepth 100000 in
set_option maxHeartbeats 4000000 in
theorem B_X6_dragHeap_72b {X : gX} (C : cx X RX6 cX6_dragHeap 5 (some .int) wsX6_dragHeap 5 114) (a : Nat → Nat) (N : Nat) (p0 : Int32) (p1 : Int32) (p2 : Int32) (r : Int32) (Mz : tS)  (k72 : Int32 → tS → Option (Int32 × tS)) (hk72 : ∀ (x4 : Int32) (M : tS), k72 x4 M = some (r, Mz) → G X (QI X r [mdW (gcA X) a Mz]) [mdW (gcA X) a M] [some (.ref (a 0)), some (.int p0), some (.int p1), some (.int p2), some (.int x4)] [] 72) (x4 : Int32) (M : tS) (h : f_X6_dragHeap_72b N p0 p1 p2  k72 x4 M = some (r, Mz)) : G X (QI X r [mdW (gcA X) a Mz]) [mdW (gcA X) a M] [some (.ref (a 0)), some (.int p0), some (.int p1), some (.int p2), some (.int x4)] [] 72 := by
  unfold f_X6_dragHeap_72b at h
  refine g_iload (pc' := 74) C dX6_dragHeap_72 rfl rfl ?_
  refine g_aload_n (pc' := 75) C dX6_dragHeap_74 rfl rfl ?_
  refine gg_X6_0 (pc' := 78) (i := 0) C rfl hi_X6_dragHeap_X6 lk_X6_dragHeap_1 dX6_dragHeap_75 rfl ?_
  refine g_iconst (pc' := 79) (v := 0) C dX6_dragHeap_78 (by decide) rfl ?_
  refine g_iald0 (pc' := 80) (i := 0) (j := 1) C rfl rfl dX6_dragHeap_79 rfl (by unfold vp_in; decide) ?_
  refine g_icmp_ge (pc' := 83) (tgt := 124) C dX6_dragHeap_80 (by decide) rfl h (fun c h => ?_) (fun c h => ?_)
  · refine g_aload_n (pc' := 125) C dX6_dragHeap_124 rfl rfl ?_
    refine k_X6_laysNow (pc' := 128) C a N M [0] rfl (by decide) gX6_dragHeap_X6_laysNow ⟨Nat.le_of_ble_eq_true rfl, Nat.le_of_ble_eq_true rfl⟩ (Nat.le_of_ble_eq_true rfl) rfl dX6_dragHeap_125 rfl h (fun r1 M1 h => ?_)
    show G X _ [mdW (gcA X) a M1] _ _ _
    obtain ⟨rfl, rfl⟩ := pj2 (Option.some.inj h)
    exact g_iret C dX6_dragHeap_128
  · refine g_aload_n (pc' := 84) C dX6_dragHeap_83 rfl rfl ?_
    refine gg_X6_7 (pc' := 87) (i := 0) C rfl hi_X6_dragHeap_X6 lk_X6_dragHeap_2 dX6_dragHeap_84 rfl ?_
    refine g_iload (pc' := 89) C dX6_dragHeap_87 rfl rfl ?_
    refine g_iald (pc' := 90) (i := 0) (j := 5) C rfl rfl dX6_dragHeap_89 rfl h (fun h => ?_)
    refine g_iload_n (pc' := 91) C dX6_dragHeap_90 rfl rfl ?_
    refine g_icmp_ne (pc' := 94) (tgt := 118) C dX6_dragHeap_91 (by decide) rfl h (fun c h => ?_) (fun c h => ?_)
    · refine g_aload_n (pc' := 95) C dX6_dragHeap_94 rfl rfl ?_
      refine g_iload (pc' := 97) C dX6_dragHeap_95 rfl rfl ?_
      refine g_aload_n (pc' := 98) C dX6_dragHeap_97 rfl rfl ?_
      refine g_iload (pc' := 100) C dX6_dragHeap_98 rfl rfl ?_
      refine g_iconst (pc' := 101) (v := 0) C dX6_dragHeap_100 (by decide) rfl ?_
      refine k_X6_of (pc' := 104) C a N M x4 (0 : Int32) [0] rfl (by decide) gX6_dragHeap_X6_of ⟨Nat.le_of_ble_eq_true rfl, Nat.le_of_ble_eq_true rfl⟩ (Nat.le_of_ble_eq_true rfl) rfl dX6_dragHeap_101 rfl h (fun r2 h => ?_)
      refine g_iload_n (pc' := 105) C dX6_dragHeap_104 rfl rfl ?_
      refine g_iadd (pc' := 106) C dX6_dragHeap_105 rfl ?_
      refine g_aload_n (pc' := 107) C dX6_dragHeap_106 rfl rfl ?_
      refine g_iload (pc' := 109) C dX6_dragHeap_107 rfl rfl ?_
      refine g_iconst (pc' := 110) (v := 1) C dX6_dragHeap_109 (by decide) rfl ?_
      refine k_X6_of (pc' := 113) C a N M x4 (1 : Int32) [0] rfl (by decide) gX6_dragHeap_X6_of ⟨Nat.le_of_ble_eq_true rfl, Nat.le_of_ble_eq_true rfl⟩ (Nat.le_of_ble_eq_true rfl) rfl dX6_dragHeap_110 rfl h (fun r3 h => ?_)
      refine g_iload_n (pc' := 114) C dX6_dragHeap_113 rfl rfl ?_
      refine g_iadd (pc' := 115) C dX6_dragHeap_114 rfl ?_
      refine k_X6_comes (pc' := 118) C a N M x4 (r2 + p1) (r3 + p2) [0] rfl (by decide) gX6_dragHeap_X6_comes ⟨Nat.le_of_ble_eq_true rfl, Nat.le_of_ble_eq_true rfl⟩ (Nat.le_of_ble_eq_true rfl) rfl dX6_dragHeap_115 rfl h (fun M4 h => ?_)
      show G X _ [mdW (gcA X) a M4] _ _ _
      exact G_loc (lle_s (lle_s (lle_s (lle_s (lle_s lle_0))))) (B_X6_dragHeap_118 C a N p0 p1 p2 r Mz k72 hk72 x4 M4 h)
    · exact G_loc (lle_s (lle_s (lle_s (lle_s (lle_s lle_0))))) (B_X6_dragHeap_118 C a N p0 p1 p2 r Mz k72 hk72 x4 M h)
set_option maxRecDepth 100000 in
set_option maxHeartbeats 4000000 in
theorem L_X6_dragHeap_72 {X : gX} (C : cx X RX6 cX6_dragHeap 5 (some .int) wsX6_dragHeap 5 114) (a : Nat → Nat) (N : Nat) (p0 : Int32) (p1 : Int32) (p2 : Int32) (r : Int32) (Mz : tS)  : ∀ (n : Nat) (x4 : Int32) (M : tS), f_X6_dragHeap_72 N p0 p1 p2  n x4 M = some (r, Mz) → G X (QI X r [mdW (gcA X) a Mz]) [mdW (gcA X) a M] [some (.ref (a 0)), some (.int p0), some (.int p1), some (.int p2), some (.int x4)] [] 72 := by
  intro n
  induction n with
  | zero => intro x4 M h; have h : (none : Option (Int32 × tS)) = some (r, Mz) := h; cases h
  | succ n ih => intro x4 M h; exact B_X6_dragHeap_72b C a N p0 p1 p2 r Mz  (f_X6_dragHeap_72 N p0 p1 p2  n) ih x4 M h
def f_X6_dragHeap_65 (N : Nat) (p0 : Int32) (p1 : Int32) (p2 : Int32)  (M : tS) : Option (Int32 × tS) := (bd (f_X6_records N M) (fun M1 => f_X6_dragHeap_72 N p0 p1 p2 N (0 : Int32) M1))
set_option maxRecDepth 100000 in
set_option maxHeartbeats 4000000 in
theorem B_X6_dragHeap_65 {X : gX} (C : cx X RX6 cX6_dragHeap 5 (some .int) wsX6_dragHeap 5 114) (a : Nat → Nat) (N : Nat) (p0 : Int32) (p1 : Int32) (p2 : Int32) (r : Int32) (Mz : tS)  (M : tS) (h : f_X6_dragHeap_65 N p0 p1 p2  M = some (r, Mz)) : G X (QI X r [mdW (gcA X) a Mz]) [mdW (gcA X) a M] [some (.ref (a 0)), some (.int p0), some (.int p1), some (.int p2), none] [] 65 := by
  unfold f_X6_dragHeap_65 at h
  refine g_aload_n (pc' := 66) C dX6_dragHeap_65 rfl rfl ?_
  refine k_X6_records (pc' := 69) C a N M [0] rfl (by decide) gX6_dragHeap_X6_records ⟨Nat.le_of_ble_eq_true rfl, Nat.le_of_ble_eq_true rfl⟩ (Nat.le_of_ble_eq_true rfl) rfl dX6_dragHeap_66 rfl h (fun M1 h => ?_)
  show G X _ [mdW (gcA X) a M1] _ _ _
  refine g_iconst (pc' := 70) (v := 0) C dX6_dragHeap_69 (by decide) rfl ?_
  refine g_istore (pc' := 72) C dX6_dragHeap_70 (Nat.le_of_ble_eq_true rfl) rfl (L' := [some (.ref (a 0)), some (.int p0), some (.int p1), some (.int p2), some (.int (0 : Int32))]) rfl ?_
  exact G_loc (lle_s (lle_s (lle_s (lle_s (lle_s lle_0))))) (L_X6_dragHeap_72 C a N p0 p1 p2 r Mz N (0 : Int32) M1 h)
def f_X6_dragHeap (N : Nat) (M : tS) (p0 : Int32) (p1 : Int32) (p2 : Int32) : Option (Int32 × tS) := (bd2 (f_X6_laysNow N M) (fun r1 M1 => (bd (f_X6_in N p0 (0 : Int32) (r1 - (1 : Int32))) (fun r2 => (if r2 = 0 then some ((-1 : Int32), M1) else (bd (f_X6_in N p1 (-29 : Int32) (29 : Int32)) (fun r3 => (if r3 = 0 then some ((-2 : Int32), M1) else (bd (f_X6_in N p2 (-19 : Int32) (19 : Int32)) (fun r4 => (if r4 = 0 then some ((-2 : Int32), M1) else (bd (f_X6_canDrag N M1 p0 p1 p2) (fun r5 => (if r5 = 0 then some ((-4 : Int32), M1) else (if p1 = 0 then (if p2 = 0 then some ((-5 : Int32), M1) else f_X6_dragHeap_65 N p0 p1 p2 M1) else f_X6_dragHeap_65 N p0 p1 p2 M1)))))))))))))))
set_option maxRecDepth 100000 in
set_option maxHeartbeats 4000000 in
theorem B_X6_dragHeap {X : gX} (C : cx X RX6 cX6_dragHeap 5 (some .int) wsX6_dragHeap 5 114) (a : Nat → Nat) (N : Nat) (M : tS) (p0 : Int32) (p1 : Int32) (p2 : Int32) (r : Int32) (Mz : tS) (h : f_X6_dragHeap N M p0 p1 p2 = some (r, Mz)) : G X (QI X r [mdW (gcA X) a Mz]) [mdW (gcA X) a M] [some (.ref (a 0)), some (.int p0), some (.int p1), some (.int p2), none] [] 0 := by
  unfold f_X6_dragHeap at h
  refine g_iload_n (pc' := 1) C dX6_dragHeap_0 rfl rfl ?_
  refine g_iconst (pc' := 2) (v := 0) C dX6_dragHeap_1 (by decide) rfl ?_
  refine g_aload_n (pc' := 3) C dX6_dragHeap_2 rfl rfl ?_
  refine k_X6_laysNow (pc' := 6) C a N M [0] rfl (by decide) gX6_dragHeap_X6_laysNow ⟨Nat.le_of_ble_eq_true rfl, Nat.le_of_ble_eq_true rfl⟩ (Nat.le_of_ble_eq_true rfl) rfl dX6_dragHeap_3 rfl h (fun r1 M1 h => ?_)
  show G X _ [mdW (gcA X) a M1] _ _ _
  refine g_iconst (pc' := 7) (v := 1) C dX6_dragHeap_6 (by decide) rfl ?_
  refine g_isub (pc' := 8) C dX6_dragHeap_7 rfl ?_
  refine k_X6_in (pc' := 11) C N p0 (0 : Int32) (r1 - (1 : Int32)) [] rfl (by decide) gX6_dragHeap_X6_in ⟨Nat.le_of_ble_eq_true rfl, Nat.le_of_ble_eq_true rfl⟩ (Nat.le_of_ble_eq_true rfl) rfl dX6_dragHeap_8 rfl h (fun r2 h => ?_)
  refine g_if_ne (pc' := 14) (tgt := 16) C dX6_dragHeap_11 (by decide) rfl h (fun c h => ?_) (fun c h => ?_)
  · refine g_iconst (pc' := 15) (v := -1) C dX6_dragHeap_14 (by decide) rfl ?_
    obtain ⟨rfl, rfl⟩ := pj2 (Option.some.inj h)
    exact g_iret C dX6_dragHeap_15
  · refine g_iload_n (pc' := 17) C dX6_dragHeap_16 rfl rfl ?_
    refine g_bipush (pc' := 19) (v := -29) C dX6_dragHeap_17 (by decide) rfl ?_
    refine g_bipush (pc' := 21) (v := 29) C dX6_dragHeap_19 (by decide) rfl ?_
    refine k_X6_in (pc' := 24) C N p1 (-29 : Int32) (29 : Int32) [] rfl (by decide) gX6_dragHeap_X6_in ⟨Nat.le_of_ble_eq_true rfl, Nat.le_of_ble_eq_true rfl⟩ (Nat.le_of_ble_eq_true rfl) rfl dX6_dragHeap_21 rfl h (fun r3 h => ?_)
    refine g_if_eq (pc' := 27) (tgt := 38) C dX6_dragHeap_24 (by decide) rfl h (fun c h => ?_) (fun c h => ?_)
    · refine g_bipush (pc' := 40) (v := -2) C dX6_dragHeap_38 (by decide) rfl ?_
      obtain ⟨rfl, rfl⟩ := pj2 (Option.some.inj h)
      exact g_iret C dX6_dragHeap_40
    · refine g_iload_n (pc' := 28) C dX6_dragHeap_27 rfl rfl ?_
      refine g_bipush (pc' := 30) (v := -19) C dX6_dragHeap_28 (by decide) rfl ?_
      refine g_bipush (pc' := 32) (v := 19) C dX6_dragHeap_30 (by decide) rfl ?_
      refine k_X6_in (pc' := 35) C N p2 (-19 : Int32) (19 : Int32) [] rfl (by decide) gX6_dragHeap_X6_in ⟨Nat.le_of_ble_eq_true rfl, Nat.le_of_ble_eq_true rfl⟩ (Nat.le_of_ble_eq_true rfl) rfl dX6_dragHeap_32 rfl h (fun r4 h => ?_)
      refine g_if_ne (pc' := 38) (tgt := 41) C dX6_dragHeap_35 (by decide) rfl h (fun c h => ?_) (fun c h => ?_)
      · refine g_bipush (pc' := 40) (v := -2) C dX6_dragHeap_38 (by decide) rfl ?_
        obtain ⟨rfl, rfl⟩ := pj2 (Option.some.inj h)
        exact g_iret C dX6_dragHeap_40
      · refine g_aload_n (pc' := 42) C dX6_dragHeap_41 rfl rfl ?_
        refine g_iload_n (pc' := 43) C dX6_dragHeap_42 rfl rfl ?_
        refine g_iload_n (pc' := 44) C dX6_dragHeap_43 rfl rfl ?_
        refine g_iload_n (pc' := 45) C dX6_dragHeap_44 rfl rfl ?_
        refine k_X6_canDrag (pc' := 48) C a N M1 p0 p1 p2 [0] rfl (by decide) gX6_dragHeap_X6_canDrag ⟨Nat.le_of_ble_eq_true rfl, Nat.le_of_ble_eq_true rfl⟩ (Nat.le_of_ble_eq_true rfl) rfl dX6_dragHeap_45 rfl h (fun r5 h => ?_)
        refine g_if_ne (pc' := 51) (tgt := 54) C dX6_dragHeap_48 (by decide) rfl h (fun c h => ?_) (fun c h => ?_)
        · refine g_bipush (pc' := 53) (v := -4) C dX6_dragHeap_51 (by decide) rfl ?_
          obtain ⟨rfl, rfl⟩ := pj2 (Option.some.inj h)
          exact g_iret C dX6_dragHeap_53
        · refine g_iload_n (pc' := 55) C dX6_dragHeap_54 rfl rfl ?_
          refine g_if_ne (pc' := 58) (tgt := 65) C dX6_dragHeap_55 (by decide) rfl h (fun c h => ?_) (fun c h => ?_)
          · refine g_iload_n (pc' := 59) C dX6_dragHeap_58 rfl rfl ?_
            refine g_if_ne (pc' := 62) (tgt := 65) C dX6_dragHeap_59 (by decide) rfl h (fun c h => ?_) (fun c h => ?_)
            · refine g_bipush (pc' := 64) (v := -5) C dX6_dragHeap_62 (by decide) rfl ?_
              obtain ⟨rfl, rfl⟩ := pj2 (Option.some.inj h)
              exact g_iret C dX6_dragHeap_64
            · exact G_loc (lle_s (lle_s (lle_s (lle_s (lle_n lle_0))))) (B_X6_dragHeap_65 C a N p0 p1 p2 r Mz M1 h)
          · exact G_loc (lle_s (lle_s (lle_s (lle_s (lle_n lle_0))))) (B_X6_dragHeap_65 C a N p0 p1 p2 r Mz M1 h)
set_option maxRecDepth 100000 in
set_option maxHeartbeats 4000000 in
theorem c_X6_dragHeap (l : Launch) (D : va_G) (cA : Nat → ClassId) (a : Nat → Nat) (N : Nat) (M : tS) (p0 : Int32) (p1 : Int32) (p2 : Int32) (r : Int32) (Mz : tS) (h : f_X6_dragHeap N M p0 p1 p2 = some (r, Mz)) : MI l D cA yX6_dragHeap wsX6_dragHeap 5 114 [.ref (a 0), .int p0, .int p1, .int p2] [mdW cA a M] r [mdW cA a Mz] := MI_of (cc := cX6_dragHeap) (maxL := 5) (rt := some .int) (by decide +kernel) rfl (List.forall_mem_cons.mpr ⟨rfl, List.forall_mem_cons.mpr ⟨rfl, List.forall_mem_cons.mpr ⟨rfl, List.forall_mem_cons.mpr ⟨rfl, List.forall_mem_nil _⟩⟩⟩⟩) (Nat.le_of_ble_eq_true rfl) (fun X e1 e2 e3 C => by subst e1; subst e2; subst e3; exact B_X6_dragHeap C a N M p0 p1 p2 r Mz h)
set_option maxRecDepth 100000 in
set_option maxHeartbeats 4000000 in
theorem nd_X6_dragHeap : nd yX6_dragHeap 3 := ⟨by decide +kernel, by decide +kernel, by decide +kernel⟩
set_option maxRecDepth 100000 in
set_option maxHeartbeats 4000000 in
theorem k_X6_dragHeap {X : gX} {own : String} {cc : ByteArray} {nL : Nat} {ret : Option FieldType} {Ts : List Cond} {fr lm : Nat} {Q : State → Prop} {ms : List va_W} {L : List (Option Value)} {st : List Value} {pc pc' idx : Nat} {ρ : Type} {T : Int32 → tS → Option ρ} {res : ρ} (C : cx X own cc nL ret Ts fr lm) (a : Nat → Nat) (N : Nat) (M : tS) (p0 : Int32) (p1 : Int32) (p2 : Int32) (is : List Nat) (hC : is.map (fun i => ms[i]?) = [some (mdW (gcA X) a M)]) (hn : is.Nodup) (hG : GoodIn Ts (wsV own idx RX6 yX6_dragHeap wsX6_dragHeap)) (hR : 5 + 1 ≤ fr ∧ 8 + (5 + 11) + 114 ≤ lm) (hst : (st.map fun v => v.category).sum ≤ 8) (hLn : L.length = nL) (d : decode cc pc = .ok (.invokevirtual idx, 3)) (hp : pc + 3 = pc') (h : bd2 (f_X6_dragHeap N M p0 p1 p2) T = some res) (kk : ∀ (r : Int32) (Mz : tS), T r Mz = some res → G X Q (rpl ms is [mdW (gcA X) a Mz]) L (.int r :: st) pc') : G X Q ms L (.int p2 :: .int p1 :: .int p0 :: .ref (a 0) :: st) pc := by
  obtain ⟨r, Mz, h1, h⟩ := ob2 h
  exact G_callVI C (As := [.int p0, .int p1, .int p2]) (c_X6_dragHeap (gl X) (gD X) (gcA X) a N M p0 p1 p2 r Mz h1) hG rfl nd_X6_dragHeap hR (q0 := 0) rfl rfl hC hn rfl rfl hst hLn d hp (kk r Mz h)
theorem hi_X6_stick_X6 : ∀ w ∈ wsX60, w ∈ wsX6_stick := fun w h => List.mem_cons_of_mem _ (List.mem_append_right _ h)
theorem lk_X6_stick_1 : Cond.fieldLink RX6 7 "NoteThemesModel" "s" "[I" ∈ wsX6_stick := List.mem_of_getElem? (i := 1) rfl
def f_X6_stick (N : Nat) (M : tS) (p0 : Int32) (p1 : Int32) : Option (Int32 × tS) := (bd (f_X6_isPerson N p0) (fun r1 => (if r1 = 0 then some ((-1 : Int32), M) else (bd (f_X6_isNote N M p1) (fun r2 => (if r2 = 0 then some ((-1 : Int32), M) else (bd (f_X6_stuckBy N M p0) (fun r3 => (if r3 < (M 0 (3 : Int32).toNatClampNeg) then (bd (f_X6_of N M p1 ((3 : Int32) + p0)) (fun r4 => (if r4 < (M 0 (4 : Int32).toNatClampNeg) then (bd (f_X6_records N M) (fun M5 => (bd (f_X6_of N M5 p1 ((3 : Int32) + p0)) (fun r6 => (bd (f_X6_lays N M5 p1 ((3 : Int32) + p0) (r6 + (1 : Int32))) (fun M7 => (bd (f_X6_dotsOf N M7 p1) (fun r8 => some (r8, M7))))))))) else some ((-4 : Int32), M)))) else some ((-3 : Int32), M))))))))))
set_option maxRecDepth 100000 in
set_option maxHeartbeats 4000000 in
theorem B_X6_stick {X : gX} (C : cx X RX6 cX6_stick 3 (some .int) wsX6_stick 2 45) (a : Nat → Nat) (N : Nat) (M : tS) (p0 : Int32) (p1 : Int32) (r : Int32) (Mz : tS) (h : f_X6_stick N M p0 p1 = some (r, Mz)) : G X (QI X r [mdW (gcA X) a Mz]) [mdW (gcA X) a M] [some (.ref (a 0)), some (.int p0), some (.int p1)] [] 0 := by
  unfold f_X6_stick at h
  refine g_iload_n (pc' := 1) C dX6_stick_0 rfl rfl ?_
  refine k_X6_isPerson (pc' := 4) C N p0 [] rfl (by decide) gX6_stick_X6_isPerson ⟨Nat.le_of_ble_eq_true rfl, Nat.le_of_ble_eq_true rfl⟩ (Nat.le_of_ble_eq_true rfl) rfl dX6_stick_1 rfl h (fun r1 h => ?_)
  refine g_if_eq (pc' := 7) (tgt := 15) C dX6_stick_4 (by decide) rfl h (fun c h => ?_) (fun c h => ?_)
  · refine g_iconst (pc' := 16) (v := -1) C dX6_stick_15 (by decide) rfl ?_
    obtain ⟨rfl, rfl⟩ := pj2 (Option.some.inj h)
    exact g_iret C dX6_stick_16
  · refine g_aload_n (pc' := 8) C dX6_stick_7 rfl rfl ?_
    refine g_iload_n (pc' := 9) C dX6_stick_8 rfl rfl ?_
    refine k_X6_isNote (pc' := 12) C a N M p1 [0] rfl (by decide) gX6_stick_X6_isNote ⟨Nat.le_of_ble_eq_true rfl, Nat.le_of_ble_eq_true rfl⟩ (Nat.le_of_ble_eq_true rfl) rfl dX6_stick_9 rfl h (fun r2 h => ?_)
    refine g_if_ne (pc' := 15) (tgt := 17) C dX6_stick_12 (by decide) rfl h (fun c h => ?_) (fun c h => ?_)
    · refine g_iconst (pc' := 16) (v := -1) C dX6_stick_15 (by decide) rfl ?_
      obtain ⟨rfl, rfl⟩ := pj2 (Option.some.inj h)
      exact g_iret C dX6_stick_16
    · refine g_aload_n (pc' := 18) C dX6_stick_17 rfl rfl ?_
      refine g_iload_n (pc' := 19) C dX6_stick_18 rfl rfl ?_
      refine k_X6_stuckBy (pc' := 22) C a N M p0 [0] rfl (by decide) gX6_stick_X6_stuckBy ⟨Nat.le_of_ble_eq_true rfl, Nat.le_of_ble_eq_true rfl⟩ (Nat.le_of_ble_eq_true rfl) rfl dX6_stick_19 rfl h (fun r3 h => ?_)
      refine g_aload_n (pc' := 23) C dX6_stick_22 rfl rfl ?_
      refine gg_X6_0 (pc' := 26) (i := 0) C rfl hi_X6_stick_X6 lk_X6_stick_1 dX6_stick_23 rfl ?_
      refine g_iconst (pc' := 27) (v := 3) C dX6_stick_26 (by decide) rfl ?_
      refine g_iald0 (pc' := 28) (i := 0) (j := 1) C rfl rfl dX6_stick_27 rfl (by unfold vp_in; decide) ?_
      refine g_icmp_lt (pc' := 31) (tgt := 34) C dX6_stick_28 (by decide) rfl h (fun c h => ?_) (fun c h => ?_)
      · refine g_aload_n (pc' := 35) C dX6_stick_34 rfl rfl ?_
        refine g_iload_n (pc' := 36) C dX6_stick_35 rfl rfl ?_
        refine g_iconst (pc' := 37) (v := 3) C dX6_stick_36 (by decide) rfl ?_
        refine g_iload_n (pc' := 38) C dX6_stick_37 rfl rfl ?_
        refine g_iadd (pc' := 39) C dX6_stick_38 rfl ?_
        refine k_X6_of (pc' := 42) C a N M p1 ((3 : Int32) + p0) [0] rfl (by decide) gX6_stick_X6_of ⟨Nat.le_of_ble_eq_true rfl, Nat.le_of_ble_eq_true rfl⟩ (Nat.le_of_ble_eq_true rfl) rfl dX6_stick_39 rfl h (fun r4 h => ?_)
        refine g_aload_n (pc' := 43) C dX6_stick_42 rfl rfl ?_
        refine gg_X6_0 (pc' := 46) (i := 0) C rfl hi_X6_stick_X6 lk_X6_stick_1 dX6_stick_43 rfl ?_
        refine g_iconst (pc' := 47) (v := 4) C dX6_stick_46 (by decide) rfl ?_
        refine g_iald0 (pc' := 48) (i := 0) (j := 1) C rfl rfl dX6_stick_47 rfl (by unfold vp_in; decide) ?_
        refine g_icmp_lt (pc' := 51) (tgt := 54) C dX6_stick_48 (by decide) rfl h (fun c h => ?_) (fun c h => ?_)
        · refine g_aload_n (pc' := 55) C dX6_stick_54 rfl rfl ?_
          refine k_X6_records (pc' := 58) C a N M [0] rfl (by decide) gX6_stick_X6_records ⟨Nat.le_of_ble_eq_true rfl, Nat.le_of_ble_eq_true rfl⟩ (Nat.le_of_ble_eq_true rfl) rfl dX6_stick_55 rfl h (fun M5 h => ?_)
          show G X _ [mdW (gcA X) a M5] _ _ _
          refine g_aload_n (pc' := 59) C dX6_stick_58 rfl rfl ?_
          refine g_iload_n (pc' := 60) C dX6_stick_59 rfl rfl ?_
          refine g_iconst (pc' := 61) (v := 3) C dX6_stick_60 (by decide) rfl ?_
          refine g_iload_n (pc' := 62) C dX6_stick_61 rfl rfl ?_
          refine g_iadd (pc' := 63) C dX6_stick_62 rfl ?_
          refine g_aload_n (pc' := 64) C dX6_stick_63 rfl rfl ?_
          refine g_iload_n (pc' := 65) C dX6_stick_64 rfl rfl ?_
          refine g_iconst (pc' := 66) (v := 3) C dX6_stick_65 (by decide) rfl ?_
          refine g_iload_n (pc' := 67) C dX6_stick_66 rfl rfl ?_
          refine g_iadd (pc' := 68) C dX6_stick_67 rfl ?_
          refine k_X6_of (pc' := 71) C a N M5 p1 ((3 : Int32) + p0) [0] rfl (by decide) gX6_stick_X6_of ⟨Nat.le_of_ble_eq_true rfl, Nat.le_of_ble_eq_true rfl⟩ (Nat.le_of_ble_eq_true rfl) rfl dX6_stick_68 rfl h (fun r6 h => ?_)
          refine g_iconst (pc' := 72) (v := 1) C dX6_stick_71 (by decide) rfl ?_
          refine g_iadd (pc' := 73) C dX6_stick_72 rfl ?_
          refine k_X6_lays (pc' := 76) C a N M5 p1 ((3 : Int32) + p0) (r6 + (1 : Int32)) [0] rfl (by decide) gX6_stick_X6_lays ⟨Nat.le_of_ble_eq_true rfl, Nat.le_of_ble_eq_true rfl⟩ (Nat.le_of_ble_eq_true rfl) rfl dX6_stick_73 rfl h (fun M7 h => ?_)
          show G X _ [mdW (gcA X) a M7] _ _ _
          refine g_aload_n (pc' := 77) C dX6_stick_76 rfl rfl ?_
          refine g_iload_n (pc' := 78) C dX6_stick_77 rfl rfl ?_
          refine k_X6_dotsOf (pc' := 81) C a N M7 p1 [0] rfl (by decide) gX6_stick_X6_dotsOf ⟨Nat.le_of_ble_eq_true rfl, Nat.le_of_ble_eq_true rfl⟩ (Nat.le_of_ble_eq_true rfl) rfl dX6_stick_78 rfl h (fun r8 h => ?_)
          obtain ⟨rfl, rfl⟩ := pj2 (Option.some.inj h)
          exact g_iret C dX6_stick_81
        · refine g_bipush (pc' := 53) (v := -4) C dX6_stick_51 (by decide) rfl ?_
          obtain ⟨rfl, rfl⟩ := pj2 (Option.some.inj h)
          exact g_iret C dX6_stick_53
      · refine g_bipush (pc' := 33) (v := -3) C dX6_stick_31 (by decide) rfl ?_
        obtain ⟨rfl, rfl⟩ := pj2 (Option.some.inj h)
        exact g_iret C dX6_stick_33
set_option maxRecDepth 100000 in
set_option maxHeartbeats 4000000 in
theorem c_X6_stick (l : Launch) (D : va_G) (cA : Nat → ClassId) (a : Nat → Nat) (N : Nat) (M : tS) (p0 : Int32) (p1 : Int32) (r : Int32) (Mz : tS) (h : f_X6_stick N M p0 p1 = some (r, Mz)) : MI l D cA yX6_stick wsX6_stick 2 45 [.ref (a 0), .int p0, .int p1] [mdW cA a M] r [mdW cA a Mz] := MI_of (cc := cX6_stick) (maxL := 3) (rt := some .int) (by decide +kernel) rfl (List.forall_mem_cons.mpr ⟨rfl, List.forall_mem_cons.mpr ⟨rfl, List.forall_mem_cons.mpr ⟨rfl, List.forall_mem_nil _⟩⟩⟩) (Nat.le_of_ble_eq_true rfl) (fun X e1 e2 e3 C => by subst e1; subst e2; subst e3; exact B_X6_stick C a N M p0 p1 r Mz h)
set_option maxRecDepth 100000 in
set_option maxHeartbeats 4000000 in
theorem nd_X6_stick : nd yX6_stick 2 := ⟨by decide +kernel, by decide +kernel, by decide +kernel⟩
set_option maxRecDepth 100000 in
set_option maxHeartbeats 4000000 in
theorem k_X6_stick {X : gX} {own : String} {cc : ByteArray} {nL : Nat} {ret : Option FieldType} {Ts : List Cond} {fr lm : Nat} {Q : State → Prop} {ms : List va_W} {L : List (Option Value)} {st : List Value} {pc pc' idx : Nat} {ρ : Type} {T : Int32 → tS → Option ρ} {res : ρ} (C : cx X own cc nL ret Ts fr lm) (a : Nat → Nat) (N : Nat) (M : tS) (p0 : Int32) (p1 : Int32) (is : List Nat) (hC : is.map (fun i => ms[i]?) = [some (mdW (gcA X) a M)]) (hn : is.Nodup) (hG : GoodIn Ts (wsV own idx RX6 yX6_stick wsX6_stick)) (hR : 2 + 1 ≤ fr ∧ 8 + (3 + 11) + 45 ≤ lm) (hst : (st.map fun v => v.category).sum ≤ 8) (hLn : L.length = nL) (d : decode cc pc = .ok (.invokevirtual idx, 3)) (hp : pc + 3 = pc') (h : bd2 (f_X6_stick N M p0 p1) T = some res) (kk : ∀ (r : Int32) (Mz : tS), T r Mz = some res → G X Q (rpl ms is [mdW (gcA X) a Mz]) L (.int r :: st) pc') : G X Q ms L (.int p1 :: .int p0 :: .ref (a 0) :: st) pc := by
  obtain ⟨r, Mz, h1, h⟩ := ob2 h
  exact G_callVI C (As := [.int p0, .int p1]) (c_X6_stick (gl X) (gD X) (gcA X) a N M p0 p1 r Mz h1) hG rfl nd_X6_stick hR (q0 := 0) rfl rfl hC hn rfl rfl hst hLn d hp (kk r Mz h)
def f_X6_unstick (N : Nat) (M : tS) (p0 : Int32) (p1 : Int32) : Option (Int32 × tS) := (bd (f_X6_isPerson N p0) (fun r1 => (if r1 = 0 then some ((-1 : Int32), M) else (bd (f_X6_isNote N M p1) (fun r2 => (if r2 = 0 then some ((-1 : Int32), M) else (bd (f_X6_of N M p1 ((3 : Int32) + p0)) (fun r3 => (if r3 = 0 then some ((-4 : Int32), M) else (bd (f_X6_records N M) (fun M4 => (bd (f_X6_of N M4 p1 ((3 : Int32) + p0)) (fun r5 => (bd (f_X6_lays N M4 p1 ((3 : Int32) + p0) (r5 - (1 : Int32))) (fun M6 => (bd (f_X6_dotsOf N M6 p1) (fun r7 => some (r7, M6))))))))))))))))))
set_option maxRecDepth 100000 in
set_option maxHeartbeats 4000000 in
theorem B_X6_unstick {X : gX} (C : cx X RX6 cX6_unstick 3 (some .int) wsX6_unstick 2 45) (a : Nat → Nat) (N : Nat) (M : tS) (p0 : Int32) (p1 : Int32) (r : Int32) (Mz : tS) (h : f_X6_unstick N M p0 p1 = some (r, Mz)) : G X (QI X r [mdW (gcA X) a Mz]) [mdW (gcA X) a M] [some (.ref (a 0)), some (.int p0), some (.int p1)] [] 0 := by
  unfold f_X6_unstick at h
  refine g_iload_n (pc' := 1) C dX6_unstick_0 rfl rfl ?_
  refine k_X6_isPerson (pc' := 4) C N p0 [] rfl (by decide) gX6_unstick_X6_isPerson ⟨Nat.le_of_ble_eq_true rfl, Nat.le_of_ble_eq_true rfl⟩ (Nat.le_of_ble_eq_true rfl) rfl dX6_unstick_1 rfl h (fun r1 h => ?_)
  refine g_if_eq (pc' := 7) (tgt := 15) C dX6_unstick_4 (by decide) rfl h (fun c h => ?_) (fun c h => ?_)
  · refine g_iconst (pc' := 16) (v := -1) C dX6_unstick_15 (by decide) rfl ?_
    obtain ⟨rfl, rfl⟩ := pj2 (Option.some.inj h)
    exact g_iret C dX6_unstick_16
  · refine g_aload_n (pc' := 8) C dX6_unstick_7 rfl rfl ?_
    refine g_iload_n (pc' := 9) C dX6_unstick_8 rfl rfl ?_
    refine k_X6_isNote (pc' := 12) C a N M p1 [0] rfl (by decide) gX6_unstick_X6_isNote ⟨Nat.le_of_ble_eq_true rfl, Nat.le_of_ble_eq_true rfl⟩ (Nat.le_of_ble_eq_true rfl) rfl dX6_unstick_9 rfl h (fun r2 h => ?_)
    refine g_if_ne (pc' := 15) (tgt := 17) C dX6_unstick_12 (by decide) rfl h (fun c h => ?_) (fun c h => ?_)
    · refine g_iconst (pc' := 16) (v := -1) C dX6_unstick_15 (by decide) rfl ?_
      obtain ⟨rfl, rfl⟩ := pj2 (Option.some.inj h)
      exact g_iret C dX6_unstick_16
    · refine g_aload_n (pc' := 18) C dX6_unstick_17 rfl rfl ?_
      refine g_iload_n (pc' := 19) C dX6_unstick_18 rfl rfl ?_
      refine g_iconst (pc' := 20) (v := 3) C dX6_unstick_19 (by decide) rfl ?_
      refine g_iload_n (pc' := 21) C dX6_unstick_20 rfl rfl ?_
      refine g_iadd (pc' := 22) C dX6_unstick_21 rfl ?_
      refine k_X6_of (pc' := 25) C a N M p1 ((3 : Int32) + p0) [0] rfl (by decide) gX6_unstick_X6_of ⟨Nat.le_of_ble_eq_true rfl, Nat.le_of_ble_eq_true rfl⟩ (Nat.le_of_ble_eq_true rfl) rfl dX6_unstick_22 rfl h (fun r3 h => ?_)
      refine g_if_ne (pc' := 28) (tgt := 31) C dX6_unstick_25 (by decide) rfl h (fun c h => ?_) (fun c h => ?_)
      · refine g_bipush (pc' := 30) (v := -4) C dX6_unstick_28 (by decide) rfl ?_
        obtain ⟨rfl, rfl⟩ := pj2 (Option.some.inj h)
        exact g_iret C dX6_unstick_30
      · refine g_aload_n (pc' := 32) C dX6_unstick_31 rfl rfl ?_
        refine k_X6_records (pc' := 35) C a N M [0] rfl (by decide) gX6_unstick_X6_records ⟨Nat.le_of_ble_eq_true rfl, Nat.le_of_ble_eq_true rfl⟩ (Nat.le_of_ble_eq_true rfl) rfl dX6_unstick_32 rfl h (fun M4 h => ?_)
        show G X _ [mdW (gcA X) a M4] _ _ _
        refine g_aload_n (pc' := 36) C dX6_unstick_35 rfl rfl ?_
        refine g_iload_n (pc' := 37) C dX6_unstick_36 rfl rfl ?_
        refine g_iconst (pc' := 38) (v := 3) C dX6_unstick_37 (by decide) rfl ?_
        refine g_iload_n (pc' := 39) C dX6_unstick_38 rfl rfl ?_
        refine g_iadd (pc' := 40) C dX6_unstick_39 rfl ?_
        refine g_aload_n (pc' := 41) C dX6_unstick_40 rfl rfl ?_
        refine g_iload_n (pc' := 42) C dX6_unstick_41 rfl rfl ?_
        refine g_iconst (pc' := 43) (v := 3) C dX6_unstick_42 (by decide) rfl ?_
        refine g_iload_n (pc' := 44) C dX6_unstick_43 rfl rfl ?_
        refine g_iadd (pc' := 45) C dX6_unstick_44 rfl ?_
        refine k_X6_of (pc' := 48) C a N M4 p1 ((3 : Int32) + p0) [0] rfl (by decide) gX6_unstick_X6_of ⟨Nat.le_of_ble_eq_true rfl, Nat.le_of_ble_eq_true rfl⟩ (Nat.le_of_ble_eq_true rfl) rfl dX6_unstick_45 rfl h (fun r5 h => ?_)
        refine g_iconst (pc' := 49) (v := 1) C dX6_unstick_48 (by decide) rfl ?_
        refine g_isub (pc' := 50) C dX6_unstick_49 rfl ?_
        refine k_X6_lays (pc' := 53) C a N M4 p1 ((3 : Int32) + p0) (r5 - (1 : Int32)) [0] rfl (by decide) gX6_unstick_X6_lays ⟨Nat.le_of_ble_eq_true rfl, Nat.le_of_ble_eq_true rfl⟩ (Nat.le_of_ble_eq_true rfl) rfl dX6_unstick_50 rfl h (fun M6 h => ?_)
        show G X _ [mdW (gcA X) a M6] _ _ _
        refine g_aload_n (pc' := 54) C dX6_unstick_53 rfl rfl ?_
        refine g_iload_n (pc' := 55) C dX6_unstick_54 rfl rfl ?_
        refine k_X6_dotsOf (pc' := 58) C a N M6 p1 [0] rfl (by decide) gX6_unstick_X6_dotsOf ⟨Nat.le_of_ble_eq_true rfl, Nat.le_of_ble_eq_true rfl⟩ (Nat.le_of_ble_eq_true rfl) rfl dX6_unstick_55 rfl h (fun r7 h => ?_)
        obtain ⟨rfl, rfl⟩ := pj2 (Option.some.inj h)
        exact g_iret C dX6_unstick_58
set_option maxRecDepth 100000 in
set_option maxHeartbeats 4000000 in
theorem c_X6_unstick (l : Launch) (D : va_G) (cA : Nat → ClassId) (a : Nat → Nat) (N : Nat) (M : tS) (p0 : Int32) (p1 : Int32) (r : Int32) (Mz : tS) (h : f_X6_unstick N M p0 p1 = some (r, Mz)) : MI l D cA yX6_unstick wsX6_unstick 2 45 [.ref (a 0), .int p0, .int p1] [mdW cA a M] r [mdW cA a Mz] := MI_of (cc := cX6_unstick) (maxL := 3) (rt := some .int) (by decide +kernel) rfl (List.forall_mem_cons.mpr ⟨rfl, List.forall_mem_cons.mpr ⟨rfl, List.forall_mem_cons.mpr ⟨rfl, List.forall_mem_nil _⟩⟩⟩) (Nat.le_of_ble_eq_true rfl) (fun X e1 e2 e3 C => by subst e1; subst e2; subst e3; exact B_X6_unstick C a N M p0 p1 r Mz h)
set_option maxRecDepth 100000 in
set_option maxHeartbeats 4000000 in
theorem nd_X6_unstick : nd yX6_unstick 2 := ⟨by decide +kernel, by decide +kernel, by decide +kernel⟩
set_option maxRecDepth 100000 in
set_option maxHeartbeats 4000000 in
theorem k_X6_unstick {X : gX} {own : String} {cc : ByteArray} {nL : Nat} {ret : Option FieldType} {Ts : List Cond} {fr lm : Nat} {Q : State → Prop} {ms : List va_W} {L : List (Option Value)} {st : List Value} {pc pc' idx : Nat} {ρ : Type} {T : Int32 → tS → Option ρ} {res : ρ} (C : cx X own cc nL ret Ts fr lm) (a : Nat → Nat) (N : Nat) (M : tS) (p0 : Int32) (p1 : Int32) (is : List Nat) (hC : is.map (fun i => ms[i]?) = [some (mdW (gcA X) a M)]) (hn : is.Nodup) (hG : GoodIn Ts (wsV own idx RX6 yX6_unstick wsX6_unstick)) (hR : 2 + 1 ≤ fr ∧ 8 + (3 + 11) + 45 ≤ lm) (hst : (st.map fun v => v.category).sum ≤ 8) (hLn : L.length = nL) (d : decode cc pc = .ok (.invokevirtual idx, 3)) (hp : pc + 3 = pc') (h : bd2 (f_X6_unstick N M p0 p1) T = some res) (kk : ∀ (r : Int32) (Mz : tS), T r Mz = some res → G X Q (rpl ms is [mdW (gcA X) a Mz]) L (.int r :: st) pc') : G X Q ms L (.int p1 :: .int p0 :: .ref (a 0) :: st) pc := by
  obtain ⟨r, Mz, h1, h⟩ := ob2 h
  exact G_callVI C (As := [.int p0, .int p1]) (c_X6_unstick (gl X) (gD X) (gcA X) a N M p0 p1 r Mz h1) hG rfl nd_X6_unstick hR (q0 := 0) rfl rfl hC hn rfl rfl hst hLn d hp (kk r Mz h)
theorem hi_X6_without_X6 : ∀ w ∈ wsX60, w ∈ wsX6_without := fun w h => List.mem_cons_of_mem _ (List.mem_append_right _ h)
theorem lk_X6_without_1 : Cond.fieldLink RX6 7 "NoteThemesModel" "s" "[I" ∈ wsX6_without := List.mem_of_getElem? (i := 1) rfl
theorem lk_X6_without_2 : Cond.fieldLink RX6 23 "NoteThemesModel" "heapOf" "[I" ∈ wsX6_without := List.mem_of_getElem? (i := 2) rfl
def f_X6_without_38 (N : Nat) (M : tS) (p0 : Int32) (k4 : Int32 → Int32 → Option (Int32)) (x3 : Int32) (t0 : Int32) (t1 : Int32) : Option (Int32) := k4 (t1 + t0) (x3 + 1)
set_option maxRecDepth 100000 in
set_option maxHeartbeats 4000000 in
theorem B_X6_without_38 {X : gX} (C : cx X RX6 cX6_without 4 (some .int) wsX6_without 2 43) (a : Nat → Nat) (N : Nat) (M : tS) (p0 : Int32) (r : Int32) (k4 : Int32 → Int32 → Option (Int32)) (hk4 : ∀ (x2 : Int32) (x3 : Int32), k4 x2 x3 = some r → G X (QI X r [mdW (gcA X) a M]) [mdW (gcA X) a M] [some (.ref (a 0)), some (.int p0), some (.int x2), some (.int x3)] [] 4) (x3 : Int32) (t0 : Int32) (t1 : Int32) (h : f_X6_without_38 N M p0 k4 x3 t0 t1 = some r) : G X (QI X r [mdW (gcA X) a M]) [mdW (gcA X) a M] [some (.ref (a 0)), some (.int p0), none, some (.int x3)] [.int t0, .int t1] 38 := by
  unfold f_X6_without_38 at h
  refine g_iadd (pc' := 39) C dX6_without_38 rfl ?_
  refine g_istore_n (pc' := 40) C dX6_without_39 (Nat.le_of_ble_eq_true rfl) rfl (L' := [some (.ref (a 0)), some (.int p0), some (.int (t1 + t0)), some (.int x3)]) rfl ?_
  refine g_iinc (pc' := 43) (v := (x3 + 1)) C dX6_without_40 rfl rfl rfl (L' := [some (.ref (a 0)), some (.int p0), some (.int (t1 + t0)), some (.int (x3 + 1))]) rfl ?_
  refine g_goto (pc' := 4) C dX6_without_43 (by decide) ?_
  exact G_loc (lle_s (lle_s (lle_s (lle_s lle_0)))) (hk4 (t1 + t0) (x3 + 1) h)
def f_X6_without_37 (N : Nat) (M : tS) (p0 : Int32) (k4 : Int32 → Int32 → Option (Int32)) (x3 : Int32) (t0 : Int32) : Option (Int32) := f_X6_without_38 N M p0 k4 x3 (0 : Int32) t0
set_option maxRecDepth 100000 in
set_option maxHeartbeats 4000000 in
theorem B_X6_without_37 {X : gX} (C : cx X RX6 cX6_without 4 (some .int) wsX6_without 2 43) (a : Nat → Nat) (N : Nat) (M : tS) (p0 : Int32) (r : Int32) (k4 : Int32 → Int32 → Option (Int32)) (hk4 : ∀ (x2 : Int32) (x3 : Int32), k4 x2 x3 = some r → G X (QI X r [mdW (gcA X) a M]) [mdW (gcA X) a M] [some (.ref (a 0)), some (.int p0), some (.int x2), some (.int x3)] [] 4) (x3 : Int32) (t0 : Int32) (h : f_X6_without_37 N M p0 k4 x3 t0 = some r) : G X (QI X r [mdW (gcA X) a M]) [mdW (gcA X) a M] [some (.ref (a 0)), some (.int p0), none, some (.int x3)] [.int t0] 37 := by
  unfold f_X6_without_37 at h
  refine g_iconst (pc' := 38) (v := 0) C dX6_without_37 (by decide) rfl ?_
  exact G_loc (lle_s (lle_s (lle_n (lle_s lle_0)))) (B_X6_without_38 C a N M p0 r k4 hk4 x3 (0 : Int32) t0 h)
def f_X6_without_4b (N : Nat) (M : tS) (p0 : Int32)  (k4 : Int32 → Int32 → Option (Int32)) (x2 : Int32) (x3 : Int32) : Option (Int32) := (if (M 0 (0 : Int32).toNatClampNeg) ≤ x3 then some x2 else (if x3 < 0 ∨ 20 ≤ x3.toNatClampNeg then none else (if (M 7 x3.toNatClampNeg) = p0 then (bd (f_X6_themeOf N M x3) (fun r1 => (if 0 ≤ r1 then f_X6_without_37 N M p0 k4 x3 x2 else f_X6_without_38 N M p0 k4 x3 (1 : Int32) x2))) else f_X6_without_37 N M p0 k4 x3 x2)))
def f_X6_without_4 (N : Nat) (M : tS) (p0 : Int32)  : Nat → Int32 → Int32 → Option (Int32)
  | 0 => fun _ _ => none
  | n + 1 => f_X6_without_4b N M p0  (f_X6_without_4 N M p0  n)
set_option maxRecDepth 100000 in
set_option maxHeartbeats 4000000 in
theorem B_X6_without_4b {X : gX} (C : cx X RX6 cX6_without 4 (some .int) wsX6_without 2 43) (a : Nat → Nat) (N : Nat) (M : tS) (p0 : Int32) (r : Int32)  (k4 : Int32 → Int32 → Option (Int32)) (hk4 : ∀ (x2 : Int32) (x3 : Int32), k4 x2 x3 = some r → G X (QI X r [mdW (gcA X) a M]) [mdW (gcA X) a M] [some (.ref (a 0)), some (.int p0), some (.int x2), some (.int x3)] [] 4) (x2 : Int32) (x3 : Int32) (h : f_X6_without_4b N M p0  k4 x2 x3 = some r) : G X (QI X r [mdW (gcA X) a M]) [mdW (gcA X) a M] [some (.ref (a 0)), some (.int p0), some (.int x2), some (.int x3)] [] 4 := by
  unfold f_X6_without_4b at h
  refine g_iload_n (pc' := 5) C dX6_without_4 rfl rfl ?_
  refine g_aload_n (pc' := 6) C dX6_without_5 rfl rfl ?_
  refine gg_X6_0 (pc' := 9) (i := 0) C rfl hi_X6_without_X6 lk_X6_without_1 dX6_without_6 rfl ?_
  refine g_iconst (pc' := 10) (v := 0) C dX6_without_9 (by decide) rfl ?_
  refine g_iald0 (pc' := 11) (i := 0) (j := 1) C rfl rfl dX6_without_10 rfl (by unfold vp_in; decide) ?_
  refine g_icmp_ge (pc' := 14) (tgt := 46) C dX6_without_11 (by decide) rfl h (fun c h => ?_) (fun c h => ?_)
  · refine g_iload_n (pc' := 47) C dX6_without_46 rfl rfl ?_
    obtain rfl := Option.some.inj h
    exact g_iret C dX6_without_47
  · refine g_iload_n (pc' := 15) C dX6_without_14 rfl rfl ?_
    refine g_aload_n (pc' := 16) C dX6_without_15 rfl rfl ?_
    refine gg_X6_7 (pc' := 19) (i := 0) C rfl hi_X6_without_X6 lk_X6_without_2 dX6_without_16 rfl ?_
    refine g_iload_n (pc' := 20) C dX6_without_19 rfl rfl ?_
    refine g_iald (pc' := 21) (i := 0) (j := 5) C rfl rfl dX6_without_20 rfl h (fun h => ?_)
    refine g_iload_n (pc' := 22) C dX6_without_21 rfl rfl ?_
    refine g_icmp_ne (pc' := 25) (tgt := 37) C dX6_without_22 (by decide) rfl h (fun c h => ?_) (fun c h => ?_)
    · refine g_aload_n (pc' := 26) C dX6_without_25 rfl rfl ?_
      refine g_iload_n (pc' := 27) C dX6_without_26 rfl rfl ?_
      refine k_X6_themeOf (pc' := 30) C a N M x3 [0] rfl (by decide) gX6_without_X6_themeOf ⟨Nat.le_of_ble_eq_true rfl, Nat.le_of_ble_eq_true rfl⟩ (Nat.le_of_ble_eq_true rfl) rfl dX6_without_27 rfl h (fun r1 h => ?_)
      refine g_if_ge (pc' := 33) (tgt := 37) C dX6_without_30 (by decide) rfl h (fun c h => ?_) (fun c h => ?_)
      · exact G_loc (lle_s (lle_s (lle_n (lle_s lle_0)))) (B_X6_without_37 C a N M p0 r k4 hk4 x3 x2 h)
      · refine g_iconst (pc' := 34) (v := 1) C dX6_without_33 (by decide) rfl ?_
        refine g_goto (pc' := 38) C dX6_without_34 (by decide) ?_
        exact G_loc (lle_s (lle_s (lle_n (lle_s lle_0)))) (B_X6_without_38 C a N M p0 r k4 hk4 x3 (1 : Int32) x2 h)
    · exact G_loc (lle_s (lle_s (lle_n (lle_s lle_0)))) (B_X6_without_37 C a N M p0 r k4 hk4 x3 x2 h)
set_option maxRecDepth 100000 in
set_option maxHeartbeats 4000000 in
theorem L_X6_without_4 {X : gX} (C : cx X RX6 cX6_without 4 (some .int) wsX6_without 2 43) (a : Nat → Nat) (N : Nat) (M : tS) (p0 : Int32) (r : Int32)  : ∀ (n : Nat) (x2 : Int32) (x3 : Int32), f_X6_without_4 N M p0  n x2 x3 = some r → G X (QI X r [mdW (gcA X) a M]) [mdW (gcA X) a M] [some (.ref (a 0)), some (.int p0), some (.int x2), some (.int x3)] [] 4 := by
  intro n
  induction n with
  | zero => intro x2 x3 h; have h : (none : Option (Int32)) = some r := h; cases h
  | succ n ih => intro x2 x3 h; exact B_X6_without_4b C a N M p0 r  (f_X6_without_4 N M p0  n) ih x2 x3 h
def f_X6_without (N : Nat) (M : tS) (p0 : Int32) : Option (Int32) := f_X6_without_4 N M p0 N (0 : Int32) (0 : Int32)
set_option maxRecDepth 100000 in
set_option maxHeartbeats 4000000 in
theorem B_X6_without {X : gX} (C : cx X RX6 cX6_without 4 (some .int) wsX6_without 2 43) (a : Nat → Nat) (N : Nat) (M : tS) (p0 : Int32) (r : Int32) (h : f_X6_without N M p0 = some r) : G X (QI X r [mdW (gcA X) a M]) [mdW (gcA X) a M] [some (.ref (a 0)), some (.int p0), none, none] [] 0 := by
  unfold f_X6_without at h
  refine g_iconst (pc' := 1) (v := 0) C dX6_without_0 (by decide) rfl ?_
  refine g_istore_n (pc' := 2) C dX6_without_1 (Nat.le_of_ble_eq_true rfl) rfl (L' := [some (.ref (a 0)), some (.int p0), some (.int (0 : Int32)), none]) rfl ?_
  refine g_iconst (pc' := 3) (v := 0) C dX6_without_2 (by decide) rfl ?_
  refine g_istore_n (pc' := 4) C dX6_without_3 (Nat.le_of_ble_eq_true rfl) rfl (L' := [some (.ref (a 0)), some (.int p0), some (.int (0 : Int32)), some (.int (0 : Int32))]) rfl ?_
  exact G_loc (lle_s (lle_s (lle_s (lle_s lle_0)))) (L_X6_without_4 C a N M p0 r N (0 : Int32) (0 : Int32) h)
set_option maxRecDepth 100000 in
set_option maxHeartbeats 4000000 in
theorem c_X6_without (l : Launch) (D : va_G) (cA : Nat → ClassId) (a : Nat → Nat) (N : Nat) (M : tS) (p0 : Int32) (r : Int32) (h : f_X6_without N M p0 = some r) : MI l D cA yX6_without wsX6_without 2 43 [.ref (a 0), .int p0] [mdW cA a M] r [mdW cA a M] := MI_of (cc := cX6_without) (maxL := 4) (rt := some .int) (by decide +kernel) rfl (List.forall_mem_cons.mpr ⟨rfl, List.forall_mem_cons.mpr ⟨rfl, List.forall_mem_nil _⟩⟩) (Nat.le_of_ble_eq_true rfl) (fun X e1 e2 e3 C => by subst e1; subst e2; subst e3; exact B_X6_without C a N M p0 r h)
set_option maxRecDepth 100000 in
set_option maxHeartbeats 4000000 in
theorem nd_X6_without : nd yX6_without 1 := ⟨by decide +kernel, by decide +kernel, by decide +kernel⟩
set_option maxRecDepth 100000 in
set_option maxHeartbeats 4000000 in
theorem k_X6_without {X : gX} {own : String} {cc : ByteArray} {nL : Nat} {ret : Option FieldType} {Ts : List Cond} {fr lm : Nat} {Q : State → Prop} {ms : List va_W} {L : List (Option Value)} {st : List Value} {pc pc' idx : Nat} {ρ : Type} {T : Int32 → Option ρ} {res : ρ} (C : cx X own cc nL ret Ts fr lm) (a : Nat → Nat) (N : Nat) (M : tS) (p0 : Int32) (is : List Nat) (hC : is.map (fun i => ms[i]?) = [some (mdW (gcA X) a M)]) (hn : is.Nodup) (hG : GoodIn Ts (wsV own idx RX6 yX6_without wsX6_without)) (hR : 2 + 1 ≤ fr ∧ 8 + (4 + 11) + 43 ≤ lm) (hst : (st.map fun v => v.category).sum ≤ 8) (hLn : L.length = nL) (d : decode cc pc = .ok (.invokevirtual idx, 3)) (hp : pc + 3 = pc') (h : bd (f_X6_without N M p0) T = some res) (kk : ∀ (r : Int32), T r = some res → G X Q (ms) L (.int r :: st) pc') : G X Q ms L (.int p0 :: .ref (a 0) :: st) pc := by
  obtain ⟨r, h1, h⟩ := ob h
  exact G_callVI C (As := [.int p0]) (c_X6_without (gl X) (gD X) (gcA X) a N M p0 r h1) hG rfl nd_X6_without hR (q0 := 0) rfl rfl hC hn rfl rfl hst hLn d hp (G_ms (rpl_same (mc := [mdW (gcA X) a M]) hC) (kk r h))
theorem hi_X6_make_X6 : ∀ w ∈ wsX60, w ∈ wsX6_make := fun w h => List.mem_cons_of_mem _ (List.mem_append_right _ h)
theorem lk_X6_make_1 : Cond.fieldLink RX6 7 "NoteThemesModel" "s" "[I" ∈ wsX6_make := List.mem_of_getElem? (i := 1) rfl
theorem lk_X6_make_2 : Cond.fieldLink RX6 23 "NoteThemesModel" "heapOf" "[I" ∈ wsX6_make := List.mem_of_getElem? (i := 2) rfl
def f_X6_make_97b (N : Nat) (p0 : Int32)  (k97 : Int32 → tS → Option (Int32 × tS)) (x2 : Int32) (M : tS) : Option (Int32 × tS) := (if (6 : Int32) ≤ x2 then (if (1 : Int32) < 0 ∨ 233 ≤ (1 : Int32).toNatClampNeg then none else some ((((upd (M 0) (1 : Int32).toNatClampNeg ((M 0 (1 : Int32).toNatClampNeg) + (1 : Int32))) (1 : Int32).toNatClampNeg) - (1 : Int32)), (va_up M 0 (upd (M 0) (1 : Int32).toNatClampNeg ((M 0 (1 : Int32).toNatClampNeg) + (1 : Int32)))))) else (if (((185 : Int32) + ((6 : Int32) * (M 0 (1 : Int32).toNatClampNeg))) + x2) < 0 ∨ 233 ≤ (((185 : Int32) + ((6 : Int32) * (M 0 (1 : Int32).toNatClampNeg))) + x2).toNatClampNeg then none else k97 (x2 + 1) (va_up M 0 (upd (M 0) (((185 : Int32) + ((6 : Int32) * (M 0 (1 : Int32).toNatClampNeg))) + x2).toNatClampNeg (0 : Int32)))))
def f_X6_make_97 (N : Nat) (p0 : Int32)  : Nat → Int32 → tS → Option (Int32 × tS)
  | 0 => fun _ _ => none
  | n + 1 => f_X6_make_97b N p0  (f_X6_make_97 N p0  n)
set_option maxRecDepth 100000 in
set_option maxHeartbeats 4000000 in
theorem B_X6_make_97b {X : gX} (C : cx X RX6 cX6_make 3 (some .int) wsX6_make 5 114) (a : Nat → Nat) (N : Nat) (p0 : Int32) (r : Int32) (Mz : tS)  (k97 : Int32 → tS → Option (Int32 × tS)) (hk97 : ∀ (x2 : Int32) (M : tS), k97 x2 M = some (r, Mz) → G X (QI X r [mdW (gcA X) a Mz]) [mdW (gcA X) a M] [some (.ref (a 0)), some (.int p0), some (.int x2)] [] 97) (x2 : Int32) (M : tS) (h : f_X6_make_97b N p0  k97 x2 M = some (r, Mz)) : G X (QI X r [mdW (gcA X) a Mz]) [mdW (gcA X) a M] [some (.ref (a 0)), some (.int p0), some (.int x2)] [] 97 := by
  unfold f_X6_make_97b at h
  refine g_iload_n (pc' := 98) C dX6_make_97 rfl rfl ?_
  refine g_bipush (pc' := 100) (v := 6) C dX6_make_98 (by decide) rfl ?_
  refine g_icmp_ge (pc' := 103) (tgt := 130) C dX6_make_100 (by decide) rfl h (fun c h => ?_) (fun c h => ?_)
  · refine g_aload_n (pc' := 131) C dX6_make_130 rfl rfl ?_
    refine gg_X6_0 (pc' := 134) (i := 0) C rfl hi_X6_make_X6 lk_X6_make_1 dX6_make_131 rfl ?_
    refine g_iconst (pc' := 135) (v := 1) C dX6_make_134 (by decide) rfl ?_
    refine g_dup2 (pc' := 136) C dX6_make_135 rfl rfl rfl ?_
    refine g_iald0 (pc' := 137) (i := 0) (j := 1) C rfl rfl dX6_make_136 rfl (by unfold vp_in; decide) ?_
    refine g_iconst (pc' := 138) (v := 1) C dX6_make_137 (by decide) rfl ?_
    refine g_iadd (pc' := 139) C dX6_make_138 rfl ?_
    refine g_iast (pc' := 140) (i := 0) (j := 1) (w' := mdW (gcA X) a (va_up M 0 (upd (M 0) (1 : Int32).toNatClampNeg ((M 0 (1 : Int32).toNatClampNeg) + (1 : Int32))))) C rfl rfl rfl dX6_make_139 rfl h (fun h => ?_)
    show G X _ [mdW (gcA X) a (va_up M 0 (upd (M 0) (1 : Int32).toNatClampNeg ((M 0 (1 : Int32).toNatClampNeg) + (1 : Int32))))] _ _ _
    refine g_aload_n (pc' := 141) C dX6_make_140 rfl rfl ?_
    refine gg_X6_0 (pc' := 144) (i := 0) C rfl hi_X6_make_X6 lk_X6_make_1 dX6_make_141 rfl ?_
    refine g_iconst (pc' := 145) (v := 1) C dX6_make_144 (by decide) rfl ?_
    refine g_iald0 (pc' := 146) (i := 0) (j := 1) C rfl rfl dX6_make_145 rfl (by unfold vp_in; decide) ?_
    refine g_vi (v := ((upd (M 0) (1 : Int32).toNatClampNeg ((M 0 (1 : Int32).toNatClampNeg) + (1 : Int32))) (1 : Int32).toNatClampNeg)) rfl ?_
    refine g_iconst (pc' := 147) (v := 1) C dX6_make_146 (by decide) rfl ?_
    refine g_isub (pc' := 148) C dX6_make_147 rfl ?_
    obtain ⟨rfl, rfl⟩ := pj2 (Option.some.inj h)
    exact g_iret C dX6_make_148
  · refine g_aload_n (pc' := 104) C dX6_make_103 rfl rfl ?_
    refine gg_X6_0 (pc' := 107) (i := 0) C rfl hi_X6_make_X6 lk_X6_make_1 dX6_make_104 rfl ?_
    refine g_sipush (pc' := 110) (v := 185) C dX6_make_107 (by decide) rfl ?_
    refine g_bipush (pc' := 112) (v := 6) C dX6_make_110 (by decide) rfl ?_
    refine g_aload_n (pc' := 113) C dX6_make_112 rfl rfl ?_
    refine gg_X6_0 (pc' := 116) (i := 0) C rfl hi_X6_make_X6 lk_X6_make_1 dX6_make_113 rfl ?_
    refine g_iconst (pc' := 117) (v := 1) C dX6_make_116 (by decide) rfl ?_
    refine g_iald0 (pc' := 118) (i := 0) (j := 1) C rfl rfl dX6_make_117 rfl (by unfold vp_in; decide) ?_
    refine g_imul (pc' := 119) C dX6_make_118 rfl ?_
    refine g_iadd (pc' := 120) C dX6_make_119 rfl ?_
    refine g_iload_n (pc' := 121) C dX6_make_120 rfl rfl ?_
    refine g_iadd (pc' := 122) C dX6_make_121 rfl ?_
    refine g_iconst (pc' := 123) (v := 0) C dX6_make_122 (by decide) rfl ?_
    refine g_iast (pc' := 124) (i := 0) (j := 1) (w' := mdW (gcA X) a (va_up M 0 (upd (M 0) (((185 : Int32) + ((6 : Int32) * (M 0 (1 : Int32).toNatClampNeg))) + x2).toNatClampNeg (0 : Int32)))) C rfl rfl rfl dX6_make_123 rfl h (fun h => ?_)
    show G X _ [mdW (gcA X) a (va_up M 0 (upd (M 0) (((185 : Int32) + ((6 : Int32) * (M 0 (1 : Int32).toNatClampNeg))) + x2).toNatClampNeg (0 : Int32)))] _ _ _
    refine g_iinc (pc' := 127) (v := (x2 + 1)) C dX6_make_124 rfl rfl rfl (L' := [some (.ref (a 0)), some (.int p0), some (.int (x2 + 1))]) rfl ?_
    refine g_goto (pc' := 97) C dX6_make_127 (by decide) ?_
    exact G_loc (lle_s (lle_s (lle_s lle_0))) (hk97 (x2 + 1) (va_up M 0 (upd (M 0) (((185 : Int32) + ((6 : Int32) * (M 0 (1 : Int32).toNatClampNeg))) + x2).toNatClampNeg (0 : Int32))) h)
set_option maxRecDepth 100000 in
set_option maxHeartbeats 4000000 in
theorem L_X6_make_97 {X : gX} (C : cx X RX6 cX6_make 3 (some .int) wsX6_make 5 114) (a : Nat → Nat) (N : Nat) (p0 : Int32) (r : Int32) (Mz : tS)  : ∀ (n : Nat) (x2 : Int32) (M : tS), f_X6_make_97 N p0  n x2 M = some (r, Mz) → G X (QI X r [mdW (gcA X) a Mz]) [mdW (gcA X) a M] [some (.ref (a 0)), some (.int p0), some (.int x2)] [] 97 := by
  intro n
  induction n with
  | zero => intro x2 M h; have h : (none : Option (Int32 × tS)) = some (r, Mz) := h; cases h
  | succ n ih => intro x2 M h; exact B_X6_make_97b C a N p0 r Mz  (f_X6_make_97 N p0  n) ih x2 M h
def f_X6_make_89 (N : Nat) (p0 : Int32) (k47 : Int32 → tS → Option (Int32 × tS)) (x2 : Int32) (M : tS) : Option (Int32 × tS) := k47 (x2 + 1) M
set_option maxRecDepth 100000 in
set_option maxHeartbeats 4000000 in
theorem B_X6_make_89 {X : gX} (C : cx X RX6 cX6_make 3 (some .int) wsX6_make 5 114) (a : Nat → Nat) (N : Nat) (p0 : Int32) (r : Int32) (Mz : tS) (k47 : Int32 → tS → Option (Int32 × tS)) (hk47 : ∀ (x2 : Int32) (M : tS), k47 x2 M = some (r, Mz) → G X (QI X r [mdW (gcA X) a Mz]) [mdW (gcA X) a M] [some (.ref (a 0)), some (.int p0), some (.int x2)] [] 47) (x2 : Int32) (M : tS) (h : f_X6_make_89 N p0 k47 x2 M = some (r, Mz)) : G X (QI X r [mdW (gcA X) a Mz]) [mdW (gcA X) a M] [some (.ref (a 0)), some (.int p0), some (.int x2)] [] 89 := by
  unfold f_X6_make_89 at h
  refine g_iinc (pc' := 92) (v := (x2 + 1)) C dX6_make_89 rfl rfl rfl (L' := [some (.ref (a 0)), some (.int p0), some (.int (x2 + 1))]) rfl ?_
  refine g_goto (pc' := 47) C dX6_make_92 (by decide) ?_
  exact G_loc (lle_s (lle_s (lle_s lle_0))) (hk47 (x2 + 1) M h)
def f_X6_make_47b (N : Nat) (p0 : Int32)  (k47 : Int32 → tS → Option (Int32 × tS)) (x2 : Int32) (M : tS) : Option (Int32 × tS) := (if (M 0 (0 : Int32).toNatClampNeg) ≤ x2 then f_X6_make_97 N p0 N (0 : Int32) M else (if x2 < 0 ∨ 20 ≤ x2.toNatClampNeg then none else (if (M 7 x2.toNatClampNeg) = p0 then (bd (f_X6_themeOf N M x2) (fun r1 => (if 0 ≤ r1 then f_X6_make_89 N p0 k47 x2 M else (bd (f_X6_lays N M x2 (2 : Int32) ((M 0 (1 : Int32).toNatClampNeg) + (1 : Int32))) (fun M2 => f_X6_make_89 N p0 k47 x2 M2))))) else f_X6_make_89 N p0 k47 x2 M)))
def f_X6_make_47 (N : Nat) (p0 : Int32)  : Nat → Int32 → tS → Option (Int32 × tS)
  | 0 => fun _ _ => none
  | n + 1 => f_X6_make_47b N p0  (f_X6_make_47 N p0  n)
set_option maxRecDepth 100000 in
set_option maxHeartbeats 4000000 in
theorem B_X6_make_47b {X : gX} (C : cx X RX6 cX6_make 3 (some .int) wsX6_make 5 114) (a : Nat → Nat) (N : Nat) (p0 : Int32) (r : Int32) (Mz : tS)  (k47 : Int32 → tS → Option (Int32 × tS)) (hk47 : ∀ (x2 : Int32) (M : tS), k47 x2 M = some (r, Mz) → G X (QI X r [mdW (gcA X) a Mz]) [mdW (gcA X) a M] [some (.ref (a 0)), some (.int p0), some (.int x2)] [] 47) (x2 : Int32) (M : tS) (h : f_X6_make_47b N p0  k47 x2 M = some (r, Mz)) : G X (QI X r [mdW (gcA X) a Mz]) [mdW (gcA X) a M] [some (.ref (a 0)), some (.int p0), some (.int x2)] [] 47 := by
  unfold f_X6_make_47b at h
  refine g_iload_n (pc' := 48) C dX6_make_47 rfl rfl ?_
  refine g_aload_n (pc' := 49) C dX6_make_48 rfl rfl ?_
  refine gg_X6_0 (pc' := 52) (i := 0) C rfl hi_X6_make_X6 lk_X6_make_1 dX6_make_49 rfl ?_
  refine g_iconst (pc' := 53) (v := 0) C dX6_make_52 (by decide) rfl ?_
  refine g_iald0 (pc' := 54) (i := 0) (j := 1) C rfl rfl dX6_make_53 rfl (by unfold vp_in; decide) ?_
  refine g_icmp_ge (pc' := 57) (tgt := 95) C dX6_make_54 (by decide) rfl h (fun c h => ?_) (fun c h => ?_)
  · refine g_iconst (pc' := 96) (v := 0) C dX6_make_95 (by decide) rfl ?_
    refine g_istore_n (pc' := 97) C dX6_make_96 (Nat.le_of_ble_eq_true rfl) rfl (L' := [some (.ref (a 0)), some (.int p0), some (.int (0 : Int32))]) rfl ?_
    exact G_loc (lle_s (lle_s (lle_s lle_0))) (L_X6_make_97 C a N p0 r Mz N (0 : Int32) M h)
  · refine g_aload_n (pc' := 58) C dX6_make_57 rfl rfl ?_
    refine gg_X6_7 (pc' := 61) (i := 0) C rfl hi_X6_make_X6 lk_X6_make_2 dX6_make_58 rfl ?_
    refine g_iload_n (pc' := 62) C dX6_make_61 rfl rfl ?_
    refine g_iald (pc' := 63) (i := 0) (j := 5) C rfl rfl dX6_make_62 rfl h (fun h => ?_)
    refine g_iload_n (pc' := 64) C dX6_make_63 rfl rfl ?_
    refine g_icmp_ne (pc' := 67) (tgt := 89) C dX6_make_64 (by decide) rfl h (fun c h => ?_) (fun c h => ?_)
    · refine g_aload_n (pc' := 68) C dX6_make_67 rfl rfl ?_
      refine g_iload_n (pc' := 69) C dX6_make_68 rfl rfl ?_
      refine k_X6_themeOf (pc' := 72) C a N M x2 [0] rfl (by decide) gX6_make_X6_themeOf ⟨Nat.le_of_ble_eq_true rfl, Nat.le_of_ble_eq_true rfl⟩ (Nat.le_of_ble_eq_true rfl) rfl dX6_make_69 rfl h (fun r1 h => ?_)
      refine g_if_ge (pc' := 75) (tgt := 89) C dX6_make_72 (by decide) rfl h (fun c h => ?_) (fun c h => ?_)
      · exact G_loc (lle_s (lle_s (lle_s lle_0))) (B_X6_make_89 C a N p0 r Mz k47 hk47 x2 M h)
      · refine g_aload_n (pc' := 76) C dX6_make_75 rfl rfl ?_
        refine g_iload_n (pc' := 77) C dX6_make_76 rfl rfl ?_
        refine g_iconst (pc' := 78) (v := 2) C dX6_make_77 (by decide) rfl ?_
        refine g_aload_n (pc' := 79) C dX6_make_78 rfl rfl ?_
        refine gg_X6_0 (pc' := 82) (i := 0) C rfl hi_X6_make_X6 lk_X6_make_1 dX6_make_79 rfl ?_
        refine g_iconst (pc' := 83) (v := 1) C dX6_make_82 (by decide) rfl ?_
        refine g_iald0 (pc' := 84) (i := 0) (j := 1) C rfl rfl dX6_make_83 rfl (by unfold vp_in; decide) ?_
        refine g_iconst (pc' := 85) (v := 1) C dX6_make_84 (by decide) rfl ?_
        refine g_iadd (pc' := 86) C dX6_make_85 rfl ?_
        refine k_X6_lays (pc' := 89) C a N M x2 (2 : Int32) ((M 0 (1 : Int32).toNatClampNeg) + (1 : Int32)) [0] rfl (by decide) gX6_make_X6_lays ⟨Nat.le_of_ble_eq_true rfl, Nat.le_of_ble_eq_true rfl⟩ (Nat.le_of_ble_eq_true rfl) rfl dX6_make_86 rfl h (fun M2 h => ?_)
        show G X _ [mdW (gcA X) a M2] _ _ _
        exact G_loc (lle_s (lle_s (lle_s lle_0))) (B_X6_make_89 C a N p0 r Mz k47 hk47 x2 M2 h)
    · exact G_loc (lle_s (lle_s (lle_s lle_0))) (B_X6_make_89 C a N p0 r Mz k47 hk47 x2 M h)
set_option maxRecDepth 100000 in
set_option maxHeartbeats 4000000 in
theorem L_X6_make_47 {X : gX} (C : cx X RX6 cX6_make 3 (some .int) wsX6_make 5 114) (a : Nat → Nat) (N : Nat) (p0 : Int32) (r : Int32) (Mz : tS)  : ∀ (n : Nat) (x2 : Int32) (M : tS), f_X6_make_47 N p0  n x2 M = some (r, Mz) → G X (QI X r [mdW (gcA X) a Mz]) [mdW (gcA X) a M] [some (.ref (a 0)), some (.int p0), some (.int x2)] [] 47 := by
  intro n
  induction n with
  | zero => intro x2 M h; have h : (none : Option (Int32 × tS)) = some (r, Mz) := h; cases h
  | succ n ih => intro x2 M h; exact B_X6_make_47b C a N p0 r Mz  (f_X6_make_47 N p0  n) ih x2 M h
def f_X6_make (N : Nat) (M : tS) (p0 : Int32) : Option (Int32 × tS) := (bd2 (f_X6_laysNow N M) (fun r1 M1 => (bd (f_X6_in N p0 (0 : Int32) (r1 - (1 : Int32))) (fun r2 => (if r2 = 0 then some ((-1 : Int32), M1) else (bd (f_X6_without N M1 p0) (fun r3 => (if r3 = 0 then some ((-4 : Int32), M1) else (if (M1 0 (1 : Int32).toNatClampNeg) = (8 : Int32) then some ((-3 : Int32), M1) else (bd (f_X6_records N M1) (fun M4 => f_X6_make_47 N p0 N (0 : Int32) M4)))))))))))
set_option maxRecDepth 100000 in
set_option maxHeartbeats 4000000 in
theorem B_X6_make {X : gX} (C : cx X RX6 cX6_make 3 (some .int) wsX6_make 5 114) (a : Nat → Nat) (N : Nat) (M : tS) (p0 : Int32) (r : Int32) (Mz : tS) (h : f_X6_make N M p0 = some (r, Mz)) : G X (QI X r [mdW (gcA X) a Mz]) [mdW (gcA X) a M] [some (.ref (a 0)), some (.int p0), none] [] 0 := by
  unfold f_X6_make at h
  refine g_iload_n (pc' := 1) C dX6_make_0 rfl rfl ?_
  refine g_iconst (pc' := 2) (v := 0) C dX6_make_1 (by decide) rfl ?_
  refine g_aload_n (pc' := 3) C dX6_make_2 rfl rfl ?_
  refine k_X6_laysNow (pc' := 6) C a N M [0] rfl (by decide) gX6_make_X6_laysNow ⟨Nat.le_of_ble_eq_true rfl, Nat.le_of_ble_eq_true rfl⟩ (Nat.le_of_ble_eq_true rfl) rfl dX6_make_3 rfl h (fun r1 M1 h => ?_)
  show G X _ [mdW (gcA X) a M1] _ _ _
  refine g_iconst (pc' := 7) (v := 1) C dX6_make_6 (by decide) rfl ?_
  refine g_isub (pc' := 8) C dX6_make_7 rfl ?_
  refine k_X6_in (pc' := 11) C N p0 (0 : Int32) (r1 - (1 : Int32)) [] rfl (by decide) gX6_make_X6_in ⟨Nat.le_of_ble_eq_true rfl, Nat.le_of_ble_eq_true rfl⟩ (Nat.le_of_ble_eq_true rfl) rfl dX6_make_8 rfl h (fun r2 h => ?_)
  refine g_if_ne (pc' := 14) (tgt := 16) C dX6_make_11 (by decide) rfl h (fun c h => ?_) (fun c h => ?_)
  · refine g_iconst (pc' := 15) (v := -1) C dX6_make_14 (by decide) rfl ?_
    obtain ⟨rfl, rfl⟩ := pj2 (Option.some.inj h)
    exact g_iret C dX6_make_15
  · refine g_aload_n (pc' := 17) C dX6_make_16 rfl rfl ?_
    refine g_iload_n (pc' := 18) C dX6_make_17 rfl rfl ?_
    refine k_X6_without (pc' := 21) C a N M1 p0 [0] rfl (by decide) gX6_make_X6_without ⟨Nat.le_of_ble_eq_true rfl, Nat.le_of_ble_eq_true rfl⟩ (Nat.le_of_ble_eq_true rfl) rfl dX6_make_18 rfl h (fun r3 h => ?_)
    refine g_if_ne (pc' := 24) (tgt := 27) C dX6_make_21 (by decide) rfl h (fun c h => ?_) (fun c h => ?_)
    · refine g_bipush (pc' := 26) (v := -4) C dX6_make_24 (by decide) rfl ?_
      obtain ⟨rfl, rfl⟩ := pj2 (Option.some.inj h)
      exact g_iret C dX6_make_26
    · refine g_aload_n (pc' := 28) C dX6_make_27 rfl rfl ?_
      refine gg_X6_0 (pc' := 31) (i := 0) C rfl hi_X6_make_X6 lk_X6_make_1 dX6_make_28 rfl ?_
      refine g_iconst (pc' := 32) (v := 1) C dX6_make_31 (by decide) rfl ?_
      refine g_iald0 (pc' := 33) (i := 0) (j := 1) C rfl rfl dX6_make_32 rfl (by unfold vp_in; decide) ?_
      refine g_bipush (pc' := 35) (v := 8) C dX6_make_33 (by decide) rfl ?_
      refine g_icmp_ne (pc' := 38) (tgt := 41) C dX6_make_35 (by decide) rfl h (fun c h => ?_) (fun c h => ?_)
      · refine g_bipush (pc' := 40) (v := -3) C dX6_make_38 (by decide) rfl ?_
        obtain ⟨rfl, rfl⟩ := pj2 (Option.some.inj h)
        exact g_iret C dX6_make_40
      · refine g_aload_n (pc' := 42) C dX6_make_41 rfl rfl ?_
        refine k_X6_records (pc' := 45) C a N M1 [0] rfl (by decide) gX6_make_X6_records ⟨Nat.le_of_ble_eq_true rfl, Nat.le_of_ble_eq_true rfl⟩ (Nat.le_of_ble_eq_true rfl) rfl dX6_make_42 rfl h (fun M4 h => ?_)
        show G X _ [mdW (gcA X) a M4] _ _ _
        refine g_iconst (pc' := 46) (v := 0) C dX6_make_45 (by decide) rfl ?_
        refine g_istore_n (pc' := 47) C dX6_make_46 (Nat.le_of_ble_eq_true rfl) rfl (L' := [some (.ref (a 0)), some (.int p0), some (.int (0 : Int32))]) rfl ?_
        exact G_loc (lle_s (lle_s (lle_s lle_0))) (L_X6_make_47 C a N p0 r Mz N (0 : Int32) M4 h)
set_option maxRecDepth 100000 in
set_option maxHeartbeats 4000000 in
theorem c_X6_make (l : Launch) (D : va_G) (cA : Nat → ClassId) (a : Nat → Nat) (N : Nat) (M : tS) (p0 : Int32) (r : Int32) (Mz : tS) (h : f_X6_make N M p0 = some (r, Mz)) : MI l D cA yX6_make wsX6_make 5 114 [.ref (a 0), .int p0] [mdW cA a M] r [mdW cA a Mz] := MI_of (cc := cX6_make) (maxL := 3) (rt := some .int) (by decide +kernel) rfl (List.forall_mem_cons.mpr ⟨rfl, List.forall_mem_cons.mpr ⟨rfl, List.forall_mem_nil _⟩⟩) (Nat.le_of_ble_eq_true rfl) (fun X e1 e2 e3 C => by subst e1; subst e2; subst e3; exact B_X6_make C a N M p0 r Mz h)
set_option maxRecDepth 100000 in
set_option maxHeartbeats 4000000 in
theorem nd_X6_make : nd yX6_make 1 := ⟨by decide +kernel, by decide +kernel, by decide +kernel⟩
set_option maxRecDepth 100000 in
set_option maxHeartbeats 4000000 in
theorem k_X6_make {X : gX} {own : String} {cc : ByteArray} {nL : Nat} {ret : Option FieldType} {Ts : List Cond} {fr lm : Nat} {Q : State → Prop} {ms : List va_W} {L : List (Option Value)} {st : List Value} {pc pc' idx : Nat} {ρ : Type} {T : Int32 → tS → Option ρ} {res : ρ} (C : cx X own cc nL ret Ts fr lm) (a : Nat → Nat) (N : Nat) (M : tS) (p0 : Int32) (is : List Nat) (hC : is.map (fun i => ms[i]?) = [some (mdW (gcA X) a M)]) (hn : is.Nodup) (hG : GoodIn Ts (wsV own idx RX6 yX6_make wsX6_make)) (hR : 5 + 1 ≤ fr ∧ 8 + (3 + 11) + 114 ≤ lm) (hst : (st.map fun v => v.category).sum ≤ 8) (hLn : L.length = nL) (d : decode cc pc = .ok (.invokevirtual idx, 3)) (hp : pc + 3 = pc') (h : bd2 (f_X6_make N M p0) T = some res) (kk : ∀ (r : Int32) (Mz : tS), T r Mz = some res → G X Q (rpl ms is [mdW (gcA X) a Mz]) L (.int r :: st) pc') : G X Q ms L (.int p0 :: .ref (a 0) :: st) pc := by
  obtain ⟨r, Mz, h1, h⟩ := ob2 h
  exact G_callVI C (As := [.int p0]) (c_X6_make (gl X) (gD X) (gcA X) a N M p0 r Mz h1) hG rfl nd_X6_make hR (q0 := 0) rfl rfl hC hn rfl rfl hst hLn d hp (kk r Mz h)
theorem hi_X6_merge_X6 : ∀ w ∈ wsX60, w ∈ wsX6_merge := fun w h => List.mem_cons_of_mem _ (List.mem_append_right _ h)
theorem lk_X6_merge_1 : Cond.fieldLink RX6 7 "NoteThemesModel" "s" "[I" ∈ wsX6_merge := List.mem_of_getElem? (i := 1) rfl
def f_X6_merge_161 (N : Nat) (p0 : Int32) (p1 : Int32)  (t0 : Int32) (M : tS) : Option (Int32 × tS) := (bd (f_X6_notesOf N M t0) (fun r1 => some (r1, M)))
set_option maxRecDepth 100000 in
set_option maxHeartbeats 4000000 in
theorem B_X6_merge_161 {X : gX} (C : cx X RX6 cX6_merge 5 (some .int) wsX6_merge 3 66) (a : Nat → Nat) (N : Nat) (p0 : Int32) (p1 : Int32) (r : Int32) (Mz : tS)  (t0 : Int32) (M : tS) (h : f_X6_merge_161 N p0 p1  t0 M = some (r, Mz)) : G X (QI X r [mdW (gcA X) a Mz]) [mdW (gcA X) a M] [some (.ref (a 0)), some (.int p0), some (.int p1), none, none] [.int t0, .ref (a 0)] 161 := by
  unfold f_X6_merge_161 at h
  refine k_X6_notesOf (pc' := 164) C a N M t0 [0] rfl (by decide) gX6_merge_X6_notesOf ⟨Nat.le_of_ble_eq_true rfl, Nat.le_of_ble_eq_true rfl⟩ (Nat.le_of_ble_eq_true rfl) rfl dX6_merge_161 rfl h (fun r1 h => ?_)
  obtain ⟨rfl, rfl⟩ := pj2 (Option.some.inj h)
  exact g_iret C dX6_merge_164
def f_X6_merge_136 (N : Nat) (p0 : Int32) (p1 : Int32) (k77 : Int32 → tS → Option (Int32 × tS)) (x3 : Int32) (t0 : Int32) (t1 : Int32) (M : tS) : Option (Int32 × tS) := (if t1 < 0 ∨ 233 ≤ t1.toNatClampNeg then none else k77 (x3 + 1) (va_up M 0 (upd (M 0) t1.toNatClampNeg t0)))
set_option maxRecDepth 100000 in
set_option maxHeartbeats 4000000 in
theorem B_X6_merge_136 {X : gX} (C : cx X RX6 cX6_merge 5 (some .int) wsX6_merge 3 66) (a : Nat → Nat) (N : Nat) (p0 : Int32) (p1 : Int32) (r : Int32) (Mz : tS) (k77 : Int32 → tS → Option (Int32 × tS)) (hk77 : ∀ (x3 : Int32) (M : tS), k77 x3 M = some (r, Mz) → G X (QI X r [mdW (gcA X) a Mz]) [mdW (gcA X) a M] [some (.ref (a 0)), some (.int p0), some (.int p1), some (.int x3), none] [] 77) (x3 : Int32) (t0 : Int32) (t1 : Int32) (M : tS) (h : f_X6_merge_136 N p0 p1 k77 x3 t0 t1 M = some (r, Mz)) : G X (QI X r [mdW (gcA X) a Mz]) [mdW (gcA X) a M] [some (.ref (a 0)), some (.int p0), some (.int p1), some (.int x3), none] [.int t0, .int t1, .ref (a 1)] 136 := by
  unfold f_X6_merge_136 at h
  refine g_iast (pc' := 137) (i := 0) (j := 1) (w' := mdW (gcA X) a (va_up M 0 (upd (M 0) t1.toNatClampNeg t0))) C rfl rfl rfl dX6_merge_136 rfl h (fun h => ?_)
  show G X _ [mdW (gcA X) a (va_up M 0 (upd (M 0) t1.toNatClampNeg t0))] _ _ _
  refine g_iinc (pc' := 140) (v := (x3 + 1)) C dX6_merge_137 rfl rfl rfl (L' := [some (.ref (a 0)), some (.int p0), some (.int p1), some (.int (x3 + 1)), none]) rfl ?_
  refine g_goto (pc' := 77) C dX6_merge_140 (by decide) ?_
  exact G_loc (lle_s (lle_s (lle_s (lle_s (lle_n lle_0))))) (hk77 (x3 + 1) (va_up M 0 (upd (M 0) t1.toNatClampNeg t0)) h)
def f_X6_merge_77b (N : Nat) (p0 : Int32) (p1 : Int32)  (k77 : Int32 → tS → Option (Int32 × tS)) (x3 : Int32) (M : tS) : Option (Int32 × tS) := (if (6 : Int32) ≤ x3 then (bd (f_X6_dropsTheme N M p1) (fun M1 => (if p0 ≤ p1 then f_X6_merge_161 N p0 p1 p0 M1 else f_X6_merge_161 N p0 p1 (p0 - (1 : Int32)) M1))) else (if (((185 : Int32) + ((6 : Int32) * p0)) + x3) < 0 ∨ 233 ≤ (((185 : Int32) + ((6 : Int32) * p0)) + x3).toNatClampNeg then none else (if (M 0 (((185 : Int32) + ((6 : Int32) * p0)) + x3).toNatClampNeg) ≤ 0 then (if (((185 : Int32) + ((6 : Int32) * p1)) + x3) < 0 ∨ 233 ≤ (((185 : Int32) + ((6 : Int32) * p1)) + x3).toNatClampNeg then none else f_X6_merge_136 N p0 p1 k77 x3 (M 0 (((185 : Int32) + ((6 : Int32) * p1)) + x3).toNatClampNeg) (((185 : Int32) + ((6 : Int32) * p0)) + x3) M) else (if (((185 : Int32) + ((6 : Int32) * p0)) + x3) < 0 ∨ 233 ≤ (((185 : Int32) + ((6 : Int32) * p0)) + x3).toNatClampNeg then none else f_X6_merge_136 N p0 p1 k77 x3 (M 0 (((185 : Int32) + ((6 : Int32) * p0)) + x3).toNatClampNeg) (((185 : Int32) + ((6 : Int32) * p0)) + x3) M))))
def f_X6_merge_77 (N : Nat) (p0 : Int32) (p1 : Int32)  : Nat → Int32 → tS → Option (Int32 × tS)
  | 0 => fun _ _ => none
  | n + 1 => f_X6_merge_77b N p0 p1  (f_X6_merge_77 N p0 p1  n)
set_option maxRecDepth 100000 in
set_option maxHeartbeats 4000000 in
theorem B_X6_merge_77b {X : gX} (C : cx X RX6 cX6_merge 5 (some .int) wsX6_merge 3 66) (a : Nat → Nat) (N : Nat) (p0 : Int32) (p1 : Int32) (r : Int32) (Mz : tS)  (k77 : Int32 → tS → Option (Int32 × tS)) (hk77 : ∀ (x3 : Int32) (M : tS), k77 x3 M = some (r, Mz) → G X (QI X r [mdW (gcA X) a Mz]) [mdW (gcA X) a M] [some (.ref (a 0)), some (.int p0), some (.int p1), some (.int x3), none] [] 77) (x3 : Int32) (M : tS) (h : f_X6_merge_77b N p0 p1  k77 x3 M = some (r, Mz)) : G X (QI X r [mdW (gcA X) a Mz]) [mdW (gcA X) a M] [some (.ref (a 0)), some (.int p0), some (.int p1), some (.int x3), none] [] 77 := by
  unfold f_X6_merge_77b at h
  refine g_iload_n (pc' := 78) C dX6_merge_77 rfl rfl ?_
  refine g_bipush (pc' := 80) (v := 6) C dX6_merge_78 (by decide) rfl ?_
  refine g_icmp_ge (pc' := 83) (tgt := 143) C dX6_merge_80 (by decide) rfl h (fun c h => ?_) (fun c h => ?_)
  · refine g_aload_n (pc' := 144) C dX6_merge_143 rfl rfl ?_
    refine g_iload_n (pc' := 145) C dX6_merge_144 rfl rfl ?_
    refine k_X6_dropsTheme (pc' := 148) C a N M p1 [0] rfl (by decide) gX6_merge_X6_dropsTheme ⟨Nat.le_of_ble_eq_true rfl, Nat.le_of_ble_eq_true rfl⟩ (Nat.le_of_ble_eq_true rfl) rfl dX6_merge_145 rfl h (fun M1 h => ?_)
    show G X _ [mdW (gcA X) a M1] _ _ _
    refine g_aload_n (pc' := 149) C dX6_merge_148 rfl rfl ?_
    refine g_iload_n (pc' := 150) C dX6_merge_149 rfl rfl ?_
    refine g_iload_n (pc' := 151) C dX6_merge_150 rfl rfl ?_
    refine g_icmp_ge (pc' := 154) (tgt := 160) C dX6_merge_151 (by decide) rfl h (fun c h => ?_) (fun c h => ?_)
    · refine g_iload_n (pc' := 161) C dX6_merge_160 rfl rfl ?_
      exact G_loc (lle_s (lle_s (lle_s (lle_n (lle_n lle_0))))) (B_X6_merge_161 C a N p0 p1 r Mz p0 M1 h)
    · refine g_iload_n (pc' := 155) C dX6_merge_154 rfl rfl ?_
      refine g_iconst (pc' := 156) (v := 1) C dX6_merge_155 (by decide) rfl ?_
      refine g_isub (pc' := 157) C dX6_merge_156 rfl ?_
      refine g_goto (pc' := 161) C dX6_merge_157 (by decide) ?_
      exact G_loc (lle_s (lle_s (lle_s (lle_n (lle_n lle_0))))) (B_X6_merge_161 C a N p0 p1 r Mz (p0 - (1 : Int32)) M1 h)
  · refine g_sipush (pc' := 86) (v := 185) C dX6_merge_83 (by decide) rfl ?_
    refine g_bipush (pc' := 88) (v := 6) C dX6_merge_86 (by decide) rfl ?_
    refine g_iload_n (pc' := 89) C dX6_merge_88 rfl rfl ?_
    refine g_imul (pc' := 90) C dX6_merge_89 rfl ?_
    refine g_iadd (pc' := 91) C dX6_merge_90 rfl ?_
    refine g_iload_n (pc' := 92) C dX6_merge_91 rfl rfl ?_
    refine g_iadd (pc' := 93) C dX6_merge_92 rfl ?_
    refine g_istore (pc' := 95) C dX6_merge_93 (Nat.le_of_ble_eq_true rfl) rfl (L' := [some (.ref (a 0)), some (.int p0), some (.int p1), some (.int x3), some (.int (((185 : Int32) + ((6 : Int32) * p0)) + x3))]) rfl ?_
    refine g_aload_n (pc' := 96) C dX6_merge_95 rfl rfl ?_
    refine gg_X6_0 (pc' := 99) (i := 0) C rfl hi_X6_merge_X6 lk_X6_merge_1 dX6_merge_96 rfl ?_
    refine g_iload (pc' := 101) C dX6_merge_99 rfl rfl ?_
    refine g_aload_n (pc' := 102) C dX6_merge_101 rfl rfl ?_
    refine gg_X6_0 (pc' := 105) (i := 0) C rfl hi_X6_merge_X6 lk_X6_merge_1 dX6_merge_102 rfl ?_
    refine g_iload (pc' := 107) C dX6_merge_105 rfl rfl ?_
    refine g_iald (pc' := 108) (i := 0) (j := 1) C rfl rfl dX6_merge_107 rfl h (fun h => ?_)
    refine g_if_le (pc' := 111) (tgt := 121) C dX6_merge_108 (by decide) rfl h (fun c h => ?_) (fun c h => ?_)
    · refine g_aload_n (pc' := 122) C dX6_merge_121 rfl rfl ?_
      refine gg_X6_0 (pc' := 125) (i := 0) C rfl hi_X6_merge_X6 lk_X6_merge_1 dX6_merge_122 rfl ?_
      refine g_sipush (pc' := 128) (v := 185) C dX6_merge_125 (by decide) rfl ?_
      refine g_bipush (pc' := 130) (v := 6) C dX6_merge_128 (by decide) rfl ?_
      refine g_iload_n (pc' := 131) C dX6_merge_130 rfl rfl ?_
      refine g_imul (pc' := 132) C dX6_merge_131 rfl ?_
      refine g_iadd (pc' := 133) C dX6_merge_132 rfl ?_
      refine g_iload_n (pc' := 134) C dX6_merge_133 rfl rfl ?_
      refine g_iadd (pc' := 135) C dX6_merge_134 rfl ?_
      refine g_iald (pc' := 136) (i := 0) (j := 1) C rfl rfl dX6_merge_135 rfl h (fun h => ?_)
      exact G_loc (lle_s (lle_s (lle_s (lle_s (lle_n lle_0))))) (B_X6_merge_136 C a N p0 p1 r Mz k77 hk77 x3 (M 0 (((185 : Int32) + ((6 : Int32) * p1)) + x3).toNatClampNeg) (((185 : Int32) + ((6 : Int32) * p0)) + x3) M h)
    · refine g_aload_n (pc' := 112) C dX6_merge_111 rfl rfl ?_
      refine gg_X6_0 (pc' := 115) (i := 0) C rfl hi_X6_merge_X6 lk_X6_merge_1 dX6_merge_112 rfl ?_
      refine g_iload (pc' := 117) C dX6_merge_115 rfl rfl ?_
      refine g_iald (pc' := 118) (i := 0) (j := 1) C rfl rfl dX6_merge_117 rfl h (fun h => ?_)
      refine g_goto (pc' := 136) C dX6_merge_118 (by decide) ?_
      exact G_loc (lle_s (lle_s (lle_s (lle_s (lle_n lle_0))))) (B_X6_merge_136 C a N p0 p1 r Mz k77 hk77 x3 (M 0 (((185 : Int32) + ((6 : Int32) * p0)) + x3).toNatClampNeg) (((185 : Int32) + ((6 : Int32) * p0)) + x3) M h)
set_option maxRecDepth 100000 in
set_option maxHeartbeats 4000000 in
theorem L_X6_merge_77 {X : gX} (C : cx X RX6 cX6_merge 5 (some .int) wsX6_merge 3 66) (a : Nat → Nat) (N : Nat) (p0 : Int32) (p1 : Int32) (r : Int32) (Mz : tS)  : ∀ (n : Nat) (x3 : Int32) (M : tS), f_X6_merge_77 N p0 p1  n x3 M = some (r, Mz) → G X (QI X r [mdW (gcA X) a Mz]) [mdW (gcA X) a M] [some (.ref (a 0)), some (.int p0), some (.int p1), some (.int x3), none] [] 77 := by
  intro n
  induction n with
  | zero => intro x3 M h; have h : (none : Option (Int32 × tS)) = some (r, Mz) := h; cases h
  | succ n ih => intro x3 M h; exact B_X6_merge_77b C a N p0 p1 r Mz  (f_X6_merge_77 N p0 p1  n) ih x3 M h
def f_X6_merge_66 (N : Nat) (p0 : Int32) (p1 : Int32) (k32 : Int32 → tS → Option (Int32 × tS)) (x3 : Int32) (t0 : Int32) (t1 : Int32) (t2 : Int32) (M : tS) : Option (Int32 × tS) := (bd (f_X6_lays N M t2 t1 t0) (fun M1 => k32 (x3 + 1) M1))
set_option maxRecDepth 100000 in
set_option maxHeartbeats 4000000 in
theorem B_X6_merge_66 {X : gX} (C : cx X RX6 cX6_merge 5 (some .int) wsX6_merge 3 66) (a : Nat → Nat) (N : Nat) (p0 : Int32) (p1 : Int32) (r : Int32) (Mz : tS) (k32 : Int32 → tS → Option (Int32 × tS)) (hk32 : ∀ (x3 : Int32) (M : tS), k32 x3 M = some (r, Mz) → G X (QI X r [mdW (gcA X) a Mz]) [mdW (gcA X) a M] [some (.ref (a 0)), some (.int p0), some (.int p1), some (.int x3), none] [] 32) (x3 : Int32) (t0 : Int32) (t1 : Int32) (t2 : Int32) (M : tS) (h : f_X6_merge_66 N p0 p1 k32 x3 t0 t1 t2 M = some (r, Mz)) : G X (QI X r [mdW (gcA X) a Mz]) [mdW (gcA X) a M] [some (.ref (a 0)), some (.int p0), some (.int p1), some (.int x3), none] [.int t0, .int t1, .int t2, .ref (a 0)] 66 := by
  unfold f_X6_merge_66 at h
  refine k_X6_lays (pc' := 69) C a N M t2 t1 t0 [0] rfl (by decide) gX6_merge_X6_lays ⟨Nat.le_of_ble_eq_true rfl, Nat.le_of_ble_eq_true rfl⟩ (Nat.le_of_ble_eq_true rfl) rfl dX6_merge_66 rfl h (fun M1 h => ?_)
  show G X _ [mdW (gcA X) a M1] _ _ _
  refine g_iinc (pc' := 72) (v := (x3 + 1)) C dX6_merge_69 rfl rfl rfl (L' := [some (.ref (a 0)), some (.int p0), some (.int p1), some (.int (x3 + 1)), none]) rfl ?_
  refine g_goto (pc' := 32) C dX6_merge_72 (by decide) ?_
  exact G_loc (lle_s (lle_s (lle_s (lle_s (lle_n lle_0))))) (hk32 (x3 + 1) M1 h)
def f_X6_merge_32b (N : Nat) (p0 : Int32) (p1 : Int32)  (k32 : Int32 → tS → Option (Int32 × tS)) (x3 : Int32) (M : tS) : Option (Int32 × tS) := (if (M 0 (0 : Int32).toNatClampNeg) ≤ x3 then f_X6_merge_77 N p0 p1 N (0 : Int32) M else (bd (f_X6_themeOf N M x3) (fun r1 => (if r1 = p1 then f_X6_merge_66 N p0 p1 k32 x3 (p0 + (1 : Int32)) (2 : Int32) x3 M else (bd (f_X6_of N M x3 (2 : Int32)) (fun r2 => f_X6_merge_66 N p0 p1 k32 x3 r2 (2 : Int32) x3 M))))))
def f_X6_merge_32 (N : Nat) (p0 : Int32) (p1 : Int32)  : Nat → Int32 → tS → Option (Int32 × tS)
  | 0 => fun _ _ => none
  | n + 1 => f_X6_merge_32b N p0 p1  (f_X6_merge_32 N p0 p1  n)
set_option maxRecDepth 100000 in
set_option maxHeartbeats 4000000 in
theorem B_X6_merge_32b {X : gX} (C : cx X RX6 cX6_merge 5 (some .int) wsX6_merge 3 66) (a : Nat → Nat) (N : Nat) (p0 : Int32) (p1 : Int32) (r : Int32) (Mz : tS)  (k32 : Int32 → tS → Option (Int32 × tS)) (hk32 : ∀ (x3 : Int32) (M : tS), k32 x3 M = some (r, Mz) → G X (QI X r [mdW (gcA X) a Mz]) [mdW (gcA X) a M] [some (.ref (a 0)), some (.int p0), some (.int p1), some (.int x3), none] [] 32) (x3 : Int32) (M : tS) (h : f_X6_merge_32b N p0 p1  k32 x3 M = some (r, Mz)) : G X (QI X r [mdW (gcA X) a Mz]) [mdW (gcA X) a M] [some (.ref (a 0)), some (.int p0), some (.int p1), some (.int x3), none] [] 32 := by
  unfold f_X6_merge_32b at h
  refine g_iload_n (pc' := 33) C dX6_merge_32 rfl rfl ?_
  refine g_aload_n (pc' := 34) C dX6_merge_33 rfl rfl ?_
  refine gg_X6_0 (pc' := 37) (i := 0) C rfl hi_X6_merge_X6 lk_X6_merge_1 dX6_merge_34 rfl ?_
  refine g_iconst (pc' := 38) (v := 0) C dX6_merge_37 (by decide) rfl ?_
  refine g_iald0 (pc' := 39) (i := 0) (j := 1) C rfl rfl dX6_merge_38 rfl (by unfold vp_in; decide) ?_
  refine g_icmp_ge (pc' := 42) (tgt := 75) C dX6_merge_39 (by decide) rfl h (fun c h => ?_) (fun c h => ?_)
  · refine g_iconst (pc' := 76) (v := 0) C dX6_merge_75 (by decide) rfl ?_
    refine g_istore_n (pc' := 77) C dX6_merge_76 (Nat.le_of_ble_eq_true rfl) rfl (L' := [some (.ref (a 0)), some (.int p0), some (.int p1), some (.int (0 : Int32)), none]) rfl ?_
    exact G_loc (lle_s (lle_s (lle_s (lle_s (lle_n lle_0))))) (L_X6_merge_77 C a N p0 p1 r Mz N (0 : Int32) M h)
  · refine g_aload_n (pc' := 43) C dX6_merge_42 rfl rfl ?_
    refine g_iload_n (pc' := 44) C dX6_merge_43 rfl rfl ?_
    refine g_iconst (pc' := 45) (v := 2) C dX6_merge_44 (by decide) rfl ?_
    refine g_aload_n (pc' := 46) C dX6_merge_45 rfl rfl ?_
    refine g_iload_n (pc' := 47) C dX6_merge_46 rfl rfl ?_
    refine k_X6_themeOf (pc' := 50) C a N M x3 [0] rfl (by decide) gX6_merge_X6_themeOf ⟨Nat.le_of_ble_eq_true rfl, Nat.le_of_ble_eq_true rfl⟩ (Nat.le_of_ble_eq_true rfl) rfl dX6_merge_47 rfl h (fun r1 h => ?_)
    refine g_iload_n (pc' := 51) C dX6_merge_50 rfl rfl ?_
    refine g_icmp_ne (pc' := 54) (tgt := 60) C dX6_merge_51 (by decide) rfl h (fun c h => ?_) (fun c h => ?_)
    · refine g_iload_n (pc' := 55) C dX6_merge_54 rfl rfl ?_
      refine g_iconst (pc' := 56) (v := 1) C dX6_merge_55 (by decide) rfl ?_
      refine g_iadd (pc' := 57) C dX6_merge_56 rfl ?_
      refine g_goto (pc' := 66) C dX6_merge_57 (by decide) ?_
      exact G_loc (lle_s (lle_s (lle_s (lle_s (lle_n lle_0))))) (B_X6_merge_66 C a N p0 p1 r Mz k32 hk32 x3 (p0 + (1 : Int32)) (2 : Int32) x3 M h)
    · refine g_aload_n (pc' := 61) C dX6_merge_60 rfl rfl ?_
      refine g_iload_n (pc' := 62) C dX6_merge_61 rfl rfl ?_
      refine g_iconst (pc' := 63) (v := 2) C dX6_merge_62 (by decide) rfl ?_
      refine k_X6_of (pc' := 66) C a N M x3 (2 : Int32) [0] rfl (by decide) gX6_merge_X6_of ⟨Nat.le_of_ble_eq_true rfl, Nat.le_of_ble_eq_true rfl⟩ (Nat.le_of_ble_eq_true rfl) rfl dX6_merge_63 rfl h (fun r2 h => ?_)
      exact G_loc (lle_s (lle_s (lle_s (lle_s (lle_n lle_0))))) (B_X6_merge_66 C a N p0 p1 r Mz k32 hk32 x3 r2 (2 : Int32) x3 M h)
set_option maxRecDepth 100000 in
set_option maxHeartbeats 4000000 in
theorem L_X6_merge_32 {X : gX} (C : cx X RX6 cX6_merge 5 (some .int) wsX6_merge 3 66) (a : Nat → Nat) (N : Nat) (p0 : Int32) (p1 : Int32) (r : Int32) (Mz : tS)  : ∀ (n : Nat) (x3 : Int32) (M : tS), f_X6_merge_32 N p0 p1  n x3 M = some (r, Mz) → G X (QI X r [mdW (gcA X) a Mz]) [mdW (gcA X) a M] [some (.ref (a 0)), some (.int p0), some (.int p1), some (.int x3), none] [] 32 := by
  intro n
  induction n with
  | zero => intro x3 M h; have h : (none : Option (Int32 × tS)) = some (r, Mz) := h; cases h
  | succ n ih => intro x3 M h; exact B_X6_merge_32b C a N p0 p1 r Mz  (f_X6_merge_32 N p0 p1  n) ih x3 M h
def f_X6_merge (N : Nat) (M : tS) (p0 : Int32) (p1 : Int32) : Option (Int32 × tS) := (bd (f_X6_isTheme N M p0) (fun r1 => (if r1 = 0 then some ((-1 : Int32), M) else (bd (f_X6_isTheme N M p1) (fun r2 => (if r2 = 0 then some ((-1 : Int32), M) else (if p0 = p1 then some ((-2 : Int32), M) else (bd (f_X6_records N M) (fun M3 => f_X6_merge_32 N p0 p1 N (0 : Int32) M3)))))))))
set_option maxRecDepth 100000 in
set_option maxHeartbeats 4000000 in
theorem B_X6_merge {X : gX} (C : cx X RX6 cX6_merge 5 (some .int) wsX6_merge 3 66) (a : Nat → Nat) (N : Nat) (M : tS) (p0 : Int32) (p1 : Int32) (r : Int32) (Mz : tS) (h : f_X6_merge N M p0 p1 = some (r, Mz)) : G X (QI X r [mdW (gcA X) a Mz]) [mdW (gcA X) a M] [some (.ref (a 0)), some (.int p0), some (.int p1), none, none] [] 0 := by
  unfold f_X6_merge at h
  refine g_aload_n (pc' := 1) C dX6_merge_0 rfl rfl ?_
  refine g_iload_n (pc' := 2) C dX6_merge_1 rfl rfl ?_
  refine k_X6_isTheme (pc' := 5) C a N M p0 [0] rfl (by decide) gX6_merge_X6_isTheme ⟨Nat.le_of_ble_eq_true rfl, Nat.le_of_ble_eq_true rfl⟩ (Nat.le_of_ble_eq_true rfl) rfl dX6_merge_2 rfl h (fun r1 h => ?_)
  refine g_if_eq (pc' := 8) (tgt := 16) C dX6_merge_5 (by decide) rfl h (fun c h => ?_) (fun c h => ?_)
  · refine g_iconst (pc' := 17) (v := -1) C dX6_merge_16 (by decide) rfl ?_
    obtain ⟨rfl, rfl⟩ := pj2 (Option.some.inj h)
    exact g_iret C dX6_merge_17
  · refine g_aload_n (pc' := 9) C dX6_merge_8 rfl rfl ?_
    refine g_iload_n (pc' := 10) C dX6_merge_9 rfl rfl ?_
    refine k_X6_isTheme (pc' := 13) C a N M p1 [0] rfl (by decide) gX6_merge_X6_isTheme ⟨Nat.le_of_ble_eq_true rfl, Nat.le_of_ble_eq_true rfl⟩ (Nat.le_of_ble_eq_true rfl) rfl dX6_merge_10 rfl h (fun r2 h => ?_)
    refine g_if_ne (pc' := 16) (tgt := 18) C dX6_merge_13 (by decide) rfl h (fun c h => ?_) (fun c h => ?_)
    · refine g_iconst (pc' := 17) (v := -1) C dX6_merge_16 (by decide) rfl ?_
      obtain ⟨rfl, rfl⟩ := pj2 (Option.some.inj h)
      exact g_iret C dX6_merge_17
    · refine g_iload_n (pc' := 19) C dX6_merge_18 rfl rfl ?_
      refine g_iload_n (pc' := 20) C dX6_merge_19 rfl rfl ?_
      refine g_icmp_ne (pc' := 23) (tgt := 26) C dX6_merge_20 (by decide) rfl h (fun c h => ?_) (fun c h => ?_)
      · refine g_bipush (pc' := 25) (v := -2) C dX6_merge_23 (by decide) rfl ?_
        obtain ⟨rfl, rfl⟩ := pj2 (Option.some.inj h)
        exact g_iret C dX6_merge_25
      · refine g_aload_n (pc' := 27) C dX6_merge_26 rfl rfl ?_
        refine k_X6_records (pc' := 30) C a N M [0] rfl (by decide) gX6_merge_X6_records ⟨Nat.le_of_ble_eq_true rfl, Nat.le_of_ble_eq_true rfl⟩ (Nat.le_of_ble_eq_true rfl) rfl dX6_merge_27 rfl h (fun M3 h => ?_)
        show G X _ [mdW (gcA X) a M3] _ _ _
        refine g_iconst (pc' := 31) (v := 0) C dX6_merge_30 (by decide) rfl ?_
        refine g_istore_n (pc' := 32) C dX6_merge_31 (Nat.le_of_ble_eq_true rfl) rfl (L' := [some (.ref (a 0)), some (.int p0), some (.int p1), some (.int (0 : Int32)), none]) rfl ?_
        exact G_loc (lle_s (lle_s (lle_s (lle_s (lle_n lle_0))))) (L_X6_merge_32 C a N p0 p1 r Mz N (0 : Int32) M3 h)
set_option maxRecDepth 100000 in
set_option maxHeartbeats 4000000 in
theorem c_X6_merge (l : Launch) (D : va_G) (cA : Nat → ClassId) (a : Nat → Nat) (N : Nat) (M : tS) (p0 : Int32) (p1 : Int32) (r : Int32) (Mz : tS) (h : f_X6_merge N M p0 p1 = some (r, Mz)) : MI l D cA yX6_merge wsX6_merge 3 66 [.ref (a 0), .int p0, .int p1] [mdW cA a M] r [mdW cA a Mz] := MI_of (cc := cX6_merge) (maxL := 5) (rt := some .int) (by decide +kernel) rfl (List.forall_mem_cons.mpr ⟨rfl, List.forall_mem_cons.mpr ⟨rfl, List.forall_mem_cons.mpr ⟨rfl, List.forall_mem_nil _⟩⟩⟩) (Nat.le_of_ble_eq_true rfl) (fun X e1 e2 e3 C => by subst e1; subst e2; subst e3; exact B_X6_merge C a N M p0 p1 r Mz h)
set_option maxRecDepth 100000 in
set_option maxHeartbeats 4000000 in
theorem nd_X6_merge : nd yX6_merge 2 := ⟨by decide +kernel, by decide +kernel, by decide +kernel⟩
set_option maxRecDepth 100000 in
set_option maxHeartbeats 4000000 in
theorem k_X6_merge {X : gX} {own : String} {cc : ByteArray} {nL : Nat} {ret : Option FieldType} {Ts : List Cond} {fr lm : Nat} {Q : State → Prop} {ms : List va_W} {L : List (Option Value)} {st : List Value} {pc pc' idx : Nat} {ρ : Type} {T : Int32 → tS → Option ρ} {res : ρ} (C : cx X own cc nL ret Ts fr lm) (a : Nat → Nat) (N : Nat) (M : tS) (p0 : Int32) (p1 : Int32) (is : List Nat) (hC : is.map (fun i => ms[i]?) = [some (mdW (gcA X) a M)]) (hn : is.Nodup) (hG : GoodIn Ts (wsV own idx RX6 yX6_merge wsX6_merge)) (hR : 3 + 1 ≤ fr ∧ 8 + (5 + 11) + 66 ≤ lm) (hst : (st.map fun v => v.category).sum ≤ 8) (hLn : L.length = nL) (d : decode cc pc = .ok (.invokevirtual idx, 3)) (hp : pc + 3 = pc') (h : bd2 (f_X6_merge N M p0 p1) T = some res) (kk : ∀ (r : Int32) (Mz : tS), T r Mz = some res → G X Q (rpl ms is [mdW (gcA X) a Mz]) L (.int r :: st) pc') : G X Q ms L (.int p1 :: .int p0 :: .ref (a 0) :: st) pc := by
  obtain ⟨r, Mz, h1, h⟩ := ob2 h
  exact G_callVI C (As := [.int p0, .int p1]) (c_X6_merge (gl X) (gD X) (gcA X) a N M p0 p1 r Mz h1) hG rfl nd_X6_merge hR (q0 := 0) rfl rfl hC hn rfl rfl hst hLn d hp (kk r Mz h)
theorem hi_X6_belong_X6 : ∀ w ∈ wsX60, w ∈ wsX6_belong := fun w h => List.mem_cons_of_mem _ (List.mem_append_right _ h)
theorem lk_X6_belong_1 : Cond.fieldLink RX6 7 "NoteThemesModel" "s" "[I" ∈ wsX6_belong := List.mem_of_getElem? (i := 1) rfl
def f_X6_belong_35 (N : Nat) (p0 : Int32) (p1 : Int32)  (t0 : Int32) (M : tS) : Option (Int32 × tS) := (bd (f_X6_themeOf N M p0) (fun r1 => (if r1 = t0 then some ((-5 : Int32), M) else (bd (f_X6_records N M) (fun M2 => (bd (f_X6_lays N M2 p0 (2 : Int32) (t0 + (1 : Int32))) (fun M3 => (bd (f_X6_dropsEmpty N M3 r1) (fun M4 => some ((M4 0 (1 : Int32).toNatClampNeg), M4))))))))))
set_option maxRecDepth 100000 in
set_option maxHeartbeats 4000000 in
theorem B_X6_belong_35 {X : gX} (C : cx X RX6 cX6_belong 5 (some .int) wsX6_belong 4 87) (a : Nat → Nat) (N : Nat) (p0 : Int32) (p1 : Int32) (r : Int32) (Mz : tS)  (t0 : Int32) (M : tS) (h : f_X6_belong_35 N p0 p1  t0 M = some (r, Mz)) : G X (QI X r [mdW (gcA X) a Mz]) [mdW (gcA X) a M] [some (.ref (a 0)), some (.int p0), some (.int p1), none, none] [.int t0] 35 := by
  unfold f_X6_belong_35 at h
  refine g_istore_n (pc' := 36) C dX6_belong_35 (Nat.le_of_ble_eq_true rfl) rfl (L' := [some (.ref (a 0)), some (.int p0), some (.int p1), some (.int t0), none]) rfl ?_
  refine g_aload_n (pc' := 37) C dX6_belong_36 rfl rfl ?_
  refine g_iload_n (pc' := 38) C dX6_belong_37 rfl rfl ?_
  refine k_X6_themeOf (pc' := 41) C a N M p0 [0] rfl (by decide) gX6_belong_X6_themeOf ⟨Nat.le_of_ble_eq_true rfl, Nat.le_of_ble_eq_true rfl⟩ (Nat.le_of_ble_eq_true rfl) rfl dX6_belong_38 rfl h (fun r1 h => ?_)
  refine g_istore (pc' := 43) C dX6_belong_41 (Nat.le_of_ble_eq_true rfl) rfl (L' := [some (.ref (a 0)), some (.int p0), some (.int p1), some (.int t0), some (.int r1)]) rfl ?_
  refine g_iload (pc' := 45) C dX6_belong_43 rfl rfl ?_
  refine g_iload_n (pc' := 46) C dX6_belong_45 rfl rfl ?_
  refine g_icmp_ne (pc' := 49) (tgt := 52) C dX6_belong_46 (by decide) rfl h (fun c h => ?_) (fun c h => ?_)
  · refine g_bipush (pc' := 51) (v := -5) C dX6_belong_49 (by decide) rfl ?_
    obtain ⟨rfl, rfl⟩ := pj2 (Option.some.inj h)
    exact g_iret C dX6_belong_51
  · refine g_aload_n (pc' := 53) C dX6_belong_52 rfl rfl ?_
    refine k_X6_records (pc' := 56) C a N M [0] rfl (by decide) gX6_belong_X6_records ⟨Nat.le_of_ble_eq_true rfl, Nat.le_of_ble_eq_true rfl⟩ (Nat.le_of_ble_eq_true rfl) rfl dX6_belong_53 rfl h (fun M2 h => ?_)
    show G X _ [mdW (gcA X) a M2] _ _ _
    refine g_aload_n (pc' := 57) C dX6_belong_56 rfl rfl ?_
    refine g_iload_n (pc' := 58) C dX6_belong_57 rfl rfl ?_
    refine g_iconst (pc' := 59) (v := 2) C dX6_belong_58 (by decide) rfl ?_
    refine g_iload_n (pc' := 60) C dX6_belong_59 rfl rfl ?_
    refine g_iconst (pc' := 61) (v := 1) C dX6_belong_60 (by decide) rfl ?_
    refine g_iadd (pc' := 62) C dX6_belong_61 rfl ?_
    refine k_X6_lays (pc' := 65) C a N M2 p0 (2 : Int32) (t0 + (1 : Int32)) [0] rfl (by decide) gX6_belong_X6_lays ⟨Nat.le_of_ble_eq_true rfl, Nat.le_of_ble_eq_true rfl⟩ (Nat.le_of_ble_eq_true rfl) rfl dX6_belong_62 rfl h (fun M3 h => ?_)
    show G X _ [mdW (gcA X) a M3] _ _ _
    refine g_aload_n (pc' := 66) C dX6_belong_65 rfl rfl ?_
    refine g_iload (pc' := 68) C dX6_belong_66 rfl rfl ?_
    refine k_X6_dropsEmpty (pc' := 71) C a N M3 r1 [0] rfl (by decide) gX6_belong_X6_dropsEmpty ⟨Nat.le_of_ble_eq_true rfl, Nat.le_of_ble_eq_true rfl⟩ (Nat.le_of_ble_eq_true rfl) rfl dX6_belong_68 rfl h (fun M4 h => ?_)
    show G X _ [mdW (gcA X) a M4] _ _ _
    refine g_aload_n (pc' := 72) C dX6_belong_71 rfl rfl ?_
    refine gg_X6_0 (pc' := 75) (i := 0) C rfl hi_X6_belong_X6 lk_X6_belong_1 dX6_belong_72 rfl ?_
    refine g_iconst (pc' := 76) (v := 1) C dX6_belong_75 (by decide) rfl ?_
    refine g_iald0 (pc' := 77) (i := 0) (j := 1) C rfl rfl dX6_belong_76 rfl (by unfold vp_in; decide) ?_
    obtain ⟨rfl, rfl⟩ := pj2 (Option.some.inj h)
    exact g_iret C dX6_belong_77
def f_X6_belong_24 (N : Nat) (p0 : Int32) (p1 : Int32)  (M : tS) : Option (Int32 × tS) := (if p1 = (-5 : Int32) then f_X6_belong_35 N p0 p1 (-1 : Int32) M else f_X6_belong_35 N p0 p1 p1 M)
set_option maxRecDepth 100000 in
set_option maxHeartbeats 4000000 in
theorem B_X6_belong_24 {X : gX} (C : cx X RX6 cX6_belong 5 (some .int) wsX6_belong 4 87) (a : Nat → Nat) (N : Nat) (p0 : Int32) (p1 : Int32) (r : Int32) (Mz : tS)  (M : tS) (h : f_X6_belong_24 N p0 p1  M = some (r, Mz)) : G X (QI X r [mdW (gcA X) a Mz]) [mdW (gcA X) a M] [some (.ref (a 0)), some (.int p0), some (.int p1), none, none] [] 24 := by
  unfold f_X6_belong_24 at h
  refine g_iload_n (pc' := 25) C dX6_belong_24 rfl rfl ?_
  refine g_bipush (pc' := 27) (v := -5) C dX6_belong_25 (by decide) rfl ?_
  refine g_icmp_ne (pc' := 30) (tgt := 34) C dX6_belong_27 (by decide) rfl h (fun c h => ?_) (fun c h => ?_)
  · refine g_iconst (pc' := 31) (v := -1) C dX6_belong_30 (by decide) rfl ?_
    refine g_goto (pc' := 35) C dX6_belong_31 (by decide) ?_
    exact G_loc (lle_s (lle_s (lle_s (lle_n (lle_n lle_0))))) (B_X6_belong_35 C a N p0 p1 r Mz (-1 : Int32) M h)
  · refine g_iload_n (pc' := 35) C dX6_belong_34 rfl rfl ?_
    exact G_loc (lle_s (lle_s (lle_s (lle_n (lle_n lle_0))))) (B_X6_belong_35 C a N p0 p1 r Mz p1 M h)
def f_X6_belong (N : Nat) (M : tS) (p0 : Int32) (p1 : Int32) : Option (Int32 × tS) := (bd (f_X6_isNote N M p0) (fun r1 => (if r1 = 0 then some ((-1 : Int32), M) else (if p1 = (-5 : Int32) then f_X6_belong_24 N p0 p1 M else (bd (f_X6_isTheme N M p1) (fun r2 => (if r2 = 0 then some ((-1 : Int32), M) else f_X6_belong_24 N p0 p1 M)))))))
set_option maxRecDepth 100000 in
set_option maxHeartbeats 4000000 in
theorem B_X6_belong {X : gX} (C : cx X RX6 cX6_belong 5 (some .int) wsX6_belong 4 87) (a : Nat → Nat) (N : Nat) (M : tS) (p0 : Int32) (p1 : Int32) (r : Int32) (Mz : tS) (h : f_X6_belong N M p0 p1 = some (r, Mz)) : G X (QI X r [mdW (gcA X) a Mz]) [mdW (gcA X) a M] [some (.ref (a 0)), some (.int p0), some (.int p1), none, none] [] 0 := by
  unfold f_X6_belong at h
  refine g_aload_n (pc' := 1) C dX6_belong_0 rfl rfl ?_
  refine g_iload_n (pc' := 2) C dX6_belong_1 rfl rfl ?_
  refine k_X6_isNote (pc' := 5) C a N M p0 [0] rfl (by decide) gX6_belong_X6_isNote ⟨Nat.le_of_ble_eq_true rfl, Nat.le_of_ble_eq_true rfl⟩ (Nat.le_of_ble_eq_true rfl) rfl dX6_belong_2 rfl h (fun r1 h => ?_)
  refine g_if_eq (pc' := 8) (tgt := 22) C dX6_belong_5 (by decide) rfl h (fun c h => ?_) (fun c h => ?_)
  · refine g_iconst (pc' := 23) (v := -1) C dX6_belong_22 (by decide) rfl ?_
    obtain ⟨rfl, rfl⟩ := pj2 (Option.some.inj h)
    exact g_iret C dX6_belong_23
  · refine g_iload_n (pc' := 9) C dX6_belong_8 rfl rfl ?_
    refine g_bipush (pc' := 11) (v := -5) C dX6_belong_9 (by decide) rfl ?_
    refine g_icmp_eq (pc' := 14) (tgt := 24) C dX6_belong_11 (by decide) rfl h (fun c h => ?_) (fun c h => ?_)
    · exact G_loc (lle_s (lle_s (lle_s (lle_n (lle_n lle_0))))) (B_X6_belong_24 C a N p0 p1 r Mz M h)
    · refine g_aload_n (pc' := 15) C dX6_belong_14 rfl rfl ?_
      refine g_iload_n (pc' := 16) C dX6_belong_15 rfl rfl ?_
      refine k_X6_isTheme (pc' := 19) C a N M p1 [0] rfl (by decide) gX6_belong_X6_isTheme ⟨Nat.le_of_ble_eq_true rfl, Nat.le_of_ble_eq_true rfl⟩ (Nat.le_of_ble_eq_true rfl) rfl dX6_belong_16 rfl h (fun r2 h => ?_)
      refine g_if_ne (pc' := 22) (tgt := 24) C dX6_belong_19 (by decide) rfl h (fun c h => ?_) (fun c h => ?_)
      · refine g_iconst (pc' := 23) (v := -1) C dX6_belong_22 (by decide) rfl ?_
        obtain ⟨rfl, rfl⟩ := pj2 (Option.some.inj h)
        exact g_iret C dX6_belong_23
      · exact G_loc (lle_s (lle_s (lle_s (lle_n (lle_n lle_0))))) (B_X6_belong_24 C a N p0 p1 r Mz M h)
set_option maxRecDepth 100000 in
set_option maxHeartbeats 4000000 in
theorem c_X6_belong (l : Launch) (D : va_G) (cA : Nat → ClassId) (a : Nat → Nat) (N : Nat) (M : tS) (p0 : Int32) (p1 : Int32) (r : Int32) (Mz : tS) (h : f_X6_belong N M p0 p1 = some (r, Mz)) : MI l D cA yX6_belong wsX6_belong 4 87 [.ref (a 0), .int p0, .int p1] [mdW cA a M] r [mdW cA a Mz] := MI_of (cc := cX6_belong) (maxL := 5) (rt := some .int) (by decide +kernel) rfl (List.forall_mem_cons.mpr ⟨rfl, List.forall_mem_cons.mpr ⟨rfl, List.forall_mem_cons.mpr ⟨rfl, List.forall_mem_nil _⟩⟩⟩) (Nat.le_of_ble_eq_true rfl) (fun X e1 e2 e3 C => by subst e1; subst e2; subst e3; exact B_X6_belong C a N M p0 p1 r Mz h)
set_option maxRecDepth 100000 in
set_option maxHeartbeats 4000000 in
theorem nd_X6_belong : nd yX6_belong 2 := ⟨by decide +kernel, by decide +kernel, by decide +kernel⟩
set_option maxRecDepth 100000 in
set_option maxHeartbeats 4000000 in
theorem k_X6_belong {X : gX} {own : String} {cc : ByteArray} {nL : Nat} {ret : Option FieldType} {Ts : List Cond} {fr lm : Nat} {Q : State → Prop} {ms : List va_W} {L : List (Option Value)} {st : List Value} {pc pc' idx : Nat} {ρ : Type} {T : Int32 → tS → Option ρ} {res : ρ} (C : cx X own cc nL ret Ts fr lm) (a : Nat → Nat) (N : Nat) (M : tS) (p0 : Int32) (p1 : Int32) (is : List Nat) (hC : is.map (fun i => ms[i]?) = [some (mdW (gcA X) a M)]) (hn : is.Nodup) (hG : GoodIn Ts (wsV own idx RX6 yX6_belong wsX6_belong)) (hR : 4 + 1 ≤ fr ∧ 8 + (5 + 11) + 87 ≤ lm) (hst : (st.map fun v => v.category).sum ≤ 8) (hLn : L.length = nL) (d : decode cc pc = .ok (.invokevirtual idx, 3)) (hp : pc + 3 = pc') (h : bd2 (f_X6_belong N M p0 p1) T = some res) (kk : ∀ (r : Int32) (Mz : tS), T r Mz = some res → G X Q (rpl ms is [mdW (gcA X) a Mz]) L (.int r :: st) pc') : G X Q ms L (.int p1 :: .int p0 :: .ref (a 0) :: st) pc := by
  obtain ⟨r, Mz, h1, h⟩ := ob2 h
  exact G_callVI C (As := [.int p0, .int p1]) (c_X6_belong (gl X) (gD X) (gcA X) a N M p0 p1 r Mz h1) hG rfl nd_X6_belong hR (q0 := 0) rfl rfl hC hn rfl rfl hst hLn d hp (kk r Mz h)
theorem hi_X6_vote_X6 : ∀ w ∈ wsX60, w ∈ wsX6_vote := fun w h => List.mem_cons_of_mem _ (List.mem_append_right _ h)
theorem lk_X6_vote_1 : Cond.fieldLink RX6 7 "NoteThemesModel" "s" "[I" ∈ wsX6_vote := List.mem_of_getElem? (i := 1) rfl
def f_X6_vote_47 (N : Nat) (p0 : Int32) (p1 : Int32) (p2 : Int32)  (t0 : Int32) (M : tS) : Option (Int32 × tS) := (bd (f_X6_voteOf N M p1 p0) (fun r1 => (if r1 = t0 then some ((-5 : Int32), M) else (bd (f_X6_records N M) (fun M2 => (if (((185 : Int32) + ((6 : Int32) * p1)) + p0) < 0 ∨ 233 ≤ (((185 : Int32) + ((6 : Int32) * p1)) + p0).toNatClampNeg then none else (bd (f_X6_nameOf N (va_up M2 0 (upd (M2 0) (((185 : Int32) + ((6 : Int32) * p1)) + p0).toNatClampNeg (t0 + (1 : Int32)))) p1) (fun r3 => (if r3 = (-5 : Int32) then some ((10 : Int32), (va_up M2 0 (upd (M2 0) (((185 : Int32) + ((6 : Int32) * p1)) + p0).toNatClampNeg (t0 + (1 : Int32))))) else some (r3, (va_up M2 0 (upd (M2 0) (((185 : Int32) + ((6 : Int32) * p1)) + p0).toNatClampNeg (t0 + (1 : Int32))))))))))))))
set_option maxRecDepth 100000 in
set_option maxHeartbeats 4000000 in
theorem B_X6_vote_47 {X : gX} (C : cx X RX6 cX6_vote 6 (some .int) wsX6_vote 3 73) (a : Nat → Nat) (N : Nat) (p0 : Int32) (p1 : Int32) (p2 : Int32) (r : Int32) (Mz : tS)  (t0 : Int32) (M : tS) (h : f_X6_vote_47 N p0 p1 p2  t0 M = some (r, Mz)) : G X (QI X r [mdW (gcA X) a Mz]) [mdW (gcA X) a M] [some (.ref (a 0)), some (.int p0), some (.int p1), some (.int p2), none, none] [.int t0] 47 := by
  unfold f_X6_vote_47 at h
  refine g_istore (pc' := 49) C dX6_vote_47 (Nat.le_of_ble_eq_true rfl) rfl (L' := [some (.ref (a 0)), some (.int p0), some (.int p1), some (.int p2), some (.int t0), none]) rfl ?_
  refine g_aload_n (pc' := 50) C dX6_vote_49 rfl rfl ?_
  refine g_iload_n (pc' := 51) C dX6_vote_50 rfl rfl ?_
  refine g_iload_n (pc' := 52) C dX6_vote_51 rfl rfl ?_
  refine k_X6_voteOf (pc' := 55) C a N M p1 p0 [0] rfl (by decide) gX6_vote_X6_voteOf ⟨Nat.le_of_ble_eq_true rfl, Nat.le_of_ble_eq_true rfl⟩ (Nat.le_of_ble_eq_true rfl) rfl dX6_vote_52 rfl h (fun r1 h => ?_)
  refine g_iload (pc' := 57) C dX6_vote_55 rfl rfl ?_
  refine g_icmp_ne (pc' := 60) (tgt := 63) C dX6_vote_57 (by decide) rfl h (fun c h => ?_) (fun c h => ?_)
  · refine g_bipush (pc' := 62) (v := -5) C dX6_vote_60 (by decide) rfl ?_
    obtain ⟨rfl, rfl⟩ := pj2 (Option.some.inj h)
    exact g_iret C dX6_vote_62
  · refine g_aload_n (pc' := 64) C dX6_vote_63 rfl rfl ?_
    refine k_X6_records (pc' := 67) C a N M [0] rfl (by decide) gX6_vote_X6_records ⟨Nat.le_of_ble_eq_true rfl, Nat.le_of_ble_eq_true rfl⟩ (Nat.le_of_ble_eq_true rfl) rfl dX6_vote_64 rfl h (fun M2 h => ?_)
    show G X _ [mdW (gcA X) a M2] _ _ _
    refine g_aload_n (pc' := 68) C dX6_vote_67 rfl rfl ?_
    refine gg_X6_0 (pc' := 71) (i := 0) C rfl hi_X6_vote_X6 lk_X6_vote_1 dX6_vote_68 rfl ?_
    refine g_sipush (pc' := 74) (v := 185) C dX6_vote_71 (by decide) rfl ?_
    refine g_bipush (pc' := 76) (v := 6) C dX6_vote_74 (by decide) rfl ?_
    refine g_iload_n (pc' := 77) C dX6_vote_76 rfl rfl ?_
    refine g_imul (pc' := 78) C dX6_vote_77 rfl ?_
    refine g_iadd (pc' := 79) C dX6_vote_78 rfl ?_
    refine g_iload_n (pc' := 80) C dX6_vote_79 rfl rfl ?_
    refine g_iadd (pc' := 81) C dX6_vote_80 rfl ?_
    refine g_iload (pc' := 83) C dX6_vote_81 rfl rfl ?_
    refine g_iconst (pc' := 84) (v := 1) C dX6_vote_83 (by decide) rfl ?_
    refine g_iadd (pc' := 85) C dX6_vote_84 rfl ?_
    refine g_iast (pc' := 86) (i := 0) (j := 1) (w' := mdW (gcA X) a (va_up M2 0 (upd (M2 0) (((185 : Int32) + ((6 : Int32) * p1)) + p0).toNatClampNeg (t0 + (1 : Int32))))) C rfl rfl rfl dX6_vote_85 rfl h (fun h => ?_)
    show G X _ [mdW (gcA X) a (va_up M2 0 (upd (M2 0) (((185 : Int32) + ((6 : Int32) * p1)) + p0).toNatClampNeg (t0 + (1 : Int32))))] _ _ _
    refine g_aload_n (pc' := 87) C dX6_vote_86 rfl rfl ?_
    refine g_iload_n (pc' := 88) C dX6_vote_87 rfl rfl ?_
    refine k_X6_nameOf (pc' := 91) C a N (va_up M2 0 (upd (M2 0) (((185 : Int32) + ((6 : Int32) * p1)) + p0).toNatClampNeg (t0 + (1 : Int32)))) p1 [0] rfl (by decide) gX6_vote_X6_nameOf ⟨Nat.le_of_ble_eq_true rfl, Nat.le_of_ble_eq_true rfl⟩ (Nat.le_of_ble_eq_true rfl) rfl dX6_vote_88 rfl h (fun r3 h => ?_)
    refine g_istore (pc' := 93) C dX6_vote_91 (Nat.le_of_ble_eq_true rfl) rfl (L' := [some (.ref (a 0)), some (.int p0), some (.int p1), some (.int p2), some (.int t0), some (.int r3)]) rfl ?_
    refine g_iload (pc' := 95) C dX6_vote_93 rfl rfl ?_
    refine g_bipush (pc' := 97) (v := -5) C dX6_vote_95 (by decide) rfl ?_
    refine g_icmp_ne (pc' := 100) (tgt := 105) C dX6_vote_97 (by decide) rfl h (fun c h => ?_) (fun c h => ?_)
    · refine g_bipush (pc' := 102) (v := 10) C dX6_vote_100 (by decide) rfl ?_
      refine g_goto (pc' := 107) C dX6_vote_102 (by decide) ?_
      obtain ⟨rfl, rfl⟩ := pj2 (Option.some.inj h)
      exact g_iret C dX6_vote_107
    · refine g_iload (pc' := 107) C dX6_vote_105 rfl rfl ?_
      obtain ⟨rfl, rfl⟩ := pj2 (Option.some.inj h)
      exact g_iret C dX6_vote_107
def f_X6_vote_36 (N : Nat) (p0 : Int32) (p1 : Int32) (p2 : Int32)  (M : tS) : Option (Int32 × tS) := (if p2 = (-5 : Int32) then f_X6_vote_47 N p0 p1 p2 (-1 : Int32) M else f_X6_vote_47 N p0 p1 p2 p2 M)
set_option maxRecDepth 100000 in
set_option maxHeartbeats 4000000 in
theorem B_X6_vote_36 {X : gX} (C : cx X RX6 cX6_vote 6 (some .int) wsX6_vote 3 73) (a : Nat → Nat) (N : Nat) (p0 : Int32) (p1 : Int32) (p2 : Int32) (r : Int32) (Mz : tS)  (M : tS) (h : f_X6_vote_36 N p0 p1 p2  M = some (r, Mz)) : G X (QI X r [mdW (gcA X) a Mz]) [mdW (gcA X) a M] [some (.ref (a 0)), some (.int p0), some (.int p1), some (.int p2), none, none] [] 36 := by
  unfold f_X6_vote_36 at h
  refine g_iload_n (pc' := 37) C dX6_vote_36 rfl rfl ?_
  refine g_bipush (pc' := 39) (v := -5) C dX6_vote_37 (by decide) rfl ?_
  refine g_icmp_ne (pc' := 42) (tgt := 46) C dX6_vote_39 (by decide) rfl h (fun c h => ?_) (fun c h => ?_)
  · refine g_iconst (pc' := 43) (v := -1) C dX6_vote_42 (by decide) rfl ?_
    refine g_goto (pc' := 47) C dX6_vote_43 (by decide) ?_
    exact G_loc (lle_s (lle_s (lle_s (lle_s (lle_n (lle_n lle_0)))))) (B_X6_vote_47 C a N p0 p1 p2 r Mz (-1 : Int32) M h)
  · refine g_iload_n (pc' := 47) C dX6_vote_46 rfl rfl ?_
    exact G_loc (lle_s (lle_s (lle_s (lle_s (lle_n (lle_n lle_0)))))) (B_X6_vote_47 C a N p0 p1 p2 r Mz p2 M h)
def f_X6_vote (N : Nat) (M : tS) (p0 : Int32) (p1 : Int32) (p2 : Int32) : Option (Int32 × tS) := (bd (f_X6_isPerson N p0) (fun r1 => (if r1 = 0 then some ((-1 : Int32), M) else (bd (f_X6_isTheme N M p1) (fun r2 => (if r2 = 0 then some ((-1 : Int32), M) else (if p2 = (-5 : Int32) then f_X6_vote_36 N p0 p1 p2 M else (bd (f_X6_in N p2 (0 : Int32) (9 : Int32)) (fun r3 => (if r3 = 0 then some ((-2 : Int32), M) else f_X6_vote_36 N p0 p1 p2 M))))))))))
set_option maxRecDepth 100000 in
set_option maxHeartbeats 4000000 in
theorem B_X6_vote {X : gX} (C : cx X RX6 cX6_vote 6 (some .int) wsX6_vote 3 73) (a : Nat → Nat) (N : Nat) (M : tS) (p0 : Int32) (p1 : Int32) (p2 : Int32) (r : Int32) (Mz : tS) (h : f_X6_vote N M p0 p1 p2 = some (r, Mz)) : G X (QI X r [mdW (gcA X) a Mz]) [mdW (gcA X) a M] [some (.ref (a 0)), some (.int p0), some (.int p1), some (.int p2), none, none] [] 0 := by
  unfold f_X6_vote at h
  refine g_iload_n (pc' := 1) C dX6_vote_0 rfl rfl ?_
  refine k_X6_isPerson (pc' := 4) C N p0 [] rfl (by decide) gX6_vote_X6_isPerson ⟨Nat.le_of_ble_eq_true rfl, Nat.le_of_ble_eq_true rfl⟩ (Nat.le_of_ble_eq_true rfl) rfl dX6_vote_1 rfl h (fun r1 h => ?_)
  refine g_if_eq (pc' := 7) (tgt := 15) C dX6_vote_4 (by decide) rfl h (fun c h => ?_) (fun c h => ?_)
  · refine g_iconst (pc' := 16) (v := -1) C dX6_vote_15 (by decide) rfl ?_
    obtain ⟨rfl, rfl⟩ := pj2 (Option.some.inj h)
    exact g_iret C dX6_vote_16
  · refine g_aload_n (pc' := 8) C dX6_vote_7 rfl rfl ?_
    refine g_iload_n (pc' := 9) C dX6_vote_8 rfl rfl ?_
    refine k_X6_isTheme (pc' := 12) C a N M p1 [0] rfl (by decide) gX6_vote_X6_isTheme ⟨Nat.le_of_ble_eq_true rfl, Nat.le_of_ble_eq_true rfl⟩ (Nat.le_of_ble_eq_true rfl) rfl dX6_vote_9 rfl h (fun r2 h => ?_)
    refine g_if_ne (pc' := 15) (tgt := 17) C dX6_vote_12 (by decide) rfl h (fun c h => ?_) (fun c h => ?_)
    · refine g_iconst (pc' := 16) (v := -1) C dX6_vote_15 (by decide) rfl ?_
      obtain ⟨rfl, rfl⟩ := pj2 (Option.some.inj h)
      exact g_iret C dX6_vote_16
    · refine g_iload_n (pc' := 18) C dX6_vote_17 rfl rfl ?_
      refine g_bipush (pc' := 20) (v := -5) C dX6_vote_18 (by decide) rfl ?_
      refine g_icmp_eq (pc' := 23) (tgt := 36) C dX6_vote_20 (by decide) rfl h (fun c h => ?_) (fun c h => ?_)
      · exact G_loc (lle_s (lle_s (lle_s (lle_s (lle_n (lle_n lle_0)))))) (B_X6_vote_36 C a N p0 p1 p2 r Mz M h)
      · refine g_iload_n (pc' := 24) C dX6_vote_23 rfl rfl ?_
        refine g_iconst (pc' := 25) (v := 0) C dX6_vote_24 (by decide) rfl ?_
        refine g_bipush (pc' := 27) (v := 9) C dX6_vote_25 (by decide) rfl ?_
        refine k_X6_in (pc' := 30) C N p2 (0 : Int32) (9 : Int32) [] rfl (by decide) gX6_vote_X6_in ⟨Nat.le_of_ble_eq_true rfl, Nat.le_of_ble_eq_true rfl⟩ (Nat.le_of_ble_eq_true rfl) rfl dX6_vote_27 rfl h (fun r3 h => ?_)
        refine g_if_ne (pc' := 33) (tgt := 36) C dX6_vote_30 (by decide) rfl h (fun c h => ?_) (fun c h => ?_)
        · refine g_bipush (pc' := 35) (v := -2) C dX6_vote_33 (by decide) rfl ?_
          obtain ⟨rfl, rfl⟩ := pj2 (Option.some.inj h)
          exact g_iret C dX6_vote_35
        · exact G_loc (lle_s (lle_s (lle_s (lle_s (lle_n (lle_n lle_0)))))) (B_X6_vote_36 C a N p0 p1 p2 r Mz M h)
set_option maxRecDepth 100000 in
set_option maxHeartbeats 4000000 in
theorem c_X6_vote (l : Launch) (D : va_G) (cA : Nat → ClassId) (a : Nat → Nat) (N : Nat) (M : tS) (p0 : Int32) (p1 : Int32) (p2 : Int32) (r : Int32) (Mz : tS) (h : f_X6_vote N M p0 p1 p2 = some (r, Mz)) : MI l D cA yX6_vote wsX6_vote 3 73 [.ref (a 0), .int p0, .int p1, .int p2] [mdW cA a M] r [mdW cA a Mz] := MI_of (cc := cX6_vote) (maxL := 6) (rt := some .int) (by decide +kernel) rfl (List.forall_mem_cons.mpr ⟨rfl, List.forall_mem_cons.mpr ⟨rfl, List.forall_mem_cons.mpr ⟨rfl, List.forall_mem_cons.mpr ⟨rfl, List.forall_mem_nil _⟩⟩⟩⟩) (Nat.le_of_ble_eq_true rfl) (fun X e1 e2 e3 C => by subst e1; subst e2; subst e3; exact B_X6_vote C a N M p0 p1 p2 r Mz h)
set_option maxRecDepth 100000 in
set_option maxHeartbeats 4000000 in
theorem nd_X6_vote : nd yX6_vote 3 := ⟨by decide +kernel, by decide +kernel, by decide +kernel⟩
set_option maxRecDepth 100000 in
set_option maxHeartbeats 4000000 in
theorem k_X6_vote {X : gX} {own : String} {cc : ByteArray} {nL : Nat} {ret : Option FieldType} {Ts : List Cond} {fr lm : Nat} {Q : State → Prop} {ms : List va_W} {L : List (Option Value)} {st : List Value} {pc pc' idx : Nat} {ρ : Type} {T : Int32 → tS → Option ρ} {res : ρ} (C : cx X own cc nL ret Ts fr lm) (a : Nat → Nat) (N : Nat) (M : tS) (p0 : Int32) (p1 : Int32) (p2 : Int32) (is : List Nat) (hC : is.map (fun i => ms[i]?) = [some (mdW (gcA X) a M)]) (hn : is.Nodup) (hG : GoodIn Ts (wsV own idx RX6 yX6_vote wsX6_vote)) (hR : 3 + 1 ≤ fr ∧ 8 + (6 + 11) + 73 ≤ lm) (hst : (st.map fun v => v.category).sum ≤ 8) (hLn : L.length = nL) (d : decode cc pc = .ok (.invokevirtual idx, 3)) (hp : pc + 3 = pc') (h : bd2 (f_X6_vote N M p0 p1 p2) T = some res) (kk : ∀ (r : Int32) (Mz : tS), T r Mz = some res → G X Q (rpl ms is [mdW (gcA X) a Mz]) L (.int r :: st) pc') : G X Q ms L (.int p2 :: .int p1 :: .int p0 :: .ref (a 0) :: st) pc := by
  obtain ⟨r, Mz, h1, h⟩ := ob2 h
  exact G_callVI C (As := [.int p0, .int p1, .int p2]) (c_X6_vote (gl X) (gD X) (gcA X) a N M p0 p1 p2 r Mz h1) hG rfl nd_X6_vote hR (q0 := 0) rfl rfl hC hn rfl rfl hst hLn d hp (kk r Mz h)
theorem hi_X6_set_X6 : ∀ w ∈ wsX60, w ∈ wsX6_set := fun w h => List.mem_cons_of_mem _ (List.mem_append_right _ h)
theorem lk_X6_set_1 : Cond.fieldLink RX6 7 "NoteThemesModel" "s" "[I" ∈ wsX6_set := List.mem_of_getElem? (i := 1) rfl
def f_X6_set_32 (N : Nat) (p0 : Int32) (p1 : Int32)  (t0 : Int32) (t1 : Int32) (t2 : Int32) (M : tS) : Option (Int32 × tS) := (bd (f_X6_in N t2 t1 t0) (fun r1 => (if r1 = 0 then some ((-2 : Int32), M) else (if ((2 : Int32) + p0) < 0 ∨ 233 ≤ ((2 : Int32) + p0).toNatClampNeg then none else (if (M 0 ((2 : Int32) + p0).toNatClampNeg) = p1 then some ((-5 : Int32), M) else (bd (f_X6_records N M) (fun M2 => (if ((2 : Int32) + p0) < 0 ∨ 233 ≤ ((2 : Int32) + p0).toNatClampNeg then none else some ((M 0 ((2 : Int32) + p0).toNatClampNeg), (va_up M2 0 (upd (M2 0) ((2 : Int32) + p0).toNatClampNeg p1)))))))))))
set_option maxRecDepth 100000 in
set_option maxHeartbeats 4000000 in
theorem B_X6_set_32 {X : gX} (C : cx X RX6 cX6_set 4 (some .int) wsX6_set 2 45) (a : Nat → Nat) (N : Nat) (p0 : Int32) (p1 : Int32) (r : Int32) (Mz : tS)  (t0 : Int32) (t1 : Int32) (t2 : Int32) (M : tS) (h : f_X6_set_32 N p0 p1  t0 t1 t2 M = some (r, Mz)) : G X (QI X r [mdW (gcA X) a Mz]) [mdW (gcA X) a M] [some (.ref (a 0)), some (.int p0), some (.int p1), none] [.int t0, .int t1, .int t2] 32 := by
  unfold f_X6_set_32 at h
  refine k_X6_in (pc' := 35) C N t2 t1 t0 [] rfl (by decide) gX6_set_X6_in ⟨Nat.le_of_ble_eq_true rfl, Nat.le_of_ble_eq_true rfl⟩ (Nat.le_of_ble_eq_true rfl) rfl dX6_set_32 rfl h (fun r1 h => ?_)
  refine g_if_ne (pc' := 38) (tgt := 41) C dX6_set_35 (by decide) rfl h (fun c h => ?_) (fun c h => ?_)
  · refine g_bipush (pc' := 40) (v := -2) C dX6_set_38 (by decide) rfl ?_
    obtain ⟨rfl, rfl⟩ := pj2 (Option.some.inj h)
    exact g_iret C dX6_set_40
  · refine g_aload_n (pc' := 42) C dX6_set_41 rfl rfl ?_
    refine gg_X6_0 (pc' := 45) (i := 0) C rfl hi_X6_set_X6 lk_X6_set_1 dX6_set_42 rfl ?_
    refine g_iconst (pc' := 46) (v := 2) C dX6_set_45 (by decide) rfl ?_
    refine g_iload_n (pc' := 47) C dX6_set_46 rfl rfl ?_
    refine g_iadd (pc' := 48) C dX6_set_47 rfl ?_
    refine g_iald (pc' := 49) (i := 0) (j := 1) C rfl rfl dX6_set_48 rfl h (fun h => ?_)
    refine g_istore_n (pc' := 50) C dX6_set_49 (Nat.le_of_ble_eq_true rfl) rfl (L' := [some (.ref (a 0)), some (.int p0), some (.int p1), some (.int (M 0 ((2 : Int32) + p0).toNatClampNeg))]) rfl ?_
    refine g_iload_n (pc' := 51) C dX6_set_50 rfl rfl ?_
    refine g_iload_n (pc' := 52) C dX6_set_51 rfl rfl ?_
    refine g_icmp_ne (pc' := 55) (tgt := 58) C dX6_set_52 (by decide) rfl h (fun c h => ?_) (fun c h => ?_)
    · refine g_bipush (pc' := 57) (v := -5) C dX6_set_55 (by decide) rfl ?_
      obtain ⟨rfl, rfl⟩ := pj2 (Option.some.inj h)
      exact g_iret C dX6_set_57
    · refine g_aload_n (pc' := 59) C dX6_set_58 rfl rfl ?_
      refine k_X6_records (pc' := 62) C a N M [0] rfl (by decide) gX6_set_X6_records ⟨Nat.le_of_ble_eq_true rfl, Nat.le_of_ble_eq_true rfl⟩ (Nat.le_of_ble_eq_true rfl) rfl dX6_set_59 rfl h (fun M2 h => ?_)
      show G X _ [mdW (gcA X) a M2] _ _ _
      refine g_aload_n (pc' := 63) C dX6_set_62 rfl rfl ?_
      refine gg_X6_0 (pc' := 66) (i := 0) C rfl hi_X6_set_X6 lk_X6_set_1 dX6_set_63 rfl ?_
      refine g_iconst (pc' := 67) (v := 2) C dX6_set_66 (by decide) rfl ?_
      refine g_iload_n (pc' := 68) C dX6_set_67 rfl rfl ?_
      refine g_iadd (pc' := 69) C dX6_set_68 rfl ?_
      refine g_iload_n (pc' := 70) C dX6_set_69 rfl rfl ?_
      refine g_iast (pc' := 71) (i := 0) (j := 1) (w' := mdW (gcA X) a (va_up M2 0 (upd (M2 0) ((2 : Int32) + p0).toNatClampNeg p1))) C rfl rfl rfl dX6_set_70 rfl h (fun h => ?_)
      show G X _ [mdW (gcA X) a (va_up M2 0 (upd (M2 0) ((2 : Int32) + p0).toNatClampNeg p1))] _ _ _
      refine g_iload_n (pc' := 72) C dX6_set_71 rfl rfl ?_
      obtain ⟨rfl, rfl⟩ := pj2 (Option.some.inj h)
      exact g_iret C dX6_set_72
def f_X6_set_21 (N : Nat) (p0 : Int32) (p1 : Int32)  (t0 : Int32) (t1 : Int32) (M : tS) : Option (Int32 × tS) := (if p0 = 0 then f_X6_set_32 N p0 p1 (20 : Int32) t0 t1 M else f_X6_set_32 N p0 p1 (9 : Int32) t0 t1 M)
set_option maxRecDepth 100000 in
set_option maxHeartbeats 4000000 in
theorem B_X6_set_21 {X : gX} (C : cx X RX6 cX6_set 4 (some .int) wsX6_set 2 45) (a : Nat → Nat) (N : Nat) (p0 : Int32) (p1 : Int32) (r : Int32) (Mz : tS)  (t0 : Int32) (t1 : Int32) (M : tS) (h : f_X6_set_21 N p0 p1  t0 t1 M = some (r, Mz)) : G X (QI X r [mdW (gcA X) a Mz]) [mdW (gcA X) a M] [some (.ref (a 0)), some (.int p0), some (.int p1), none] [.int t0, .int t1] 21 := by
  unfold f_X6_set_21 at h
  refine g_iload_n (pc' := 22) C dX6_set_21 rfl rfl ?_
  refine g_if_ne (pc' := 25) (tgt := 30) C dX6_set_22 (by decide) rfl h (fun c h => ?_) (fun c h => ?_)
  · refine g_bipush (pc' := 27) (v := 20) C dX6_set_25 (by decide) rfl ?_
    refine g_goto (pc' := 32) C dX6_set_27 (by decide) ?_
    exact G_loc (lle_s (lle_s (lle_s (lle_n lle_0)))) (B_X6_set_32 C a N p0 p1 r Mz (20 : Int32) t0 t1 M h)
  · refine g_bipush (pc' := 32) (v := 9) C dX6_set_30 (by decide) rfl ?_
    exact G_loc (lle_s (lle_s (lle_s (lle_n lle_0)))) (B_X6_set_32 C a N p0 p1 r Mz (9 : Int32) t0 t1 M h)
def f_X6_set (N : Nat) (M : tS) (p0 : Int32) (p1 : Int32) : Option (Int32 × tS) := (bd (f_X6_in N p0 (0 : Int32) (2 : Int32)) (fun r1 => (if r1 = 0 then some ((-1 : Int32), M) else (if p0 = 0 then f_X6_set_21 N p0 p1 (0 : Int32) p1 M else f_X6_set_21 N p0 p1 (1 : Int32) p1 M))))
set_option maxRecDepth 100000 in
set_option maxHeartbeats 4000000 in
theorem B_X6_set {X : gX} (C : cx X RX6 cX6_set 4 (some .int) wsX6_set 2 45) (a : Nat → Nat) (N : Nat) (M : tS) (p0 : Int32) (p1 : Int32) (r : Int32) (Mz : tS) (h : f_X6_set N M p0 p1 = some (r, Mz)) : G X (QI X r [mdW (gcA X) a Mz]) [mdW (gcA X) a M] [some (.ref (a 0)), some (.int p0), some (.int p1), none] [] 0 := by
  unfold f_X6_set at h
  refine g_iload_n (pc' := 1) C dX6_set_0 rfl rfl ?_
  refine g_iconst (pc' := 2) (v := 0) C dX6_set_1 (by decide) rfl ?_
  refine g_iconst (pc' := 3) (v := 2) C dX6_set_2 (by decide) rfl ?_
  refine k_X6_in (pc' := 6) C N p0 (0 : Int32) (2 : Int32) [] rfl (by decide) gX6_set_X6_in ⟨Nat.le_of_ble_eq_true rfl, Nat.le_of_ble_eq_true rfl⟩ (Nat.le_of_ble_eq_true rfl) rfl dX6_set_3 rfl h (fun r1 h => ?_)
  refine g_if_ne (pc' := 9) (tgt := 11) C dX6_set_6 (by decide) rfl h (fun c h => ?_) (fun c h => ?_)
  · refine g_iconst (pc' := 10) (v := -1) C dX6_set_9 (by decide) rfl ?_
    obtain ⟨rfl, rfl⟩ := pj2 (Option.some.inj h)
    exact g_iret C dX6_set_10
  · refine g_iload_n (pc' := 12) C dX6_set_11 rfl rfl ?_
    refine g_iload_n (pc' := 13) C dX6_set_12 rfl rfl ?_
    refine g_if_ne (pc' := 16) (tgt := 20) C dX6_set_13 (by decide) rfl h (fun c h => ?_) (fun c h => ?_)
    · refine g_iconst (pc' := 17) (v := 0) C dX6_set_16 (by decide) rfl ?_
      refine g_goto (pc' := 21) C dX6_set_17 (by decide) ?_
      exact G_loc (lle_s (lle_s (lle_s (lle_n lle_0)))) (B_X6_set_21 C a N p0 p1 r Mz (0 : Int32) p1 M h)
    · refine g_iconst (pc' := 21) (v := 1) C dX6_set_20 (by decide) rfl ?_
      exact G_loc (lle_s (lle_s (lle_s (lle_n lle_0)))) (B_X6_set_21 C a N p0 p1 r Mz (1 : Int32) p1 M h)
set_option maxRecDepth 100000 in
set_option maxHeartbeats 4000000 in
theorem c_X6_set (l : Launch) (D : va_G) (cA : Nat → ClassId) (a : Nat → Nat) (N : Nat) (M : tS) (p0 : Int32) (p1 : Int32) (r : Int32) (Mz : tS) (h : f_X6_set N M p0 p1 = some (r, Mz)) : MI l D cA yX6_set wsX6_set 2 45 [.ref (a 0), .int p0, .int p1] [mdW cA a M] r [mdW cA a Mz] := MI_of (cc := cX6_set) (maxL := 4) (rt := some .int) (by decide +kernel) rfl (List.forall_mem_cons.mpr ⟨rfl, List.forall_mem_cons.mpr ⟨rfl, List.forall_mem_cons.mpr ⟨rfl, List.forall_mem_nil _⟩⟩⟩) (Nat.le_of_ble_eq_true rfl) (fun X e1 e2 e3 C => by subst e1; subst e2; subst e3; exact B_X6_set C a N M p0 p1 r Mz h)
set_option maxRecDepth 100000 in
set_option maxHeartbeats 4000000 in
theorem nd_X6_set : nd yX6_set 2 := ⟨by decide +kernel, by decide +kernel, by decide +kernel⟩
set_option maxRecDepth 100000 in
set_option maxHeartbeats 4000000 in
theorem k_X6_set {X : gX} {own : String} {cc : ByteArray} {nL : Nat} {ret : Option FieldType} {Ts : List Cond} {fr lm : Nat} {Q : State → Prop} {ms : List va_W} {L : List (Option Value)} {st : List Value} {pc pc' idx : Nat} {ρ : Type} {T : Int32 → tS → Option ρ} {res : ρ} (C : cx X own cc nL ret Ts fr lm) (a : Nat → Nat) (N : Nat) (M : tS) (p0 : Int32) (p1 : Int32) (is : List Nat) (hC : is.map (fun i => ms[i]?) = [some (mdW (gcA X) a M)]) (hn : is.Nodup) (hG : GoodIn Ts (wsV own idx RX6 yX6_set wsX6_set)) (hR : 2 + 1 ≤ fr ∧ 8 + (4 + 11) + 45 ≤ lm) (hst : (st.map fun v => v.category).sum ≤ 8) (hLn : L.length = nL) (d : decode cc pc = .ok (.invokevirtual idx, 3)) (hp : pc + 3 = pc') (h : bd2 (f_X6_set N M p0 p1) T = some res) (kk : ∀ (r : Int32) (Mz : tS), T r Mz = some res → G X Q (rpl ms is [mdW (gcA X) a Mz]) L (.int r :: st) pc') : G X Q ms L (.int p1 :: .int p0 :: .ref (a 0) :: st) pc := by
  obtain ⟨r, Mz, h1, h⟩ := ob2 h
  exact G_callVI C (As := [.int p0, .int p1]) (c_X6_set (gl X) (gD X) (gcA X) a N M p0 p1 r Mz h1) hG rfl nd_X6_set hR (q0 := 0) rfl rfl hC hn rfl rfl hst hLn d hp (kk r Mz h)
theorem hi_X6_type_X6 : ∀ w ∈ wsX60, w ∈ wsX6_type := fun w h => List.mem_cons_of_mem _ (List.mem_append_right _ h)
theorem lk_X6_type_1 : Cond.fieldLink RX6 133 "NoteThemesModel" "length" "I" ∈ wsX6_type := List.mem_of_getElem? (i := 1) rfl
theorem lk_X6_type_2 : Cond.fieldLink RX6 19 "NoteThemesModel" "text" "[C" ∈ wsX6_type := List.mem_of_getElem? (i := 2) rfl
def f_X6_type (N : Nat) (M : tS) (p0 : Int32) : Option (Int32 × tS) := (if (M 6 0) = (80 : Int32) then some ((-3 : Int32), M) else (if (M 6 0) < 0 ∨ 80 ≤ (M 6 0).toNatClampNeg then none else (lt_ (va_up M 5 (upd (M 5) (M 6 0).toNatClampNeg (vp_nar .char p0))) (fun M1s => some (((M 6 0) + (1 : Int32)), (va_up M1s 6 (fun _ => ((M 6 0) + (1 : Int32)))))))))
set_option maxRecDepth 100000 in
set_option maxHeartbeats 4000000 in
theorem B_X6_type {X : gX} (C : cx X RX6 cX6_type 2 (some .int) wsX6_type 0 0) (a : Nat → Nat) (N : Nat) (M : tS) (p0 : Int32) (r : Int32) (Mz : tS) (h : f_X6_type N M p0 = some (r, Mz)) : G X (QI X r [mdW (gcA X) a Mz]) [mdW (gcA X) a M] [some (.ref (a 0)), some (.int p0)] [] 0 := by
  unfold f_X6_type at h
  refine g_aload_n (pc' := 1) C dX6_type_0 rfl rfl ?_
  refine gg_X6_6 (pc' := 4) (i := 0) C rfl hi_X6_type_X6 lk_X6_type_1 dX6_type_1 rfl ?_
  refine g_bipush (pc' := 6) (v := 80) C dX6_type_4 (by decide) rfl ?_
  refine g_icmp_ne (pc' := 9) (tgt := 12) C dX6_type_6 (by decide) rfl h (fun c h => ?_) (fun c h => ?_)
  · refine g_bipush (pc' := 11) (v := -3) C dX6_type_9 (by decide) rfl ?_
    obtain ⟨rfl, rfl⟩ := pj2 (Option.some.inj h)
    exact g_iret C dX6_type_11
  · refine g_aload_n (pc' := 13) C dX6_type_12 rfl rfl ?_
    refine gg_X6_5 (pc' := 16) (i := 0) C rfl hi_X6_type_X6 lk_X6_type_2 dX6_type_13 rfl ?_
    refine g_aload_n (pc' := 17) C dX6_type_16 rfl rfl ?_
    refine gg_X6_6 (pc' := 20) (i := 0) C rfl hi_X6_type_X6 lk_X6_type_1 dX6_type_17 rfl ?_
    refine g_iload_n (pc' := 21) C dX6_type_20 rfl rfl ?_
    refine g_cast (pc' := 22) (i := 0) (j := 4) (w' := mdW (gcA X) a (va_up M 5 (upd (M 5) (M 6 0).toNatClampNeg (vp_nar .char p0)))) C rfl rfl rfl dX6_type_21 rfl h (fun h => ?_)
    show G X _ [mdW (gcA X) a (va_up M 5 (upd (M 5) (M 6 0).toNatClampNeg (vp_nar .char p0)))] _ _ _
    refine g_aload_n (pc' := 23) C dX6_type_22 rfl rfl ?_
    refine g_dup (pc' := 24) C dX6_type_23 rfl rfl ?_
    refine gg_X6_6 (pc' := 27) (i := 0) C rfl hi_X6_type_X6 lk_X6_type_1 dX6_type_24 rfl ?_
    refine g_vi (v := (M 6 0)) rfl ?_
    refine g_iconst (pc' := 28) (v := 1) C dX6_type_27 (by decide) rfl ?_
    refine g_iadd (pc' := 29) C dX6_type_28 rfl ?_
    obtain ⟨M1s, eM1s, h⟩ := ol h
    rw [← eM1s]
    refine gp_X6_6 (pc' := 32) (i := 0) C rfl hi_X6_type_X6 lk_X6_type_1 dX6_type_29 rfl ?_
    show G X _ [mdW (gcA X) a (va_up M1s 6 (fun _ => ((M 6 0) + (1 : Int32))))] _ _ _
    refine g_aload_n (pc' := 33) C dX6_type_32 rfl rfl ?_
    refine gg_X6_6 (pc' := 36) (i := 0) C rfl hi_X6_type_X6 lk_X6_type_1 dX6_type_33 rfl ?_
    refine g_vi (v := ((M 6 0) + (1 : Int32))) rfl ?_
    obtain ⟨rfl, rfl⟩ := pj2 (Option.some.inj h)
    exact g_iret C dX6_type_36
set_option maxRecDepth 100000 in
set_option maxHeartbeats 4000000 in
theorem c_X6_type (l : Launch) (D : va_G) (cA : Nat → ClassId) (a : Nat → Nat) (N : Nat) (M : tS) (p0 : Int32) (r : Int32) (Mz : tS) (h : f_X6_type N M p0 = some (r, Mz)) : MI l D cA yX6_type wsX6_type 0 0 [.ref (a 0), .int p0] [mdW cA a M] r [mdW cA a Mz] := MI_of (cc := cX6_type) (maxL := 2) (rt := some .int) (by decide +kernel) rfl (List.forall_mem_cons.mpr ⟨rfl, List.forall_mem_cons.mpr ⟨rfl, List.forall_mem_nil _⟩⟩) (Nat.le_of_ble_eq_true rfl) (fun X e1 e2 e3 C => by subst e1; subst e2; subst e3; exact B_X6_type C a N M p0 r Mz h)
set_option maxRecDepth 100000 in
set_option maxHeartbeats 4000000 in
theorem nd_X6_type : nd yX6_type 1 := ⟨by decide +kernel, by decide +kernel, by decide +kernel⟩
set_option maxRecDepth 100000 in
set_option maxHeartbeats 4000000 in
theorem k_X6_type {X : gX} {own : String} {cc : ByteArray} {nL : Nat} {ret : Option FieldType} {Ts : List Cond} {fr lm : Nat} {Q : State → Prop} {ms : List va_W} {L : List (Option Value)} {st : List Value} {pc pc' idx : Nat} {ρ : Type} {T : Int32 → tS → Option ρ} {res : ρ} (C : cx X own cc nL ret Ts fr lm) (a : Nat → Nat) (N : Nat) (M : tS) (p0 : Int32) (is : List Nat) (hC : is.map (fun i => ms[i]?) = [some (mdW (gcA X) a M)]) (hn : is.Nodup) (hG : GoodIn Ts (wsV own idx RX6 yX6_type wsX6_type)) (hR : 0 + 1 ≤ fr ∧ 8 + (2 + 11) + 0 ≤ lm) (hst : (st.map fun v => v.category).sum ≤ 8) (hLn : L.length = nL) (d : decode cc pc = .ok (.invokevirtual idx, 3)) (hp : pc + 3 = pc') (h : bd2 (f_X6_type N M p0) T = some res) (kk : ∀ (r : Int32) (Mz : tS), T r Mz = some res → G X Q (rpl ms is [mdW (gcA X) a Mz]) L (.int r :: st) pc') : G X Q ms L (.int p0 :: .ref (a 0) :: st) pc := by
  obtain ⟨r, Mz, h1, h⟩ := ob2 h
  exact G_callVI C (As := [.int p0]) (c_X6_type (gl X) (gD X) (gcA X) a N M p0 r Mz h1) hG rfl nd_X6_type hR (q0 := 0) rfl rfl hC hn rfl rfl hst hLn d hp (kk r Mz h)
theorem hi_X6_clearText_X6 : ∀ w ∈ wsX60, w ∈ wsX6_clearText := fun w h => List.mem_cons_of_mem _ (List.mem_append_right _ h)
theorem lk_X6_clearText_1 : Cond.fieldLink RX6 133 "NoteThemesModel" "length" "I" ∈ wsX6_clearText := List.mem_of_getElem? (i := 1) rfl
def f_X6_clearText (N : Nat) (M : tS)  : Option (Int32 × tS) := some ((M 6 0), (va_up M 6 (fun _ => (0 : Int32))))
set_option maxRecDepth 100000 in
set_option maxHeartbeats 4000000 in
theorem B_X6_clearText {X : gX} (C : cx X RX6 cX6_clearText 2 (some .int) wsX6_clearText 0 0) (a : Nat → Nat) (N : Nat) (M : tS)  (r : Int32) (Mz : tS) (h : f_X6_clearText N M = some (r, Mz)) : G X (QI X r [mdW (gcA X) a Mz]) [mdW (gcA X) a M] [some (.ref (a 0)), none] [] 0 := by
  unfold f_X6_clearText at h
  refine g_aload_n (pc' := 1) C dX6_clearText_0 rfl rfl ?_
  refine gg_X6_6 (pc' := 4) (i := 0) C rfl hi_X6_clearText_X6 lk_X6_clearText_1 dX6_clearText_1 rfl ?_
  refine g_istore_n (pc' := 5) C dX6_clearText_4 (Nat.le_of_ble_eq_true rfl) rfl (L' := [some (.ref (a 0)), some (.int (M 6 0))]) rfl ?_
  refine g_aload_n (pc' := 6) C dX6_clearText_5 rfl rfl ?_
  refine g_iconst (pc' := 7) (v := 0) C dX6_clearText_6 (by decide) rfl ?_
  refine gp_X6_6 (pc' := 10) (i := 0) C rfl hi_X6_clearText_X6 lk_X6_clearText_1 dX6_clearText_7 rfl ?_
  show G X _ [mdW (gcA X) a (va_up M 6 (fun _ => (0 : Int32)))] _ _ _
  refine g_iload_n (pc' := 11) C dX6_clearText_10 rfl rfl ?_
  obtain ⟨rfl, rfl⟩ := pj2 (Option.some.inj h)
  exact g_iret C dX6_clearText_11
set_option maxRecDepth 100000 in
set_option maxHeartbeats 4000000 in
theorem c_X6_clearText (l : Launch) (D : va_G) (cA : Nat → ClassId) (a : Nat → Nat) (N : Nat) (M : tS)  (r : Int32) (Mz : tS) (h : f_X6_clearText N M = some (r, Mz)) : MI l D cA yX6_clearText wsX6_clearText 0 0 [.ref (a 0)] [mdW cA a M] r [mdW cA a Mz] := MI_of (cc := cX6_clearText) (maxL := 2) (rt := some .int) (by decide +kernel) rfl (List.forall_mem_cons.mpr ⟨rfl, List.forall_mem_nil _⟩) (Nat.le_of_ble_eq_true rfl) (fun X e1 e2 e3 C => by subst e1; subst e2; subst e3; exact B_X6_clearText C a N M r Mz h)
set_option maxRecDepth 100000 in
set_option maxHeartbeats 4000000 in
theorem nd_X6_clearText : nd yX6_clearText 0 := ⟨by decide +kernel, by decide +kernel, by decide +kernel⟩
set_option maxRecDepth 100000 in
set_option maxHeartbeats 4000000 in
theorem k_X6_clearText {X : gX} {own : String} {cc : ByteArray} {nL : Nat} {ret : Option FieldType} {Ts : List Cond} {fr lm : Nat} {Q : State → Prop} {ms : List va_W} {L : List (Option Value)} {st : List Value} {pc pc' idx : Nat} {ρ : Type} {T : Int32 → tS → Option ρ} {res : ρ} (C : cx X own cc nL ret Ts fr lm) (a : Nat → Nat) (N : Nat) (M : tS)  (is : List Nat) (hC : is.map (fun i => ms[i]?) = [some (mdW (gcA X) a M)]) (hn : is.Nodup) (hG : GoodIn Ts (wsV own idx RX6 yX6_clearText wsX6_clearText)) (hR : 0 + 1 ≤ fr ∧ 8 + (2 + 11) + 0 ≤ lm) (hst : (st.map fun v => v.category).sum ≤ 8) (hLn : L.length = nL) (d : decode cc pc = .ok (.invokevirtual idx, 3)) (hp : pc + 3 = pc') (h : bd2 (f_X6_clearText N M) T = some res) (kk : ∀ (r : Int32) (Mz : tS), T r Mz = some res → G X Q (rpl ms is [mdW (gcA X) a Mz]) L (.int r :: st) pc') : G X Q ms L (.ref (a 0) :: st) pc := by
  obtain ⟨r, Mz, h1, h⟩ := ob2 h
  exact G_callVI C (As := []) (c_X6_clearText (gl X) (gD X) (gcA X) a N M r Mz h1) hG rfl nd_X6_clearText hR (q0 := 0) rfl rfl hC hn rfl rfl hst hLn d hp (kk r Mz h)
theorem hi_X6_here_X6 : ∀ w ∈ wsX60, w ∈ wsX6_here := fun w h => List.mem_cons_of_mem _ (List.mem_append_right _ h)
theorem lk_X6_here_1 : Cond.fieldLink RX6 136 "NoteThemesModel" "spot" "I" ∈ wsX6_here := List.mem_of_getElem? (i := 1) rfl
theorem lk_X6_here_2 : Cond.fieldLink RX6 133 "NoteThemesModel" "length" "I" ∈ wsX6_here := List.mem_of_getElem? (i := 2) rfl
theorem lk_X6_here_3 : Cond.fieldLink RX6 19 "NoteThemesModel" "text" "[C" ∈ wsX6_here := List.mem_of_getElem? (i := 3) rfl
def f_X6_here (N : Nat) (M : tS)  : Option (Int32) := (if (M 6 0) ≤ (M 10 0) then some (-5 : Int32) else (if (M 10 0) < 0 ∨ 80 ≤ (M 10 0).toNatClampNeg then none else some (M 5 (M 10 0).toNatClampNeg)))
set_option maxRecDepth 100000 in
set_option maxHeartbeats 4000000 in
theorem B_X6_here {X : gX} (C : cx X RX6 cX6_here 1 (some .int) wsX6_here 0 0) (a : Nat → Nat) (N : Nat) (M : tS)  (r : Int32) (h : f_X6_here N M = some r) : G X (QI X r [mdW (gcA X) a M]) [mdW (gcA X) a M] [some (.ref (a 0))] [] 0 := by
  unfold f_X6_here at h
  refine g_aload_n (pc' := 1) C dX6_here_0 rfl rfl ?_
  refine gg_X6_10 (pc' := 4) (i := 0) C rfl hi_X6_here_X6 lk_X6_here_1 dX6_here_1 rfl ?_
  refine g_aload_n (pc' := 5) C dX6_here_4 rfl rfl ?_
  refine gg_X6_6 (pc' := 8) (i := 0) C rfl hi_X6_here_X6 lk_X6_here_2 dX6_here_5 rfl ?_
  refine g_icmp_ge (pc' := 11) (tgt := 23) C dX6_here_8 (by decide) rfl h (fun c h => ?_) (fun c h => ?_)
  · refine g_bipush (pc' := 25) (v := -5) C dX6_here_23 (by decide) rfl ?_
    obtain rfl := Option.some.inj h
    exact g_iret C dX6_here_25
  · refine g_aload_n (pc' := 12) C dX6_here_11 rfl rfl ?_
    refine gg_X6_5 (pc' := 15) (i := 0) C rfl hi_X6_here_X6 lk_X6_here_3 dX6_here_12 rfl ?_
    refine g_aload_n (pc' := 16) C dX6_here_15 rfl rfl ?_
    refine gg_X6_10 (pc' := 19) (i := 0) C rfl hi_X6_here_X6 lk_X6_here_1 dX6_here_16 rfl ?_
    refine g_cald (pc' := 20) (i := 0) (j := 4) C rfl rfl dX6_here_19 rfl h (fun h => ?_)
    refine g_goto (pc' := 25) C dX6_here_20 (by decide) ?_
    obtain rfl := Option.some.inj h
    exact g_iret C dX6_here_25
set_option maxRecDepth 100000 in
set_option maxHeartbeats 4000000 in
theorem c_X6_here (l : Launch) (D : va_G) (cA : Nat → ClassId) (a : Nat → Nat) (N : Nat) (M : tS)  (r : Int32) (h : f_X6_here N M = some r) : MI l D cA yX6_here wsX6_here 0 0 [.ref (a 0)] [mdW cA a M] r [mdW cA a M] := MI_of (cc := cX6_here) (maxL := 1) (rt := some .int) (by decide +kernel) rfl (List.forall_mem_cons.mpr ⟨rfl, List.forall_mem_nil _⟩) (Nat.le_of_ble_eq_true rfl) (fun X e1 e2 e3 C => by subst e1; subst e2; subst e3; exact B_X6_here C a N M r h)
set_option maxRecDepth 100000 in
set_option maxHeartbeats 4000000 in
theorem nd_X6_here : nd yX6_here 0 := ⟨by decide +kernel, by decide +kernel, by decide +kernel⟩
set_option maxRecDepth 100000 in
set_option maxHeartbeats 4000000 in
theorem k_X6_here {X : gX} {own : String} {cc : ByteArray} {nL : Nat} {ret : Option FieldType} {Ts : List Cond} {fr lm : Nat} {Q : State → Prop} {ms : List va_W} {L : List (Option Value)} {st : List Value} {pc pc' idx : Nat} {ρ : Type} {T : Int32 → Option ρ} {res : ρ} (C : cx X own cc nL ret Ts fr lm) (a : Nat → Nat) (N : Nat) (M : tS)  (is : List Nat) (hC : is.map (fun i => ms[i]?) = [some (mdW (gcA X) a M)]) (hn : is.Nodup) (hG : GoodIn Ts (wsV own idx RX6 yX6_here wsX6_here)) (hR : 0 + 1 ≤ fr ∧ 8 + (1 + 11) + 0 ≤ lm) (hst : (st.map fun v => v.category).sum ≤ 8) (hLn : L.length = nL) (d : decode cc pc = .ok (.invokevirtual idx, 3)) (hp : pc + 3 = pc') (h : bd (f_X6_here N M) T = some res) (kk : ∀ (r : Int32), T r = some res → G X Q (ms) L (.int r :: st) pc') : G X Q ms L (.ref (a 0) :: st) pc := by
  obtain ⟨r, h1, h⟩ := ob h
  exact G_callVI C (As := []) (c_X6_here (gl X) (gD X) (gcA X) a N M r h1) hG rfl nd_X6_here hR (q0 := 0) rfl rfl hC hn rfl rfl hst hLn d hp (G_ms (rpl_same (mc := [mdW (gcA X) a M]) hC) (kk r h))
theorem hi_X6_number_X6 : ∀ w ∈ wsX60, w ∈ wsX6_number := fun w h => List.mem_cons_of_mem _ (List.mem_append_right _ h)
theorem lk_X6_number_1 : Cond.fieldLink RX6 136 "NoteThemesModel" "spot" "I" ∈ wsX6_number := List.mem_of_getElem? (i := 1) rfl
def f_X6_number (N : Nat) (M : tS) (p0 : Int32) : Option (Int32 × tS) := (bd (f_X6_here N M) (fun r1 => (bd (f_X6_in N r1 (48 : Int32) (57 : Int32)) (fun r2 => (if r2 = 0 then some ((-5 : Int32), M) else (bd (f_X6_here N M) (fun r3 => (if (r3 - (48 : Int32)) ≤ 0 then some ((r3 - (48 : Int32)), (va_up M 10 (fun _ => ((M 10 0) + (1 : Int32))))) else (bd (f_X6_here N (va_up M 10 (fun _ => ((M 10 0) + (1 : Int32))))) (fun r4 => (bd (f_X6_in N r4 (48 : Int32) (57 : Int32)) (fun r5 => (if r5 = 0 then some ((r3 - (48 : Int32)), (va_up M 10 (fun _ => ((M 10 0) + (1 : Int32))))) else (bd (f_X6_here N (va_up M 10 (fun _ => ((M 10 0) + (1 : Int32))))) (fun r6 => (if p0 < ((((10 : Int32) * (r3 - (48 : Int32))) + r6) - (48 : Int32)) then some ((r3 - (48 : Int32)), (va_up M 10 (fun _ => ((M 10 0) + (1 : Int32))))) else (bd (f_X6_here N (va_up M 10 (fun _ => ((M 10 0) + (1 : Int32))))) (fun r7 => (lt_ (va_up M 10 (fun _ => ((M 10 0) + (1 : Int32)))) (fun M8s => some (((((10 : Int32) * (r3 - (48 : Int32))) + r7) - (48 : Int32)), (va_up M8s 10 (fun _ => (((M 10 0) + (1 : Int32)) + (1 : Int32)))))))))))))))))))))))))
set_option maxRecDepth 100000 in
set_option maxHeartbeats 4000000 in
theorem B_X6_number {X : gX} (C : cx X RX6 cX6_number 3 (some .int) wsX6_number 1 22) (a : Nat → Nat) (N : Nat) (M : tS) (p0 : Int32) (r : Int32) (Mz : tS) (h : f_X6_number N M p0 = some (r, Mz)) : G X (QI X r [mdW (gcA X) a Mz]) [mdW (gcA X) a M] [some (.ref (a 0)), some (.int p0), none] [] 0 := by
  unfold f_X6_number at h
  refine g_aload_n (pc' := 1) C dX6_number_0 rfl rfl ?_
  refine k_X6_here (pc' := 4) C a N M [0] rfl (by decide) gX6_number_X6_here ⟨Nat.le_of_ble_eq_true rfl, Nat.le_of_ble_eq_true rfl⟩ (Nat.le_of_ble_eq_true rfl) rfl dX6_number_1 rfl h (fun r1 h => ?_)
  refine g_bipush (pc' := 6) (v := 48) C dX6_number_4 (by decide) rfl ?_
  refine g_bipush (pc' := 8) (v := 57) C dX6_number_6 (by decide) rfl ?_
  refine k_X6_in (pc' := 11) C N r1 (48 : Int32) (57 : Int32) [] rfl (by decide) gX6_number_X6_in ⟨Nat.le_of_ble_eq_true rfl, Nat.le_of_ble_eq_true rfl⟩ (Nat.le_of_ble_eq_true rfl) rfl dX6_number_8 rfl h (fun r2 h => ?_)
  refine g_if_ne (pc' := 14) (tgt := 17) C dX6_number_11 (by decide) rfl h (fun c h => ?_) (fun c h => ?_)
  · refine g_bipush (pc' := 16) (v := -5) C dX6_number_14 (by decide) rfl ?_
    obtain ⟨rfl, rfl⟩ := pj2 (Option.some.inj h)
    exact g_iret C dX6_number_16
  · refine g_aload_n (pc' := 18) C dX6_number_17 rfl rfl ?_
    refine k_X6_here (pc' := 21) C a N M [0] rfl (by decide) gX6_number_X6_here ⟨Nat.le_of_ble_eq_true rfl, Nat.le_of_ble_eq_true rfl⟩ (Nat.le_of_ble_eq_true rfl) rfl dX6_number_18 rfl h (fun r3 h => ?_)
    refine g_bipush (pc' := 23) (v := 48) C dX6_number_21 (by decide) rfl ?_
    refine g_isub (pc' := 24) C dX6_number_23 rfl ?_
    refine g_istore_n (pc' := 25) C dX6_number_24 (Nat.le_of_ble_eq_true rfl) rfl (L' := [some (.ref (a 0)), some (.int p0), some (.int (r3 - (48 : Int32)))]) rfl ?_
    refine g_aload_n (pc' := 26) C dX6_number_25 rfl rfl ?_
    refine g_dup (pc' := 27) C dX6_number_26 rfl rfl ?_
    refine gg_X6_10 (pc' := 30) (i := 0) C rfl hi_X6_number_X6 lk_X6_number_1 dX6_number_27 rfl ?_
    refine g_iconst (pc' := 31) (v := 1) C dX6_number_30 (by decide) rfl ?_
    refine g_iadd (pc' := 32) C dX6_number_31 rfl ?_
    refine gp_X6_10 (pc' := 35) (i := 0) C rfl hi_X6_number_X6 lk_X6_number_1 dX6_number_32 rfl ?_
    show G X _ [mdW (gcA X) a (va_up M 10 (fun _ => ((M 10 0) + (1 : Int32))))] _ _ _
    refine g_iload_n (pc' := 36) C dX6_number_35 rfl rfl ?_
    refine g_if_le (pc' := 39) (tgt := 92) C dX6_number_36 (by decide) rfl h (fun c h => ?_) (fun c h => ?_)
    · refine g_iload_n (pc' := 93) C dX6_number_92 rfl rfl ?_
      obtain ⟨rfl, rfl⟩ := pj2 (Option.some.inj h)
      exact g_iret C dX6_number_93
    · refine g_aload_n (pc' := 40) C dX6_number_39 rfl rfl ?_
      refine k_X6_here (pc' := 43) C a N (va_up M 10 (fun _ => ((M 10 0) + (1 : Int32)))) [0] rfl (by decide) gX6_number_X6_here ⟨Nat.le_of_ble_eq_true rfl, Nat.le_of_ble_eq_true rfl⟩ (Nat.le_of_ble_eq_true rfl) rfl dX6_number_40 rfl h (fun r4 h => ?_)
      refine g_bipush (pc' := 45) (v := 48) C dX6_number_43 (by decide) rfl ?_
      refine g_bipush (pc' := 47) (v := 57) C dX6_number_45 (by decide) rfl ?_
      refine k_X6_in (pc' := 50) C N r4 (48 : Int32) (57 : Int32) [] rfl (by decide) gX6_number_X6_in ⟨Nat.le_of_ble_eq_true rfl, Nat.le_of_ble_eq_true rfl⟩ (Nat.le_of_ble_eq_true rfl) rfl dX6_number_47 rfl h (fun r5 h => ?_)
      refine g_if_eq (pc' := 53) (tgt := 92) C dX6_number_50 (by decide) rfl h (fun c h => ?_) (fun c h => ?_)
      · refine g_iload_n (pc' := 93) C dX6_number_92 rfl rfl ?_
        obtain ⟨rfl, rfl⟩ := pj2 (Option.some.inj h)
        exact g_iret C dX6_number_93
      · refine g_bipush (pc' := 55) (v := 10) C dX6_number_53 (by decide) rfl ?_
        refine g_iload_n (pc' := 56) C dX6_number_55 rfl rfl ?_
        refine g_imul (pc' := 57) C dX6_number_56 rfl ?_
        refine g_aload_n (pc' := 58) C dX6_number_57 rfl rfl ?_
        refine k_X6_here (pc' := 61) C a N (va_up M 10 (fun _ => ((M 10 0) + (1 : Int32)))) [0] rfl (by decide) gX6_number_X6_here ⟨Nat.le_of_ble_eq_true rfl, Nat.le_of_ble_eq_true rfl⟩ (Nat.le_of_ble_eq_true rfl) rfl dX6_number_58 rfl h (fun r6 h => ?_)
        refine g_iadd (pc' := 62) C dX6_number_61 rfl ?_
        refine g_bipush (pc' := 64) (v := 48) C dX6_number_62 (by decide) rfl ?_
        refine g_isub (pc' := 65) C dX6_number_64 rfl ?_
        refine g_iload_n (pc' := 66) C dX6_number_65 rfl rfl ?_
        refine g_icmp_gt (pc' := 69) (tgt := 92) C dX6_number_66 (by decide) rfl h (fun c h => ?_) (fun c h => ?_)
        · refine g_iload_n (pc' := 93) C dX6_number_92 rfl rfl ?_
          obtain ⟨rfl, rfl⟩ := pj2 (Option.some.inj h)
          exact g_iret C dX6_number_93
        · refine g_bipush (pc' := 71) (v := 10) C dX6_number_69 (by decide) rfl ?_
          refine g_iload_n (pc' := 72) C dX6_number_71 rfl rfl ?_
          refine g_imul (pc' := 73) C dX6_number_72 rfl ?_
          refine g_aload_n (pc' := 74) C dX6_number_73 rfl rfl ?_
          refine k_X6_here (pc' := 77) C a N (va_up M 10 (fun _ => ((M 10 0) + (1 : Int32)))) [0] rfl (by decide) gX6_number_X6_here ⟨Nat.le_of_ble_eq_true rfl, Nat.le_of_ble_eq_true rfl⟩ (Nat.le_of_ble_eq_true rfl) rfl dX6_number_74 rfl h (fun r7 h => ?_)
          refine g_iadd (pc' := 78) C dX6_number_77 rfl ?_
          refine g_bipush (pc' := 80) (v := 48) C dX6_number_78 (by decide) rfl ?_
          refine g_isub (pc' := 81) C dX6_number_80 rfl ?_
          refine g_istore_n (pc' := 82) C dX6_number_81 (Nat.le_of_ble_eq_true rfl) rfl (L' := [some (.ref (a 0)), some (.int p0), some (.int ((((10 : Int32) * (r3 - (48 : Int32))) + r7) - (48 : Int32)))]) rfl ?_
          refine g_aload_n (pc' := 83) C dX6_number_82 rfl rfl ?_
          refine g_dup (pc' := 84) C dX6_number_83 rfl rfl ?_
          refine gg_X6_10 (pc' := 87) (i := 0) C rfl hi_X6_number_X6 lk_X6_number_1 dX6_number_84 rfl ?_
          refine g_vi (v := ((M 10 0) + (1 : Int32))) rfl ?_
          refine g_iconst (pc' := 88) (v := 1) C dX6_number_87 (by decide) rfl ?_
          refine g_iadd (pc' := 89) C dX6_number_88 rfl ?_
          obtain ⟨M8s, eM8s, h⟩ := ol h
          rw [← eM8s]
          refine gp_X6_10 (pc' := 92) (i := 0) C rfl hi_X6_number_X6 lk_X6_number_1 dX6_number_89 rfl ?_
          show G X _ [mdW (gcA X) a (va_up M8s 10 (fun _ => (((M 10 0) + (1 : Int32)) + (1 : Int32))))] _ _ _
          refine g_iload_n (pc' := 93) C dX6_number_92 rfl rfl ?_
          obtain ⟨rfl, rfl⟩ := pj2 (Option.some.inj h)
          exact g_iret C dX6_number_93
set_option maxRecDepth 100000 in
set_option maxHeartbeats 4000000 in
theorem c_X6_number (l : Launch) (D : va_G) (cA : Nat → ClassId) (a : Nat → Nat) (N : Nat) (M : tS) (p0 : Int32) (r : Int32) (Mz : tS) (h : f_X6_number N M p0 = some (r, Mz)) : MI l D cA yX6_number wsX6_number 1 22 [.ref (a 0), .int p0] [mdW cA a M] r [mdW cA a Mz] := MI_of (cc := cX6_number) (maxL := 3) (rt := some .int) (by decide +kernel) rfl (List.forall_mem_cons.mpr ⟨rfl, List.forall_mem_cons.mpr ⟨rfl, List.forall_mem_nil _⟩⟩) (Nat.le_of_ble_eq_true rfl) (fun X e1 e2 e3 C => by subst e1; subst e2; subst e3; exact B_X6_number C a N M p0 r Mz h)
set_option maxRecDepth 100000 in
set_option maxHeartbeats 4000000 in
theorem nd_X6_number : nd yX6_number 1 := ⟨by decide +kernel, by decide +kernel, by decide +kernel⟩
set_option maxRecDepth 100000 in
set_option maxHeartbeats 4000000 in
theorem k_X6_number {X : gX} {own : String} {cc : ByteArray} {nL : Nat} {ret : Option FieldType} {Ts : List Cond} {fr lm : Nat} {Q : State → Prop} {ms : List va_W} {L : List (Option Value)} {st : List Value} {pc pc' idx : Nat} {ρ : Type} {T : Int32 → tS → Option ρ} {res : ρ} (C : cx X own cc nL ret Ts fr lm) (a : Nat → Nat) (N : Nat) (M : tS) (p0 : Int32) (is : List Nat) (hC : is.map (fun i => ms[i]?) = [some (mdW (gcA X) a M)]) (hn : is.Nodup) (hG : GoodIn Ts (wsV own idx RX6 yX6_number wsX6_number)) (hR : 1 + 1 ≤ fr ∧ 8 + (3 + 11) + 22 ≤ lm) (hst : (st.map fun v => v.category).sum ≤ 8) (hLn : L.length = nL) (d : decode cc pc = .ok (.invokevirtual idx, 3)) (hp : pc + 3 = pc') (h : bd2 (f_X6_number N M p0) T = some res) (kk : ∀ (r : Int32) (Mz : tS), T r Mz = some res → G X Q (rpl ms is [mdW (gcA X) a Mz]) L (.int r :: st) pc') : G X Q ms L (.int p0 :: .ref (a 0) :: st) pc := by
  obtain ⟨r, Mz, h1, h⟩ := ob2 h
  exact G_callVI C (As := [.int p0]) (c_X6_number (gl X) (gD X) (gcA X) a N M p0 r Mz h1) hG rfl nd_X6_number hR (q0 := 0) rfl rfl hC hn rfl rfl hst hLn d hp (kk r Mz h)
theorem hi_X6_takes_X6 : ∀ w ∈ wsX60, w ∈ wsX6_takes := fun w h => List.mem_cons_of_mem _ (List.mem_append_right _ h)
theorem lk_X6_takes_1 : Cond.fieldLink RX6 136 "NoteThemesModel" "spot" "I" ∈ wsX6_takes := List.mem_of_getElem? (i := 1) rfl
def f_X6_takes_28 (N : Nat) (p0 : Int32)  (x2 : Int32) (t0 : Int32) (t1 : Int32) (M : tS) : Option (Int32 × tS) := (if ¬ (x2 = 0 ∨ x2 = 1) then none else some (x2, (va_up M 10 (fun _ => (t1 + t0)))))
set_option maxRecDepth 100000 in
set_option maxHeartbeats 4000000 in
theorem B_X6_takes_28 {X : gX} (C : cx X RX6 cX6_takes 3 (some .boolean) wsX6_takes 1 20) (a : Nat → Nat) (N : Nat) (p0 : Int32) (r : Int32) (Mz : tS)  (x2 : Int32) (t0 : Int32) (t1 : Int32) (M : tS) (h : f_X6_takes_28 N p0  x2 t0 t1 M = some (r, Mz)) : G X (QI X r [mdW (gcA X) a Mz]) [mdW (gcA X) a M] [some (.ref (a 0)), some (.int p0), some (.int x2)] [.int t0, .int t1, .ref (a 0)] 28 := by
  unfold f_X6_takes_28 at h
  refine g_iadd (pc' := 29) C dX6_takes_28 rfl ?_
  refine gp_X6_10 (pc' := 32) (i := 0) C rfl hi_X6_takes_X6 lk_X6_takes_1 dX6_takes_29 rfl ?_
  show G X _ [mdW (gcA X) a (va_up M 10 (fun _ => (t1 + t0)))] _ _ _
  refine g_iload_n (pc' := 33) C dX6_takes_32 rfl rfl ?_
  obtain ⟨hz, h⟩ := og h
  obtain ⟨rfl, rfl⟩ := pj2 (Option.some.inj h)
  exact g_zret0 C (zb hz) dX6_takes_33
def f_X6_takes_13 (N : Nat) (p0 : Int32)  (t0 : Int32) (M : tS) : Option (Int32 × tS) := (if t0 = 0 then f_X6_takes_28 N p0 t0 (0 : Int32) (M 10 0) M else f_X6_takes_28 N p0 t0 (1 : Int32) (M 10 0) M)
set_option maxRecDepth 100000 in
set_option maxHeartbeats 4000000 in
theorem B_X6_takes_13 {X : gX} (C : cx X RX6 cX6_takes 3 (some .boolean) wsX6_takes 1 20) (a : Nat → Nat) (N : Nat) (p0 : Int32) (r : Int32) (Mz : tS)  (t0 : Int32) (M : tS) (h : f_X6_takes_13 N p0  t0 M = some (r, Mz)) : G X (QI X r [mdW (gcA X) a Mz]) [mdW (gcA X) a M] [some (.ref (a 0)), some (.int p0), none] [.int t0] 13 := by
  unfold f_X6_takes_13 at h
  refine g_istore_n (pc' := 14) C dX6_takes_13 (Nat.le_of_ble_eq_true rfl) rfl (L' := [some (.ref (a 0)), some (.int p0), some (.int t0)]) rfl ?_
  refine g_aload_n (pc' := 15) C dX6_takes_14 rfl rfl ?_
  refine g_dup (pc' := 16) C dX6_takes_15 rfl rfl ?_
  refine gg_X6_10 (pc' := 19) (i := 0) C rfl hi_X6_takes_X6 lk_X6_takes_1 dX6_takes_16 rfl ?_
  refine g_iload_n (pc' := 20) C dX6_takes_19 rfl rfl ?_
  refine g_if_eq (pc' := 23) (tgt := 27) C dX6_takes_20 (by decide) rfl h (fun c h => ?_) (fun c h => ?_)
  · refine g_iconst (pc' := 28) (v := 0) C dX6_takes_27 (by decide) rfl ?_
    exact G_loc (lle_s (lle_s (lle_s lle_0))) (B_X6_takes_28 C a N p0 r Mz t0 (0 : Int32) (M 10 0) M h)
  · refine g_iconst (pc' := 24) (v := 1) C dX6_takes_23 (by decide) rfl ?_
    refine g_goto (pc' := 28) C dX6_takes_24 (by decide) ?_
    exact G_loc (lle_s (lle_s (lle_s lle_0))) (B_X6_takes_28 C a N p0 r Mz t0 (1 : Int32) (M 10 0) M h)
def f_X6_takes (N : Nat) (M : tS) (p0 : Int32) : Option (Int32 × tS) := (bd (f_X6_here N M) (fun r1 => (if r1 = p0 then f_X6_takes_13 N p0 (1 : Int32) M else f_X6_takes_13 N p0 (0 : Int32) M)))
set_option maxRecDepth 100000 in
set_option maxHeartbeats 4000000 in
theorem B_X6_takes {X : gX} (C : cx X RX6 cX6_takes 3 (some .boolean) wsX6_takes 1 20) (a : Nat → Nat) (N : Nat) (M : tS) (p0 : Int32) (r : Int32) (Mz : tS) (h : f_X6_takes N M p0 = some (r, Mz)) : G X (QI X r [mdW (gcA X) a Mz]) [mdW (gcA X) a M] [some (.ref (a 0)), some (.int p0), none] [] 0 := by
  unfold f_X6_takes at h
  refine g_aload_n (pc' := 1) C dX6_takes_0 rfl rfl ?_
  refine k_X6_here (pc' := 4) C a N M [0] rfl (by decide) gX6_takes_X6_here ⟨Nat.le_of_ble_eq_true rfl, Nat.le_of_ble_eq_true rfl⟩ (Nat.le_of_ble_eq_true rfl) rfl dX6_takes_1 rfl h (fun r1 h => ?_)
  refine g_iload_n (pc' := 5) C dX6_takes_4 rfl rfl ?_
  refine g_icmp_ne (pc' := 8) (tgt := 12) C dX6_takes_5 (by decide) rfl h (fun c h => ?_) (fun c h => ?_)
  · refine g_iconst (pc' := 9) (v := 1) C dX6_takes_8 (by decide) rfl ?_
    refine g_goto (pc' := 13) C dX6_takes_9 (by decide) ?_
    exact G_loc (lle_s (lle_s (lle_n lle_0))) (B_X6_takes_13 C a N p0 r Mz (1 : Int32) M h)
  · refine g_iconst (pc' := 13) (v := 0) C dX6_takes_12 (by decide) rfl ?_
    exact G_loc (lle_s (lle_s (lle_n lle_0))) (B_X6_takes_13 C a N p0 r Mz (0 : Int32) M h)
set_option maxRecDepth 100000 in
set_option maxHeartbeats 4000000 in
theorem c_X6_takes (l : Launch) (D : va_G) (cA : Nat → ClassId) (a : Nat → Nat) (N : Nat) (M : tS) (p0 : Int32) (r : Int32) (Mz : tS) (h : f_X6_takes N M p0 = some (r, Mz)) : MI l D cA yX6_takes wsX6_takes 1 20 [.ref (a 0), .int p0] [mdW cA a M] r [mdW cA a Mz] := MI_of (cc := cX6_takes) (maxL := 3) (rt := some .boolean) (by decide +kernel) rfl (List.forall_mem_cons.mpr ⟨rfl, List.forall_mem_cons.mpr ⟨rfl, List.forall_mem_nil _⟩⟩) (Nat.le_of_ble_eq_true rfl) (fun X e1 e2 e3 C => by subst e1; subst e2; subst e3; exact B_X6_takes C a N M p0 r Mz h)
set_option maxRecDepth 100000 in
set_option maxHeartbeats 4000000 in
theorem nd_X6_takes : nd yX6_takes 1 := ⟨by decide +kernel, by decide +kernel, by decide +kernel⟩
set_option maxRecDepth 100000 in
set_option maxHeartbeats 4000000 in
theorem k_X6_takes {X : gX} {own : String} {cc : ByteArray} {nL : Nat} {ret : Option FieldType} {Ts : List Cond} {fr lm : Nat} {Q : State → Prop} {ms : List va_W} {L : List (Option Value)} {st : List Value} {pc pc' idx : Nat} {ρ : Type} {T : Int32 → tS → Option ρ} {res : ρ} (C : cx X own cc nL ret Ts fr lm) (a : Nat → Nat) (N : Nat) (M : tS) (p0 : Int32) (is : List Nat) (hC : is.map (fun i => ms[i]?) = [some (mdW (gcA X) a M)]) (hn : is.Nodup) (hG : GoodIn Ts (wsV own idx RX6 yX6_takes wsX6_takes)) (hR : 1 + 1 ≤ fr ∧ 8 + (3 + 11) + 20 ≤ lm) (hst : (st.map fun v => v.category).sum ≤ 8) (hLn : L.length = nL) (d : decode cc pc = .ok (.invokevirtual idx, 3)) (hp : pc + 3 = pc') (h : bd2 (f_X6_takes N M p0) T = some res) (kk : ∀ (r : Int32) (Mz : tS), T r Mz = some res → G X Q (rpl ms is [mdW (gcA X) a Mz]) L (.int r :: st) pc') : G X Q ms L (.int p0 :: .ref (a 0) :: st) pc := by
  obtain ⟨r, Mz, h1, h⟩ := ob2 h
  exact G_callVI C (As := [.int p0]) (c_X6_takes (gl X) (gD X) (gcA X) a N M p0 r Mz h1) hG rfl nd_X6_takes hR (q0 := 0) rfl rfl hC hn rfl rfl hst hLn d hp (kk r Mz h)
theorem hi_X6_takesNote_X6 : ∀ w ∈ wsX60, w ∈ wsX6_takesNote := fun w h => List.mem_cons_of_mem _ (List.mem_append_right _ h)
theorem lk_X6_takesNote_1 : Cond.fieldLink RX6 7 "NoteThemesModel" "s" "[I" ∈ wsX6_takesNote := List.mem_of_getElem? (i := 1) rfl
theorem lk_X6_takesNote_2 : Cond.fieldLink RX6 148 "NoteThemesModel" "dotsRead" "I" ∈ wsX6_takesNote := List.mem_of_getElem? (i := 2) rfl
theorem lk_X6_takesNote_3 : Cond.fieldLink RX6 29 "NoteThemesModel" "read" "[I" ∈ wsX6_takesNote := List.mem_of_getElem? (i := 3) rfl
theorem lk_X6_takesNote_4 : Cond.fieldLink RX6 151 "NoteThemesModel" "tells" "I" ∈ wsX6_takesNote := List.mem_of_getElem? (i := 4) rfl
def f_X6_takesNote_89 (N : Nat)   (x1 : Int32) (x2 : Int32) (x3 : Int32) (M : tS) : Option (Int32 × tS) := (if ((3 : Int32) * (M 11 0)) < 0 ∨ 60 ≤ ((3 : Int32) * (M 11 0)).toNatClampNeg then none else (lt_ (va_up M 12 (upd (M 12) ((3 : Int32) * (M 11 0)).toNatClampNeg x1)) (fun M1s => (if (((3 : Int32) * (M 11 0)) + (1 : Int32)) < 0 ∨ 60 ≤ (((3 : Int32) * (M 11 0)) + (1 : Int32)).toNatClampNeg then none else (lt_ (va_up M1s 12 (upd (M1s 12) (((3 : Int32) * (M 11 0)) + (1 : Int32)).toNatClampNeg x2)) (fun M2s => (if (((3 : Int32) * (M1s 11 0)) + (2 : Int32)) < 0 ∨ 60 ≤ (((3 : Int32) * (M1s 11 0)) + (2 : Int32)).toNatClampNeg then none else (lt_ (va_up M2s 12 (upd (M2s 12) (((3 : Int32) * (M1s 11 0)) + (2 : Int32)).toNatClampNeg x3)) (fun M3s => some ((1 : Int32), (va_up M3s 11 (fun _ => ((M2s 11 0) + (1 : Int32))))))))))))))
set_option maxRecDepth 100000 in
set_option maxHeartbeats 4000000 in
theorem B_X6_takesNote_89 {X : gX} (C : cx X RX6 cX6_takesNote 4 (some .boolean) wsX6_takesNote 2 44) (a : Nat → Nat) (N : Nat)  (r : Int32) (Mz : tS)  (x1 : Int32) (x2 : Int32) (x3 : Int32) (M : tS) (h : f_X6_takesNote_89 N  x1 x2 x3 M = some (r, Mz)) : G X (QI X r [mdW (gcA X) a Mz]) [mdW (gcA X) a M] [some (.ref (a 0)), some (.int x1), some (.int x2), some (.int x3)] [] 89 := by
  unfold f_X6_takesNote_89 at h
  refine g_aload_n (pc' := 90) C dX6_takesNote_89 rfl rfl ?_
  refine gg_X6_12 (pc' := 93) (i := 0) C rfl hi_X6_takesNote_X6 lk_X6_takesNote_3 dX6_takesNote_90 rfl ?_
  refine g_iconst (pc' := 94) (v := 3) C dX6_takesNote_93 (by decide) rfl ?_
  refine g_aload_n (pc' := 95) C dX6_takesNote_94 rfl rfl ?_
  refine gg_X6_11 (pc' := 98) (i := 0) C rfl hi_X6_takesNote_X6 lk_X6_takesNote_4 dX6_takesNote_95 rfl ?_
  refine g_imul (pc' := 99) C dX6_takesNote_98 rfl ?_
  refine g_iload_n (pc' := 100) C dX6_takesNote_99 rfl rfl ?_
  refine g_iast (pc' := 101) (i := 0) (j := 7) (w' := mdW (gcA X) a (va_up M 12 (upd (M 12) ((3 : Int32) * (M 11 0)).toNatClampNeg x1))) C rfl rfl rfl dX6_takesNote_100 rfl h (fun h => ?_)
  show G X _ [mdW (gcA X) a (va_up M 12 (upd (M 12) ((3 : Int32) * (M 11 0)).toNatClampNeg x1))] _ _ _
  refine g_aload_n (pc' := 102) C dX6_takesNote_101 rfl rfl ?_
  refine gg_X6_12 (pc' := 105) (i := 0) C rfl hi_X6_takesNote_X6 lk_X6_takesNote_3 dX6_takesNote_102 rfl ?_
  refine g_iconst (pc' := 106) (v := 3) C dX6_takesNote_105 (by decide) rfl ?_
  refine g_aload_n (pc' := 107) C dX6_takesNote_106 rfl rfl ?_
  refine gg_X6_11 (pc' := 110) (i := 0) C rfl hi_X6_takesNote_X6 lk_X6_takesNote_4 dX6_takesNote_107 rfl ?_
  refine g_vi (v := (M 11 0)) rfl ?_
  refine g_imul (pc' := 111) C dX6_takesNote_110 rfl ?_
  refine g_iconst (pc' := 112) (v := 1) C dX6_takesNote_111 (by decide) rfl ?_
  refine g_iadd (pc' := 113) C dX6_takesNote_112 rfl ?_
  refine g_iload_n (pc' := 114) C dX6_takesNote_113 rfl rfl ?_
  obtain ⟨M1s, eM1s, h⟩ := ol h
  rw [← eM1s]
  refine g_iast (pc' := 115) (i := 0) (j := 7) (w' := mdW (gcA X) a (va_up M1s 12 (upd (M1s 12) (((3 : Int32) * (M 11 0)) + (1 : Int32)).toNatClampNeg x2))) C rfl rfl rfl dX6_takesNote_114 rfl h (fun h => ?_)
  show G X _ [mdW (gcA X) a (va_up M1s 12 (upd (M1s 12) (((3 : Int32) * (M 11 0)) + (1 : Int32)).toNatClampNeg x2))] _ _ _
  refine g_aload_n (pc' := 116) C dX6_takesNote_115 rfl rfl ?_
  refine gg_X6_12 (pc' := 119) (i := 0) C rfl hi_X6_takesNote_X6 lk_X6_takesNote_3 dX6_takesNote_116 rfl ?_
  refine g_iconst (pc' := 120) (v := 3) C dX6_takesNote_119 (by decide) rfl ?_
  refine g_aload_n (pc' := 121) C dX6_takesNote_120 rfl rfl ?_
  refine gg_X6_11 (pc' := 124) (i := 0) C rfl hi_X6_takesNote_X6 lk_X6_takesNote_4 dX6_takesNote_121 rfl ?_
  refine g_vi (v := (M1s 11 0)) rfl ?_
  refine g_imul (pc' := 125) C dX6_takesNote_124 rfl ?_
  refine g_iconst (pc' := 126) (v := 2) C dX6_takesNote_125 (by decide) rfl ?_
  refine g_iadd (pc' := 127) C dX6_takesNote_126 rfl ?_
  refine g_iload_n (pc' := 128) C dX6_takesNote_127 rfl rfl ?_
  obtain ⟨M2s, eM2s, h⟩ := ol h
  rw [← eM2s]
  refine g_iast (pc' := 129) (i := 0) (j := 7) (w' := mdW (gcA X) a (va_up M2s 12 (upd (M2s 12) (((3 : Int32) * (M1s 11 0)) + (2 : Int32)).toNatClampNeg x3))) C rfl rfl rfl dX6_takesNote_128 rfl h (fun h => ?_)
  show G X _ [mdW (gcA X) a (va_up M2s 12 (upd (M2s 12) (((3 : Int32) * (M1s 11 0)) + (2 : Int32)).toNatClampNeg x3))] _ _ _
  refine g_aload_n (pc' := 130) C dX6_takesNote_129 rfl rfl ?_
  refine g_dup (pc' := 131) C dX6_takesNote_130 rfl rfl ?_
  refine gg_X6_11 (pc' := 134) (i := 0) C rfl hi_X6_takesNote_X6 lk_X6_takesNote_4 dX6_takesNote_131 rfl ?_
  refine g_vi (v := (M2s 11 0)) rfl ?_
  refine g_iconst (pc' := 135) (v := 1) C dX6_takesNote_134 (by decide) rfl ?_
  refine g_iadd (pc' := 136) C dX6_takesNote_135 rfl ?_
  obtain ⟨M3s, eM3s, h⟩ := ol h
  rw [← eM3s]
  refine gp_X6_11 (pc' := 139) (i := 0) C rfl hi_X6_takesNote_X6 lk_X6_takesNote_4 dX6_takesNote_136 rfl ?_
  show G X _ [mdW (gcA X) a (va_up M3s 11 (fun _ => ((M2s 11 0) + (1 : Int32))))] _ _ _
  refine g_iconst (pc' := 140) (v := 1) C dX6_takesNote_139 (by decide) rfl ?_
  obtain ⟨rfl, rfl⟩ := pj2 (Option.some.inj h)
  exact g_zret0 C rfl dX6_takesNote_140
def f_X6_takesNote_41b (N : Nat)   (k41 : Int32 → Int32 → Int32 → tS → Option (Int32 × tS)) (x1 : Int32) (x2 : Int32) (x3 : Int32) (M : tS) : Option (Int32 × tS) := (if (M 0 (4 : Int32).toNatClampNeg) ≤ x3 then f_X6_takesNote_89 N x1 x2 x3 M else (if (M 0 (3 : Int32).toNatClampNeg) ≤ (M 13 0) then f_X6_takesNote_89 N x1 x2 x3 M else (bd2 (f_X6_takes N M (42 : Int32)) (fun r1 M1 => (if r1 = 0 then f_X6_takesNote_89 N x1 x2 x3 M1 else k41 x1 x2 (x3 + 1) (va_up M1 13 (fun _ => ((M1 13 0) + (1 : Int32)))))))))
def f_X6_takesNote_41 (N : Nat)   : Nat → Int32 → Int32 → Int32 → tS → Option (Int32 × tS)
  | 0 => fun _ _ _ _ => none
  | n + 1 => f_X6_takesNote_41b N  (f_X6_takesNote_41 N  n)
set_option maxRecDepth 100000 in
set_option maxHeartbeats 4000000 in
theorem B_X6_takesNote_41b {X : gX} (C : cx X RX6 cX6_takesNote 4 (some .boolean) wsX6_takesNote 2 44) (a : Nat → Nat) (N : Nat)  (r : Int32) (Mz : tS)  (k41 : Int32 → Int32 → Int32 → tS → Option (Int32 × tS)) (hk41 : ∀ (x1 : Int32) (x2 : Int32) (x3 : Int32) (M : tS), k41 x1 x2 x3 M = some (r, Mz) → G X (QI X r [mdW (gcA X) a Mz]) [mdW (gcA X) a M] [some (.ref (a 0)), some (.int x1), some (.int x2), some (.int x3)] [] 41) (x1 : Int32) (x2 : Int32) (x3 : Int32) (M : tS) (h : f_X6_takesNote_41b N  k41 x1 x2 x3 M = some (r, Mz)) : G X (QI X r [mdW (gcA X) a Mz]) [mdW (gcA X) a M] [some (.ref (a 0)), some (.int x1), some (.int x2), some (.int x3)] [] 41 := by
  unfold f_X6_takesNote_41b at h
  refine g_iload_n (pc' := 42) C dX6_takesNote_41 rfl rfl ?_
  refine g_aload_n (pc' := 43) C dX6_takesNote_42 rfl rfl ?_
  refine gg_X6_0 (pc' := 46) (i := 0) C rfl hi_X6_takesNote_X6 lk_X6_takesNote_1 dX6_takesNote_43 rfl ?_
  refine g_iconst (pc' := 47) (v := 4) C dX6_takesNote_46 (by decide) rfl ?_
  refine g_iald0 (pc' := 48) (i := 0) (j := 1) C rfl rfl dX6_takesNote_47 rfl (by unfold vp_in; decide) ?_
  refine g_icmp_ge (pc' := 51) (tgt := 89) C dX6_takesNote_48 (by decide) rfl h (fun c h => ?_) (fun c h => ?_)
  · exact G_loc (lle_s (lle_s (lle_s (lle_s lle_0)))) (B_X6_takesNote_89 C a N r Mz x1 x2 x3 M h)
  · refine g_aload_n (pc' := 52) C dX6_takesNote_51 rfl rfl ?_
    refine gg_X6_13 (pc' := 55) (i := 0) C rfl hi_X6_takesNote_X6 lk_X6_takesNote_2 dX6_takesNote_52 rfl ?_
    refine g_aload_n (pc' := 56) C dX6_takesNote_55 rfl rfl ?_
    refine gg_X6_0 (pc' := 59) (i := 0) C rfl hi_X6_takesNote_X6 lk_X6_takesNote_1 dX6_takesNote_56 rfl ?_
    refine g_iconst (pc' := 60) (v := 3) C dX6_takesNote_59 (by decide) rfl ?_
    refine g_iald0 (pc' := 61) (i := 0) (j := 1) C rfl rfl dX6_takesNote_60 rfl (by unfold vp_in; decide) ?_
    refine g_icmp_ge (pc' := 64) (tgt := 89) C dX6_takesNote_61 (by decide) rfl h (fun c h => ?_) (fun c h => ?_)
    · exact G_loc (lle_s (lle_s (lle_s (lle_s lle_0)))) (B_X6_takesNote_89 C a N r Mz x1 x2 x3 M h)
    · refine g_aload_n (pc' := 65) C dX6_takesNote_64 rfl rfl ?_
      refine g_bipush (pc' := 67) (v := 42) C dX6_takesNote_65 (by decide) rfl ?_
      refine k_X6_takes (pc' := 70) C a N M (42 : Int32) [0] rfl (by decide) gX6_takesNote_X6_takes ⟨Nat.le_of_ble_eq_true rfl, Nat.le_of_ble_eq_true rfl⟩ (Nat.le_of_ble_eq_true rfl) rfl dX6_takesNote_67 rfl h (fun r1 M1 h => ?_)
      show G X _ [mdW (gcA X) a M1] _ _ _
      refine g_if_eq (pc' := 73) (tgt := 89) C dX6_takesNote_70 (by decide) rfl h (fun c h => ?_) (fun c h => ?_)
      · exact G_loc (lle_s (lle_s (lle_s (lle_s lle_0)))) (B_X6_takesNote_89 C a N r Mz x1 x2 x3 M1 h)
      · refine g_iinc (pc' := 76) (v := (x3 + 1)) C dX6_takesNote_73 rfl rfl rfl (L' := [some (.ref (a 0)), some (.int x1), some (.int x2), some (.int (x3 + 1))]) rfl ?_
        refine g_aload_n (pc' := 77) C dX6_takesNote_76 rfl rfl ?_
        refine g_dup (pc' := 78) C dX6_takesNote_77 rfl rfl ?_
        refine gg_X6_13 (pc' := 81) (i := 0) C rfl hi_X6_takesNote_X6 lk_X6_takesNote_2 dX6_takesNote_78 rfl ?_
        refine g_iconst (pc' := 82) (v := 1) C dX6_takesNote_81 (by decide) rfl ?_
        refine g_iadd (pc' := 83) C dX6_takesNote_82 rfl ?_
        refine gp_X6_13 (pc' := 86) (i := 0) C rfl hi_X6_takesNote_X6 lk_X6_takesNote_2 dX6_takesNote_83 rfl ?_
        show G X _ [mdW (gcA X) a (va_up M1 13 (fun _ => ((M1 13 0) + (1 : Int32))))] _ _ _
        refine g_goto (pc' := 41) C dX6_takesNote_86 (by decide) ?_
        exact G_loc (lle_s (lle_s (lle_s (lle_s lle_0)))) (hk41 x1 x2 (x3 + 1) (va_up M1 13 (fun _ => ((M1 13 0) + (1 : Int32)))) h)
set_option maxRecDepth 100000 in
set_option maxHeartbeats 4000000 in
theorem L_X6_takesNote_41 {X : gX} (C : cx X RX6 cX6_takesNote 4 (some .boolean) wsX6_takesNote 2 44) (a : Nat → Nat) (N : Nat)  (r : Int32) (Mz : tS)  : ∀ (n : Nat) (x1 : Int32) (x2 : Int32) (x3 : Int32) (M : tS), f_X6_takesNote_41 N  n x1 x2 x3 M = some (r, Mz) → G X (QI X r [mdW (gcA X) a Mz]) [mdW (gcA X) a M] [some (.ref (a 0)), some (.int x1), some (.int x2), some (.int x3)] [] 41 := by
  intro n
  induction n with
  | zero => intro x1 x2 x3 M h; have h : (none : Option (Int32 × tS)) = some (r, Mz) := h; cases h
  | succ n ih => intro x1 x2 x3 M h; exact B_X6_takesNote_41b C a N r Mz  (f_X6_takesNote_41 N  n) ih x1 x2 x3 M h
def f_X6_takesNote (N : Nat) (M : tS)  : Option (Int32 × tS) := (bd2 (f_X6_number N M (29 : Int32)) (fun r1 M1 => (if r1 = (-5 : Int32) then some ((0 : Int32), M1) else (bd2 (f_X6_takes N M1 (44 : Int32)) (fun r2 M2 => (if r2 = 0 then some ((0 : Int32), M2) else (bd2 (f_X6_number N M2 (19 : Int32)) (fun r3 M3 => (if r3 = (-5 : Int32) then some ((0 : Int32), M3) else f_X6_takesNote_41 N N r1 r3 (0 : Int32) M3)))))))))
set_option maxRecDepth 100000 in
set_option maxHeartbeats 4000000 in
theorem B_X6_takesNote {X : gX} (C : cx X RX6 cX6_takesNote 4 (some .boolean) wsX6_takesNote 2 44) (a : Nat → Nat) (N : Nat) (M : tS)  (r : Int32) (Mz : tS) (h : f_X6_takesNote N M = some (r, Mz)) : G X (QI X r [mdW (gcA X) a Mz]) [mdW (gcA X) a M] [some (.ref (a 0)), none, none, none] [] 0 := by
  unfold f_X6_takesNote at h
  refine g_aload_n (pc' := 1) C dX6_takesNote_0 rfl rfl ?_
  refine g_bipush (pc' := 3) (v := 29) C dX6_takesNote_1 (by decide) rfl ?_
  refine k_X6_number (pc' := 6) C a N M (29 : Int32) [0] rfl (by decide) gX6_takesNote_X6_number ⟨Nat.le_of_ble_eq_true rfl, Nat.le_of_ble_eq_true rfl⟩ (Nat.le_of_ble_eq_true rfl) rfl dX6_takesNote_3 rfl h (fun r1 M1 h => ?_)
  show G X _ [mdW (gcA X) a M1] _ _ _
  refine g_istore_n (pc' := 7) C dX6_takesNote_6 (Nat.le_of_ble_eq_true rfl) rfl (L' := [some (.ref (a 0)), some (.int r1), none, none]) rfl ?_
  refine g_iload_n (pc' := 8) C dX6_takesNote_7 rfl rfl ?_
  refine g_bipush (pc' := 10) (v := -5) C dX6_takesNote_8 (by decide) rfl ?_
  refine g_icmp_eq (pc' := 13) (tgt := 22) C dX6_takesNote_10 (by decide) rfl h (fun c h => ?_) (fun c h => ?_)
  · refine g_iconst (pc' := 23) (v := 0) C dX6_takesNote_22 (by decide) rfl ?_
    obtain ⟨rfl, rfl⟩ := pj2 (Option.some.inj h)
    exact g_zret0 C rfl dX6_takesNote_23
  · refine g_aload_n (pc' := 14) C dX6_takesNote_13 rfl rfl ?_
    refine g_bipush (pc' := 16) (v := 44) C dX6_takesNote_14 (by decide) rfl ?_
    refine k_X6_takes (pc' := 19) C a N M1 (44 : Int32) [0] rfl (by decide) gX6_takesNote_X6_takes ⟨Nat.le_of_ble_eq_true rfl, Nat.le_of_ble_eq_true rfl⟩ (Nat.le_of_ble_eq_true rfl) rfl dX6_takesNote_16 rfl h (fun r2 M2 h => ?_)
    show G X _ [mdW (gcA X) a M2] _ _ _
    refine g_if_ne (pc' := 22) (tgt := 24) C dX6_takesNote_19 (by decide) rfl h (fun c h => ?_) (fun c h => ?_)
    · refine g_iconst (pc' := 23) (v := 0) C dX6_takesNote_22 (by decide) rfl ?_
      obtain ⟨rfl, rfl⟩ := pj2 (Option.some.inj h)
      exact g_zret0 C rfl dX6_takesNote_23
    · refine g_aload_n (pc' := 25) C dX6_takesNote_24 rfl rfl ?_
      refine g_bipush (pc' := 27) (v := 19) C dX6_takesNote_25 (by decide) rfl ?_
      refine k_X6_number (pc' := 30) C a N M2 (19 : Int32) [0] rfl (by decide) gX6_takesNote_X6_number ⟨Nat.le_of_ble_eq_true rfl, Nat.le_of_ble_eq_true rfl⟩ (Nat.le_of_ble_eq_true rfl) rfl dX6_takesNote_27 rfl h (fun r3 M3 h => ?_)
      show G X _ [mdW (gcA X) a M3] _ _ _
      refine g_istore_n (pc' := 31) C dX6_takesNote_30 (Nat.le_of_ble_eq_true rfl) rfl (L' := [some (.ref (a 0)), some (.int r1), some (.int r3), none]) rfl ?_
      refine g_iload_n (pc' := 32) C dX6_takesNote_31 rfl rfl ?_
      refine g_bipush (pc' := 34) (v := -5) C dX6_takesNote_32 (by decide) rfl ?_
      refine g_icmp_ne (pc' := 37) (tgt := 39) C dX6_takesNote_34 (by decide) rfl h (fun c h => ?_) (fun c h => ?_)
      · refine g_iconst (pc' := 38) (v := 0) C dX6_takesNote_37 (by decide) rfl ?_
        obtain ⟨rfl, rfl⟩ := pj2 (Option.some.inj h)
        exact g_zret0 C rfl dX6_takesNote_38
      · refine g_iconst (pc' := 40) (v := 0) C dX6_takesNote_39 (by decide) rfl ?_
        refine g_istore_n (pc' := 41) C dX6_takesNote_40 (Nat.le_of_ble_eq_true rfl) rfl (L' := [some (.ref (a 0)), some (.int r1), some (.int r3), some (.int (0 : Int32))]) rfl ?_
        exact G_loc (lle_s (lle_s (lle_s (lle_s lle_0)))) (L_X6_takesNote_41 C a N r Mz N r1 r3 (0 : Int32) M3 h)
set_option maxRecDepth 100000 in
set_option maxHeartbeats 4000000 in
theorem c_X6_takesNote (l : Launch) (D : va_G) (cA : Nat → ClassId) (a : Nat → Nat) (N : Nat) (M : tS)  (r : Int32) (Mz : tS) (h : f_X6_takesNote N M = some (r, Mz)) : MI l D cA yX6_takesNote wsX6_takesNote 2 44 [.ref (a 0)] [mdW cA a M] r [mdW cA a Mz] := MI_of (cc := cX6_takesNote) (maxL := 4) (rt := some .boolean) (by decide +kernel) rfl (List.forall_mem_cons.mpr ⟨rfl, List.forall_mem_nil _⟩) (Nat.le_of_ble_eq_true rfl) (fun X e1 e2 e3 C => by subst e1; subst e2; subst e3; exact B_X6_takesNote C a N M r Mz h)
set_option maxRecDepth 100000 in
set_option maxHeartbeats 4000000 in
theorem nd_X6_takesNote : nd yX6_takesNote 0 := ⟨by decide +kernel, by decide +kernel, by decide +kernel⟩
set_option maxRecDepth 100000 in
set_option maxHeartbeats 4000000 in
theorem k_X6_takesNote {X : gX} {own : String} {cc : ByteArray} {nL : Nat} {ret : Option FieldType} {Ts : List Cond} {fr lm : Nat} {Q : State → Prop} {ms : List va_W} {L : List (Option Value)} {st : List Value} {pc pc' idx : Nat} {ρ : Type} {T : Int32 → tS → Option ρ} {res : ρ} (C : cx X own cc nL ret Ts fr lm) (a : Nat → Nat) (N : Nat) (M : tS)  (is : List Nat) (hC : is.map (fun i => ms[i]?) = [some (mdW (gcA X) a M)]) (hn : is.Nodup) (hG : GoodIn Ts (wsV own idx RX6 yX6_takesNote wsX6_takesNote)) (hR : 2 + 1 ≤ fr ∧ 8 + (4 + 11) + 44 ≤ lm) (hst : (st.map fun v => v.category).sum ≤ 8) (hLn : L.length = nL) (d : decode cc pc = .ok (.invokevirtual idx, 3)) (hp : pc + 3 = pc') (h : bd2 (f_X6_takesNote N M) T = some res) (kk : ∀ (r : Int32) (Mz : tS), T r Mz = some res → G X Q (rpl ms is [mdW (gcA X) a Mz]) L (.int r :: st) pc') : G X Q ms L (.ref (a 0) :: st) pc := by
  obtain ⟨r, Mz, h1, h⟩ := ob2 h
  exact G_callVI C (As := []) (c_X6_takesNote (gl X) (gD X) (gcA X) a N M r Mz h1) hG rfl nd_X6_takesNote hR (q0 := 0) rfl rfl hC hn rfl rfl hst hLn d hp (kk r Mz h)
theorem hi_X6_isBoard_X6 : ∀ w ∈ wsX60, w ∈ wsX6_isBoard := fun w h => List.mem_cons_of_mem _ (List.mem_append_right _ h)
theorem lk_X6_isBoard_1 : Cond.fieldLink RX6 136 "NoteThemesModel" "spot" "I" ∈ wsX6_isBoard := List.mem_of_getElem? (i := 1) rfl
theorem lk_X6_isBoard_2 : Cond.fieldLink RX6 151 "NoteThemesModel" "tells" "I" ∈ wsX6_isBoard := List.mem_of_getElem? (i := 2) rfl
theorem lk_X6_isBoard_3 : Cond.fieldLink RX6 148 "NoteThemesModel" "dotsRead" "I" ∈ wsX6_isBoard := List.mem_of_getElem? (i := 3) rfl
theorem lk_X6_isBoard_4 : Cond.fieldLink RX6 133 "NoteThemesModel" "length" "I" ∈ wsX6_isBoard := List.mem_of_getElem? (i := 4) rfl
def f_X6_isBoard_56 (N : Nat)  (k20 : Int32 → tS → Option (Int32 × tS)) (t0 : Int32) (M : tS) : Option (Int32 × tS) := k20 t0 M
set_option maxRecDepth 100000 in
set_option maxHeartbeats 4000000 in
theorem B_X6_isBoard_56 {X : gX} (C : cx X RX6 cX6_isBoard 2 (some .boolean) wsX6_isBoard 3 67) (a : Nat → Nat) (N : Nat)  (r : Int32) (Mz : tS) (k20 : Int32 → tS → Option (Int32 × tS)) (hk20 : ∀ (x1 : Int32) (M : tS), k20 x1 M = some (r, Mz) → G X (QI X r [mdW (gcA X) a Mz]) [mdW (gcA X) a M] [some (.ref (a 0)), some (.int x1)] [] 20) (t0 : Int32) (M : tS) (h : f_X6_isBoard_56 N k20 t0 M = some (r, Mz)) : G X (QI X r [mdW (gcA X) a Mz]) [mdW (gcA X) a M] [some (.ref (a 0)), none] [.int t0] 56 := by
  unfold f_X6_isBoard_56 at h
  refine g_istore_n (pc' := 57) C dX6_isBoard_56 (Nat.le_of_ble_eq_true rfl) rfl (L' := [some (.ref (a 0)), some (.int t0)]) rfl ?_
  refine g_goto (pc' := 20) C dX6_isBoard_57 (by decide) ?_
  exact G_loc (lle_s (lle_s lle_0)) (hk20 t0 M h)
def f_X6_isBoard_55 (N : Nat)  (k20 : Int32 → tS → Option (Int32 × tS)) (M : tS) : Option (Int32 × tS) := f_X6_isBoard_56 N k20 (0 : Int32) M
set_option maxRecDepth 100000 in
set_option maxHeartbeats 4000000 in
theorem B_X6_isBoard_55 {X : gX} (C : cx X RX6 cX6_isBoard 2 (some .boolean) wsX6_isBoard 3 67) (a : Nat → Nat) (N : Nat)  (r : Int32) (Mz : tS) (k20 : Int32 → tS → Option (Int32 × tS)) (hk20 : ∀ (x1 : Int32) (M : tS), k20 x1 M = some (r, Mz) → G X (QI X r [mdW (gcA X) a Mz]) [mdW (gcA X) a M] [some (.ref (a 0)), some (.int x1)] [] 20) (M : tS) (h : f_X6_isBoard_55 N k20 M = some (r, Mz)) : G X (QI X r [mdW (gcA X) a Mz]) [mdW (gcA X) a M] [some (.ref (a 0)), none] [] 55 := by
  unfold f_X6_isBoard_55 at h
  refine g_iconst (pc' := 56) (v := 0) C dX6_isBoard_55 (by decide) rfl ?_
  exact G_loc (lle_s (lle_n lle_0)) (B_X6_isBoard_56 C a N r Mz k20 hk20 (0 : Int32) M h)
def f_X6_isBoard_20b (N : Nat)   (k20 : Int32 → tS → Option (Int32 × tS)) (x1 : Int32) (M : tS) : Option (Int32 × tS) := (if x1 = 0 then (if ¬ (x1 = 0 ∨ x1 = 1) then none else some (x1, M)) else (if (M 6 0) ≤ (M 10 0) then (if ¬ (x1 = 0 ∨ x1 = 1) then none else some (x1, M)) else (bd2 (f_X6_takes N M (59 : Int32)) (fun r1 M1 => (if r1 = 0 then f_X6_isBoard_55 N k20 M1 else (bd2 (f_X6_takesNote N M1) (fun r2 M2 => (if r2 = 0 then f_X6_isBoard_55 N k20 M2 else f_X6_isBoard_56 N k20 (1 : Int32) M2))))))))
def f_X6_isBoard_20 (N : Nat)   : Nat → Int32 → tS → Option (Int32 × tS)
  | 0 => fun _ _ => none
  | n + 1 => f_X6_isBoard_20b N  (f_X6_isBoard_20 N  n)
set_option maxRecDepth 100000 in
set_option maxHeartbeats 4000000 in
theorem B_X6_isBoard_20b {X : gX} (C : cx X RX6 cX6_isBoard 2 (some .boolean) wsX6_isBoard 3 67) (a : Nat → Nat) (N : Nat)  (r : Int32) (Mz : tS)  (k20 : Int32 → tS → Option (Int32 × tS)) (hk20 : ∀ (x1 : Int32) (M : tS), k20 x1 M = some (r, Mz) → G X (QI X r [mdW (gcA X) a Mz]) [mdW (gcA X) a M] [some (.ref (a 0)), some (.int x1)] [] 20) (x1 : Int32) (M : tS) (h : f_X6_isBoard_20b N  k20 x1 M = some (r, Mz)) : G X (QI X r [mdW (gcA X) a Mz]) [mdW (gcA X) a M] [some (.ref (a 0)), some (.int x1)] [] 20 := by
  unfold f_X6_isBoard_20b at h
  refine g_iload_n (pc' := 21) C dX6_isBoard_20 rfl rfl ?_
  refine g_if_eq (pc' := 24) (tgt := 60) C dX6_isBoard_21 (by decide) rfl h (fun c h => ?_) (fun c h => ?_)
  · refine g_iload_n (pc' := 61) C dX6_isBoard_60 rfl rfl ?_
    obtain ⟨hz, h⟩ := og h
    obtain ⟨rfl, rfl⟩ := pj2 (Option.some.inj h)
    exact g_zret0 C (zb hz) dX6_isBoard_61
  · refine g_aload_n (pc' := 25) C dX6_isBoard_24 rfl rfl ?_
    refine gg_X6_10 (pc' := 28) (i := 0) C rfl hi_X6_isBoard_X6 lk_X6_isBoard_1 dX6_isBoard_25 rfl ?_
    refine g_aload_n (pc' := 29) C dX6_isBoard_28 rfl rfl ?_
    refine gg_X6_6 (pc' := 32) (i := 0) C rfl hi_X6_isBoard_X6 lk_X6_isBoard_4 dX6_isBoard_29 rfl ?_
    refine g_icmp_ge (pc' := 35) (tgt := 60) C dX6_isBoard_32 (by decide) rfl h (fun c h => ?_) (fun c h => ?_)
    · refine g_iload_n (pc' := 61) C dX6_isBoard_60 rfl rfl ?_
      obtain ⟨hz, h⟩ := og h
      obtain ⟨rfl, rfl⟩ := pj2 (Option.some.inj h)
      exact g_zret0 C (zb hz) dX6_isBoard_61
    · refine g_aload_n (pc' := 36) C dX6_isBoard_35 rfl rfl ?_
      refine g_bipush (pc' := 38) (v := 59) C dX6_isBoard_36 (by decide) rfl ?_
      refine k_X6_takes (pc' := 41) C a N M (59 : Int32) [0] rfl (by decide) gX6_isBoard_X6_takes ⟨Nat.le_of_ble_eq_true rfl, Nat.le_of_ble_eq_true rfl⟩ (Nat.le_of_ble_eq_true rfl) rfl dX6_isBoard_38 rfl h (fun r1 M1 h => ?_)
      show G X _ [mdW (gcA X) a M1] _ _ _
      refine g_if_eq (pc' := 44) (tgt := 55) C dX6_isBoard_41 (by decide) rfl h (fun c h => ?_) (fun c h => ?_)
      · exact G_loc (lle_s (lle_n lle_0)) (B_X6_isBoard_55 C a N r Mz k20 hk20 M1 h)
      · refine g_aload_n (pc' := 45) C dX6_isBoard_44 rfl rfl ?_
        refine k_X6_takesNote (pc' := 48) C a N M1 [0] rfl (by decide) gX6_isBoard_X6_takesNote ⟨Nat.le_of_ble_eq_true rfl, Nat.le_of_ble_eq_true rfl⟩ (Nat.le_of_ble_eq_true rfl) rfl dX6_isBoard_45 rfl h (fun r2 M2 h => ?_)
        show G X _ [mdW (gcA X) a M2] _ _ _
        refine g_if_eq (pc' := 51) (tgt := 55) C dX6_isBoard_48 (by decide) rfl h (fun c h => ?_) (fun c h => ?_)
        · exact G_loc (lle_s (lle_n lle_0)) (B_X6_isBoard_55 C a N r Mz k20 hk20 M2 h)
        · refine g_iconst (pc' := 52) (v := 1) C dX6_isBoard_51 (by decide) rfl ?_
          refine g_goto (pc' := 56) C dX6_isBoard_52 (by decide) ?_
          exact G_loc (lle_s (lle_n lle_0)) (B_X6_isBoard_56 C a N r Mz k20 hk20 (1 : Int32) M2 h)
set_option maxRecDepth 100000 in
set_option maxHeartbeats 4000000 in
theorem L_X6_isBoard_20 {X : gX} (C : cx X RX6 cX6_isBoard 2 (some .boolean) wsX6_isBoard 3 67) (a : Nat → Nat) (N : Nat)  (r : Int32) (Mz : tS)  : ∀ (n : Nat) (x1 : Int32) (M : tS), f_X6_isBoard_20 N  n x1 M = some (r, Mz) → G X (QI X r [mdW (gcA X) a Mz]) [mdW (gcA X) a M] [some (.ref (a 0)), some (.int x1)] [] 20 := by
  intro n
  induction n with
  | zero => intro x1 M h; have h : (none : Option (Int32 × tS)) = some (r, Mz) := h; cases h
  | succ n ih => intro x1 M h; exact B_X6_isBoard_20b C a N r Mz  (f_X6_isBoard_20 N  n) ih x1 M h
def f_X6_isBoard (N : Nat) (M : tS)  : Option (Int32 × tS) := (lt_ (va_up M 10 (fun _ => (0 : Int32))) (fun M1s => (lt_ (va_up M1s 11 (fun _ => (0 : Int32))) (fun M2s => (bd2 (f_X6_takesNote N (va_up M2s 13 (fun _ => (0 : Int32)))) (fun r3 M3 => f_X6_isBoard_20 N N r3 M3))))))
set_option maxRecDepth 100000 in
set_option maxHeartbeats 4000000 in
theorem B_X6_isBoard {X : gX} (C : cx X RX6 cX6_isBoard 2 (some .boolean) wsX6_isBoard 3 67) (a : Nat → Nat) (N : Nat) (M : tS)  (r : Int32) (Mz : tS) (h : f_X6_isBoard N M = some (r, Mz)) : G X (QI X r [mdW (gcA X) a Mz]) [mdW (gcA X) a M] [some (.ref (a 0)), none] [] 0 := by
  unfold f_X6_isBoard at h
  refine g_aload_n (pc' := 1) C dX6_isBoard_0 rfl rfl ?_
  refine g_iconst (pc' := 2) (v := 0) C dX6_isBoard_1 (by decide) rfl ?_
  refine gp_X6_10 (pc' := 5) (i := 0) C rfl hi_X6_isBoard_X6 lk_X6_isBoard_1 dX6_isBoard_2 rfl ?_
  show G X _ [mdW (gcA X) a (va_up M 10 (fun _ => (0 : Int32)))] _ _ _
  refine g_aload_n (pc' := 6) C dX6_isBoard_5 rfl rfl ?_
  refine g_iconst (pc' := 7) (v := 0) C dX6_isBoard_6 (by decide) rfl ?_
  obtain ⟨M1s, eM1s, h⟩ := ol h
  rw [← eM1s]
  refine gp_X6_11 (pc' := 10) (i := 0) C rfl hi_X6_isBoard_X6 lk_X6_isBoard_2 dX6_isBoard_7 rfl ?_
  show G X _ [mdW (gcA X) a (va_up M1s 11 (fun _ => (0 : Int32)))] _ _ _
  refine g_aload_n (pc' := 11) C dX6_isBoard_10 rfl rfl ?_
  refine g_iconst (pc' := 12) (v := 0) C dX6_isBoard_11 (by decide) rfl ?_
  obtain ⟨M2s, eM2s, h⟩ := ol h
  rw [← eM2s]
  refine gp_X6_13 (pc' := 15) (i := 0) C rfl hi_X6_isBoard_X6 lk_X6_isBoard_3 dX6_isBoard_12 rfl ?_
  show G X _ [mdW (gcA X) a (va_up M2s 13 (fun _ => (0 : Int32)))] _ _ _
  refine g_aload_n (pc' := 16) C dX6_isBoard_15 rfl rfl ?_
  refine k_X6_takesNote (pc' := 19) C a N (va_up M2s 13 (fun _ => (0 : Int32))) [0] rfl (by decide) gX6_isBoard_X6_takesNote ⟨Nat.le_of_ble_eq_true rfl, Nat.le_of_ble_eq_true rfl⟩ (Nat.le_of_ble_eq_true rfl) rfl dX6_isBoard_16 rfl h (fun r3 M3 h => ?_)
  show G X _ [mdW (gcA X) a M3] _ _ _
  refine g_istore_n (pc' := 20) C dX6_isBoard_19 (Nat.le_of_ble_eq_true rfl) rfl (L' := [some (.ref (a 0)), some (.int r3)]) rfl ?_
  exact G_loc (lle_s (lle_s lle_0)) (L_X6_isBoard_20 C a N r Mz N r3 M3 h)
set_option maxRecDepth 100000 in
set_option maxHeartbeats 4000000 in
theorem c_X6_isBoard (l : Launch) (D : va_G) (cA : Nat → ClassId) (a : Nat → Nat) (N : Nat) (M : tS)  (r : Int32) (Mz : tS) (h : f_X6_isBoard N M = some (r, Mz)) : MI l D cA yX6_isBoard wsX6_isBoard 3 67 [.ref (a 0)] [mdW cA a M] r [mdW cA a Mz] := MI_of (cc := cX6_isBoard) (maxL := 2) (rt := some .boolean) (by decide +kernel) rfl (List.forall_mem_cons.mpr ⟨rfl, List.forall_mem_nil _⟩) (Nat.le_of_ble_eq_true rfl) (fun X e1 e2 e3 C => by subst e1; subst e2; subst e3; exact B_X6_isBoard C a N M r Mz h)
set_option maxRecDepth 100000 in
set_option maxHeartbeats 4000000 in
theorem nd_X6_isBoard : nd yX6_isBoard 0 := ⟨by decide +kernel, by decide +kernel, by decide +kernel⟩
set_option maxRecDepth 100000 in
set_option maxHeartbeats 4000000 in
theorem k_X6_isBoard {X : gX} {own : String} {cc : ByteArray} {nL : Nat} {ret : Option FieldType} {Ts : List Cond} {fr lm : Nat} {Q : State → Prop} {ms : List va_W} {L : List (Option Value)} {st : List Value} {pc pc' idx : Nat} {ρ : Type} {T : Int32 → tS → Option ρ} {res : ρ} (C : cx X own cc nL ret Ts fr lm) (a : Nat → Nat) (N : Nat) (M : tS)  (is : List Nat) (hC : is.map (fun i => ms[i]?) = [some (mdW (gcA X) a M)]) (hn : is.Nodup) (hG : GoodIn Ts (wsV own idx RX6 yX6_isBoard wsX6_isBoard)) (hR : 3 + 1 ≤ fr ∧ 8 + (2 + 11) + 67 ≤ lm) (hst : (st.map fun v => v.category).sum ≤ 8) (hLn : L.length = nL) (d : decode cc pc = .ok (.invokevirtual idx, 3)) (hp : pc + 3 = pc') (h : bd2 (f_X6_isBoard N M) T = some res) (kk : ∀ (r : Int32) (Mz : tS), T r Mz = some res → G X Q (rpl ms is [mdW (gcA X) a Mz]) L (.int r :: st) pc') : G X Q ms L (.ref (a 0) :: st) pc := by
  obtain ⟨r, Mz, h1, h⟩ := ob2 h
  exact G_callVI C (As := []) (c_X6_isBoard (gl X) (gD X) (gcA X) a N M r Mz h1) hG rfl nd_X6_isBoard hR (q0 := 0) rfl rfl hC hn rfl rfl hst hLn d hp (kk r Mz h)
theorem hi_X6_load_X6 : ∀ w ∈ wsX60, w ∈ wsX6_load := fun w h => List.mem_cons_of_mem _ (List.mem_append_right _ h)
theorem lk_X6_load_1 : Cond.fieldLink RX6 136 "NoteThemesModel" "spot" "I" ∈ wsX6_load := List.mem_of_getElem? (i := 1) rfl
theorem lk_X6_load_2 : Cond.fieldLink RX6 151 "NoteThemesModel" "tells" "I" ∈ wsX6_load := List.mem_of_getElem? (i := 2) rfl
theorem lk_X6_load_3 : Cond.fieldLink RX6 7 "NoteThemesModel" "s" "[I" ∈ wsX6_load := List.mem_of_getElem? (i := 3) rfl
theorem lk_X6_load_4 : Cond.fieldLink RX6 29 "NoteThemesModel" "read" "[I" ∈ wsX6_load := List.mem_of_getElem? (i := 4) rfl
def f_X6_load_69b (N : Nat)   (k69 : Int32 → tS → Option (Int32 × tS)) (x1 : Int32) (M : tS) : Option (Int32 × tS) := (if (M 11 0) ≤ x1 then some ((M 0 (0 : Int32).toNatClampNeg), M) else (if ((3 : Int32) * x1) < 0 ∨ 60 ≤ ((3 : Int32) * x1).toNatClampNeg then none else (if (((3 : Int32) * x1) + (1 : Int32)) < 0 ∨ 60 ≤ (((3 : Int32) * x1) + (1 : Int32)).toNatClampNeg then none else (bd2 (f_X6_adds N M (M 12 ((3 : Int32) * x1).toNatClampNeg) (M 12 (((3 : Int32) * x1) + (1 : Int32)).toNatClampNeg)) (fun r1 M1 => (if (((3 : Int32) * x1) + (2 : Int32)) < 0 ∨ 60 ≤ (((3 : Int32) * x1) + (2 : Int32)).toNatClampNeg then none else (bd (f_X6_lays N M1 r1 (3 : Int32) (M1 12 (((3 : Int32) * x1) + (2 : Int32)).toNatClampNeg)) (fun M2 => k69 (x1 + 1) M2))))))))
def f_X6_load_69 (N : Nat)   : Nat → Int32 → tS → Option (Int32 × tS)
  | 0 => fun _ _ => none
  | n + 1 => f_X6_load_69b N  (f_X6_load_69 N  n)
set_option maxRecDepth 100000 in
set_option maxHeartbeats 4000000 in
theorem B_X6_load_69b {X : gX} (C : cx X RX6 cX6_load 3 (some .int) wsX6_load 4 88) (a : Nat → Nat) (N : Nat)  (r : Int32) (Mz : tS)  (k69 : Int32 → tS → Option (Int32 × tS)) (hk69 : ∀ (x1 : Int32) (M : tS), k69 x1 M = some (r, Mz) → G X (QI X r [mdW (gcA X) a Mz]) [mdW (gcA X) a M] [some (.ref (a 0)), some (.int x1), none] [] 69) (x1 : Int32) (M : tS) (h : f_X6_load_69b N  k69 x1 M = some (r, Mz)) : G X (QI X r [mdW (gcA X) a Mz]) [mdW (gcA X) a M] [some (.ref (a 0)), some (.int x1), none] [] 69 := by
  unfold f_X6_load_69b at h
  refine g_iload_n (pc' := 70) C dX6_load_69 rfl rfl ?_
  refine g_aload_n (pc' := 71) C dX6_load_70 rfl rfl ?_
  refine gg_X6_11 (pc' := 74) (i := 0) C rfl hi_X6_load_X6 lk_X6_load_2 dX6_load_71 rfl ?_
  refine g_icmp_ge (pc' := 77) (tgt := 122) C dX6_load_74 (by decide) rfl h (fun c h => ?_) (fun c h => ?_)
  · refine g_aload_n (pc' := 123) C dX6_load_122 rfl rfl ?_
    refine gg_X6_0 (pc' := 126) (i := 0) C rfl hi_X6_load_X6 lk_X6_load_3 dX6_load_123 rfl ?_
    refine g_iconst (pc' := 127) (v := 0) C dX6_load_126 (by decide) rfl ?_
    refine g_iald0 (pc' := 128) (i := 0) (j := 1) C rfl rfl dX6_load_127 rfl (by unfold vp_in; decide) ?_
    obtain ⟨rfl, rfl⟩ := pj2 (Option.some.inj h)
    exact g_iret C dX6_load_128
  · refine g_aload_n (pc' := 78) C dX6_load_77 rfl rfl ?_
    refine g_aload_n (pc' := 79) C dX6_load_78 rfl rfl ?_
    refine gg_X6_12 (pc' := 82) (i := 0) C rfl hi_X6_load_X6 lk_X6_load_4 dX6_load_79 rfl ?_
    refine g_iconst (pc' := 83) (v := 3) C dX6_load_82 (by decide) rfl ?_
    refine g_iload_n (pc' := 84) C dX6_load_83 rfl rfl ?_
    refine g_imul (pc' := 85) C dX6_load_84 rfl ?_
    refine g_iald (pc' := 86) (i := 0) (j := 7) C rfl rfl dX6_load_85 rfl h (fun h => ?_)
    refine g_aload_n (pc' := 87) C dX6_load_86 rfl rfl ?_
    refine gg_X6_12 (pc' := 90) (i := 0) C rfl hi_X6_load_X6 lk_X6_load_4 dX6_load_87 rfl ?_
    refine g_iconst (pc' := 91) (v := 3) C dX6_load_90 (by decide) rfl ?_
    refine g_iload_n (pc' := 92) C dX6_load_91 rfl rfl ?_
    refine g_imul (pc' := 93) C dX6_load_92 rfl ?_
    refine g_iconst (pc' := 94) (v := 1) C dX6_load_93 (by decide) rfl ?_
    refine g_iadd (pc' := 95) C dX6_load_94 rfl ?_
    refine g_iald (pc' := 96) (i := 0) (j := 7) C rfl rfl dX6_load_95 rfl h (fun h => ?_)
    refine k_X6_adds (pc' := 99) C a N M (M 12 ((3 : Int32) * x1).toNatClampNeg) (M 12 (((3 : Int32) * x1) + (1 : Int32)).toNatClampNeg) [0] rfl (by decide) gX6_load_X6_adds ⟨Nat.le_of_ble_eq_true rfl, Nat.le_of_ble_eq_true rfl⟩ (Nat.le_of_ble_eq_true rfl) rfl dX6_load_96 rfl h (fun r1 M1 h => ?_)
    show G X _ [mdW (gcA X) a M1] _ _ _
    refine g_istore_n (pc' := 100) C dX6_load_99 (Nat.le_of_ble_eq_true rfl) rfl (L' := [some (.ref (a 0)), some (.int x1), some (.int r1)]) rfl ?_
    refine g_aload_n (pc' := 101) C dX6_load_100 rfl rfl ?_
    refine g_iload_n (pc' := 102) C dX6_load_101 rfl rfl ?_
    refine g_iconst (pc' := 103) (v := 3) C dX6_load_102 (by decide) rfl ?_
    refine g_aload_n (pc' := 104) C dX6_load_103 rfl rfl ?_
    refine gg_X6_12 (pc' := 107) (i := 0) C rfl hi_X6_load_X6 lk_X6_load_4 dX6_load_104 rfl ?_
    refine g_iconst (pc' := 108) (v := 3) C dX6_load_107 (by decide) rfl ?_
    refine g_iload_n (pc' := 109) C dX6_load_108 rfl rfl ?_
    refine g_imul (pc' := 110) C dX6_load_109 rfl ?_
    refine g_iconst (pc' := 111) (v := 2) C dX6_load_110 (by decide) rfl ?_
    refine g_iadd (pc' := 112) C dX6_load_111 rfl ?_
    refine g_iald (pc' := 113) (i := 0) (j := 7) C rfl rfl dX6_load_112 rfl h (fun h => ?_)
    refine k_X6_lays (pc' := 116) C a N M1 r1 (3 : Int32) (M1 12 (((3 : Int32) * x1) + (2 : Int32)).toNatClampNeg) [0] rfl (by decide) gX6_load_X6_lays ⟨Nat.le_of_ble_eq_true rfl, Nat.le_of_ble_eq_true rfl⟩ (Nat.le_of_ble_eq_true rfl) rfl dX6_load_113 rfl h (fun M2 h => ?_)
    show G X _ [mdW (gcA X) a M2] _ _ _
    refine g_iinc (pc' := 119) (v := (x1 + 1)) C dX6_load_116 rfl rfl rfl (L' := [some (.ref (a 0)), some (.int (x1 + 1)), some (.int r1)]) rfl ?_
    refine g_goto (pc' := 69) C dX6_load_119 (by decide) ?_
    exact G_loc (lle_s (lle_s (lle_n lle_0))) (hk69 (x1 + 1) M2 h)
set_option maxRecDepth 100000 in
set_option maxHeartbeats 4000000 in
theorem L_X6_load_69 {X : gX} (C : cx X RX6 cX6_load 3 (some .int) wsX6_load 4 88) (a : Nat → Nat) (N : Nat)  (r : Int32) (Mz : tS)  : ∀ (n : Nat) (x1 : Int32) (M : tS), f_X6_load_69 N  n x1 M = some (r, Mz) → G X (QI X r [mdW (gcA X) a Mz]) [mdW (gcA X) a M] [some (.ref (a 0)), some (.int x1), none] [] 69 := by
  intro n
  induction n with
  | zero => intro x1 M h; have h : (none : Option (Int32 × tS)) = some (r, Mz) := h; cases h
  | succ n ih => intro x1 M h; exact B_X6_load_69b C a N r Mz  (f_X6_load_69 N  n) ih x1 M h
def f_X6_load_33b (N : Nat)   (k33 : Int32 → tS → Option (Int32 × tS)) (x1 : Int32) (M : tS) : Option (Int32 × tS) := (if (233 : Int32) ≤ x1 then (if (0 : Int32) < 0 ∨ 233 ≤ (0 : Int32).toNatClampNeg then none else (lt_ (va_up M 0 (upd (M 0) (0 : Int32).toNatClampNeg (0 : Int32))) (fun M1s => (if (1 : Int32) < 0 ∨ 233 ≤ (1 : Int32).toNatClampNeg then none else f_X6_load_69 N N (0 : Int32) (va_up M1s 0 (upd (M1s 0) (1 : Int32).toNatClampNeg (0 : Int32))))))) else (if x1 < 0 ∨ 233 ≤ x1.toNatClampNeg then none else k33 (x1 + 1) (va_up M 0 (upd (M 0) x1.toNatClampNeg (0 : Int32)))))
def f_X6_load_33 (N : Nat)   : Nat → Int32 → tS → Option (Int32 × tS)
  | 0 => fun _ _ => none
  | n + 1 => f_X6_load_33b N  (f_X6_load_33 N  n)
set_option maxRecDepth 100000 in
set_option maxHeartbeats 4000000 in
theorem B_X6_load_33b {X : gX} (C : cx X RX6 cX6_load 3 (some .int) wsX6_load 4 88) (a : Nat → Nat) (N : Nat)  (r : Int32) (Mz : tS)  (k33 : Int32 → tS → Option (Int32 × tS)) (hk33 : ∀ (x1 : Int32) (M : tS), k33 x1 M = some (r, Mz) → G X (QI X r [mdW (gcA X) a Mz]) [mdW (gcA X) a M] [some (.ref (a 0)), some (.int x1), none] [] 33) (x1 : Int32) (M : tS) (h : f_X6_load_33b N  k33 x1 M = some (r, Mz)) : G X (QI X r [mdW (gcA X) a Mz]) [mdW (gcA X) a M] [some (.ref (a 0)), some (.int x1), none] [] 33 := by
  unfold f_X6_load_33b at h
  refine g_iload_n (pc' := 34) C dX6_load_33 rfl rfl ?_
  refine g_sipush (pc' := 37) (v := 233) C dX6_load_34 (by decide) rfl ?_
  refine g_icmp_ge (pc' := 40) (tgt := 53) C dX6_load_37 (by decide) rfl h (fun c h => ?_) (fun c h => ?_)
  · refine g_aload_n (pc' := 54) C dX6_load_53 rfl rfl ?_
    refine gg_X6_0 (pc' := 57) (i := 0) C rfl hi_X6_load_X6 lk_X6_load_3 dX6_load_54 rfl ?_
    refine g_iconst (pc' := 58) (v := 0) C dX6_load_57 (by decide) rfl ?_
    refine g_iconst (pc' := 59) (v := 0) C dX6_load_58 (by decide) rfl ?_
    refine g_iast (pc' := 60) (i := 0) (j := 1) (w' := mdW (gcA X) a (va_up M 0 (upd (M 0) (0 : Int32).toNatClampNeg (0 : Int32)))) C rfl rfl rfl dX6_load_59 rfl h (fun h => ?_)
    show G X _ [mdW (gcA X) a (va_up M 0 (upd (M 0) (0 : Int32).toNatClampNeg (0 : Int32)))] _ _ _
    refine g_aload_n (pc' := 61) C dX6_load_60 rfl rfl ?_
    refine gg_X6_0 (pc' := 64) (i := 0) C rfl hi_X6_load_X6 lk_X6_load_3 dX6_load_61 rfl ?_
    refine g_iconst (pc' := 65) (v := 1) C dX6_load_64 (by decide) rfl ?_
    refine g_iconst (pc' := 66) (v := 0) C dX6_load_65 (by decide) rfl ?_
    obtain ⟨M1s, eM1s, h⟩ := ol h
    rw [← eM1s]
    refine g_iast (pc' := 67) (i := 0) (j := 1) (w' := mdW (gcA X) a (va_up M1s 0 (upd (M1s 0) (1 : Int32).toNatClampNeg (0 : Int32)))) C rfl rfl rfl dX6_load_66 rfl h (fun h => ?_)
    show G X _ [mdW (gcA X) a (va_up M1s 0 (upd (M1s 0) (1 : Int32).toNatClampNeg (0 : Int32)))] _ _ _
    refine g_iconst (pc' := 68) (v := 0) C dX6_load_67 (by decide) rfl ?_
    refine g_istore_n (pc' := 69) C dX6_load_68 (Nat.le_of_ble_eq_true rfl) rfl (L' := [some (.ref (a 0)), some (.int (0 : Int32)), none]) rfl ?_
    exact G_loc (lle_s (lle_s (lle_n lle_0))) (L_X6_load_69 C a N r Mz N (0 : Int32) (va_up M1s 0 (upd (M1s 0) (1 : Int32).toNatClampNeg (0 : Int32))) h)
  · refine g_aload_n (pc' := 41) C dX6_load_40 rfl rfl ?_
    refine gg_X6_0 (pc' := 44) (i := 0) C rfl hi_X6_load_X6 lk_X6_load_3 dX6_load_41 rfl ?_
    refine g_iload_n (pc' := 45) C dX6_load_44 rfl rfl ?_
    refine g_iconst (pc' := 46) (v := 0) C dX6_load_45 (by decide) rfl ?_
    refine g_iast (pc' := 47) (i := 0) (j := 1) (w' := mdW (gcA X) a (va_up M 0 (upd (M 0) x1.toNatClampNeg (0 : Int32)))) C rfl rfl rfl dX6_load_46 rfl h (fun h => ?_)
    show G X _ [mdW (gcA X) a (va_up M 0 (upd (M 0) x1.toNatClampNeg (0 : Int32)))] _ _ _
    refine g_iinc (pc' := 50) (v := (x1 + 1)) C dX6_load_47 rfl rfl rfl (L' := [some (.ref (a 0)), some (.int (x1 + 1)), none]) rfl ?_
    refine g_goto (pc' := 33) C dX6_load_50 (by decide) ?_
    exact G_loc (lle_s (lle_s (lle_n lle_0))) (hk33 (x1 + 1) (va_up M 0 (upd (M 0) x1.toNatClampNeg (0 : Int32))) h)
set_option maxRecDepth 100000 in
set_option maxHeartbeats 4000000 in
theorem L_X6_load_33 {X : gX} (C : cx X RX6 cX6_load 3 (some .int) wsX6_load 4 88) (a : Nat → Nat) (N : Nat)  (r : Int32) (Mz : tS)  : ∀ (n : Nat) (x1 : Int32) (M : tS), f_X6_load_33 N  n x1 M = some (r, Mz) → G X (QI X r [mdW (gcA X) a Mz]) [mdW (gcA X) a M] [some (.ref (a 0)), some (.int x1), none] [] 33 := by
  intro n
  induction n with
  | zero => intro x1 M h; have h : (none : Option (Int32 × tS)) = some (r, Mz) := h; cases h
  | succ n ih => intro x1 M h; exact B_X6_load_33b C a N r Mz  (f_X6_load_33 N  n) ih x1 M h
def f_X6_load (N : Nat) (M : tS)  : Option (Int32 × tS) := (bd2 (f_X6_isBoard N M) (fun r1 M1 => (if r1 = 0 then some (((-100 : Int32) - (M1 10 0)), M1) else (if (M1 11 0) ≤ (20 : Int32) then (bd (f_X6_records N M1) (fun M2 => f_X6_load_33 N N (5 : Int32) M2)) else some ((-3 : Int32), M1)))))
set_option maxRecDepth 100000 in
set_option maxHeartbeats 4000000 in
theorem B_X6_load {X : gX} (C : cx X RX6 cX6_load 3 (some .int) wsX6_load 4 88) (a : Nat → Nat) (N : Nat) (M : tS)  (r : Int32) (Mz : tS) (h : f_X6_load N M = some (r, Mz)) : G X (QI X r [mdW (gcA X) a Mz]) [mdW (gcA X) a M] [some (.ref (a 0)), none, none] [] 0 := by
  unfold f_X6_load at h
  refine g_aload_n (pc' := 1) C dX6_load_0 rfl rfl ?_
  refine k_X6_isBoard (pc' := 4) C a N M [0] rfl (by decide) gX6_load_X6_isBoard ⟨Nat.le_of_ble_eq_true rfl, Nat.le_of_ble_eq_true rfl⟩ (Nat.le_of_ble_eq_true rfl) rfl dX6_load_1 rfl h (fun r1 M1 h => ?_)
  show G X _ [mdW (gcA X) a M1] _ _ _
  refine g_if_ne (pc' := 7) (tgt := 15) C dX6_load_4 (by decide) rfl h (fun c h => ?_) (fun c h => ?_)
  · refine g_bipush (pc' := 9) (v := -100) C dX6_load_7 (by decide) rfl ?_
    refine g_aload_n (pc' := 10) C dX6_load_9 rfl rfl ?_
    refine gg_X6_10 (pc' := 13) (i := 0) C rfl hi_X6_load_X6 lk_X6_load_1 dX6_load_10 rfl ?_
    refine g_isub (pc' := 14) C dX6_load_13 rfl ?_
    obtain ⟨rfl, rfl⟩ := pj2 (Option.some.inj h)
    exact g_iret C dX6_load_14
  · refine g_aload_n (pc' := 16) C dX6_load_15 rfl rfl ?_
    refine gg_X6_11 (pc' := 19) (i := 0) C rfl hi_X6_load_X6 lk_X6_load_2 dX6_load_16 rfl ?_
    refine g_bipush (pc' := 21) (v := 20) C dX6_load_19 (by decide) rfl ?_
    refine g_icmp_le (pc' := 24) (tgt := 27) C dX6_load_21 (by decide) rfl h (fun c h => ?_) (fun c h => ?_)
    · refine g_aload_n (pc' := 28) C dX6_load_27 rfl rfl ?_
      refine k_X6_records (pc' := 31) C a N M1 [0] rfl (by decide) gX6_load_X6_records ⟨Nat.le_of_ble_eq_true rfl, Nat.le_of_ble_eq_true rfl⟩ (Nat.le_of_ble_eq_true rfl) rfl dX6_load_28 rfl h (fun M2 h => ?_)
      show G X _ [mdW (gcA X) a M2] _ _ _
      refine g_iconst (pc' := 32) (v := 5) C dX6_load_31 (by decide) rfl ?_
      refine g_istore_n (pc' := 33) C dX6_load_32 (Nat.le_of_ble_eq_true rfl) rfl (L' := [some (.ref (a 0)), some (.int (5 : Int32)), none]) rfl ?_
      exact G_loc (lle_s (lle_s (lle_n lle_0))) (L_X6_load_33 C a N r Mz N (5 : Int32) M2 h)
    · refine g_bipush (pc' := 26) (v := -3) C dX6_load_24 (by decide) rfl ?_
      obtain ⟨rfl, rfl⟩ := pj2 (Option.some.inj h)
      exact g_iret C dX6_load_26
set_option maxRecDepth 100000 in
set_option maxHeartbeats 4000000 in
theorem c_X6_load (l : Launch) (D : va_G) (cA : Nat → ClassId) (a : Nat → Nat) (N : Nat) (M : tS)  (r : Int32) (Mz : tS) (h : f_X6_load N M = some (r, Mz)) : MI l D cA yX6_load wsX6_load 4 88 [.ref (a 0)] [mdW cA a M] r [mdW cA a Mz] := MI_of (cc := cX6_load) (maxL := 3) (rt := some .int) (by decide +kernel) rfl (List.forall_mem_cons.mpr ⟨rfl, List.forall_mem_nil _⟩) (Nat.le_of_ble_eq_true rfl) (fun X e1 e2 e3 C => by subst e1; subst e2; subst e3; exact B_X6_load C a N M r Mz h)
set_option maxRecDepth 100000 in
set_option maxHeartbeats 4000000 in
theorem nd_X6_load : nd yX6_load 0 := ⟨by decide +kernel, by decide +kernel, by decide +kernel⟩
set_option maxRecDepth 100000 in
set_option maxHeartbeats 4000000 in
theorem k_X6_load {X : gX} {own : String} {cc : ByteArray} {nL : Nat} {ret : Option FieldType} {Ts : List Cond} {fr lm : Nat} {Q : State → Prop} {ms : List va_W} {L : List (Option Value)} {st : List Value} {pc pc' idx : Nat} {ρ : Type} {T : Int32 → tS → Option ρ} {res : ρ} (C : cx X own cc nL ret Ts fr lm) (a : Nat → Nat) (N : Nat) (M : tS)  (is : List Nat) (hC : is.map (fun i => ms[i]?) = [some (mdW (gcA X) a M)]) (hn : is.Nodup) (hG : GoodIn Ts (wsV own idx RX6 yX6_load wsX6_load)) (hR : 4 + 1 ≤ fr ∧ 8 + (3 + 11) + 88 ≤ lm) (hst : (st.map fun v => v.category).sum ≤ 8) (hLn : L.length = nL) (d : decode cc pc = .ok (.invokevirtual idx, 3)) (hp : pc + 3 = pc') (h : bd2 (f_X6_load N M) T = some res) (kk : ∀ (r : Int32) (Mz : tS), T r Mz = some res → G X Q (rpl ms is [mdW (gcA X) a Mz]) L (.int r :: st) pc') : G X Q ms L (.ref (a 0) :: st) pc := by
  obtain ⟨r, Mz, h1, h⟩ := ob2 h
  exact G_callVI C (As := []) (c_X6_load (gl X) (gD X) (gcA X) a N M r Mz h1) hG rfl nd_X6_load hR (q0 := 0) rfl rfl hC hn rfl rfl hst hLn d hp (kk r Mz h)
theorem hi_X6_undo_X6 : ∀ w ∈ wsX60, w ∈ wsX6_undo := fun w h => List.mem_cons_of_mem _ (List.mem_append_right _ h)
theorem lk_X6_undo_1 : Cond.fieldLink RX6 35 "NoteThemesModel" "known" "I" ∈ wsX6_undo := List.mem_of_getElem? (i := 1) rfl
theorem lk_X6_undo_2 : Cond.fieldLink RX6 13 "NoteThemesModel" "past" "[I" ∈ wsX6_undo := List.mem_of_getElem? (i := 2) rfl
theorem lk_X6_undo_3 : Cond.fieldLink RX6 7 "NoteThemesModel" "s" "[I" ∈ wsX6_undo := List.mem_of_getElem? (i := 3) rfl
def f_X6_undo (N : Nat) (M : tS)  : Option (Int32 × tS) := (if (M 2 0) = 0 then some ((-5 : Int32), M) else (bd (f_X6_copies_1_0 N (va_up M 2 (fun _ => ((M 2 0) - (1 : Int32)))) ((233 : Int32) * ((M 2 0) - (1 : Int32))) (0 : Int32)) (fun M1 => some ((M1 2 0), M1))))
set_option maxRecDepth 100000 in
set_option maxHeartbeats 4000000 in
theorem B_X6_undo {X : gX} (C : cx X RX6 cX6_undo 1 (some .int) wsX6_undo 1 24) (a : Nat → Nat) (N : Nat) (M : tS)  (r : Int32) (Mz : tS) (h : f_X6_undo N M = some (r, Mz)) : G X (QI X r [mdW (gcA X) a Mz]) [mdW (gcA X) a M] [some (.ref (a 0))] [] 0 := by
  unfold f_X6_undo at h
  refine g_aload_n (pc' := 1) C dX6_undo_0 rfl rfl ?_
  refine gg_X6_2 (pc' := 4) (i := 0) C rfl hi_X6_undo_X6 lk_X6_undo_1 dX6_undo_1 rfl ?_
  refine g_if_ne (pc' := 7) (tgt := 10) C dX6_undo_4 (by decide) rfl h (fun c h => ?_) (fun c h => ?_)
  · refine g_bipush (pc' := 9) (v := -5) C dX6_undo_7 (by decide) rfl ?_
    obtain ⟨rfl, rfl⟩ := pj2 (Option.some.inj h)
    exact g_iret C dX6_undo_9
  · refine g_aload_n (pc' := 11) C dX6_undo_10 rfl rfl ?_
    refine g_dup (pc' := 12) C dX6_undo_11 rfl rfl ?_
    refine gg_X6_2 (pc' := 15) (i := 0) C rfl hi_X6_undo_X6 lk_X6_undo_1 dX6_undo_12 rfl ?_
    refine g_iconst (pc' := 16) (v := 1) C dX6_undo_15 (by decide) rfl ?_
    refine g_isub (pc' := 17) C dX6_undo_16 rfl ?_
    refine gp_X6_2 (pc' := 20) (i := 0) C rfl hi_X6_undo_X6 lk_X6_undo_1 dX6_undo_17 rfl ?_
    show G X _ [mdW (gcA X) a (va_up M 2 (fun _ => ((M 2 0) - (1 : Int32))))] _ _ _
    refine g_aload_n (pc' := 21) C dX6_undo_20 rfl rfl ?_
    refine gg_X6_1 (pc' := 24) (i := 0) C rfl hi_X6_undo_X6 lk_X6_undo_2 dX6_undo_21 rfl ?_
    refine g_sipush (pc' := 27) (v := 233) C dX6_undo_24 (by decide) rfl ?_
    refine g_aload_n (pc' := 28) C dX6_undo_27 rfl rfl ?_
    refine gg_X6_2 (pc' := 31) (i := 0) C rfl hi_X6_undo_X6 lk_X6_undo_1 dX6_undo_28 rfl ?_
    refine g_vi (v := ((M 2 0) - (1 : Int32))) rfl ?_
    refine g_imul (pc' := 32) C dX6_undo_31 rfl ?_
    refine g_aload_n (pc' := 33) C dX6_undo_32 rfl rfl ?_
    refine gg_X6_0 (pc' := 36) (i := 0) C rfl hi_X6_undo_X6 lk_X6_undo_3 dX6_undo_33 rfl ?_
    refine g_iconst (pc' := 37) (v := 0) C dX6_undo_36 (by decide) rfl ?_
    refine k_X6_copies_1_0 (pc' := 40) C a N (va_up M 2 (fun _ => ((M 2 0) - (1 : Int32)))) ((233 : Int32) * ((M 2 0) - (1 : Int32))) (0 : Int32) [0] rfl (by decide) gX6_undo_X6_copies ⟨Nat.le_of_ble_eq_true rfl, Nat.le_of_ble_eq_true rfl⟩ (Nat.le_of_ble_eq_true rfl) rfl dX6_undo_37 rfl h (fun M1 h => ?_)
    show G X _ [mdW (gcA X) a M1] _ _ _
    refine g_aload_n (pc' := 41) C dX6_undo_40 rfl rfl ?_
    refine gg_X6_2 (pc' := 44) (i := 0) C rfl hi_X6_undo_X6 lk_X6_undo_1 dX6_undo_41 rfl ?_
    obtain ⟨rfl, rfl⟩ := pj2 (Option.some.inj h)
    exact g_iret C dX6_undo_44
set_option maxRecDepth 100000 in
set_option maxHeartbeats 4000000 in
theorem c_X6_undo (l : Launch) (D : va_G) (cA : Nat → ClassId) (a : Nat → Nat) (N : Nat) (M : tS)  (r : Int32) (Mz : tS) (h : f_X6_undo N M = some (r, Mz)) : MI l D cA yX6_undo wsX6_undo 1 24 [.ref (a 0)] [mdW cA a M] r [mdW cA a Mz] := MI_of (cc := cX6_undo) (maxL := 1) (rt := some .int) (by decide +kernel) rfl (List.forall_mem_cons.mpr ⟨rfl, List.forall_mem_nil _⟩) (Nat.le_of_ble_eq_true rfl) (fun X e1 e2 e3 C => by subst e1; subst e2; subst e3; exact B_X6_undo C a N M r Mz h)
set_option maxRecDepth 100000 in
set_option maxHeartbeats 4000000 in
theorem nd_X6_undo : nd yX6_undo 0 := ⟨by decide +kernel, by decide +kernel, by decide +kernel⟩
set_option maxRecDepth 100000 in
set_option maxHeartbeats 4000000 in
theorem k_X6_undo {X : gX} {own : String} {cc : ByteArray} {nL : Nat} {ret : Option FieldType} {Ts : List Cond} {fr lm : Nat} {Q : State → Prop} {ms : List va_W} {L : List (Option Value)} {st : List Value} {pc pc' idx : Nat} {ρ : Type} {T : Int32 → tS → Option ρ} {res : ρ} (C : cx X own cc nL ret Ts fr lm) (a : Nat → Nat) (N : Nat) (M : tS)  (is : List Nat) (hC : is.map (fun i => ms[i]?) = [some (mdW (gcA X) a M)]) (hn : is.Nodup) (hG : GoodIn Ts (wsV own idx RX6 yX6_undo wsX6_undo)) (hR : 1 + 1 ≤ fr ∧ 8 + (1 + 11) + 24 ≤ lm) (hst : (st.map fun v => v.category).sum ≤ 8) (hLn : L.length = nL) (d : decode cc pc = .ok (.invokevirtual idx, 3)) (hp : pc + 3 = pc') (h : bd2 (f_X6_undo N M) T = some res) (kk : ∀ (r : Int32) (Mz : tS), T r Mz = some res → G X Q (rpl ms is [mdW (gcA X) a Mz]) L (.int r :: st) pc') : G X Q ms L (.ref (a 0) :: st) pc := by
  obtain ⟨r, Mz, h1, h⟩ := ob2 h
  exact G_callVI C (As := []) (c_X6_undo (gl X) (gD X) (gcA X) a N M r Mz h1) hG rfl nd_X6_undo hR (q0 := 0) rfl rfl hC hn rfl rfl hst hLn d hp (kk r Mz h)
theorem hi_X6_keep_X6 : ∀ w ∈ wsX60, w ∈ wsX6_keep := fun w h => List.mem_cons_of_mem _ (List.mem_append_right _ h)
theorem lk_X6_keep_1 : Cond.fieldLink RX6 7 "NoteThemesModel" "s" "[I" ∈ wsX6_keep := List.mem_of_getElem? (i := 1) rfl
theorem lk_X6_keep_2 : Cond.fieldLink RX6 16 "NoteThemesModel" "kept" "[I" ∈ wsX6_keep := List.mem_of_getElem? (i := 2) rfl
theorem lk_X6_keep_3 : Cond.fieldLink RX6 161 "NoteThemesModel" "isKept" "Z" ∈ wsX6_keep := List.mem_of_getElem? (i := 3) rfl
def f_X6_keep (N : Nat) (M : tS)  : Option (Int32 × tS) := (bd (f_X6_copies_0_3 N M (0 : Int32) (0 : Int32)) (fun M1 => some ((M1 0 (0 : Int32).toNatClampNeg), (va_up M1 4 (fun _ => (1 : Int32))))))
set_option maxRecDepth 100000 in
set_option maxHeartbeats 4000000 in
theorem B_X6_keep {X : gX} (C : cx X RX6 cX6_keep 1 (some .int) wsX6_keep 1 24) (a : Nat → Nat) (N : Nat) (M : tS)  (r : Int32) (Mz : tS) (h : f_X6_keep N M = some (r, Mz)) : G X (QI X r [mdW (gcA X) a Mz]) [mdW (gcA X) a M] [some (.ref (a 0))] [] 0 := by
  unfold f_X6_keep at h
  refine g_aload_n (pc' := 1) C dX6_keep_0 rfl rfl ?_
  refine gg_X6_0 (pc' := 4) (i := 0) C rfl hi_X6_keep_X6 lk_X6_keep_1 dX6_keep_1 rfl ?_
  refine g_iconst (pc' := 5) (v := 0) C dX6_keep_4 (by decide) rfl ?_
  refine g_aload_n (pc' := 6) C dX6_keep_5 rfl rfl ?_
  refine gg_X6_3 (pc' := 9) (i := 0) C rfl hi_X6_keep_X6 lk_X6_keep_2 dX6_keep_6 rfl ?_
  refine g_iconst (pc' := 10) (v := 0) C dX6_keep_9 (by decide) rfl ?_
  refine k_X6_copies_0_3 (pc' := 13) C a N M (0 : Int32) (0 : Int32) [0] rfl (by decide) gX6_keep_X6_copies ⟨Nat.le_of_ble_eq_true rfl, Nat.le_of_ble_eq_true rfl⟩ (Nat.le_of_ble_eq_true rfl) rfl dX6_keep_10 rfl h (fun M1 h => ?_)
  show G X _ [mdW (gcA X) a M1] _ _ _
  refine g_aload_n (pc' := 14) C dX6_keep_13 rfl rfl ?_
  refine g_iconst (pc' := 15) (v := 1) C dX6_keep_14 (by decide) rfl ?_
  refine gp_X6_4 (pc' := 18) (i := 0) C rfl rfl rfl hi_X6_keep_X6 lk_X6_keep_3 dX6_keep_15 rfl ?_
  show G X _ [mdW (gcA X) a (va_up M1 4 (fun _ => (1 : Int32)))] _ _ _
  refine g_aload_n (pc' := 19) C dX6_keep_18 rfl rfl ?_
  refine gg_X6_0 (pc' := 22) (i := 0) C rfl hi_X6_keep_X6 lk_X6_keep_1 dX6_keep_19 rfl ?_
  refine g_iconst (pc' := 23) (v := 0) C dX6_keep_22 (by decide) rfl ?_
  refine g_iald0 (pc' := 24) (i := 0) (j := 1) C rfl rfl dX6_keep_23 rfl (by unfold vp_in; decide) ?_
  refine g_vi (v := (M1 0 (0 : Int32).toNatClampNeg)) rfl ?_
  obtain ⟨rfl, rfl⟩ := pj2 (Option.some.inj h)
  exact g_iret C dX6_keep_24
set_option maxRecDepth 100000 in
set_option maxHeartbeats 4000000 in
theorem c_X6_keep (l : Launch) (D : va_G) (cA : Nat → ClassId) (a : Nat → Nat) (N : Nat) (M : tS)  (r : Int32) (Mz : tS) (h : f_X6_keep N M = some (r, Mz)) : MI l D cA yX6_keep wsX6_keep 1 24 [.ref (a 0)] [mdW cA a M] r [mdW cA a Mz] := MI_of (cc := cX6_keep) (maxL := 1) (rt := some .int) (by decide +kernel) rfl (List.forall_mem_cons.mpr ⟨rfl, List.forall_mem_nil _⟩) (Nat.le_of_ble_eq_true rfl) (fun X e1 e2 e3 C => by subst e1; subst e2; subst e3; exact B_X6_keep C a N M r Mz h)
set_option maxRecDepth 100000 in
set_option maxHeartbeats 4000000 in
theorem nd_X6_keep : nd yX6_keep 0 := ⟨by decide +kernel, by decide +kernel, by decide +kernel⟩
set_option maxRecDepth 100000 in
set_option maxHeartbeats 4000000 in
theorem k_X6_keep {X : gX} {own : String} {cc : ByteArray} {nL : Nat} {ret : Option FieldType} {Ts : List Cond} {fr lm : Nat} {Q : State → Prop} {ms : List va_W} {L : List (Option Value)} {st : List Value} {pc pc' idx : Nat} {ρ : Type} {T : Int32 → tS → Option ρ} {res : ρ} (C : cx X own cc nL ret Ts fr lm) (a : Nat → Nat) (N : Nat) (M : tS)  (is : List Nat) (hC : is.map (fun i => ms[i]?) = [some (mdW (gcA X) a M)]) (hn : is.Nodup) (hG : GoodIn Ts (wsV own idx RX6 yX6_keep wsX6_keep)) (hR : 1 + 1 ≤ fr ∧ 8 + (1 + 11) + 24 ≤ lm) (hst : (st.map fun v => v.category).sum ≤ 8) (hLn : L.length = nL) (d : decode cc pc = .ok (.invokevirtual idx, 3)) (hp : pc + 3 = pc') (h : bd2 (f_X6_keep N M) T = some res) (kk : ∀ (r : Int32) (Mz : tS), T r Mz = some res → G X Q (rpl ms is [mdW (gcA X) a Mz]) L (.int r :: st) pc') : G X Q ms L (.ref (a 0) :: st) pc := by
  obtain ⟨r, Mz, h1, h⟩ := ob2 h
  exact G_callVI C (As := []) (c_X6_keep (gl X) (gD X) (gcA X) a N M r Mz h1) hG rfl nd_X6_keep hR (q0 := 0) rfl rfl hC hn rfl rfl hst hLn d hp (kk r Mz h)
theorem hi_X6_restore_X6 : ∀ w ∈ wsX60, w ∈ wsX6_restore := fun w h => List.mem_cons_of_mem _ (List.mem_append_right _ h)
theorem lk_X6_restore_1 : Cond.fieldLink RX6 161 "NoteThemesModel" "isKept" "Z" ∈ wsX6_restore := List.mem_of_getElem? (i := 1) rfl
theorem lk_X6_restore_2 : Cond.fieldLink RX6 16 "NoteThemesModel" "kept" "[I" ∈ wsX6_restore := List.mem_of_getElem? (i := 2) rfl
theorem lk_X6_restore_3 : Cond.fieldLink RX6 7 "NoteThemesModel" "s" "[I" ∈ wsX6_restore := List.mem_of_getElem? (i := 3) rfl
def f_X6_restore (N : Nat) (M : tS)  : Option (Int32 × tS) := (if (M 4 0) = 0 then some ((-5 : Int32), M) else (bd (f_X6_records N M) (fun M1 => (bd (f_X6_copies_3_0 N M1 (0 : Int32) (0 : Int32)) (fun M2 => some ((M2 0 (0 : Int32).toNatClampNeg), M2))))))
set_option maxRecDepth 100000 in
set_option maxHeartbeats 4000000 in
theorem B_X6_restore {X : gX} (C : cx X RX6 cX6_restore 1 (some .int) wsX6_restore 2 45) (a : Nat → Nat) (N : Nat) (M : tS)  (r : Int32) (Mz : tS) (h : f_X6_restore N M = some (r, Mz)) : G X (QI X r [mdW (gcA X) a Mz]) [mdW (gcA X) a M] [some (.ref (a 0))] [] 0 := by
  unfold f_X6_restore at h
  refine g_aload_n (pc' := 1) C dX6_restore_0 rfl rfl ?_
  refine gg_X6_4 (pc' := 4) (i := 0) C rfl hi_X6_restore_X6 lk_X6_restore_1 dX6_restore_1 rfl ?_
  refine g_if_ne (pc' := 7) (tgt := 10) C dX6_restore_4 (by decide) rfl h (fun c h => ?_) (fun c h => ?_)
  · refine g_bipush (pc' := 9) (v := -5) C dX6_restore_7 (by decide) rfl ?_
    obtain ⟨rfl, rfl⟩ := pj2 (Option.some.inj h)
    exact g_iret C dX6_restore_9
  · refine g_aload_n (pc' := 11) C dX6_restore_10 rfl rfl ?_
    refine k_X6_records (pc' := 14) C a N M [0] rfl (by decide) gX6_restore_X6_records ⟨Nat.le_of_ble_eq_true rfl, Nat.le_of_ble_eq_true rfl⟩ (Nat.le_of_ble_eq_true rfl) rfl dX6_restore_11 rfl h (fun M1 h => ?_)
    show G X _ [mdW (gcA X) a M1] _ _ _
    refine g_aload_n (pc' := 15) C dX6_restore_14 rfl rfl ?_
    refine gg_X6_3 (pc' := 18) (i := 0) C rfl hi_X6_restore_X6 lk_X6_restore_2 dX6_restore_15 rfl ?_
    refine g_iconst (pc' := 19) (v := 0) C dX6_restore_18 (by decide) rfl ?_
    refine g_aload_n (pc' := 20) C dX6_restore_19 rfl rfl ?_
    refine gg_X6_0 (pc' := 23) (i := 0) C rfl hi_X6_restore_X6 lk_X6_restore_3 dX6_restore_20 rfl ?_
    refine g_iconst (pc' := 24) (v := 0) C dX6_restore_23 (by decide) rfl ?_
    refine k_X6_copies_3_0 (pc' := 27) C a N M1 (0 : Int32) (0 : Int32) [0] rfl (by decide) gX6_restore_X6_copies ⟨Nat.le_of_ble_eq_true rfl, Nat.le_of_ble_eq_true rfl⟩ (Nat.le_of_ble_eq_true rfl) rfl dX6_restore_24 rfl h (fun M2 h => ?_)
    show G X _ [mdW (gcA X) a M2] _ _ _
    refine g_aload_n (pc' := 28) C dX6_restore_27 rfl rfl ?_
    refine gg_X6_0 (pc' := 31) (i := 0) C rfl hi_X6_restore_X6 lk_X6_restore_3 dX6_restore_28 rfl ?_
    refine g_iconst (pc' := 32) (v := 0) C dX6_restore_31 (by decide) rfl ?_
    refine g_iald0 (pc' := 33) (i := 0) (j := 1) C rfl rfl dX6_restore_32 rfl (by unfold vp_in; decide) ?_
    obtain ⟨rfl, rfl⟩ := pj2 (Option.some.inj h)
    exact g_iret C dX6_restore_33
set_option maxRecDepth 100000 in
set_option maxHeartbeats 4000000 in
theorem c_X6_restore (l : Launch) (D : va_G) (cA : Nat → ClassId) (a : Nat → Nat) (N : Nat) (M : tS)  (r : Int32) (Mz : tS) (h : f_X6_restore N M = some (r, Mz)) : MI l D cA yX6_restore wsX6_restore 2 45 [.ref (a 0)] [mdW cA a M] r [mdW cA a Mz] := MI_of (cc := cX6_restore) (maxL := 1) (rt := some .int) (by decide +kernel) rfl (List.forall_mem_cons.mpr ⟨rfl, List.forall_mem_nil _⟩) (Nat.le_of_ble_eq_true rfl) (fun X e1 e2 e3 C => by subst e1; subst e2; subst e3; exact B_X6_restore C a N M r Mz h)
set_option maxRecDepth 100000 in
set_option maxHeartbeats 4000000 in
theorem nd_X6_restore : nd yX6_restore 0 := ⟨by decide +kernel, by decide +kernel, by decide +kernel⟩
set_option maxRecDepth 100000 in
set_option maxHeartbeats 4000000 in
theorem k_X6_restore {X : gX} {own : String} {cc : ByteArray} {nL : Nat} {ret : Option FieldType} {Ts : List Cond} {fr lm : Nat} {Q : State → Prop} {ms : List va_W} {L : List (Option Value)} {st : List Value} {pc pc' idx : Nat} {ρ : Type} {T : Int32 → tS → Option ρ} {res : ρ} (C : cx X own cc nL ret Ts fr lm) (a : Nat → Nat) (N : Nat) (M : tS)  (is : List Nat) (hC : is.map (fun i => ms[i]?) = [some (mdW (gcA X) a M)]) (hn : is.Nodup) (hG : GoodIn Ts (wsV own idx RX6 yX6_restore wsX6_restore)) (hR : 2 + 1 ≤ fr ∧ 8 + (1 + 11) + 45 ≤ lm) (hst : (st.map fun v => v.category).sum ≤ 8) (hLn : L.length = nL) (d : decode cc pc = .ok (.invokevirtual idx, 3)) (hp : pc + 3 = pc') (h : bd2 (f_X6_restore N M) T = some res) (kk : ∀ (r : Int32) (Mz : tS), T r Mz = some res → G X Q (rpl ms is [mdW (gcA X) a Mz]) L (.int r :: st) pc') : G X Q ms L (.ref (a 0) :: st) pc := by
  obtain ⟨r, Mz, h1, h⟩ := ob2 h
  exact G_callVI C (As := []) (c_X6_restore (gl X) (gD X) (gcA X) a N M r Mz h1) hG rfl nd_X6_restore hR (q0 := 0) rfl rfl hC hn rfl rfl hst hLn d hp (kk r Mz h)
theorem hi_X6_near_X6 : ∀ w ∈ wsX60, w ∈ wsX6_near := fun w h => List.mem_cons_of_mem _ (List.mem_append_right _ h)
theorem lk_X6_near_1 : Cond.fieldLink RX6 7 "NoteThemesModel" "s" "[I" ∈ wsX6_near := List.mem_of_getElem? (i := 1) rfl
def f_X6_near_40 (N : Nat) (M : tS) (p0 : Int32) (k4 : Int32 → Int32 → Option (Int32)) (x3 : Int32) (t0 : Int32) (t1 : Int32) : Option (Int32) := k4 (t1 + t0) (x3 + 1)
set_option maxRecDepth 100000 in
set_option maxHeartbeats 4000000 in
theorem B_X6_near_40 {X : gX} (C : cx X RX6 cX6_near 4 (some .int) wsX6_near 2 44) (a : Nat → Nat) (N : Nat) (M : tS) (p0 : Int32) (r : Int32) (k4 : Int32 → Int32 → Option (Int32)) (hk4 : ∀ (x2 : Int32) (x3 : Int32), k4 x2 x3 = some r → G X (QI X r [mdW (gcA X) a M]) [mdW (gcA X) a M] [some (.ref (a 0)), some (.int p0), some (.int x2), some (.int x3)] [] 4) (x3 : Int32) (t0 : Int32) (t1 : Int32) (h : f_X6_near_40 N M p0 k4 x3 t0 t1 = some r) : G X (QI X r [mdW (gcA X) a M]) [mdW (gcA X) a M] [some (.ref (a 0)), some (.int p0), none, some (.int x3)] [.int t0, .int t1] 40 := by
  unfold f_X6_near_40 at h
  refine g_iadd (pc' := 41) C dX6_near_40 rfl ?_
  refine g_istore_n (pc' := 42) C dX6_near_41 (Nat.le_of_ble_eq_true rfl) rfl (L' := [some (.ref (a 0)), some (.int p0), some (.int (t1 + t0)), some (.int x3)]) rfl ?_
  refine g_iinc (pc' := 45) (v := (x3 + 1)) C dX6_near_42 rfl rfl rfl (L' := [some (.ref (a 0)), some (.int p0), some (.int (t1 + t0)), some (.int (x3 + 1))]) rfl ?_
  refine g_goto (pc' := 4) C dX6_near_45 (by decide) ?_
  exact G_loc (lle_s (lle_s (lle_s (lle_s lle_0)))) (hk4 (t1 + t0) (x3 + 1) h)
def f_X6_near_39 (N : Nat) (M : tS) (p0 : Int32) (k4 : Int32 → Int32 → Option (Int32)) (x3 : Int32) (t0 : Int32) : Option (Int32) := f_X6_near_40 N M p0 k4 x3 (0 : Int32) t0
set_option maxRecDepth 100000 in
set_option maxHeartbeats 4000000 in
theorem B_X6_near_39 {X : gX} (C : cx X RX6 cX6_near 4 (some .int) wsX6_near 2 44) (a : Nat → Nat) (N : Nat) (M : tS) (p0 : Int32) (r : Int32) (k4 : Int32 → Int32 → Option (Int32)) (hk4 : ∀ (x2 : Int32) (x3 : Int32), k4 x2 x3 = some r → G X (QI X r [mdW (gcA X) a M]) [mdW (gcA X) a M] [some (.ref (a 0)), some (.int p0), some (.int x2), some (.int x3)] [] 4) (x3 : Int32) (t0 : Int32) (h : f_X6_near_39 N M p0 k4 x3 t0 = some r) : G X (QI X r [mdW (gcA X) a M]) [mdW (gcA X) a M] [some (.ref (a 0)), some (.int p0), none, some (.int x3)] [.int t0] 39 := by
  unfold f_X6_near_39 at h
  refine g_iconst (pc' := 40) (v := 0) C dX6_near_39 (by decide) rfl ?_
  exact G_loc (lle_s (lle_s (lle_n (lle_s lle_0)))) (B_X6_near_40 C a N M p0 r k4 hk4 x3 (0 : Int32) t0 h)
def f_X6_near_4b (N : Nat) (M : tS) (p0 : Int32)  (k4 : Int32 → Int32 → Option (Int32)) (x2 : Int32) (x3 : Int32) : Option (Int32) := (if (M 0 (0 : Int32).toNatClampNeg) ≤ x3 then some x2 else (if x3 = p0 then f_X6_near_39 N M p0 k4 x3 x2 else (bd (f_X6_distance N M x3 p0) (fun r1 => (if (M 0 (2 : Int32).toNatClampNeg) < r1 then f_X6_near_39 N M p0 k4 x3 x2 else f_X6_near_40 N M p0 k4 x3 (1 : Int32) x2)))))
def f_X6_near_4 (N : Nat) (M : tS) (p0 : Int32)  : Nat → Int32 → Int32 → Option (Int32)
  | 0 => fun _ _ => none
  | n + 1 => f_X6_near_4b N M p0  (f_X6_near_4 N M p0  n)
set_option maxRecDepth 100000 in
set_option maxHeartbeats 4000000 in
theorem B_X6_near_4b {X : gX} (C : cx X RX6 cX6_near 4 (some .int) wsX6_near 2 44) (a : Nat → Nat) (N : Nat) (M : tS) (p0 : Int32) (r : Int32)  (k4 : Int32 → Int32 → Option (Int32)) (hk4 : ∀ (x2 : Int32) (x3 : Int32), k4 x2 x3 = some r → G X (QI X r [mdW (gcA X) a M]) [mdW (gcA X) a M] [some (.ref (a 0)), some (.int p0), some (.int x2), some (.int x3)] [] 4) (x2 : Int32) (x3 : Int32) (h : f_X6_near_4b N M p0  k4 x2 x3 = some r) : G X (QI X r [mdW (gcA X) a M]) [mdW (gcA X) a M] [some (.ref (a 0)), some (.int p0), some (.int x2), some (.int x3)] [] 4 := by
  unfold f_X6_near_4b at h
  refine g_iload_n (pc' := 5) C dX6_near_4 rfl rfl ?_
  refine g_aload_n (pc' := 6) C dX6_near_5 rfl rfl ?_
  refine gg_X6_0 (pc' := 9) (i := 0) C rfl hi_X6_near_X6 lk_X6_near_1 dX6_near_6 rfl ?_
  refine g_iconst (pc' := 10) (v := 0) C dX6_near_9 (by decide) rfl ?_
  refine g_iald0 (pc' := 11) (i := 0) (j := 1) C rfl rfl dX6_near_10 rfl (by unfold vp_in; decide) ?_
  refine g_icmp_ge (pc' := 14) (tgt := 48) C dX6_near_11 (by decide) rfl h (fun c h => ?_) (fun c h => ?_)
  · refine g_iload_n (pc' := 49) C dX6_near_48 rfl rfl ?_
    obtain rfl := Option.some.inj h
    exact g_iret C dX6_near_49
  · refine g_iload_n (pc' := 15) C dX6_near_14 rfl rfl ?_
    refine g_iload_n (pc' := 16) C dX6_near_15 rfl rfl ?_
    refine g_iload_n (pc' := 17) C dX6_near_16 rfl rfl ?_
    refine g_icmp_eq (pc' := 20) (tgt := 39) C dX6_near_17 (by decide) rfl h (fun c h => ?_) (fun c h => ?_)
    · exact G_loc (lle_s (lle_s (lle_n (lle_s lle_0)))) (B_X6_near_39 C a N M p0 r k4 hk4 x3 x2 h)
    · refine g_aload_n (pc' := 21) C dX6_near_20 rfl rfl ?_
      refine g_iload_n (pc' := 22) C dX6_near_21 rfl rfl ?_
      refine g_iload_n (pc' := 23) C dX6_near_22 rfl rfl ?_
      refine k_X6_distance (pc' := 26) C a N M x3 p0 [0] rfl (by decide) gX6_near_X6_distance ⟨Nat.le_of_ble_eq_true rfl, Nat.le_of_ble_eq_true rfl⟩ (Nat.le_of_ble_eq_true rfl) rfl dX6_near_23 rfl h (fun r1 h => ?_)
      refine g_aload_n (pc' := 27) C dX6_near_26 rfl rfl ?_
      refine gg_X6_0 (pc' := 30) (i := 0) C rfl hi_X6_near_X6 lk_X6_near_1 dX6_near_27 rfl ?_
      refine g_iconst (pc' := 31) (v := 2) C dX6_near_30 (by decide) rfl ?_
      refine g_iald0 (pc' := 32) (i := 0) (j := 1) C rfl rfl dX6_near_31 rfl (by unfold vp_in; decide) ?_
      refine g_icmp_gt (pc' := 35) (tgt := 39) C dX6_near_32 (by decide) rfl h (fun c h => ?_) (fun c h => ?_)
      · exact G_loc (lle_s (lle_s (lle_n (lle_s lle_0)))) (B_X6_near_39 C a N M p0 r k4 hk4 x3 x2 h)
      · refine g_iconst (pc' := 36) (v := 1) C dX6_near_35 (by decide) rfl ?_
        refine g_goto (pc' := 40) C dX6_near_36 (by decide) ?_
        exact G_loc (lle_s (lle_s (lle_n (lle_s lle_0)))) (B_X6_near_40 C a N M p0 r k4 hk4 x3 (1 : Int32) x2 h)
set_option maxRecDepth 100000 in
set_option maxHeartbeats 4000000 in
theorem L_X6_near_4 {X : gX} (C : cx X RX6 cX6_near 4 (some .int) wsX6_near 2 44) (a : Nat → Nat) (N : Nat) (M : tS) (p0 : Int32) (r : Int32)  : ∀ (n : Nat) (x2 : Int32) (x3 : Int32), f_X6_near_4 N M p0  n x2 x3 = some r → G X (QI X r [mdW (gcA X) a M]) [mdW (gcA X) a M] [some (.ref (a 0)), some (.int p0), some (.int x2), some (.int x3)] [] 4 := by
  intro n
  induction n with
  | zero => intro x2 x3 h; have h : (none : Option (Int32)) = some r := h; cases h
  | succ n ih => intro x2 x3 h; exact B_X6_near_4b C a N M p0 r  (f_X6_near_4 N M p0  n) ih x2 x3 h
def f_X6_near (N : Nat) (M : tS) (p0 : Int32) : Option (Int32) := f_X6_near_4 N M p0 N (0 : Int32) (0 : Int32)
set_option maxRecDepth 100000 in
set_option maxHeartbeats 4000000 in
theorem B_X6_near {X : gX} (C : cx X RX6 cX6_near 4 (some .int) wsX6_near 2 44) (a : Nat → Nat) (N : Nat) (M : tS) (p0 : Int32) (r : Int32) (h : f_X6_near N M p0 = some r) : G X (QI X r [mdW (gcA X) a M]) [mdW (gcA X) a M] [some (.ref (a 0)), some (.int p0), none, none] [] 0 := by
  unfold f_X6_near at h
  refine g_iconst (pc' := 1) (v := 0) C dX6_near_0 (by decide) rfl ?_
  refine g_istore_n (pc' := 2) C dX6_near_1 (Nat.le_of_ble_eq_true rfl) rfl (L' := [some (.ref (a 0)), some (.int p0), some (.int (0 : Int32)), none]) rfl ?_
  refine g_iconst (pc' := 3) (v := 0) C dX6_near_2 (by decide) rfl ?_
  refine g_istore_n (pc' := 4) C dX6_near_3 (Nat.le_of_ble_eq_true rfl) rfl (L' := [some (.ref (a 0)), some (.int p0), some (.int (0 : Int32)), some (.int (0 : Int32))]) rfl ?_
  exact G_loc (lle_s (lle_s (lle_s (lle_s lle_0)))) (L_X6_near_4 C a N M p0 r N (0 : Int32) (0 : Int32) h)
set_option maxRecDepth 100000 in
set_option maxHeartbeats 4000000 in
theorem c_X6_near (l : Launch) (D : va_G) (cA : Nat → ClassId) (a : Nat → Nat) (N : Nat) (M : tS) (p0 : Int32) (r : Int32) (h : f_X6_near N M p0 = some r) : MI l D cA yX6_near wsX6_near 2 44 [.ref (a 0), .int p0] [mdW cA a M] r [mdW cA a M] := MI_of (cc := cX6_near) (maxL := 4) (rt := some .int) (by decide +kernel) rfl (List.forall_mem_cons.mpr ⟨rfl, List.forall_mem_cons.mpr ⟨rfl, List.forall_mem_nil _⟩⟩) (Nat.le_of_ble_eq_true rfl) (fun X e1 e2 e3 C => by subst e1; subst e2; subst e3; exact B_X6_near C a N M p0 r h)
set_option maxRecDepth 100000 in
set_option maxHeartbeats 4000000 in
theorem nd_X6_near : nd yX6_near 1 := ⟨by decide +kernel, by decide +kernel, by decide +kernel⟩
set_option maxRecDepth 100000 in
set_option maxHeartbeats 4000000 in
theorem k_X6_near {X : gX} {own : String} {cc : ByteArray} {nL : Nat} {ret : Option FieldType} {Ts : List Cond} {fr lm : Nat} {Q : State → Prop} {ms : List va_W} {L : List (Option Value)} {st : List Value} {pc pc' idx : Nat} {ρ : Type} {T : Int32 → Option ρ} {res : ρ} (C : cx X own cc nL ret Ts fr lm) (a : Nat → Nat) (N : Nat) (M : tS) (p0 : Int32) (is : List Nat) (hC : is.map (fun i => ms[i]?) = [some (mdW (gcA X) a M)]) (hn : is.Nodup) (hG : GoodIn Ts (wsV own idx RX6 yX6_near wsX6_near)) (hR : 2 + 1 ≤ fr ∧ 8 + (4 + 11) + 44 ≤ lm) (hst : (st.map fun v => v.category).sum ≤ 8) (hLn : L.length = nL) (d : decode cc pc = .ok (.invokevirtual idx, 3)) (hp : pc + 3 = pc') (h : bd (f_X6_near N M p0) T = some res) (kk : ∀ (r : Int32), T r = some res → G X Q (ms) L (.int r :: st) pc') : G X Q ms L (.int p0 :: .ref (a 0) :: st) pc := by
  obtain ⟨r, h1, h⟩ := ob h
  exact G_callVI C (As := [.int p0]) (c_X6_near (gl X) (gD X) (gcA X) a N M p0 r h1) hG rfl nd_X6_near hR (q0 := 0) rfl rfl hC hn rfl rfl hst hLn d hp (G_ms (rpl_same (mc := [mdW (gcA X) a M]) hC) (kk r h))
theorem hi_X6_holdsTogether_X6 : ∀ w ∈ wsX60, w ∈ wsX6_holdsTogether := fun w h => List.mem_cons_of_mem _ (List.mem_append_right _ h)
theorem lk_X6_holdsTogether_1 : Cond.fieldLink RX6 23 "NoteThemesModel" "heapOf" "[I" ∈ wsX6_holdsTogether := List.mem_of_getElem? (i := 1) rfl
theorem lk_X6_holdsTogether_2 : Cond.fieldLink RX6 7 "NoteThemesModel" "s" "[I" ∈ wsX6_holdsTogether := List.mem_of_getElem? (i := 2) rfl
def f_X6_holdsTogether_24 (N : Nat) (p0 : Int32)  (x2 : Int32) (t0 : Int32) (M : tS) : Option (Int32 × tS) := (bd2 (f_X6_laysHeaps N M (M 0 (2 : Int32).toNatClampNeg) p0) (fun r1 M1 => (if t0 = 0 then (if r1 ≤ x2 then some ((0 : Int32), M1) else some ((1 : Int32), M1)) else some ((0 : Int32), M1))))
set_option maxRecDepth 100000 in
set_option maxHeartbeats 4000000 in
theorem B_X6_holdsTogether_24 {X : gX} (C : cx X RX6 cX6_holdsTogether 5 (some .int) wsX6_holdsTogether 5 114) (a : Nat → Nat) (N : Nat) (p0 : Int32) (r : Int32) (Mz : tS)  (x2 : Int32) (t0 : Int32) (M : tS) (h : f_X6_holdsTogether_24 N p0  x2 t0 M = some (r, Mz)) : G X (QI X r [mdW (gcA X) a Mz]) [mdW (gcA X) a M] [some (.ref (a 0)), some (.int p0), some (.int x2), none, none] [.int t0] 24 := by
  unfold f_X6_holdsTogether_24 at h
  refine g_istore_n (pc' := 25) C dX6_holdsTogether_24 (Nat.le_of_ble_eq_true rfl) rfl (L' := [some (.ref (a 0)), some (.int p0), some (.int x2), some (.int t0), none]) rfl ?_
  refine g_aload_n (pc' := 26) C dX6_holdsTogether_25 rfl rfl ?_
  refine g_aload_n (pc' := 27) C dX6_holdsTogether_26 rfl rfl ?_
  refine gg_X6_0 (pc' := 30) (i := 0) C rfl hi_X6_holdsTogether_X6 lk_X6_holdsTogether_2 dX6_holdsTogether_27 rfl ?_
  refine g_iconst (pc' := 31) (v := 2) C dX6_holdsTogether_30 (by decide) rfl ?_
  refine g_iald0 (pc' := 32) (i := 0) (j := 1) C rfl rfl dX6_holdsTogether_31 rfl (by unfold vp_in; decide) ?_
  refine g_iload_n (pc' := 33) C dX6_holdsTogether_32 rfl rfl ?_
  refine k_X6_laysHeaps (pc' := 36) C a N M (M 0 (2 : Int32).toNatClampNeg) p0 [0] rfl (by decide) gX6_holdsTogether_X6_laysHeaps ⟨Nat.le_of_ble_eq_true rfl, Nat.le_of_ble_eq_true rfl⟩ (Nat.le_of_ble_eq_true rfl) rfl dX6_holdsTogether_33 rfl h (fun r1 M1 h => ?_)
  show G X _ [mdW (gcA X) a M1] _ _ _
  refine g_istore (pc' := 38) C dX6_holdsTogether_36 (Nat.le_of_ble_eq_true rfl) rfl (L' := [some (.ref (a 0)), some (.int p0), some (.int x2), some (.int t0), some (.int r1)]) rfl ?_
  refine g_iload_n (pc' := 39) C dX6_holdsTogether_38 rfl rfl ?_
  refine g_if_ne (pc' := 42) (tgt := 52) C dX6_holdsTogether_39 (by decide) rfl h (fun c h => ?_) (fun c h => ?_)
  · refine g_iload (pc' := 44) C dX6_holdsTogether_42 rfl rfl ?_
    refine g_iload_n (pc' := 45) C dX6_holdsTogether_44 rfl rfl ?_
    refine g_icmp_le (pc' := 48) (tgt := 52) C dX6_holdsTogether_45 (by decide) rfl h (fun c h => ?_) (fun c h => ?_)
    · refine g_iconst (pc' := 53) (v := 0) C dX6_holdsTogether_52 (by decide) rfl ?_
      obtain ⟨rfl, rfl⟩ := pj2 (Option.some.inj h)
      exact g_iret C dX6_holdsTogether_53
    · refine g_iconst (pc' := 49) (v := 1) C dX6_holdsTogether_48 (by decide) rfl ?_
      refine g_goto (pc' := 53) C dX6_holdsTogether_49 (by decide) ?_
      obtain ⟨rfl, rfl⟩ := pj2 (Option.some.inj h)
      exact g_iret C dX6_holdsTogether_53
  · refine g_iconst (pc' := 53) (v := 0) C dX6_holdsTogether_52 (by decide) rfl ?_
    obtain ⟨rfl, rfl⟩ := pj2 (Option.some.inj h)
    exact g_iret C dX6_holdsTogether_53
def f_X6_holdsTogether (N : Nat) (M : tS) (p0 : Int32) : Option (Int32 × tS) := (bd2 (f_X6_laysNow N M) (fun r1 M1 => (if p0 < 0 ∨ 20 ≤ p0.toNatClampNeg then none else (bd (f_X6_notesIn N M1 (M1 7 p0.toNatClampNeg)) (fun r2 => (if r2 = (1 : Int32) then f_X6_holdsTogether_24 N p0 r1 (1 : Int32) M1 else f_X6_holdsTogether_24 N p0 r1 (0 : Int32) M1))))))
set_option maxRecDepth 100000 in
set_option maxHeartbeats 4000000 in
theorem B_X6_holdsTogether {X : gX} (C : cx X RX6 cX6_holdsTogether 5 (some .int) wsX6_holdsTogether 5 114) (a : Nat → Nat) (N : Nat) (M : tS) (p0 : Int32) (r : Int32) (Mz : tS) (h : f_X6_holdsTogether N M p0 = some (r, Mz)) : G X (QI X r [mdW (gcA X) a Mz]) [mdW (gcA X) a M] [some (.ref (a 0)), some (.int p0), none, none, none] [] 0 := by
  unfold f_X6_holdsTogether at h
  refine g_aload_n (pc' := 1) C dX6_holdsTogether_0 rfl rfl ?_
  refine k_X6_laysNow (pc' := 4) C a N M [0] rfl (by decide) gX6_holdsTogether_X6_laysNow ⟨Nat.le_of_ble_eq_true rfl, Nat.le_of_ble_eq_true rfl⟩ (Nat.le_of_ble_eq_true rfl) rfl dX6_holdsTogether_1 rfl h (fun r1 M1 h => ?_)
  show G X _ [mdW (gcA X) a M1] _ _ _
  refine g_istore_n (pc' := 5) C dX6_holdsTogether_4 (Nat.le_of_ble_eq_true rfl) rfl (L' := [some (.ref (a 0)), some (.int p0), some (.int r1), none, none]) rfl ?_
  refine g_aload_n (pc' := 6) C dX6_holdsTogether_5 rfl rfl ?_
  refine g_aload_n (pc' := 7) C dX6_holdsTogether_6 rfl rfl ?_
  refine gg_X6_7 (pc' := 10) (i := 0) C rfl hi_X6_holdsTogether_X6 lk_X6_holdsTogether_1 dX6_holdsTogether_7 rfl ?_
  refine g_iload_n (pc' := 11) C dX6_holdsTogether_10 rfl rfl ?_
  refine g_iald (pc' := 12) (i := 0) (j := 5) C rfl rfl dX6_holdsTogether_11 rfl h (fun h => ?_)
  refine k_X6_notesIn (pc' := 15) C a N M1 (M1 7 p0.toNatClampNeg) [0] rfl (by decide) gX6_holdsTogether_X6_notesIn ⟨Nat.le_of_ble_eq_true rfl, Nat.le_of_ble_eq_true rfl⟩ (Nat.le_of_ble_eq_true rfl) rfl dX6_holdsTogether_12 rfl h (fun r2 h => ?_)
  refine g_iconst (pc' := 16) (v := 1) C dX6_holdsTogether_15 (by decide) rfl ?_
  refine g_icmp_ne (pc' := 19) (tgt := 23) C dX6_holdsTogether_16 (by decide) rfl h (fun c h => ?_) (fun c h => ?_)
  · refine g_iconst (pc' := 20) (v := 1) C dX6_holdsTogether_19 (by decide) rfl ?_
    refine g_goto (pc' := 24) C dX6_holdsTogether_20 (by decide) ?_
    exact G_loc (lle_s (lle_s (lle_s (lle_n (lle_n lle_0))))) (B_X6_holdsTogether_24 C a N p0 r Mz r1 (1 : Int32) M1 h)
  · refine g_iconst (pc' := 24) (v := 0) C dX6_holdsTogether_23 (by decide) rfl ?_
    exact G_loc (lle_s (lle_s (lle_s (lle_n (lle_n lle_0))))) (B_X6_holdsTogether_24 C a N p0 r Mz r1 (0 : Int32) M1 h)
set_option maxRecDepth 100000 in
set_option maxHeartbeats 4000000 in
theorem c_X6_holdsTogether (l : Launch) (D : va_G) (cA : Nat → ClassId) (a : Nat → Nat) (N : Nat) (M : tS) (p0 : Int32) (r : Int32) (Mz : tS) (h : f_X6_holdsTogether N M p0 = some (r, Mz)) : MI l D cA yX6_holdsTogether wsX6_holdsTogether 5 114 [.ref (a 0), .int p0] [mdW cA a M] r [mdW cA a Mz] := MI_of (cc := cX6_holdsTogether) (maxL := 5) (rt := some .int) (by decide +kernel) rfl (List.forall_mem_cons.mpr ⟨rfl, List.forall_mem_cons.mpr ⟨rfl, List.forall_mem_nil _⟩⟩) (Nat.le_of_ble_eq_true rfl) (fun X e1 e2 e3 C => by subst e1; subst e2; subst e3; exact B_X6_holdsTogether C a N M p0 r Mz h)
set_option maxRecDepth 100000 in
set_option maxHeartbeats 4000000 in
theorem nd_X6_holdsTogether : nd yX6_holdsTogether 1 := ⟨by decide +kernel, by decide +kernel, by decide +kernel⟩
set_option maxRecDepth 100000 in
set_option maxHeartbeats 4000000 in
theorem k_X6_holdsTogether {X : gX} {own : String} {cc : ByteArray} {nL : Nat} {ret : Option FieldType} {Ts : List Cond} {fr lm : Nat} {Q : State → Prop} {ms : List va_W} {L : List (Option Value)} {st : List Value} {pc pc' idx : Nat} {ρ : Type} {T : Int32 → tS → Option ρ} {res : ρ} (C : cx X own cc nL ret Ts fr lm) (a : Nat → Nat) (N : Nat) (M : tS) (p0 : Int32) (is : List Nat) (hC : is.map (fun i => ms[i]?) = [some (mdW (gcA X) a M)]) (hn : is.Nodup) (hG : GoodIn Ts (wsV own idx RX6 yX6_holdsTogether wsX6_holdsTogether)) (hR : 5 + 1 ≤ fr ∧ 8 + (5 + 11) + 114 ≤ lm) (hst : (st.map fun v => v.category).sum ≤ 8) (hLn : L.length = nL) (d : decode cc pc = .ok (.invokevirtual idx, 3)) (hp : pc + 3 = pc') (h : bd2 (f_X6_holdsTogether N M p0) T = some res) (kk : ∀ (r : Int32) (Mz : tS), T r Mz = some res → G X Q (rpl ms is [mdW (gcA X) a Mz]) L (.int r :: st) pc') : G X Q ms L (.int p0 :: .ref (a 0) :: st) pc := by
  obtain ⟨r, Mz, h1, h⟩ := ob2 h
  exact G_callVI C (As := [.int p0]) (c_X6_holdsTogether (gl X) (gD X) (gcA X) a N M p0 r Mz h1) hG rfl nd_X6_holdsTogether hR (q0 := 0) rfl rfl hC hn rfl rfl hst hLn d hp (kk r Mz h)
theorem hi_X6_heapNow_X6 : ∀ w ∈ wsX60, w ∈ wsX6_heapNow := fun w h => List.mem_cons_of_mem _ (List.mem_append_right _ h)
theorem lk_X6_heapNow_1 : Cond.fieldLink RX6 23 "NoteThemesModel" "heapOf" "[I" ∈ wsX6_heapNow := List.mem_of_getElem? (i := 1) rfl
def f_X6_heapNow (N : Nat) (M : tS) (p0 : Int32) : Option (Int32 × tS) := (bd2 (f_X6_laysNow N M) (fun r1 M1 => (if p0 < 0 ∨ 20 ≤ p0.toNatClampNeg then none else some ((M1 7 p0.toNatClampNeg), M1))))
set_option maxRecDepth 100000 in
set_option maxHeartbeats 4000000 in
theorem B_X6_heapNow {X : gX} (C : cx X RX6 cX6_heapNow 3 (some .int) wsX6_heapNow 5 114) (a : Nat → Nat) (N : Nat) (M : tS) (p0 : Int32) (r : Int32) (Mz : tS) (h : f_X6_heapNow N M p0 = some (r, Mz)) : G X (QI X r [mdW (gcA X) a Mz]) [mdW (gcA X) a M] [some (.ref (a 0)), some (.int p0), none] [] 0 := by
  unfold f_X6_heapNow at h
  refine g_aload_n (pc' := 1) C dX6_heapNow_0 rfl rfl ?_
  refine k_X6_laysNow (pc' := 4) C a N M [0] rfl (by decide) gX6_heapNow_X6_laysNow ⟨Nat.le_of_ble_eq_true rfl, Nat.le_of_ble_eq_true rfl⟩ (Nat.le_of_ble_eq_true rfl) rfl dX6_heapNow_1 rfl h (fun r1 M1 h => ?_)
  show G X _ [mdW (gcA X) a M1] _ _ _
  refine g_istore_n (pc' := 5) C dX6_heapNow_4 (Nat.le_of_ble_eq_true rfl) rfl (L' := [some (.ref (a 0)), some (.int p0), some (.int r1)]) rfl ?_
  refine g_aload_n (pc' := 6) C dX6_heapNow_5 rfl rfl ?_
  refine gg_X6_7 (pc' := 9) (i := 0) C rfl hi_X6_heapNow_X6 lk_X6_heapNow_1 dX6_heapNow_6 rfl ?_
  refine g_iload_n (pc' := 10) C dX6_heapNow_9 rfl rfl ?_
  refine g_iald (pc' := 11) (i := 0) (j := 5) C rfl rfl dX6_heapNow_10 rfl h (fun h => ?_)
  obtain ⟨rfl, rfl⟩ := pj2 (Option.some.inj h)
  exact g_iret C dX6_heapNow_11
set_option maxRecDepth 100000 in
set_option maxHeartbeats 4000000 in
theorem c_X6_heapNow (l : Launch) (D : va_G) (cA : Nat → ClassId) (a : Nat → Nat) (N : Nat) (M : tS) (p0 : Int32) (r : Int32) (Mz : tS) (h : f_X6_heapNow N M p0 = some (r, Mz)) : MI l D cA yX6_heapNow wsX6_heapNow 5 114 [.ref (a 0), .int p0] [mdW cA a M] r [mdW cA a Mz] := MI_of (cc := cX6_heapNow) (maxL := 3) (rt := some .int) (by decide +kernel) rfl (List.forall_mem_cons.mpr ⟨rfl, List.forall_mem_cons.mpr ⟨rfl, List.forall_mem_nil _⟩⟩) (Nat.le_of_ble_eq_true rfl) (fun X e1 e2 e3 C => by subst e1; subst e2; subst e3; exact B_X6_heapNow C a N M p0 r Mz h)
set_option maxRecDepth 100000 in
set_option maxHeartbeats 4000000 in
theorem nd_X6_heapNow : nd yX6_heapNow 1 := ⟨by decide +kernel, by decide +kernel, by decide +kernel⟩
set_option maxRecDepth 100000 in
set_option maxHeartbeats 4000000 in
theorem k_X6_heapNow {X : gX} {own : String} {cc : ByteArray} {nL : Nat} {ret : Option FieldType} {Ts : List Cond} {fr lm : Nat} {Q : State → Prop} {ms : List va_W} {L : List (Option Value)} {st : List Value} {pc pc' idx : Nat} {ρ : Type} {T : Int32 → tS → Option ρ} {res : ρ} (C : cx X own cc nL ret Ts fr lm) (a : Nat → Nat) (N : Nat) (M : tS) (p0 : Int32) (is : List Nat) (hC : is.map (fun i => ms[i]?) = [some (mdW (gcA X) a M)]) (hn : is.Nodup) (hG : GoodIn Ts (wsV own idx RX6 yX6_heapNow wsX6_heapNow)) (hR : 5 + 1 ≤ fr ∧ 8 + (3 + 11) + 114 ≤ lm) (hst : (st.map fun v => v.category).sum ≤ 8) (hLn : L.length = nL) (d : decode cc pc = .ok (.invokevirtual idx, 3)) (hp : pc + 3 = pc') (h : bd2 (f_X6_heapNow N M p0) T = some res) (kk : ∀ (r : Int32) (Mz : tS), T r Mz = some res → G X Q (rpl ms is [mdW (gcA X) a Mz]) L (.int r :: st) pc') : G X Q ms L (.int p0 :: .ref (a 0) :: st) pc := by
  obtain ⟨r, Mz, h1, h⟩ := ob2 h
  exact G_callVI C (As := [.int p0]) (c_X6_heapNow (gl X) (gD X) (gcA X) a N M p0 r Mz h1) hG rfl nd_X6_heapNow hR (q0 := 0) rfl rfl hC hn rfl rfl hst hLn d hp (kk r Mz h)
def f_X6_note (N : Nat) (M : tS) (p0 : Int32) (p1 : Int32) : Option (Int32 × tS) := (bd (f_X6_isNote N M p0) (fun r1 => (if r1 = 0 then some ((-1 : Int32), M) else (if p1 = (0 : Int32) then (bd (f_X6_of N M p0 p1) (fun r2 => some (r2, M))) else (if p1 = (1 : Int32) then (bd (f_X6_of N M p0 p1) (fun r3 => some (r3, M))) else (if p1 = (2 : Int32) then (bd (f_X6_dotsOf N M p0) (fun r4 => some (r4, M))) else (if p1 = (3 : Int32) then (bd2 (f_X6_heapNow N M p0) (fun r5 M5 => some (r5, M5))) else (if p1 = (4 : Int32) then (bd (f_X6_themeOf N M p0) (fun r6 => (if 0 ≤ r6 then (bd (f_X6_themeOf N M p0) (fun r7 => some (r7, M))) else some ((-5 : Int32), M)))) else (if p1 = (5 : Int32) then (bd (f_X6_near N M p0) (fun r8 => some (r8, M))) else (if p1 = (6 : Int32) then (bd2 (f_X6_holdsTogether N M p0) (fun r9 M9 => some (r9, M9))) else some ((-2 : Int32), M)))))))))))
set_option maxRecDepth 100000 in
set_option maxHeartbeats 4000000 in
theorem B_X6_note {X : gX} (C : cx X RX6 cX6_note 3 (some .int) wsX6_note 6 138) (a : Nat → Nat) (N : Nat) (M : tS) (p0 : Int32) (p1 : Int32) (r : Int32) (Mz : tS) (h : f_X6_note N M p0 p1 = some (r, Mz)) : G X (QI X r [mdW (gcA X) a Mz]) [mdW (gcA X) a M] [some (.ref (a 0)), some (.int p0), some (.int p1)] [] 0 := by
  unfold f_X6_note at h
  refine g_aload_n (pc' := 1) C dX6_note_0 rfl rfl ?_
  refine g_iload_n (pc' := 2) C dX6_note_1 rfl rfl ?_
  refine k_X6_isNote (pc' := 5) C a N M p0 [0] rfl (by decide) gX6_note_X6_isNote ⟨Nat.le_of_ble_eq_true rfl, Nat.le_of_ble_eq_true rfl⟩ (Nat.le_of_ble_eq_true rfl) rfl dX6_note_2 rfl h (fun r1 h => ?_)
  refine g_if_ne (pc' := 8) (tgt := 10) C dX6_note_5 (by decide) rfl h (fun c h => ?_) (fun c h => ?_)
  · refine g_iconst (pc' := 9) (v := -1) C dX6_note_8 (by decide) rfl ?_
    obtain ⟨rfl, rfl⟩ := pj2 (Option.some.inj h)
    exact g_iret C dX6_note_9
  · refine g_iload_n (pc' := 11) C dX6_note_10 rfl rfl ?_
    refine oif h (fun c h => ?_) (fun c0 h => ?_)
    · refine g_tabIn (pc' := 52) (off := 41) C dX6_note_11 (by rw [c] <;> decide) (by rw [c] <;> decide) (by rw [c] <;> decide) (by decide) ?_
      refine g_aload_n (pc' := 53) C dX6_note_52 rfl rfl ?_
      refine g_iload_n (pc' := 54) C dX6_note_53 rfl rfl ?_
      refine g_iload_n (pc' := 55) C dX6_note_54 rfl rfl ?_
      refine k_X6_of (pc' := 58) C a N M p0 p1 [0] rfl (by decide) gX6_note_X6_of ⟨Nat.le_of_ble_eq_true rfl, Nat.le_of_ble_eq_true rfl⟩ (Nat.le_of_ble_eq_true rfl) rfl dX6_note_55 rfl h (fun r2 h => ?_)
      obtain ⟨rfl, rfl⟩ := pj2 (Option.some.inj h)
      exact g_iret C dX6_note_58
    refine oif h (fun c h => ?_) (fun c1 h => ?_)
    · refine g_tabIn (pc' := 52) (off := 41) C dX6_note_11 (by rw [c] <;> decide) (by rw [c] <;> decide) (by rw [c] <;> decide) (by decide) ?_
      refine g_aload_n (pc' := 53) C dX6_note_52 rfl rfl ?_
      refine g_iload_n (pc' := 54) C dX6_note_53 rfl rfl ?_
      refine g_iload_n (pc' := 55) C dX6_note_54 rfl rfl ?_
      refine k_X6_of (pc' := 58) C a N M p0 p1 [0] rfl (by decide) gX6_note_X6_of ⟨Nat.le_of_ble_eq_true rfl, Nat.le_of_ble_eq_true rfl⟩ (Nat.le_of_ble_eq_true rfl) rfl dX6_note_55 rfl h (fun r3 h => ?_)
      obtain ⟨rfl, rfl⟩ := pj2 (Option.some.inj h)
      exact g_iret C dX6_note_58
    refine oif h (fun c h => ?_) (fun c2 h => ?_)
    · refine g_tabIn (pc' := 59) (off := 48) C dX6_note_11 (by rw [c] <;> decide) (by rw [c] <;> decide) (by rw [c] <;> decide) (by decide) ?_
      refine g_aload_n (pc' := 60) C dX6_note_59 rfl rfl ?_
      refine g_iload_n (pc' := 61) C dX6_note_60 rfl rfl ?_
      refine k_X6_dotsOf (pc' := 64) C a N M p0 [0] rfl (by decide) gX6_note_X6_dotsOf ⟨Nat.le_of_ble_eq_true rfl, Nat.le_of_ble_eq_true rfl⟩ (Nat.le_of_ble_eq_true rfl) rfl dX6_note_61 rfl h (fun r4 h => ?_)
      obtain ⟨rfl, rfl⟩ := pj2 (Option.some.inj h)
      exact g_iret C dX6_note_64
    refine oif h (fun c h => ?_) (fun c3 h => ?_)
    · refine g_tabIn (pc' := 65) (off := 54) C dX6_note_11 (by rw [c] <;> decide) (by rw [c] <;> decide) (by rw [c] <;> decide) (by decide) ?_
      refine g_aload_n (pc' := 66) C dX6_note_65 rfl rfl ?_
      refine g_iload_n (pc' := 67) C dX6_note_66 rfl rfl ?_
      refine k_X6_heapNow (pc' := 70) C a N M p0 [0] rfl (by decide) gX6_note_X6_heapNow ⟨Nat.le_of_ble_eq_true rfl, Nat.le_of_ble_eq_true rfl⟩ (Nat.le_of_ble_eq_true rfl) rfl dX6_note_67 rfl h (fun r5 M5 h => ?_)
      show G X _ [mdW (gcA X) a M5] _ _ _
      obtain ⟨rfl, rfl⟩ := pj2 (Option.some.inj h)
      exact g_iret C dX6_note_70
    refine oif h (fun c h => ?_) (fun c4 h => ?_)
    · refine g_tabIn (pc' := 71) (off := 60) C dX6_note_11 (by rw [c] <;> decide) (by rw [c] <;> decide) (by rw [c] <;> decide) (by decide) ?_
      refine g_aload_n (pc' := 72) C dX6_note_71 rfl rfl ?_
      refine g_iload_n (pc' := 73) C dX6_note_72 rfl rfl ?_
      refine k_X6_themeOf (pc' := 76) C a N M p0 [0] rfl (by decide) gX6_note_X6_themeOf ⟨Nat.le_of_ble_eq_true rfl, Nat.le_of_ble_eq_true rfl⟩ (Nat.le_of_ble_eq_true rfl) rfl dX6_note_73 rfl h (fun r6 h => ?_)
      refine g_if_ge (pc' := 79) (tgt := 84) C dX6_note_76 (by decide) rfl h (fun c h => ?_) (fun c h => ?_)
      · refine g_aload_n (pc' := 85) C dX6_note_84 rfl rfl ?_
        refine g_iload_n (pc' := 86) C dX6_note_85 rfl rfl ?_
        refine k_X6_themeOf (pc' := 89) C a N M p0 [0] rfl (by decide) gX6_note_X6_themeOf ⟨Nat.le_of_ble_eq_true rfl, Nat.le_of_ble_eq_true rfl⟩ (Nat.le_of_ble_eq_true rfl) rfl dX6_note_86 rfl h (fun r7 h => ?_)
        obtain ⟨rfl, rfl⟩ := pj2 (Option.some.inj h)
        exact g_iret C dX6_note_89
      · refine g_bipush (pc' := 81) (v := -5) C dX6_note_79 (by decide) rfl ?_
        refine g_goto (pc' := 89) C dX6_note_81 (by decide) ?_
        obtain ⟨rfl, rfl⟩ := pj2 (Option.some.inj h)
        exact g_iret C dX6_note_89
    refine oif h (fun c h => ?_) (fun c5 h => ?_)
    · refine g_tabIn (pc' := 90) (off := 79) C dX6_note_11 (by rw [c] <;> decide) (by rw [c] <;> decide) (by rw [c] <;> decide) (by decide) ?_
      refine g_aload_n (pc' := 91) C dX6_note_90 rfl rfl ?_
      refine g_iload_n (pc' := 92) C dX6_note_91 rfl rfl ?_
      refine k_X6_near (pc' := 95) C a N M p0 [0] rfl (by decide) gX6_note_X6_near ⟨Nat.le_of_ble_eq_true rfl, Nat.le_of_ble_eq_true rfl⟩ (Nat.le_of_ble_eq_true rfl) rfl dX6_note_92 rfl h (fun r8 h => ?_)
      obtain ⟨rfl, rfl⟩ := pj2 (Option.some.inj h)
      exact g_iret C dX6_note_95
    refine oif h (fun c h => ?_) (fun c6 h => ?_)
    · refine g_tabIn (pc' := 96) (off := 85) C dX6_note_11 (by rw [c] <;> decide) (by rw [c] <;> decide) (by rw [c] <;> decide) (by decide) ?_
      refine g_aload_n (pc' := 97) C dX6_note_96 rfl rfl ?_
      refine g_iload_n (pc' := 98) C dX6_note_97 rfl rfl ?_
      refine k_X6_holdsTogether (pc' := 101) C a N M p0 [0] rfl (by decide) gX6_note_X6_holdsTogether ⟨Nat.le_of_ble_eq_true rfl, Nat.le_of_ble_eq_true rfl⟩ (Nat.le_of_ble_eq_true rfl) rfl dX6_note_98 rfl h (fun r9 M9 h => ?_)
      show G X _ [mdW (gcA X) a M9] _ _ _
      obtain ⟨rfl, rfl⟩ := pj2 (Option.some.inj h)
      exact g_iret C dX6_note_101
    have e0 := lv_neT (a := 0) c0 (by decide)
    have e1 := lv_neT (a := 1) c1 (by decide)
    have e2 := lv_neT (a := 2) c2 (by decide)
    have e3 := lv_neT (a := 3) c3 (by decide)
    have e4 := lv_neT (a := 4) c4 (by decide)
    have e5 := lv_neT (a := 5) c5 (by decide)
    have e6 := lv_neT (a := 6) c6 (by decide)
    refine g_tabOut (pc' := 102) C dX6_note_11 (by omega) (by decide) ?_
    refine g_bipush (pc' := 104) (v := -2) C dX6_note_102 (by decide) rfl ?_
    obtain ⟨rfl, rfl⟩ := pj2 (Option.some.inj h)
    exact g_iret C dX6_note_104
set_option maxRecDepth 100000 in
set_option maxHeartbeats 4000000 in
theorem c_X6_note (l : Launch) (D : va_G) (cA : Nat → ClassId) (a : Nat → Nat) (N : Nat) (M : tS) (p0 : Int32) (p1 : Int32) (r : Int32) (Mz : tS) (h : f_X6_note N M p0 p1 = some (r, Mz)) : MI l D cA yX6_note wsX6_note 6 138 [.ref (a 0), .int p0, .int p1] [mdW cA a M] r [mdW cA a Mz] := MI_of (cc := cX6_note) (maxL := 3) (rt := some .int) (by decide +kernel) rfl (List.forall_mem_cons.mpr ⟨rfl, List.forall_mem_cons.mpr ⟨rfl, List.forall_mem_cons.mpr ⟨rfl, List.forall_mem_nil _⟩⟩⟩) (Nat.le_of_ble_eq_true rfl) (fun X e1 e2 e3 C => by subst e1; subst e2; subst e3; exact B_X6_note C a N M p0 p1 r Mz h)
set_option maxRecDepth 100000 in
set_option maxHeartbeats 4000000 in
theorem nd_X6_note : nd yX6_note 2 := ⟨by decide +kernel, by decide +kernel, by decide +kernel⟩
set_option maxRecDepth 100000 in
set_option maxHeartbeats 4000000 in
theorem k_X6_note {X : gX} {own : String} {cc : ByteArray} {nL : Nat} {ret : Option FieldType} {Ts : List Cond} {fr lm : Nat} {Q : State → Prop} {ms : List va_W} {L : List (Option Value)} {st : List Value} {pc pc' idx : Nat} {ρ : Type} {T : Int32 → tS → Option ρ} {res : ρ} (C : cx X own cc nL ret Ts fr lm) (a : Nat → Nat) (N : Nat) (M : tS) (p0 : Int32) (p1 : Int32) (is : List Nat) (hC : is.map (fun i => ms[i]?) = [some (mdW (gcA X) a M)]) (hn : is.Nodup) (hG : GoodIn Ts (wsV own idx RX6 yX6_note wsX6_note)) (hR : 6 + 1 ≤ fr ∧ 8 + (3 + 11) + 138 ≤ lm) (hst : (st.map fun v => v.category).sum ≤ 8) (hLn : L.length = nL) (d : decode cc pc = .ok (.invokevirtual idx, 3)) (hp : pc + 3 = pc') (h : bd2 (f_X6_note N M p0 p1) T = some res) (kk : ∀ (r : Int32) (Mz : tS), T r Mz = some res → G X Q (rpl ms is [mdW (gcA X) a Mz]) L (.int r :: st) pc') : G X Q ms L (.int p1 :: .int p0 :: .ref (a 0) :: st) pc := by
  obtain ⟨r, Mz, h1, h⟩ := ob2 h
  exact G_callVI C (As := [.int p0, .int p1]) (c_X6_note (gl X) (gD X) (gcA X) a N M p0 p1 r Mz h1) hG rfl nd_X6_note hR (q0 := 0) rfl rfl hC hn rfl rfl hst hLn d hp (kk r Mz h)
def f_X6_dots (N : Nat) (M : tS) (p0 : Int32) (p1 : Int32) : Option (Int32) := (bd (f_X6_isPerson N p0) (fun r1 => (if r1 = 0 then some (-1 : Int32) else (bd (f_X6_isNote N M p1) (fun r2 => (if r2 = 0 then some (-1 : Int32) else (bd (f_X6_of N M p1 ((3 : Int32) + p0)) (fun r3 => some r3))))))))
set_option maxRecDepth 100000 in
set_option maxHeartbeats 4000000 in
theorem B_X6_dots {X : gX} (C : cx X RX6 cX6_dots 3 (some .int) wsX6_dots 2 43) (a : Nat → Nat) (N : Nat) (M : tS) (p0 : Int32) (p1 : Int32) (r : Int32) (h : f_X6_dots N M p0 p1 = some r) : G X (QI X r [mdW (gcA X) a M]) [mdW (gcA X) a M] [some (.ref (a 0)), some (.int p0), some (.int p1)] [] 0 := by
  unfold f_X6_dots at h
  refine g_iload_n (pc' := 1) C dX6_dots_0 rfl rfl ?_
  refine k_X6_isPerson (pc' := 4) C N p0 [] rfl (by decide) gX6_dots_X6_isPerson ⟨Nat.le_of_ble_eq_true rfl, Nat.le_of_ble_eq_true rfl⟩ (Nat.le_of_ble_eq_true rfl) rfl dX6_dots_1 rfl h (fun r1 h => ?_)
  refine g_if_eq (pc' := 7) (tgt := 26) C dX6_dots_4 (by decide) rfl h (fun c h => ?_) (fun c h => ?_)
  · refine g_iconst (pc' := 27) (v := -1) C dX6_dots_26 (by decide) rfl ?_
    obtain rfl := Option.some.inj h
    exact g_iret C dX6_dots_27
  · refine g_aload_n (pc' := 8) C dX6_dots_7 rfl rfl ?_
    refine g_iload_n (pc' := 9) C dX6_dots_8 rfl rfl ?_
    refine k_X6_isNote (pc' := 12) C a N M p1 [0] rfl (by decide) gX6_dots_X6_isNote ⟨Nat.le_of_ble_eq_true rfl, Nat.le_of_ble_eq_true rfl⟩ (Nat.le_of_ble_eq_true rfl) rfl dX6_dots_9 rfl h (fun r2 h => ?_)
    refine g_if_eq (pc' := 15) (tgt := 26) C dX6_dots_12 (by decide) rfl h (fun c h => ?_) (fun c h => ?_)
    · refine g_iconst (pc' := 27) (v := -1) C dX6_dots_26 (by decide) rfl ?_
      obtain rfl := Option.some.inj h
      exact g_iret C dX6_dots_27
    · refine g_aload_n (pc' := 16) C dX6_dots_15 rfl rfl ?_
      refine g_iload_n (pc' := 17) C dX6_dots_16 rfl rfl ?_
      refine g_iconst (pc' := 18) (v := 3) C dX6_dots_17 (by decide) rfl ?_
      refine g_iload_n (pc' := 19) C dX6_dots_18 rfl rfl ?_
      refine g_iadd (pc' := 20) C dX6_dots_19 rfl ?_
      refine k_X6_of (pc' := 23) C a N M p1 ((3 : Int32) + p0) [0] rfl (by decide) gX6_dots_X6_of ⟨Nat.le_of_ble_eq_true rfl, Nat.le_of_ble_eq_true rfl⟩ (Nat.le_of_ble_eq_true rfl) rfl dX6_dots_20 rfl h (fun r3 h => ?_)
      refine g_goto (pc' := 27) C dX6_dots_23 (by decide) ?_
      obtain rfl := Option.some.inj h
      exact g_iret C dX6_dots_27
set_option maxRecDepth 100000 in
set_option maxHeartbeats 4000000 in
theorem c_X6_dots (l : Launch) (D : va_G) (cA : Nat → ClassId) (a : Nat → Nat) (N : Nat) (M : tS) (p0 : Int32) (p1 : Int32) (r : Int32) (h : f_X6_dots N M p0 p1 = some r) : MI l D cA yX6_dots wsX6_dots 2 43 [.ref (a 0), .int p0, .int p1] [mdW cA a M] r [mdW cA a M] := MI_of (cc := cX6_dots) (maxL := 3) (rt := some .int) (by decide +kernel) rfl (List.forall_mem_cons.mpr ⟨rfl, List.forall_mem_cons.mpr ⟨rfl, List.forall_mem_cons.mpr ⟨rfl, List.forall_mem_nil _⟩⟩⟩) (Nat.le_of_ble_eq_true rfl) (fun X e1 e2 e3 C => by subst e1; subst e2; subst e3; exact B_X6_dots C a N M p0 p1 r h)
set_option maxRecDepth 100000 in
set_option maxHeartbeats 4000000 in
theorem nd_X6_dots : nd yX6_dots 2 := ⟨by decide +kernel, by decide +kernel, by decide +kernel⟩
set_option maxRecDepth 100000 in
set_option maxHeartbeats 4000000 in
theorem k_X6_dots {X : gX} {own : String} {cc : ByteArray} {nL : Nat} {ret : Option FieldType} {Ts : List Cond} {fr lm : Nat} {Q : State → Prop} {ms : List va_W} {L : List (Option Value)} {st : List Value} {pc pc' idx : Nat} {ρ : Type} {T : Int32 → Option ρ} {res : ρ} (C : cx X own cc nL ret Ts fr lm) (a : Nat → Nat) (N : Nat) (M : tS) (p0 : Int32) (p1 : Int32) (is : List Nat) (hC : is.map (fun i => ms[i]?) = [some (mdW (gcA X) a M)]) (hn : is.Nodup) (hG : GoodIn Ts (wsV own idx RX6 yX6_dots wsX6_dots)) (hR : 2 + 1 ≤ fr ∧ 8 + (3 + 11) + 43 ≤ lm) (hst : (st.map fun v => v.category).sum ≤ 8) (hLn : L.length = nL) (d : decode cc pc = .ok (.invokevirtual idx, 3)) (hp : pc + 3 = pc') (h : bd (f_X6_dots N M p0 p1) T = some res) (kk : ∀ (r : Int32), T r = some res → G X Q (ms) L (.int r :: st) pc') : G X Q ms L (.int p1 :: .int p0 :: .ref (a 0) :: st) pc := by
  obtain ⟨r, h1, h⟩ := ob h
  exact G_callVI C (As := [.int p0, .int p1]) (c_X6_dots (gl X) (gD X) (gcA X) a N M p0 p1 r h1) hG rfl nd_X6_dots hR (q0 := 0) rfl rfl hC hn rfl rfl hst hLn d hp (G_ms (rpl_same (mc := [mdW (gcA X) a M]) hC) (kk r h))
theorem hi_X6_lowestOf_X6 : ∀ w ∈ wsX60, w ∈ wsX6_lowestOf := fun w h => List.mem_cons_of_mem _ (List.mem_append_right _ h)
theorem lk_X6_lowestOf_1 : Cond.fieldLink RX6 7 "NoteThemesModel" "s" "[I" ∈ wsX6_lowestOf := List.mem_of_getElem? (i := 1) rfl
theorem lk_X6_lowestOf_2 : Cond.fieldLink RX6 23 "NoteThemesModel" "heapOf" "[I" ∈ wsX6_lowestOf := List.mem_of_getElem? (i := 2) rfl
def f_X6_lowestOf_31 (N : Nat) (M : tS) (p0 : Int32) (k12 : Int32 → Int32 → Option (Int32)) (x3 : Int32) (t0 : Int32) : Option (Int32) := k12 t0 (x3 + (-1))
set_option maxRecDepth 100000 in
set_option maxHeartbeats 4000000 in
theorem B_X6_lowestOf_31 {X : gX} (C : cx X RX6 cX6_lowestOf 4 (some .int) wsX6_lowestOf 0 0) (a : Nat → Nat) (N : Nat) (M : tS) (p0 : Int32) (r : Int32) (k12 : Int32 → Int32 → Option (Int32)) (hk12 : ∀ (x2 : Int32) (x3 : Int32), k12 x2 x3 = some r → G X (QI X r [mdW (gcA X) a M]) [mdW (gcA X) a M] [some (.ref (a 0)), some (.int p0), some (.int x2), some (.int x3)] [] 12) (x3 : Int32) (t0 : Int32) (h : f_X6_lowestOf_31 N M p0 k12 x3 t0 = some r) : G X (QI X r [mdW (gcA X) a M]) [mdW (gcA X) a M] [some (.ref (a 0)), some (.int p0), none, some (.int x3)] [.int t0] 31 := by
  unfold f_X6_lowestOf_31 at h
  refine g_istore_n (pc' := 32) C dX6_lowestOf_31 (Nat.le_of_ble_eq_true rfl) rfl (L' := [some (.ref (a 0)), some (.int p0), some (.int t0), some (.int x3)]) rfl ?_
  refine g_iinc (pc' := 35) (v := (x3 + (-1))) C dX6_lowestOf_32 rfl rfl rfl (L' := [some (.ref (a 0)), some (.int p0), some (.int t0), some (.int (x3 + (-1)))]) rfl ?_
  refine g_goto (pc' := 12) C dX6_lowestOf_35 (by decide) ?_
  exact G_loc (lle_s (lle_s (lle_s (lle_s lle_0)))) (hk12 t0 (x3 + (-1)) h)
def f_X6_lowestOf_12b (N : Nat) (M : tS) (p0 : Int32)  (k12 : Int32 → Int32 → Option (Int32)) (x2 : Int32) (x3 : Int32) : Option (Int32) := (if x3 < 0 then some x2 else (if x3 < 0 ∨ 20 ≤ x3.toNatClampNeg then none else (if (M 7 x3.toNatClampNeg) = p0 then f_X6_lowestOf_31 N M p0 k12 x3 x3 else f_X6_lowestOf_31 N M p0 k12 x3 x2)))
def f_X6_lowestOf_12 (N : Nat) (M : tS) (p0 : Int32)  : Nat → Int32 → Int32 → Option (Int32)
  | 0 => fun _ _ => none
  | n + 1 => f_X6_lowestOf_12b N M p0  (f_X6_lowestOf_12 N M p0  n)
set_option maxRecDepth 100000 in
set_option maxHeartbeats 4000000 in
theorem B_X6_lowestOf_12b {X : gX} (C : cx X RX6 cX6_lowestOf 4 (some .int) wsX6_lowestOf 0 0) (a : Nat → Nat) (N : Nat) (M : tS) (p0 : Int32) (r : Int32)  (k12 : Int32 → Int32 → Option (Int32)) (hk12 : ∀ (x2 : Int32) (x3 : Int32), k12 x2 x3 = some r → G X (QI X r [mdW (gcA X) a M]) [mdW (gcA X) a M] [some (.ref (a 0)), some (.int p0), some (.int x2), some (.int x3)] [] 12) (x2 : Int32) (x3 : Int32) (h : f_X6_lowestOf_12b N M p0  k12 x2 x3 = some r) : G X (QI X r [mdW (gcA X) a M]) [mdW (gcA X) a M] [some (.ref (a 0)), some (.int p0), some (.int x2), some (.int x3)] [] 12 := by
  unfold f_X6_lowestOf_12b at h
  refine g_iload_n (pc' := 13) C dX6_lowestOf_12 rfl rfl ?_
  refine g_if_lt (pc' := 16) (tgt := 38) C dX6_lowestOf_13 (by decide) rfl h (fun c h => ?_) (fun c h => ?_)
  · refine g_iload_n (pc' := 39) C dX6_lowestOf_38 rfl rfl ?_
    obtain rfl := Option.some.inj h
    exact g_iret C dX6_lowestOf_39
  · refine g_aload_n (pc' := 17) C dX6_lowestOf_16 rfl rfl ?_
    refine gg_X6_7 (pc' := 20) (i := 0) C rfl hi_X6_lowestOf_X6 lk_X6_lowestOf_2 dX6_lowestOf_17 rfl ?_
    refine g_iload_n (pc' := 21) C dX6_lowestOf_20 rfl rfl ?_
    refine g_iald (pc' := 22) (i := 0) (j := 5) C rfl rfl dX6_lowestOf_21 rfl h (fun h => ?_)
    refine g_iload_n (pc' := 23) C dX6_lowestOf_22 rfl rfl ?_
    refine g_icmp_ne (pc' := 26) (tgt := 30) C dX6_lowestOf_23 (by decide) rfl h (fun c h => ?_) (fun c h => ?_)
    · refine g_iload_n (pc' := 27) C dX6_lowestOf_26 rfl rfl ?_
      refine g_goto (pc' := 31) C dX6_lowestOf_27 (by decide) ?_
      exact G_loc (lle_s (lle_s (lle_n (lle_s lle_0)))) (B_X6_lowestOf_31 C a N M p0 r k12 hk12 x3 x3 h)
    · refine g_iload_n (pc' := 31) C dX6_lowestOf_30 rfl rfl ?_
      exact G_loc (lle_s (lle_s (lle_n (lle_s lle_0)))) (B_X6_lowestOf_31 C a N M p0 r k12 hk12 x3 x2 h)
set_option maxRecDepth 100000 in
set_option maxHeartbeats 4000000 in
theorem L_X6_lowestOf_12 {X : gX} (C : cx X RX6 cX6_lowestOf 4 (some .int) wsX6_lowestOf 0 0) (a : Nat → Nat) (N : Nat) (M : tS) (p0 : Int32) (r : Int32)  : ∀ (n : Nat) (x2 : Int32) (x3 : Int32), f_X6_lowestOf_12 N M p0  n x2 x3 = some r → G X (QI X r [mdW (gcA X) a M]) [mdW (gcA X) a M] [some (.ref (a 0)), some (.int p0), some (.int x2), some (.int x3)] [] 12 := by
  intro n
  induction n with
  | zero => intro x2 x3 h; have h : (none : Option (Int32)) = some r := h; cases h
  | succ n ih => intro x2 x3 h; exact B_X6_lowestOf_12b C a N M p0 r  (f_X6_lowestOf_12 N M p0  n) ih x2 x3 h
def f_X6_lowestOf (N : Nat) (M : tS) (p0 : Int32) : Option (Int32) := f_X6_lowestOf_12 N M p0 N (-5 : Int32) ((M 0 (0 : Int32).toNatClampNeg) - (1 : Int32))
set_option maxRecDepth 100000 in
set_option maxHeartbeats 4000000 in
theorem B_X6_lowestOf {X : gX} (C : cx X RX6 cX6_lowestOf 4 (some .int) wsX6_lowestOf 0 0) (a : Nat → Nat) (N : Nat) (M : tS) (p0 : Int32) (r : Int32) (h : f_X6_lowestOf N M p0 = some r) : G X (QI X r [mdW (gcA X) a M]) [mdW (gcA X) a M] [some (.ref (a 0)), some (.int p0), none, none] [] 0 := by
  unfold f_X6_lowestOf at h
  refine g_bipush (pc' := 2) (v := -5) C dX6_lowestOf_0 (by decide) rfl ?_
  refine g_istore_n (pc' := 3) C dX6_lowestOf_2 (Nat.le_of_ble_eq_true rfl) rfl (L' := [some (.ref (a 0)), some (.int p0), some (.int (-5 : Int32)), none]) rfl ?_
  refine g_aload_n (pc' := 4) C dX6_lowestOf_3 rfl rfl ?_
  refine gg_X6_0 (pc' := 7) (i := 0) C rfl hi_X6_lowestOf_X6 lk_X6_lowestOf_1 dX6_lowestOf_4 rfl ?_
  refine g_iconst (pc' := 8) (v := 0) C dX6_lowestOf_7 (by decide) rfl ?_
  refine g_iald0 (pc' := 9) (i := 0) (j := 1) C rfl rfl dX6_lowestOf_8 rfl (by unfold vp_in; decide) ?_
  refine g_iconst (pc' := 10) (v := 1) C dX6_lowestOf_9 (by decide) rfl ?_
  refine g_isub (pc' := 11) C dX6_lowestOf_10 rfl ?_
  refine g_istore_n (pc' := 12) C dX6_lowestOf_11 (Nat.le_of_ble_eq_true rfl) rfl (L' := [some (.ref (a 0)), some (.int p0), some (.int (-5 : Int32)), some (.int ((M 0 (0 : Int32).toNatClampNeg) - (1 : Int32)))]) rfl ?_
  exact G_loc (lle_s (lle_s (lle_s (lle_s lle_0)))) (L_X6_lowestOf_12 C a N M p0 r N (-5 : Int32) ((M 0 (0 : Int32).toNatClampNeg) - (1 : Int32)) h)
set_option maxRecDepth 100000 in
set_option maxHeartbeats 4000000 in
theorem c_X6_lowestOf (l : Launch) (D : va_G) (cA : Nat → ClassId) (a : Nat → Nat) (N : Nat) (M : tS) (p0 : Int32) (r : Int32) (h : f_X6_lowestOf N M p0 = some r) : MI l D cA yX6_lowestOf wsX6_lowestOf 0 0 [.ref (a 0), .int p0] [mdW cA a M] r [mdW cA a M] := MI_of (cc := cX6_lowestOf) (maxL := 4) (rt := some .int) (by decide +kernel) rfl (List.forall_mem_cons.mpr ⟨rfl, List.forall_mem_cons.mpr ⟨rfl, List.forall_mem_nil _⟩⟩) (Nat.le_of_ble_eq_true rfl) (fun X e1 e2 e3 C => by subst e1; subst e2; subst e3; exact B_X6_lowestOf C a N M p0 r h)
set_option maxRecDepth 100000 in
set_option maxHeartbeats 4000000 in
theorem nd_X6_lowestOf : nd yX6_lowestOf 1 := ⟨by decide +kernel, by decide +kernel, by decide +kernel⟩
set_option maxRecDepth 100000 in
set_option maxHeartbeats 4000000 in
theorem k_X6_lowestOf {X : gX} {own : String} {cc : ByteArray} {nL : Nat} {ret : Option FieldType} {Ts : List Cond} {fr lm : Nat} {Q : State → Prop} {ms : List va_W} {L : List (Option Value)} {st : List Value} {pc pc' idx : Nat} {ρ : Type} {T : Int32 → Option ρ} {res : ρ} (C : cx X own cc nL ret Ts fr lm) (a : Nat → Nat) (N : Nat) (M : tS) (p0 : Int32) (is : List Nat) (hC : is.map (fun i => ms[i]?) = [some (mdW (gcA X) a M)]) (hn : is.Nodup) (hG : GoodIn Ts (wsV own idx RX6 yX6_lowestOf wsX6_lowestOf)) (hR : 0 + 1 ≤ fr ∧ 8 + (4 + 11) + 0 ≤ lm) (hst : (st.map fun v => v.category).sum ≤ 8) (hLn : L.length = nL) (d : decode cc pc = .ok (.invokevirtual idx, 3)) (hp : pc + 3 = pc') (h : bd (f_X6_lowestOf N M p0) T = some res) (kk : ∀ (r : Int32), T r = some res → G X Q (ms) L (.int r :: st) pc') : G X Q ms L (.int p0 :: .ref (a 0) :: st) pc := by
  obtain ⟨r, h1, h⟩ := ob h
  exact G_callVI C (As := [.int p0]) (c_X6_lowestOf (gl X) (gD X) (gcA X) a N M p0 r h1) hG rfl nd_X6_lowestOf hR (q0 := 0) rfl rfl hC hn rfl rfl hst hLn d hp (G_ms (rpl_same (mc := [mdW (gcA X) a M]) hC) (kk r h))
theorem hi_X6_dotsIn_X6 : ∀ w ∈ wsX60, w ∈ wsX6_dotsIn := fun w h => List.mem_cons_of_mem _ (List.mem_append_right _ h)
theorem lk_X6_dotsIn_1 : Cond.fieldLink RX6 7 "NoteThemesModel" "s" "[I" ∈ wsX6_dotsIn := List.mem_of_getElem? (i := 1) rfl
theorem lk_X6_dotsIn_2 : Cond.fieldLink RX6 23 "NoteThemesModel" "heapOf" "[I" ∈ wsX6_dotsIn := List.mem_of_getElem? (i := 2) rfl
def f_X6_dotsIn_34 (N : Nat) (M : tS) (p0 : Int32) (k4 : Int32 → Int32 → Option (Int32)) (x3 : Int32) (t0 : Int32) (t1 : Int32) : Option (Int32) := k4 (t1 + t0) (x3 + 1)
set_option maxRecDepth 100000 in
set_option maxHeartbeats 4000000 in
theorem B_X6_dotsIn_34 {X : gX} (C : cx X RX6 cX6_dotsIn 4 (some .int) wsX6_dotsIn 2 45) (a : Nat → Nat) (N : Nat) (M : tS) (p0 : Int32) (r : Int32) (k4 : Int32 → Int32 → Option (Int32)) (hk4 : ∀ (x2 : Int32) (x3 : Int32), k4 x2 x3 = some r → G X (QI X r [mdW (gcA X) a M]) [mdW (gcA X) a M] [some (.ref (a 0)), some (.int p0), some (.int x2), some (.int x3)] [] 4) (x3 : Int32) (t0 : Int32) (t1 : Int32) (h : f_X6_dotsIn_34 N M p0 k4 x3 t0 t1 = some r) : G X (QI X r [mdW (gcA X) a M]) [mdW (gcA X) a M] [some (.ref (a 0)), some (.int p0), none, some (.int x3)] [.int t0, .int t1] 34 := by
  unfold f_X6_dotsIn_34 at h
  refine g_iadd (pc' := 35) C dX6_dotsIn_34 rfl ?_
  refine g_istore_n (pc' := 36) C dX6_dotsIn_35 (Nat.le_of_ble_eq_true rfl) rfl (L' := [some (.ref (a 0)), some (.int p0), some (.int (t1 + t0)), some (.int x3)]) rfl ?_
  refine g_iinc (pc' := 39) (v := (x3 + 1)) C dX6_dotsIn_36 rfl rfl rfl (L' := [some (.ref (a 0)), some (.int p0), some (.int (t1 + t0)), some (.int (x3 + 1))]) rfl ?_
  refine g_goto (pc' := 4) C dX6_dotsIn_39 (by decide) ?_
  exact G_loc (lle_s (lle_s (lle_s (lle_s lle_0)))) (hk4 (t1 + t0) (x3 + 1) h)
def f_X6_dotsIn_4b (N : Nat) (M : tS) (p0 : Int32)  (k4 : Int32 → Int32 → Option (Int32)) (x2 : Int32) (x3 : Int32) : Option (Int32) := (if (M 0 (0 : Int32).toNatClampNeg) ≤ x3 then some x2 else (if x3 < 0 ∨ 20 ≤ x3.toNatClampNeg then none else (if (M 7 x3.toNatClampNeg) = p0 then (bd (f_X6_dotsOf N M x3) (fun r1 => f_X6_dotsIn_34 N M p0 k4 x3 r1 x2)) else f_X6_dotsIn_34 N M p0 k4 x3 (0 : Int32) x2)))
def f_X6_dotsIn_4 (N : Nat) (M : tS) (p0 : Int32)  : Nat → Int32 → Int32 → Option (Int32)
  | 0 => fun _ _ => none
  | n + 1 => f_X6_dotsIn_4b N M p0  (f_X6_dotsIn_4 N M p0  n)
set_option maxRecDepth 100000 in
set_option maxHeartbeats 4000000 in
theorem B_X6_dotsIn_4b {X : gX} (C : cx X RX6 cX6_dotsIn 4 (some .int) wsX6_dotsIn 2 45) (a : Nat → Nat) (N : Nat) (M : tS) (p0 : Int32) (r : Int32)  (k4 : Int32 → Int32 → Option (Int32)) (hk4 : ∀ (x2 : Int32) (x3 : Int32), k4 x2 x3 = some r → G X (QI X r [mdW (gcA X) a M]) [mdW (gcA X) a M] [some (.ref (a 0)), some (.int p0), some (.int x2), some (.int x3)] [] 4) (x2 : Int32) (x3 : Int32) (h : f_X6_dotsIn_4b N M p0  k4 x2 x3 = some r) : G X (QI X r [mdW (gcA X) a M]) [mdW (gcA X) a M] [some (.ref (a 0)), some (.int p0), some (.int x2), some (.int x3)] [] 4 := by
  unfold f_X6_dotsIn_4b at h
  refine g_iload_n (pc' := 5) C dX6_dotsIn_4 rfl rfl ?_
  refine g_aload_n (pc' := 6) C dX6_dotsIn_5 rfl rfl ?_
  refine gg_X6_0 (pc' := 9) (i := 0) C rfl hi_X6_dotsIn_X6 lk_X6_dotsIn_1 dX6_dotsIn_6 rfl ?_
  refine g_iconst (pc' := 10) (v := 0) C dX6_dotsIn_9 (by decide) rfl ?_
  refine g_iald0 (pc' := 11) (i := 0) (j := 1) C rfl rfl dX6_dotsIn_10 rfl (by unfold vp_in; decide) ?_
  refine g_icmp_ge (pc' := 14) (tgt := 42) C dX6_dotsIn_11 (by decide) rfl h (fun c h => ?_) (fun c h => ?_)
  · refine g_iload_n (pc' := 43) C dX6_dotsIn_42 rfl rfl ?_
    obtain rfl := Option.some.inj h
    exact g_iret C dX6_dotsIn_43
  · refine g_iload_n (pc' := 15) C dX6_dotsIn_14 rfl rfl ?_
    refine g_aload_n (pc' := 16) C dX6_dotsIn_15 rfl rfl ?_
    refine gg_X6_7 (pc' := 19) (i := 0) C rfl hi_X6_dotsIn_X6 lk_X6_dotsIn_2 dX6_dotsIn_16 rfl ?_
    refine g_iload_n (pc' := 20) C dX6_dotsIn_19 rfl rfl ?_
    refine g_iald (pc' := 21) (i := 0) (j := 5) C rfl rfl dX6_dotsIn_20 rfl h (fun h => ?_)
    refine g_iload_n (pc' := 22) C dX6_dotsIn_21 rfl rfl ?_
    refine g_icmp_ne (pc' := 25) (tgt := 33) C dX6_dotsIn_22 (by decide) rfl h (fun c h => ?_) (fun c h => ?_)
    · refine g_aload_n (pc' := 26) C dX6_dotsIn_25 rfl rfl ?_
      refine g_iload_n (pc' := 27) C dX6_dotsIn_26 rfl rfl ?_
      refine k_X6_dotsOf (pc' := 30) C a N M x3 [0] rfl (by decide) gX6_dotsIn_X6_dotsOf ⟨Nat.le_of_ble_eq_true rfl, Nat.le_of_ble_eq_true rfl⟩ (Nat.le_of_ble_eq_true rfl) rfl dX6_dotsIn_27 rfl h (fun r1 h => ?_)
      refine g_goto (pc' := 34) C dX6_dotsIn_30 (by decide) ?_
      exact G_loc (lle_s (lle_s (lle_n (lle_s lle_0)))) (B_X6_dotsIn_34 C a N M p0 r k4 hk4 x3 r1 x2 h)
    · refine g_iconst (pc' := 34) (v := 0) C dX6_dotsIn_33 (by decide) rfl ?_
      exact G_loc (lle_s (lle_s (lle_n (lle_s lle_0)))) (B_X6_dotsIn_34 C a N M p0 r k4 hk4 x3 (0 : Int32) x2 h)
set_option maxRecDepth 100000 in
set_option maxHeartbeats 4000000 in
theorem L_X6_dotsIn_4 {X : gX} (C : cx X RX6 cX6_dotsIn 4 (some .int) wsX6_dotsIn 2 45) (a : Nat → Nat) (N : Nat) (M : tS) (p0 : Int32) (r : Int32)  : ∀ (n : Nat) (x2 : Int32) (x3 : Int32), f_X6_dotsIn_4 N M p0  n x2 x3 = some r → G X (QI X r [mdW (gcA X) a M]) [mdW (gcA X) a M] [some (.ref (a 0)), some (.int p0), some (.int x2), some (.int x3)] [] 4 := by
  intro n
  induction n with
  | zero => intro x2 x3 h; have h : (none : Option (Int32)) = some r := h; cases h
  | succ n ih => intro x2 x3 h; exact B_X6_dotsIn_4b C a N M p0 r  (f_X6_dotsIn_4 N M p0  n) ih x2 x3 h
def f_X6_dotsIn (N : Nat) (M : tS) (p0 : Int32) : Option (Int32) := f_X6_dotsIn_4 N M p0 N (0 : Int32) (0 : Int32)
set_option maxRecDepth 100000 in
set_option maxHeartbeats 4000000 in
theorem B_X6_dotsIn {X : gX} (C : cx X RX6 cX6_dotsIn 4 (some .int) wsX6_dotsIn 2 45) (a : Nat → Nat) (N : Nat) (M : tS) (p0 : Int32) (r : Int32) (h : f_X6_dotsIn N M p0 = some r) : G X (QI X r [mdW (gcA X) a M]) [mdW (gcA X) a M] [some (.ref (a 0)), some (.int p0), none, none] [] 0 := by
  unfold f_X6_dotsIn at h
  refine g_iconst (pc' := 1) (v := 0) C dX6_dotsIn_0 (by decide) rfl ?_
  refine g_istore_n (pc' := 2) C dX6_dotsIn_1 (Nat.le_of_ble_eq_true rfl) rfl (L' := [some (.ref (a 0)), some (.int p0), some (.int (0 : Int32)), none]) rfl ?_
  refine g_iconst (pc' := 3) (v := 0) C dX6_dotsIn_2 (by decide) rfl ?_
  refine g_istore_n (pc' := 4) C dX6_dotsIn_3 (Nat.le_of_ble_eq_true rfl) rfl (L' := [some (.ref (a 0)), some (.int p0), some (.int (0 : Int32)), some (.int (0 : Int32))]) rfl ?_
  exact G_loc (lle_s (lle_s (lle_s (lle_s lle_0)))) (L_X6_dotsIn_4 C a N M p0 r N (0 : Int32) (0 : Int32) h)
set_option maxRecDepth 100000 in
set_option maxHeartbeats 4000000 in
theorem c_X6_dotsIn (l : Launch) (D : va_G) (cA : Nat → ClassId) (a : Nat → Nat) (N : Nat) (M : tS) (p0 : Int32) (r : Int32) (h : f_X6_dotsIn N M p0 = some r) : MI l D cA yX6_dotsIn wsX6_dotsIn 2 45 [.ref (a 0), .int p0] [mdW cA a M] r [mdW cA a M] := MI_of (cc := cX6_dotsIn) (maxL := 4) (rt := some .int) (by decide +kernel) rfl (List.forall_mem_cons.mpr ⟨rfl, List.forall_mem_cons.mpr ⟨rfl, List.forall_mem_nil _⟩⟩) (Nat.le_of_ble_eq_true rfl) (fun X e1 e2 e3 C => by subst e1; subst e2; subst e3; exact B_X6_dotsIn C a N M p0 r h)
set_option maxRecDepth 100000 in
set_option maxHeartbeats 4000000 in
theorem nd_X6_dotsIn : nd yX6_dotsIn 1 := ⟨by decide +kernel, by decide +kernel, by decide +kernel⟩
set_option maxRecDepth 100000 in
set_option maxHeartbeats 4000000 in
theorem k_X6_dotsIn {X : gX} {own : String} {cc : ByteArray} {nL : Nat} {ret : Option FieldType} {Ts : List Cond} {fr lm : Nat} {Q : State → Prop} {ms : List va_W} {L : List (Option Value)} {st : List Value} {pc pc' idx : Nat} {ρ : Type} {T : Int32 → Option ρ} {res : ρ} (C : cx X own cc nL ret Ts fr lm) (a : Nat → Nat) (N : Nat) (M : tS) (p0 : Int32) (is : List Nat) (hC : is.map (fun i => ms[i]?) = [some (mdW (gcA X) a M)]) (hn : is.Nodup) (hG : GoodIn Ts (wsV own idx RX6 yX6_dotsIn wsX6_dotsIn)) (hR : 2 + 1 ≤ fr ∧ 8 + (4 + 11) + 45 ≤ lm) (hst : (st.map fun v => v.category).sum ≤ 8) (hLn : L.length = nL) (d : decode cc pc = .ok (.invokevirtual idx, 3)) (hp : pc + 3 = pc') (h : bd (f_X6_dotsIn N M p0) T = some res) (kk : ∀ (r : Int32), T r = some res → G X Q (ms) L (.int r :: st) pc') : G X Q ms L (.int p0 :: .ref (a 0) :: st) pc := by
  obtain ⟨r, h1, h⟩ := ob h
  exact G_callVI C (As := [.int p0]) (c_X6_dotsIn (gl X) (gD X) (gcA X) a N M p0 r h1) hG rfl nd_X6_dotsIn hR (q0 := 0) rfl rfl hC hn rfl rfl hst hLn d hp (G_ms (rpl_same (mc := [mdW (gcA X) a M]) hC) (kk r h))
theorem hi_X6_themesIn_X6 : ∀ w ∈ wsX60, w ∈ wsX6_themesIn := fun w h => List.mem_cons_of_mem _ (List.mem_append_right _ h)
theorem lk_X6_themesIn_1 : Cond.fieldLink RX6 7 "NoteThemesModel" "s" "[I" ∈ wsX6_themesIn := List.mem_of_getElem? (i := 1) rfl
theorem lk_X6_themesIn_2 : Cond.fieldLink RX6 23 "NoteThemesModel" "heapOf" "[I" ∈ wsX6_themesIn := List.mem_of_getElem? (i := 2) rfl
def f_X6_themesIn_59 (N : Nat) (M : tS) (p0 : Int32) (k4 : Int32 → Int32 → Option (Int32)) (k20 : Int32 → Int32 → Int32 → Int32 → Option (Int32)) (x2 : Int32) (x3 : Int32) (x5 : Int32) (t0 : Int32) (t1 : Int32) : Option (Int32) := k20 x2 x3 (t1 ||| t0) (x5 + 1)
set_option maxRecDepth 100000 in
set_option maxHeartbeats 4000000 in
theorem B_X6_themesIn_59 {X : gX} (C : cx X RX6 cX6_themesIn 6 (some .int) wsX6_themesIn 2 43) (a : Nat → Nat) (N : Nat) (M : tS) (p0 : Int32) (r : Int32) (k4 : Int32 → Int32 → Option (Int32)) (hk4 : ∀ (x2 : Int32) (x3 : Int32), k4 x2 x3 = some r → G X (QI X r [mdW (gcA X) a M]) [mdW (gcA X) a M] [some (.ref (a 0)), some (.int p0), some (.int x2), some (.int x3), none, none] [] 4) (k20 : Int32 → Int32 → Int32 → Int32 → Option (Int32)) (hk20 : ∀ (x2 : Int32) (x3 : Int32) (x4 : Int32) (x5 : Int32), k20 x2 x3 x4 x5 = some r → G X (QI X r [mdW (gcA X) a M]) [mdW (gcA X) a M] [some (.ref (a 0)), some (.int p0), some (.int x2), some (.int x3), some (.int x4), some (.int x5)] [] 20) (x2 : Int32) (x3 : Int32) (x5 : Int32) (t0 : Int32) (t1 : Int32) (h : f_X6_themesIn_59 N M p0 k4 k20 x2 x3 x5 t0 t1 = some r) : G X (QI X r [mdW (gcA X) a M]) [mdW (gcA X) a M] [some (.ref (a 0)), some (.int p0), some (.int x2), some (.int x3), none, some (.int x5)] [.int t0, .int t1] 59 := by
  unfold f_X6_themesIn_59 at h
  refine g_ior (pc' := 60) C dX6_themesIn_59 rfl ?_
  refine g_istore (pc' := 62) C dX6_themesIn_60 (Nat.le_of_ble_eq_true rfl) rfl (L' := [some (.ref (a 0)), some (.int p0), some (.int x2), some (.int x3), some (.int (t1 ||| t0)), some (.int x5)]) rfl ?_
  refine g_iinc (pc' := 65) (v := (x5 + 1)) C dX6_themesIn_62 rfl rfl rfl (L' := [some (.ref (a 0)), some (.int p0), some (.int x2), some (.int x3), some (.int (t1 ||| t0)), some (.int (x5 + 1))]) rfl ?_
  refine g_goto (pc' := 20) C dX6_themesIn_65 (by decide) ?_
  exact G_loc (lle_s (lle_s (lle_s (lle_s (lle_s (lle_s lle_0)))))) (hk20 x2 x3 (t1 ||| t0) (x5 + 1) h)
def f_X6_themesIn_58 (N : Nat) (M : tS) (p0 : Int32) (k4 : Int32 → Int32 → Option (Int32)) (k20 : Int32 → Int32 → Int32 → Int32 → Option (Int32)) (x2 : Int32) (x3 : Int32) (x5 : Int32) (t0 : Int32) : Option (Int32) := f_X6_themesIn_59 N M p0 k4 k20 x2 x3 x5 (0 : Int32) t0
set_option maxRecDepth 100000 in
set_option maxHeartbeats 4000000 in
theorem B_X6_themesIn_58 {X : gX} (C : cx X RX6 cX6_themesIn 6 (some .int) wsX6_themesIn 2 43) (a : Nat → Nat) (N : Nat) (M : tS) (p0 : Int32) (r : Int32) (k4 : Int32 → Int32 → Option (Int32)) (hk4 : ∀ (x2 : Int32) (x3 : Int32), k4 x2 x3 = some r → G X (QI X r [mdW (gcA X) a M]) [mdW (gcA X) a M] [some (.ref (a 0)), some (.int p0), some (.int x2), some (.int x3), none, none] [] 4) (k20 : Int32 → Int32 → Int32 → Int32 → Option (Int32)) (hk20 : ∀ (x2 : Int32) (x3 : Int32) (x4 : Int32) (x5 : Int32), k20 x2 x3 x4 x5 = some r → G X (QI X r [mdW (gcA X) a M]) [mdW (gcA X) a M] [some (.ref (a 0)), some (.int p0), some (.int x2), some (.int x3), some (.int x4), some (.int x5)] [] 20) (x2 : Int32) (x3 : Int32) (x5 : Int32) (t0 : Int32) (h : f_X6_themesIn_58 N M p0 k4 k20 x2 x3 x5 t0 = some r) : G X (QI X r [mdW (gcA X) a M]) [mdW (gcA X) a M] [some (.ref (a 0)), some (.int p0), some (.int x2), some (.int x3), none, some (.int x5)] [.int t0] 58 := by
  unfold f_X6_themesIn_58 at h
  refine g_iconst (pc' := 59) (v := 0) C dX6_themesIn_58 (by decide) rfl ?_
  exact G_loc (lle_s (lle_s (lle_s (lle_s (lle_n (lle_s lle_0)))))) (B_X6_themesIn_59 C a N M p0 r k4 hk4 k20 hk20 x2 x3 x5 (0 : Int32) t0 h)
def f_X6_themesIn_20b (N : Nat) (M : tS) (p0 : Int32) (k4 : Int32 → Int32 → Option (Int32)) (k20 : Int32 → Int32 → Int32 → Int32 → Option (Int32)) (x2 : Int32) (x3 : Int32) (x4 : Int32) (x5 : Int32) : Option (Int32) := (if (M 0 (0 : Int32).toNatClampNeg) ≤ x5 then k4 (x2 + x4) (x3 + 1) else (if x5 < 0 ∨ 20 ≤ x5.toNatClampNeg then none else (if (M 7 x5.toNatClampNeg) = p0 then (bd (f_X6_themeOf N M x5) (fun r1 => (if r1 = x3 then f_X6_themesIn_59 N M p0 k4 k20 x2 x3 x5 (1 : Int32) x4 else f_X6_themesIn_58 N M p0 k4 k20 x2 x3 x5 x4))) else f_X6_themesIn_58 N M p0 k4 k20 x2 x3 x5 x4)))
def f_X6_themesIn_20 (N : Nat) (M : tS) (p0 : Int32) (k4 : Int32 → Int32 → Option (Int32)) : Nat → Int32 → Int32 → Int32 → Int32 → Option (Int32)
  | 0 => fun _ _ _ _ => none
  | n + 1 => f_X6_themesIn_20b N M p0 k4 (f_X6_themesIn_20 N M p0 k4 n)
set_option maxRecDepth 100000 in
set_option maxHeartbeats 4000000 in
theorem B_X6_themesIn_20b {X : gX} (C : cx X RX6 cX6_themesIn 6 (some .int) wsX6_themesIn 2 43) (a : Nat → Nat) (N : Nat) (M : tS) (p0 : Int32) (r : Int32) (k4 : Int32 → Int32 → Option (Int32)) (hk4 : ∀ (x2 : Int32) (x3 : Int32), k4 x2 x3 = some r → G X (QI X r [mdW (gcA X) a M]) [mdW (gcA X) a M] [some (.ref (a 0)), some (.int p0), some (.int x2), some (.int x3), none, none] [] 4) (k20 : Int32 → Int32 → Int32 → Int32 → Option (Int32)) (hk20 : ∀ (x2 : Int32) (x3 : Int32) (x4 : Int32) (x5 : Int32), k20 x2 x3 x4 x5 = some r → G X (QI X r [mdW (gcA X) a M]) [mdW (gcA X) a M] [some (.ref (a 0)), some (.int p0), some (.int x2), some (.int x3), some (.int x4), some (.int x5)] [] 20) (x2 : Int32) (x3 : Int32) (x4 : Int32) (x5 : Int32) (h : f_X6_themesIn_20b N M p0 k4 k20 x2 x3 x4 x5 = some r) : G X (QI X r [mdW (gcA X) a M]) [mdW (gcA X) a M] [some (.ref (a 0)), some (.int p0), some (.int x2), some (.int x3), some (.int x4), some (.int x5)] [] 20 := by
  unfold f_X6_themesIn_20b at h
  refine g_iload (pc' := 22) C dX6_themesIn_20 rfl rfl ?_
  refine g_aload_n (pc' := 23) C dX6_themesIn_22 rfl rfl ?_
  refine gg_X6_0 (pc' := 26) (i := 0) C rfl hi_X6_themesIn_X6 lk_X6_themesIn_1 dX6_themesIn_23 rfl ?_
  refine g_iconst (pc' := 27) (v := 0) C dX6_themesIn_26 (by decide) rfl ?_
  refine g_iald0 (pc' := 28) (i := 0) (j := 1) C rfl rfl dX6_themesIn_27 rfl (by unfold vp_in; decide) ?_
  refine g_icmp_ge (pc' := 31) (tgt := 68) C dX6_themesIn_28 (by decide) rfl h (fun c h => ?_) (fun c h => ?_)
  · refine g_iload_n (pc' := 69) C dX6_themesIn_68 rfl rfl ?_
    refine g_iload (pc' := 71) C dX6_themesIn_69 rfl rfl ?_
    refine g_iadd (pc' := 72) C dX6_themesIn_71 rfl ?_
    refine g_istore_n (pc' := 73) C dX6_themesIn_72 (Nat.le_of_ble_eq_true rfl) rfl (L' := [some (.ref (a 0)), some (.int p0), some (.int (x2 + x4)), some (.int x3), some (.int x4), some (.int x5)]) rfl ?_
    refine g_iinc (pc' := 76) (v := (x3 + 1)) C dX6_themesIn_73 rfl rfl rfl (L' := [some (.ref (a 0)), some (.int p0), some (.int (x2 + x4)), some (.int (x3 + 1)), some (.int x4), some (.int x5)]) rfl ?_
    refine g_goto (pc' := 4) C dX6_themesIn_76 (by decide) ?_
    exact G_loc (lle_s (lle_s (lle_s (lle_s (lle_n (lle_n lle_0)))))) (hk4 (x2 + x4) (x3 + 1) h)
  · refine g_iload (pc' := 33) C dX6_themesIn_31 rfl rfl ?_
    refine g_aload_n (pc' := 34) C dX6_themesIn_33 rfl rfl ?_
    refine gg_X6_7 (pc' := 37) (i := 0) C rfl hi_X6_themesIn_X6 lk_X6_themesIn_2 dX6_themesIn_34 rfl ?_
    refine g_iload (pc' := 39) C dX6_themesIn_37 rfl rfl ?_
    refine g_iald (pc' := 40) (i := 0) (j := 5) C rfl rfl dX6_themesIn_39 rfl h (fun h => ?_)
    refine g_iload_n (pc' := 41) C dX6_themesIn_40 rfl rfl ?_
    refine g_icmp_ne (pc' := 44) (tgt := 58) C dX6_themesIn_41 (by decide) rfl h (fun c h => ?_) (fun c h => ?_)
    · refine g_aload_n (pc' := 45) C dX6_themesIn_44 rfl rfl ?_
      refine g_iload (pc' := 47) C dX6_themesIn_45 rfl rfl ?_
      refine k_X6_themeOf (pc' := 50) C a N M x5 [0] rfl (by decide) gX6_themesIn_X6_themeOf ⟨Nat.le_of_ble_eq_true rfl, Nat.le_of_ble_eq_true rfl⟩ (Nat.le_of_ble_eq_true rfl) rfl dX6_themesIn_47 rfl h (fun r1 h => ?_)
      refine g_iload_n (pc' := 51) C dX6_themesIn_50 rfl rfl ?_
      refine g_icmp_ne (pc' := 54) (tgt := 58) C dX6_themesIn_51 (by decide) rfl h (fun c h => ?_) (fun c h => ?_)
      · refine g_iconst (pc' := 55) (v := 1) C dX6_themesIn_54 (by decide) rfl ?_
        refine g_goto (pc' := 59) C dX6_themesIn_55 (by decide) ?_
        exact G_loc (lle_s (lle_s (lle_s (lle_s (lle_n (lle_s lle_0)))))) (B_X6_themesIn_59 C a N M p0 r k4 hk4 k20 hk20 x2 x3 x5 (1 : Int32) x4 h)
      · exact G_loc (lle_s (lle_s (lle_s (lle_s (lle_n (lle_s lle_0)))))) (B_X6_themesIn_58 C a N M p0 r k4 hk4 k20 hk20 x2 x3 x5 x4 h)
    · exact G_loc (lle_s (lle_s (lle_s (lle_s (lle_n (lle_s lle_0)))))) (B_X6_themesIn_58 C a N M p0 r k4 hk4 k20 hk20 x2 x3 x5 x4 h)
set_option maxRecDepth 100000 in
set_option maxHeartbeats 4000000 in
theorem L_X6_themesIn_20 {X : gX} (C : cx X RX6 cX6_themesIn 6 (some .int) wsX6_themesIn 2 43) (a : Nat → Nat) (N : Nat) (M : tS) (p0 : Int32) (r : Int32) (k4 : Int32 → Int32 → Option (Int32)) (hk4 : ∀ (x2 : Int32) (x3 : Int32), k4 x2 x3 = some r → G X (QI X r [mdW (gcA X) a M]) [mdW (gcA X) a M] [some (.ref (a 0)), some (.int p0), some (.int x2), some (.int x3), none, none] [] 4) : ∀ (n : Nat) (x2 : Int32) (x3 : Int32) (x4 : Int32) (x5 : Int32), f_X6_themesIn_20 N M p0 k4 n x2 x3 x4 x5 = some r → G X (QI X r [mdW (gcA X) a M]) [mdW (gcA X) a M] [some (.ref (a 0)), some (.int p0), some (.int x2), some (.int x3), some (.int x4), some (.int x5)] [] 20 := by
  intro n
  induction n with
  | zero => intro x2 x3 x4 x5 h; have h : (none : Option (Int32)) = some r := h; cases h
  | succ n ih => intro x2 x3 x4 x5 h; exact B_X6_themesIn_20b C a N M p0 r k4 hk4 (f_X6_themesIn_20 N M p0 k4 n) ih x2 x3 x4 x5 h
def f_X6_themesIn_4b (N : Nat) (M : tS) (p0 : Int32)  (k4 : Int32 → Int32 → Option (Int32)) (x2 : Int32) (x3 : Int32) : Option (Int32) := (if (M 0 (1 : Int32).toNatClampNeg) ≤ x3 then some x2 else f_X6_themesIn_20 N M p0 k4 N x2 x3 (0 : Int32) (0 : Int32))
def f_X6_themesIn_4 (N : Nat) (M : tS) (p0 : Int32)  : Nat → Int32 → Int32 → Option (Int32)
  | 0 => fun _ _ => none
  | n + 1 => f_X6_themesIn_4b N M p0  (f_X6_themesIn_4 N M p0  n)
set_option maxRecDepth 100000 in
set_option maxHeartbeats 4000000 in
theorem B_X6_themesIn_4b {X : gX} (C : cx X RX6 cX6_themesIn 6 (some .int) wsX6_themesIn 2 43) (a : Nat → Nat) (N : Nat) (M : tS) (p0 : Int32) (r : Int32)  (k4 : Int32 → Int32 → Option (Int32)) (hk4 : ∀ (x2 : Int32) (x3 : Int32), k4 x2 x3 = some r → G X (QI X r [mdW (gcA X) a M]) [mdW (gcA X) a M] [some (.ref (a 0)), some (.int p0), some (.int x2), some (.int x3), none, none] [] 4) (x2 : Int32) (x3 : Int32) (h : f_X6_themesIn_4b N M p0  k4 x2 x3 = some r) : G X (QI X r [mdW (gcA X) a M]) [mdW (gcA X) a M] [some (.ref (a 0)), some (.int p0), some (.int x2), some (.int x3), none, none] [] 4 := by
  unfold f_X6_themesIn_4b at h
  refine g_iload_n (pc' := 5) C dX6_themesIn_4 rfl rfl ?_
  refine g_aload_n (pc' := 6) C dX6_themesIn_5 rfl rfl ?_
  refine gg_X6_0 (pc' := 9) (i := 0) C rfl hi_X6_themesIn_X6 lk_X6_themesIn_1 dX6_themesIn_6 rfl ?_
  refine g_iconst (pc' := 10) (v := 1) C dX6_themesIn_9 (by decide) rfl ?_
  refine g_iald0 (pc' := 11) (i := 0) (j := 1) C rfl rfl dX6_themesIn_10 rfl (by unfold vp_in; decide) ?_
  refine g_icmp_ge (pc' := 14) (tgt := 79) C dX6_themesIn_11 (by decide) rfl h (fun c h => ?_) (fun c h => ?_)
  · refine g_iload_n (pc' := 80) C dX6_themesIn_79 rfl rfl ?_
    obtain rfl := Option.some.inj h
    exact g_iret C dX6_themesIn_80
  · refine g_iconst (pc' := 15) (v := 0) C dX6_themesIn_14 (by decide) rfl ?_
    refine g_istore (pc' := 17) C dX6_themesIn_15 (Nat.le_of_ble_eq_true rfl) rfl (L' := [some (.ref (a 0)), some (.int p0), some (.int x2), some (.int x3), some (.int (0 : Int32)), none]) rfl ?_
    refine g_iconst (pc' := 18) (v := 0) C dX6_themesIn_17 (by decide) rfl ?_
    refine g_istore (pc' := 20) C dX6_themesIn_18 (Nat.le_of_ble_eq_true rfl) rfl (L' := [some (.ref (a 0)), some (.int p0), some (.int x2), some (.int x3), some (.int (0 : Int32)), some (.int (0 : Int32))]) rfl ?_
    exact G_loc (lle_s (lle_s (lle_s (lle_s (lle_s (lle_s lle_0)))))) (L_X6_themesIn_20 C a N M p0 r k4 hk4 N x2 x3 (0 : Int32) (0 : Int32) h)
set_option maxRecDepth 100000 in
set_option maxHeartbeats 4000000 in
theorem L_X6_themesIn_4 {X : gX} (C : cx X RX6 cX6_themesIn 6 (some .int) wsX6_themesIn 2 43) (a : Nat → Nat) (N : Nat) (M : tS) (p0 : Int32) (r : Int32)  : ∀ (n : Nat) (x2 : Int32) (x3 : Int32), f_X6_themesIn_4 N M p0  n x2 x3 = some r → G X (QI X r [mdW (gcA X) a M]) [mdW (gcA X) a M] [some (.ref (a 0)), some (.int p0), some (.int x2), some (.int x3), none, none] [] 4 := by
  intro n
  induction n with
  | zero => intro x2 x3 h; have h : (none : Option (Int32)) = some r := h; cases h
  | succ n ih => intro x2 x3 h; exact B_X6_themesIn_4b C a N M p0 r  (f_X6_themesIn_4 N M p0  n) ih x2 x3 h
def f_X6_themesIn (N : Nat) (M : tS) (p0 : Int32) : Option (Int32) := f_X6_themesIn_4 N M p0 N (0 : Int32) (0 : Int32)
set_option maxRecDepth 100000 in
set_option maxHeartbeats 4000000 in
theorem B_X6_themesIn {X : gX} (C : cx X RX6 cX6_themesIn 6 (some .int) wsX6_themesIn 2 43) (a : Nat → Nat) (N : Nat) (M : tS) (p0 : Int32) (r : Int32) (h : f_X6_themesIn N M p0 = some r) : G X (QI X r [mdW (gcA X) a M]) [mdW (gcA X) a M] [some (.ref (a 0)), some (.int p0), none, none, none, none] [] 0 := by
  unfold f_X6_themesIn at h
  refine g_iconst (pc' := 1) (v := 0) C dX6_themesIn_0 (by decide) rfl ?_
  refine g_istore_n (pc' := 2) C dX6_themesIn_1 (Nat.le_of_ble_eq_true rfl) rfl (L' := [some (.ref (a 0)), some (.int p0), some (.int (0 : Int32)), none, none, none]) rfl ?_
  refine g_iconst (pc' := 3) (v := 0) C dX6_themesIn_2 (by decide) rfl ?_
  refine g_istore_n (pc' := 4) C dX6_themesIn_3 (Nat.le_of_ble_eq_true rfl) rfl (L' := [some (.ref (a 0)), some (.int p0), some (.int (0 : Int32)), some (.int (0 : Int32)), none, none]) rfl ?_
  exact G_loc (lle_s (lle_s (lle_s (lle_s (lle_n (lle_n lle_0)))))) (L_X6_themesIn_4 C a N M p0 r N (0 : Int32) (0 : Int32) h)
set_option maxRecDepth 100000 in
set_option maxHeartbeats 4000000 in
theorem c_X6_themesIn (l : Launch) (D : va_G) (cA : Nat → ClassId) (a : Nat → Nat) (N : Nat) (M : tS) (p0 : Int32) (r : Int32) (h : f_X6_themesIn N M p0 = some r) : MI l D cA yX6_themesIn wsX6_themesIn 2 43 [.ref (a 0), .int p0] [mdW cA a M] r [mdW cA a M] := MI_of (cc := cX6_themesIn) (maxL := 6) (rt := some .int) (by decide +kernel) rfl (List.forall_mem_cons.mpr ⟨rfl, List.forall_mem_cons.mpr ⟨rfl, List.forall_mem_nil _⟩⟩) (Nat.le_of_ble_eq_true rfl) (fun X e1 e2 e3 C => by subst e1; subst e2; subst e3; exact B_X6_themesIn C a N M p0 r h)
set_option maxRecDepth 100000 in
set_option maxHeartbeats 4000000 in
theorem nd_X6_themesIn : nd yX6_themesIn 1 := ⟨by decide +kernel, by decide +kernel, by decide +kernel⟩
set_option maxRecDepth 100000 in
set_option maxHeartbeats 4000000 in
theorem k_X6_themesIn {X : gX} {own : String} {cc : ByteArray} {nL : Nat} {ret : Option FieldType} {Ts : List Cond} {fr lm : Nat} {Q : State → Prop} {ms : List va_W} {L : List (Option Value)} {st : List Value} {pc pc' idx : Nat} {ρ : Type} {T : Int32 → Option ρ} {res : ρ} (C : cx X own cc nL ret Ts fr lm) (a : Nat → Nat) (N : Nat) (M : tS) (p0 : Int32) (is : List Nat) (hC : is.map (fun i => ms[i]?) = [some (mdW (gcA X) a M)]) (hn : is.Nodup) (hG : GoodIn Ts (wsV own idx RX6 yX6_themesIn wsX6_themesIn)) (hR : 2 + 1 ≤ fr ∧ 8 + (6 + 11) + 43 ≤ lm) (hst : (st.map fun v => v.category).sum ≤ 8) (hLn : L.length = nL) (d : decode cc pc = .ok (.invokevirtual idx, 3)) (hp : pc + 3 = pc') (h : bd (f_X6_themesIn N M p0) T = some res) (kk : ∀ (r : Int32), T r = some res → G X Q (ms) L (.int r :: st) pc') : G X Q ms L (.int p0 :: .ref (a 0) :: st) pc := by
  obtain ⟨r, h1, h⟩ := ob h
  exact G_callVI C (As := [.int p0]) (c_X6_themesIn (gl X) (gD X) (gcA X) a N M p0 r h1) hG rfl nd_X6_themesIn hR (q0 := 0) rfl rfl hC hn rfl rfl hst hLn d hp (G_ms (rpl_same (mc := [mdW (gcA X) a M]) hC) (kk r h))
theorem hi_X6_middleOf_X6 : ∀ w ∈ wsX60, w ∈ wsX6_middleOf := fun w h => List.mem_cons_of_mem _ (List.mem_append_right _ h)
theorem lk_X6_middleOf_1 : Cond.fieldLink RX6 7 "NoteThemesModel" "s" "[I" ∈ wsX6_middleOf := List.mem_of_getElem? (i := 1) rfl
theorem lk_X6_middleOf_2 : Cond.fieldLink RX6 23 "NoteThemesModel" "heapOf" "[I" ∈ wsX6_middleOf := List.mem_of_getElem? (i := 2) rfl
def f_X6_middleOf_123 (N : Nat) (M : tS) (p0 : Int32) (k8 : Int32 → Int32 → Int32 → Option (Int32)) (x2 : Int32) (x4 : Int32) (t0 : Int32) : Option (Int32) := k8 x2 t0 (x4 + 1)
set_option maxRecDepth 100000 in
set_option maxHeartbeats 4000000 in
theorem B_X6_middleOf_123 {X : gX} (C : cx X RX6 cX6_middleOf 7 (some .int) wsX6_middleOf 2 44) (a : Nat → Nat) (N : Nat) (M : tS) (p0 : Int32) (r : Int32) (k8 : Int32 → Int32 → Int32 → Option (Int32)) (hk8 : ∀ (x2 : Int32) (x3 : Int32) (x4 : Int32), k8 x2 x3 x4 = some r → G X (QI X r [mdW (gcA X) a M]) [mdW (gcA X) a M] [some (.ref (a 0)), some (.int p0), some (.int x2), some (.int x3), some (.int x4), none, none] [] 8) (x2 : Int32) (x4 : Int32) (t0 : Int32) (h : f_X6_middleOf_123 N M p0 k8 x2 x4 t0 = some r) : G X (QI X r [mdW (gcA X) a M]) [mdW (gcA X) a M] [some (.ref (a 0)), some (.int p0), some (.int x2), none, some (.int x4), none, none] [.int t0] 123 := by
  unfold f_X6_middleOf_123 at h
  refine g_istore_n (pc' := 124) C dX6_middleOf_123 (Nat.le_of_ble_eq_true rfl) rfl (L' := [some (.ref (a 0)), some (.int p0), some (.int x2), some (.int t0), some (.int x4), none, none]) rfl ?_
  refine g_iinc (pc' := 127) (v := (x4 + 1)) C dX6_middleOf_124 rfl rfl rfl (L' := [some (.ref (a 0)), some (.int p0), some (.int x2), some (.int t0), some (.int (x4 + 1)), none, none]) rfl ?_
  refine g_goto (pc' := 8) C dX6_middleOf_127 (by decide) ?_
  exact G_loc (lle_s (lle_s (lle_s (lle_s (lle_s (lle_n (lle_n lle_0))))))) (hk8 x2 t0 (x4 + 1) h)
def f_X6_middleOf_111 (N : Nat) (M : tS) (p0 : Int32) (k8 : Int32 → Int32 → Int32 → Option (Int32)) (x3 : Int32) (x4 : Int32) (x5 : Int32) (x6 : Int32) (t0 : Int32) : Option (Int32) := (if x6 = 0 then f_X6_middleOf_123 N M p0 k8 t0 x4 x3 else f_X6_middleOf_123 N M p0 k8 t0 x4 x5)
set_option maxRecDepth 100000 in
set_option maxHeartbeats 4000000 in
theorem B_X6_middleOf_111 {X : gX} (C : cx X RX6 cX6_middleOf 7 (some .int) wsX6_middleOf 2 44) (a : Nat → Nat) (N : Nat) (M : tS) (p0 : Int32) (r : Int32) (k8 : Int32 → Int32 → Int32 → Option (Int32)) (hk8 : ∀ (x2 : Int32) (x3 : Int32) (x4 : Int32), k8 x2 x3 x4 = some r → G X (QI X r [mdW (gcA X) a M]) [mdW (gcA X) a M] [some (.ref (a 0)), some (.int p0), some (.int x2), some (.int x3), some (.int x4), none, none] [] 8) (x3 : Int32) (x4 : Int32) (x5 : Int32) (x6 : Int32) (t0 : Int32) (h : f_X6_middleOf_111 N M p0 k8 x3 x4 x5 x6 t0 = some r) : G X (QI X r [mdW (gcA X) a M]) [mdW (gcA X) a M] [some (.ref (a 0)), some (.int p0), none, some (.int x3), some (.int x4), some (.int x5), some (.int x6)] [.int t0] 111 := by
  unfold f_X6_middleOf_111 at h
  refine g_istore_n (pc' := 112) C dX6_middleOf_111 (Nat.le_of_ble_eq_true rfl) rfl (L' := [some (.ref (a 0)), some (.int p0), some (.int t0), some (.int x3), some (.int x4), some (.int x5), some (.int x6)]) rfl ?_
  refine g_iload (pc' := 114) C dX6_middleOf_112 rfl rfl ?_
  refine g_if_eq (pc' := 117) (tgt := 122) C dX6_middleOf_114 (by decide) rfl h (fun c h => ?_) (fun c h => ?_)
  · refine g_iload_n (pc' := 123) C dX6_middleOf_122 rfl rfl ?_
    exact G_loc (lle_s (lle_s (lle_s (lle_n (lle_s (lle_n (lle_n lle_0))))))) (B_X6_middleOf_123 C a N M p0 r k8 hk8 t0 x4 x3 h)
  · refine g_iload (pc' := 119) C dX6_middleOf_117 rfl rfl ?_
    refine g_goto (pc' := 123) C dX6_middleOf_119 (by decide) ?_
    exact G_loc (lle_s (lle_s (lle_s (lle_n (lle_s (lle_n (lle_n lle_0))))))) (B_X6_middleOf_123 C a N M p0 r k8 hk8 t0 x4 x5 h)
def f_X6_middleOf_98 (N : Nat) (M : tS) (p0 : Int32) (k8 : Int32 → Int32 → Int32 → Option (Int32)) (x2 : Int32) (x3 : Int32) (x4 : Int32) (x5 : Int32) (t0 : Int32) : Option (Int32) := (if t0 = 0 then f_X6_middleOf_111 N M p0 k8 x3 x4 x5 t0 x2 else f_X6_middleOf_111 N M p0 k8 x3 x4 x5 t0 x4)
set_option maxRecDepth 100000 in
set_option maxHeartbeats 4000000 in
theorem B_X6_middleOf_98 {X : gX} (C : cx X RX6 cX6_middleOf 7 (some .int) wsX6_middleOf 2 44) (a : Nat → Nat) (N : Nat) (M : tS) (p0 : Int32) (r : Int32) (k8 : Int32 → Int32 → Int32 → Option (Int32)) (hk8 : ∀ (x2 : Int32) (x3 : Int32) (x4 : Int32), k8 x2 x3 x4 = some r → G X (QI X r [mdW (gcA X) a M]) [mdW (gcA X) a M] [some (.ref (a 0)), some (.int p0), some (.int x2), some (.int x3), some (.int x4), none, none] [] 8) (x2 : Int32) (x3 : Int32) (x4 : Int32) (x5 : Int32) (t0 : Int32) (h : f_X6_middleOf_98 N M p0 k8 x2 x3 x4 x5 t0 = some r) : G X (QI X r [mdW (gcA X) a M]) [mdW (gcA X) a M] [some (.ref (a 0)), some (.int p0), some (.int x2), some (.int x3), some (.int x4), some (.int x5), none] [.int t0] 98 := by
  unfold f_X6_middleOf_98 at h
  refine g_istore (pc' := 100) C dX6_middleOf_98 (Nat.le_of_ble_eq_true rfl) rfl (L' := [some (.ref (a 0)), some (.int p0), some (.int x2), some (.int x3), some (.int x4), some (.int x5), some (.int t0)]) rfl ?_
  refine g_iload (pc' := 102) C dX6_middleOf_100 rfl rfl ?_
  refine g_if_eq (pc' := 105) (tgt := 110) C dX6_middleOf_102 (by decide) rfl h (fun c h => ?_) (fun c h => ?_)
  · refine g_iload_n (pc' := 111) C dX6_middleOf_110 rfl rfl ?_
    exact G_loc (lle_s (lle_s (lle_n (lle_s (lle_s (lle_s (lle_s lle_0))))))) (B_X6_middleOf_111 C a N M p0 r k8 hk8 x3 x4 x5 t0 x2 h)
  · refine g_iload (pc' := 107) C dX6_middleOf_105 rfl rfl ?_
    refine g_goto (pc' := 111) C dX6_middleOf_107 (by decide) ?_
    exact G_loc (lle_s (lle_s (lle_n (lle_s (lle_s (lle_s (lle_s lle_0))))))) (B_X6_middleOf_111 C a N M p0 r k8 hk8 x3 x4 x5 t0 x4 h)
def f_X6_middleOf_97 (N : Nat) (M : tS) (p0 : Int32) (k8 : Int32 → Int32 → Int32 → Option (Int32)) (x2 : Int32) (x3 : Int32) (x4 : Int32) (x5 : Int32) : Option (Int32) := f_X6_middleOf_98 N M p0 k8 x2 x3 x4 x5 (0 : Int32)
set_option maxRecDepth 100000 in
set_option maxHeartbeats 4000000 in
theorem B_X6_middleOf_97 {X : gX} (C : cx X RX6 cX6_middleOf 7 (some .int) wsX6_middleOf 2 44) (a : Nat → Nat) (N : Nat) (M : tS) (p0 : Int32) (r : Int32) (k8 : Int32 → Int32 → Int32 → Option (Int32)) (hk8 : ∀ (x2 : Int32) (x3 : Int32) (x4 : Int32), k8 x2 x3 x4 = some r → G X (QI X r [mdW (gcA X) a M]) [mdW (gcA X) a M] [some (.ref (a 0)), some (.int p0), some (.int x2), some (.int x3), some (.int x4), none, none] [] 8) (x2 : Int32) (x3 : Int32) (x4 : Int32) (x5 : Int32) (h : f_X6_middleOf_97 N M p0 k8 x2 x3 x4 x5 = some r) : G X (QI X r [mdW (gcA X) a M]) [mdW (gcA X) a M] [some (.ref (a 0)), some (.int p0), some (.int x2), some (.int x3), some (.int x4), some (.int x5), none] [] 97 := by
  unfold f_X6_middleOf_97 at h
  refine g_iconst (pc' := 98) (v := 0) C dX6_middleOf_97 (by decide) rfl ?_
  exact G_loc (lle_s (lle_s (lle_s (lle_s (lle_s (lle_s (lle_n lle_0))))))) (B_X6_middleOf_98 C a N M p0 r k8 hk8 x2 x3 x4 x5 (0 : Int32) h)
def f_X6_middleOf_93 (N : Nat) (M : tS) (p0 : Int32) (k8 : Int32 → Int32 → Int32 → Option (Int32)) (x2 : Int32) (x3 : Int32) (x4 : Int32) (x5 : Int32) : Option (Int32) := f_X6_middleOf_98 N M p0 k8 x2 x3 x4 x5 (1 : Int32)
set_option maxRecDepth 100000 in
set_option maxHeartbeats 4000000 in
theorem B_X6_middleOf_93 {X : gX} (C : cx X RX6 cX6_middleOf 7 (some .int) wsX6_middleOf 2 44) (a : Nat → Nat) (N : Nat) (M : tS) (p0 : Int32) (r : Int32) (k8 : Int32 → Int32 → Int32 → Option (Int32)) (hk8 : ∀ (x2 : Int32) (x3 : Int32) (x4 : Int32), k8 x2 x3 x4 = some r → G X (QI X r [mdW (gcA X) a M]) [mdW (gcA X) a M] [some (.ref (a 0)), some (.int p0), some (.int x2), some (.int x3), some (.int x4), none, none] [] 8) (x2 : Int32) (x3 : Int32) (x4 : Int32) (x5 : Int32) (h : f_X6_middleOf_93 N M p0 k8 x2 x3 x4 x5 = some r) : G X (QI X r [mdW (gcA X) a M]) [mdW (gcA X) a M] [some (.ref (a 0)), some (.int p0), some (.int x2), some (.int x3), some (.int x4), some (.int x5), none] [] 93 := by
  unfold f_X6_middleOf_93 at h
  refine g_iconst (pc' := 94) (v := 1) C dX6_middleOf_93 (by decide) rfl ?_
  refine g_goto (pc' := 98) C dX6_middleOf_94 (by decide) ?_
  exact G_loc (lle_s (lle_s (lle_s (lle_s (lle_s (lle_s (lle_n lle_0))))))) (B_X6_middleOf_98 C a N M p0 r k8 hk8 x2 x3 x4 x5 (1 : Int32) h)
def f_X6_middleOf_61 (N : Nat) (M : tS) (p0 : Int32) (k8 : Int32 → Int32 → Int32 → Option (Int32)) (k25 : Int32 → Int32 → Int32 → Int32 → Int32 → Option (Int32)) (x2 : Int32) (x3 : Int32) (x4 : Int32) (x6 : Int32) (t0 : Int32) (t1 : Int32) : Option (Int32) := k25 x2 x3 x4 (t1 + t0) (x6 + 1)
set_option maxRecDepth 100000 in
set_option maxHeartbeats 4000000 in
theorem B_X6_middleOf_61 {X : gX} (C : cx X RX6 cX6_middleOf 7 (some .int) wsX6_middleOf 2 44) (a : Nat → Nat) (N : Nat) (M : tS) (p0 : Int32) (r : Int32) (k8 : Int32 → Int32 → Int32 → Option (Int32)) (hk8 : ∀ (x2 : Int32) (x3 : Int32) (x4 : Int32), k8 x2 x3 x4 = some r → G X (QI X r [mdW (gcA X) a M]) [mdW (gcA X) a M] [some (.ref (a 0)), some (.int p0), some (.int x2), some (.int x3), some (.int x4), none, none] [] 8) (k25 : Int32 → Int32 → Int32 → Int32 → Int32 → Option (Int32)) (hk25 : ∀ (x2 : Int32) (x3 : Int32) (x4 : Int32) (x5 : Int32) (x6 : Int32), k25 x2 x3 x4 x5 x6 = some r → G X (QI X r [mdW (gcA X) a M]) [mdW (gcA X) a M] [some (.ref (a 0)), some (.int p0), some (.int x2), some (.int x3), some (.int x4), some (.int x5), some (.int x6)] [] 25) (x2 : Int32) (x3 : Int32) (x4 : Int32) (x6 : Int32) (t0 : Int32) (t1 : Int32) (h : f_X6_middleOf_61 N M p0 k8 k25 x2 x3 x4 x6 t0 t1 = some r) : G X (QI X r [mdW (gcA X) a M]) [mdW (gcA X) a M] [some (.ref (a 0)), some (.int p0), some (.int x2), some (.int x3), some (.int x4), none, some (.int x6)] [.int t0, .int t1] 61 := by
  unfold f_X6_middleOf_61 at h
  refine g_iadd (pc' := 62) C dX6_middleOf_61 rfl ?_
  refine g_istore (pc' := 64) C dX6_middleOf_62 (Nat.le_of_ble_eq_true rfl) rfl (L' := [some (.ref (a 0)), some (.int p0), some (.int x2), some (.int x3), some (.int x4), some (.int (t1 + t0)), some (.int x6)]) rfl ?_
  refine g_iinc (pc' := 67) (v := (x6 + 1)) C dX6_middleOf_64 rfl rfl rfl (L' := [some (.ref (a 0)), some (.int p0), some (.int x2), some (.int x3), some (.int x4), some (.int (t1 + t0)), some (.int (x6 + 1))]) rfl ?_
  refine g_goto (pc' := 25) C dX6_middleOf_67 (by decide) ?_
  exact G_loc (lle_s (lle_s (lle_s (lle_s (lle_s (lle_s (lle_s lle_0))))))) (hk25 x2 x3 x4 (t1 + t0) (x6 + 1) h)
def f_X6_middleOf_25b (N : Nat) (M : tS) (p0 : Int32) (k8 : Int32 → Int32 → Int32 → Option (Int32)) (k25 : Int32 → Int32 → Int32 → Int32 → Int32 → Option (Int32)) (x2 : Int32) (x3 : Int32) (x4 : Int32) (x5 : Int32) (x6 : Int32) : Option (Int32) := (if (M 0 (0 : Int32).toNatClampNeg) ≤ x6 then (if x4 < 0 ∨ 20 ≤ x4.toNatClampNeg then none else (if (M 7 x4.toNatClampNeg) = p0 then (if x2 = (-5 : Int32) then f_X6_middleOf_93 N M p0 k8 x2 x3 x4 x5 else (if x3 ≤ x5 then f_X6_middleOf_97 N M p0 k8 x2 x3 x4 x5 else f_X6_middleOf_93 N M p0 k8 x2 x3 x4 x5)) else f_X6_middleOf_97 N M p0 k8 x2 x3 x4 x5)) else (if x6 < 0 ∨ 20 ≤ x6.toNatClampNeg then none else (if (M 7 x6.toNatClampNeg) = p0 then (bd (f_X6_distance N M x6 x4) (fun r1 => f_X6_middleOf_61 N M p0 k8 k25 x2 x3 x4 x6 r1 x5)) else f_X6_middleOf_61 N M p0 k8 k25 x2 x3 x4 x6 (0 : Int32) x5)))
def f_X6_middleOf_25 (N : Nat) (M : tS) (p0 : Int32) (k8 : Int32 → Int32 → Int32 → Option (Int32)) : Nat → Int32 → Int32 → Int32 → Int32 → Int32 → Option (Int32)
  | 0 => fun _ _ _ _ _ => none
  | n + 1 => f_X6_middleOf_25b N M p0 k8 (f_X6_middleOf_25 N M p0 k8 n)
set_option maxRecDepth 100000 in
set_option maxHeartbeats 4000000 in
theorem B_X6_middleOf_25b {X : gX} (C : cx X RX6 cX6_middleOf 7 (some .int) wsX6_middleOf 2 44) (a : Nat → Nat) (N : Nat) (M : tS) (p0 : Int32) (r : Int32) (k8 : Int32 → Int32 → Int32 → Option (Int32)) (hk8 : ∀ (x2 : Int32) (x3 : Int32) (x4 : Int32), k8 x2 x3 x4 = some r → G X (QI X r [mdW (gcA X) a M]) [mdW (gcA X) a M] [some (.ref (a 0)), some (.int p0), some (.int x2), some (.int x3), some (.int x4), none, none] [] 8) (k25 : Int32 → Int32 → Int32 → Int32 → Int32 → Option (Int32)) (hk25 : ∀ (x2 : Int32) (x3 : Int32) (x4 : Int32) (x5 : Int32) (x6 : Int32), k25 x2 x3 x4 x5 x6 = some r → G X (QI X r [mdW (gcA X) a M]) [mdW (gcA X) a M] [some (.ref (a 0)), some (.int p0), some (.int x2), some (.int x3), some (.int x4), some (.int x5), some (.int x6)] [] 25) (x2 : Int32) (x3 : Int32) (x4 : Int32) (x5 : Int32) (x6 : Int32) (h : f_X6_middleOf_25b N M p0 k8 k25 x2 x3 x4 x5 x6 = some r) : G X (QI X r [mdW (gcA X) a M]) [mdW (gcA X) a M] [some (.ref (a 0)), some (.int p0), some (.int x2), some (.int x3), some (.int x4), some (.int x5), some (.int x6)] [] 25 := by
  unfold f_X6_middleOf_25b at h
  refine g_iload (pc' := 27) C dX6_middleOf_25 rfl rfl ?_
  refine g_aload_n (pc' := 28) C dX6_middleOf_27 rfl rfl ?_
  refine gg_X6_0 (pc' := 31) (i := 0) C rfl hi_X6_middleOf_X6 lk_X6_middleOf_1 dX6_middleOf_28 rfl ?_
  refine g_iconst (pc' := 32) (v := 0) C dX6_middleOf_31 (by decide) rfl ?_
  refine g_iald0 (pc' := 33) (i := 0) (j := 1) C rfl rfl dX6_middleOf_32 rfl (by unfold vp_in; decide) ?_
  refine g_icmp_ge (pc' := 36) (tgt := 70) C dX6_middleOf_33 (by decide) rfl h (fun c h => ?_) (fun c h => ?_)
  · refine g_aload_n (pc' := 71) C dX6_middleOf_70 rfl rfl ?_
    refine gg_X6_7 (pc' := 74) (i := 0) C rfl hi_X6_middleOf_X6 lk_X6_middleOf_2 dX6_middleOf_71 rfl ?_
    refine g_iload (pc' := 76) C dX6_middleOf_74 rfl rfl ?_
    refine g_iald (pc' := 77) (i := 0) (j := 5) C rfl rfl dX6_middleOf_76 rfl h (fun h => ?_)
    refine g_iload_n (pc' := 78) C dX6_middleOf_77 rfl rfl ?_
    refine g_icmp_ne (pc' := 81) (tgt := 97) C dX6_middleOf_78 (by decide) rfl h (fun c h => ?_) (fun c h => ?_)
    · refine g_iload_n (pc' := 82) C dX6_middleOf_81 rfl rfl ?_
      refine g_bipush (pc' := 84) (v := -5) C dX6_middleOf_82 (by decide) rfl ?_
      refine g_icmp_eq (pc' := 87) (tgt := 93) C dX6_middleOf_84 (by decide) rfl h (fun c h => ?_) (fun c h => ?_)
      · exact G_loc (lle_s (lle_s (lle_s (lle_s (lle_s (lle_s (lle_n lle_0))))))) (B_X6_middleOf_93 C a N M p0 r k8 hk8 x2 x3 x4 x5 h)
      · refine g_iload (pc' := 89) C dX6_middleOf_87 rfl rfl ?_
        refine g_iload_n (pc' := 90) C dX6_middleOf_89 rfl rfl ?_
        refine g_icmp_ge (pc' := 93) (tgt := 97) C dX6_middleOf_90 (by decide) rfl h (fun c h => ?_) (fun c h => ?_)
        · exact G_loc (lle_s (lle_s (lle_s (lle_s (lle_s (lle_s (lle_n lle_0))))))) (B_X6_middleOf_97 C a N M p0 r k8 hk8 x2 x3 x4 x5 h)
        · exact G_loc (lle_s (lle_s (lle_s (lle_s (lle_s (lle_s (lle_n lle_0))))))) (B_X6_middleOf_93 C a N M p0 r k8 hk8 x2 x3 x4 x5 h)
    · exact G_loc (lle_s (lle_s (lle_s (lle_s (lle_s (lle_s (lle_n lle_0))))))) (B_X6_middleOf_97 C a N M p0 r k8 hk8 x2 x3 x4 x5 h)
  · refine g_iload (pc' := 38) C dX6_middleOf_36 rfl rfl ?_
    refine g_aload_n (pc' := 39) C dX6_middleOf_38 rfl rfl ?_
    refine gg_X6_7 (pc' := 42) (i := 0) C rfl hi_X6_middleOf_X6 lk_X6_middleOf_2 dX6_middleOf_39 rfl ?_
    refine g_iload (pc' := 44) C dX6_middleOf_42 rfl rfl ?_
    refine g_iald (pc' := 45) (i := 0) (j := 5) C rfl rfl dX6_middleOf_44 rfl h (fun h => ?_)
    refine g_iload_n (pc' := 46) C dX6_middleOf_45 rfl rfl ?_
    refine g_icmp_ne (pc' := 49) (tgt := 60) C dX6_middleOf_46 (by decide) rfl h (fun c h => ?_) (fun c h => ?_)
    · refine g_aload_n (pc' := 50) C dX6_middleOf_49 rfl rfl ?_
      refine g_iload (pc' := 52) C dX6_middleOf_50 rfl rfl ?_
      refine g_iload (pc' := 54) C dX6_middleOf_52 rfl rfl ?_
      refine k_X6_distance (pc' := 57) C a N M x6 x4 [0] rfl (by decide) gX6_middleOf_X6_distance ⟨Nat.le_of_ble_eq_true rfl, Nat.le_of_ble_eq_true rfl⟩ (Nat.le_of_ble_eq_true rfl) rfl dX6_middleOf_54 rfl h (fun r1 h => ?_)
      refine g_goto (pc' := 61) C dX6_middleOf_57 (by decide) ?_
      exact G_loc (lle_s (lle_s (lle_s (lle_s (lle_s (lle_n (lle_s lle_0))))))) (B_X6_middleOf_61 C a N M p0 r k8 hk8 k25 hk25 x2 x3 x4 x6 r1 x5 h)
    · refine g_iconst (pc' := 61) (v := 0) C dX6_middleOf_60 (by decide) rfl ?_
      exact G_loc (lle_s (lle_s (lle_s (lle_s (lle_s (lle_n (lle_s lle_0))))))) (B_X6_middleOf_61 C a N M p0 r k8 hk8 k25 hk25 x2 x3 x4 x6 (0 : Int32) x5 h)
set_option maxRecDepth 100000 in
set_option maxHeartbeats 4000000 in
theorem L_X6_middleOf_25 {X : gX} (C : cx X RX6 cX6_middleOf 7 (some .int) wsX6_middleOf 2 44) (a : Nat → Nat) (N : Nat) (M : tS) (p0 : Int32) (r : Int32) (k8 : Int32 → Int32 → Int32 → Option (Int32)) (hk8 : ∀ (x2 : Int32) (x3 : Int32) (x4 : Int32), k8 x2 x3 x4 = some r → G X (QI X r [mdW (gcA X) a M]) [mdW (gcA X) a M] [some (.ref (a 0)), some (.int p0), some (.int x2), some (.int x3), some (.int x4), none, none] [] 8) : ∀ (n : Nat) (x2 : Int32) (x3 : Int32) (x4 : Int32) (x5 : Int32) (x6 : Int32), f_X6_middleOf_25 N M p0 k8 n x2 x3 x4 x5 x6 = some r → G X (QI X r [mdW (gcA X) a M]) [mdW (gcA X) a M] [some (.ref (a 0)), some (.int p0), some (.int x2), some (.int x3), some (.int x4), some (.int x5), some (.int x6)] [] 25 := by
  intro n
  induction n with
  | zero => intro x2 x3 x4 x5 x6 h; have h : (none : Option (Int32)) = some r := h; cases h
  | succ n ih => intro x2 x3 x4 x5 x6 h; exact B_X6_middleOf_25b C a N M p0 r k8 hk8 (f_X6_middleOf_25 N M p0 k8 n) ih x2 x3 x4 x5 x6 h
def f_X6_middleOf_8b (N : Nat) (M : tS) (p0 : Int32)  (k8 : Int32 → Int32 → Int32 → Option (Int32)) (x2 : Int32) (x3 : Int32) (x4 : Int32) : Option (Int32) := (if (M 0 (0 : Int32).toNatClampNeg) ≤ x4 then some x2 else f_X6_middleOf_25 N M p0 k8 N x2 x3 x4 (0 : Int32) (0 : Int32))
def f_X6_middleOf_8 (N : Nat) (M : tS) (p0 : Int32)  : Nat → Int32 → Int32 → Int32 → Option (Int32)
  | 0 => fun _ _ _ => none
  | n + 1 => f_X6_middleOf_8b N M p0  (f_X6_middleOf_8 N M p0  n)
set_option maxRecDepth 100000 in
set_option maxHeartbeats 4000000 in
theorem B_X6_middleOf_8b {X : gX} (C : cx X RX6 cX6_middleOf 7 (some .int) wsX6_middleOf 2 44) (a : Nat → Nat) (N : Nat) (M : tS) (p0 : Int32) (r : Int32)  (k8 : Int32 → Int32 → Int32 → Option (Int32)) (hk8 : ∀ (x2 : Int32) (x3 : Int32) (x4 : Int32), k8 x2 x3 x4 = some r → G X (QI X r [mdW (gcA X) a M]) [mdW (gcA X) a M] [some (.ref (a 0)), some (.int p0), some (.int x2), some (.int x3), some (.int x4), none, none] [] 8) (x2 : Int32) (x3 : Int32) (x4 : Int32) (h : f_X6_middleOf_8b N M p0  k8 x2 x3 x4 = some r) : G X (QI X r [mdW (gcA X) a M]) [mdW (gcA X) a M] [some (.ref (a 0)), some (.int p0), some (.int x2), some (.int x3), some (.int x4), none, none] [] 8 := by
  unfold f_X6_middleOf_8b at h
  refine g_iload (pc' := 10) C dX6_middleOf_8 rfl rfl ?_
  refine g_aload_n (pc' := 11) C dX6_middleOf_10 rfl rfl ?_
  refine gg_X6_0 (pc' := 14) (i := 0) C rfl hi_X6_middleOf_X6 lk_X6_middleOf_1 dX6_middleOf_11 rfl ?_
  refine g_iconst (pc' := 15) (v := 0) C dX6_middleOf_14 (by decide) rfl ?_
  refine g_iald0 (pc' := 16) (i := 0) (j := 1) C rfl rfl dX6_middleOf_15 rfl (by unfold vp_in; decide) ?_
  refine g_icmp_ge (pc' := 19) (tgt := 130) C dX6_middleOf_16 (by decide) rfl h (fun c h => ?_) (fun c h => ?_)
  · refine g_iload_n (pc' := 131) C dX6_middleOf_130 rfl rfl ?_
    obtain rfl := Option.some.inj h
    exact g_iret C dX6_middleOf_131
  · refine g_iconst (pc' := 20) (v := 0) C dX6_middleOf_19 (by decide) rfl ?_
    refine g_istore (pc' := 22) C dX6_middleOf_20 (Nat.le_of_ble_eq_true rfl) rfl (L' := [some (.ref (a 0)), some (.int p0), some (.int x2), some (.int x3), some (.int x4), some (.int (0 : Int32)), none]) rfl ?_
    refine g_iconst (pc' := 23) (v := 0) C dX6_middleOf_22 (by decide) rfl ?_
    refine g_istore (pc' := 25) C dX6_middleOf_23 (Nat.le_of_ble_eq_true rfl) rfl (L' := [some (.ref (a 0)), some (.int p0), some (.int x2), some (.int x3), some (.int x4), some (.int (0 : Int32)), some (.int (0 : Int32))]) rfl ?_
    exact G_loc (lle_s (lle_s (lle_s (lle_s (lle_s (lle_s (lle_s lle_0))))))) (L_X6_middleOf_25 C a N M p0 r k8 hk8 N x2 x3 x4 (0 : Int32) (0 : Int32) h)
set_option maxRecDepth 100000 in
set_option maxHeartbeats 4000000 in
theorem L_X6_middleOf_8 {X : gX} (C : cx X RX6 cX6_middleOf 7 (some .int) wsX6_middleOf 2 44) (a : Nat → Nat) (N : Nat) (M : tS) (p0 : Int32) (r : Int32)  : ∀ (n : Nat) (x2 : Int32) (x3 : Int32) (x4 : Int32), f_X6_middleOf_8 N M p0  n x2 x3 x4 = some r → G X (QI X r [mdW (gcA X) a M]) [mdW (gcA X) a M] [some (.ref (a 0)), some (.int p0), some (.int x2), some (.int x3), some (.int x4), none, none] [] 8 := by
  intro n
  induction n with
  | zero => intro x2 x3 x4 h; have h : (none : Option (Int32)) = some r := h; cases h
  | succ n ih => intro x2 x3 x4 h; exact B_X6_middleOf_8b C a N M p0 r  (f_X6_middleOf_8 N M p0  n) ih x2 x3 x4 h
def f_X6_middleOf (N : Nat) (M : tS) (p0 : Int32) : Option (Int32) := f_X6_middleOf_8 N M p0 N (-5 : Int32) (0 : Int32) (0 : Int32)
set_option maxRecDepth 100000 in
set_option maxHeartbeats 4000000 in
theorem B_X6_middleOf {X : gX} (C : cx X RX6 cX6_middleOf 7 (some .int) wsX6_middleOf 2 44) (a : Nat → Nat) (N : Nat) (M : tS) (p0 : Int32) (r : Int32) (h : f_X6_middleOf N M p0 = some r) : G X (QI X r [mdW (gcA X) a M]) [mdW (gcA X) a M] [some (.ref (a 0)), some (.int p0), none, none, none, none, none] [] 0 := by
  unfold f_X6_middleOf at h
  refine g_bipush (pc' := 2) (v := -5) C dX6_middleOf_0 (by decide) rfl ?_
  refine g_istore_n (pc' := 3) C dX6_middleOf_2 (Nat.le_of_ble_eq_true rfl) rfl (L' := [some (.ref (a 0)), some (.int p0), some (.int (-5 : Int32)), none, none, none, none]) rfl ?_
  refine g_iconst (pc' := 4) (v := 0) C dX6_middleOf_3 (by decide) rfl ?_
  refine g_istore_n (pc' := 5) C dX6_middleOf_4 (Nat.le_of_ble_eq_true rfl) rfl (L' := [some (.ref (a 0)), some (.int p0), some (.int (-5 : Int32)), some (.int (0 : Int32)), none, none, none]) rfl ?_
  refine g_iconst (pc' := 6) (v := 0) C dX6_middleOf_5 (by decide) rfl ?_
  refine g_istore (pc' := 8) C dX6_middleOf_6 (Nat.le_of_ble_eq_true rfl) rfl (L' := [some (.ref (a 0)), some (.int p0), some (.int (-5 : Int32)), some (.int (0 : Int32)), some (.int (0 : Int32)), none, none]) rfl ?_
  exact G_loc (lle_s (lle_s (lle_s (lle_s (lle_s (lle_n (lle_n lle_0))))))) (L_X6_middleOf_8 C a N M p0 r N (-5 : Int32) (0 : Int32) (0 : Int32) h)
set_option maxRecDepth 100000 in
set_option maxHeartbeats 4000000 in
theorem c_X6_middleOf (l : Launch) (D : va_G) (cA : Nat → ClassId) (a : Nat → Nat) (N : Nat) (M : tS) (p0 : Int32) (r : Int32) (h : f_X6_middleOf N M p0 = some r) : MI l D cA yX6_middleOf wsX6_middleOf 2 44 [.ref (a 0), .int p0] [mdW cA a M] r [mdW cA a M] := MI_of (cc := cX6_middleOf) (maxL := 7) (rt := some .int) (by decide +kernel) rfl (List.forall_mem_cons.mpr ⟨rfl, List.forall_mem_cons.mpr ⟨rfl, List.forall_mem_nil _⟩⟩) (Nat.le_of_ble_eq_true rfl) (fun X e1 e2 e3 C => by subst e1; subst e2; subst e3; exact B_X6_middleOf C a N M p0 r h)
set_option maxRecDepth 100000 in
set_option maxHeartbeats 4000000 in
theorem nd_X6_middleOf : nd yX6_middleOf 1 := ⟨by decide +kernel, by decide +kernel, by decide +kernel⟩
set_option maxRecDepth 100000 in
set_option maxHeartbeats 4000000 in
theorem k_X6_middleOf {X : gX} {own : String} {cc : ByteArray} {nL : Nat} {ret : Option FieldType} {Ts : List Cond} {fr lm : Nat} {Q : State → Prop} {ms : List va_W} {L : List (Option Value)} {st : List Value} {pc pc' idx : Nat} {ρ : Type} {T : Int32 → Option ρ} {res : ρ} (C : cx X own cc nL ret Ts fr lm) (a : Nat → Nat) (N : Nat) (M : tS) (p0 : Int32) (is : List Nat) (hC : is.map (fun i => ms[i]?) = [some (mdW (gcA X) a M)]) (hn : is.Nodup) (hG : GoodIn Ts (wsV own idx RX6 yX6_middleOf wsX6_middleOf)) (hR : 2 + 1 ≤ fr ∧ 8 + (7 + 11) + 44 ≤ lm) (hst : (st.map fun v => v.category).sum ≤ 8) (hLn : L.length = nL) (d : decode cc pc = .ok (.invokevirtual idx, 3)) (hp : pc + 3 = pc') (h : bd (f_X6_middleOf N M p0) T = some res) (kk : ∀ (r : Int32), T r = some res → G X Q (ms) L (.int r :: st) pc') : G X Q ms L (.int p0 :: .ref (a 0) :: st) pc := by
  obtain ⟨r, h1, h⟩ := ob h
  exact G_callVI C (As := [.int p0]) (c_X6_middleOf (gl X) (gD X) (gcA X) a N M p0 r h1) hG rfl nd_X6_middleOf hR (q0 := 0) rfl rfl hC hn rfl rfl hst hLn d hp (G_ms (rpl_same (mc := [mdW (gcA X) a M]) hC) (kk r h))
theorem hi_X6_widthOf_X6 : ∀ w ∈ wsX60, w ∈ wsX6_widthOf := fun w h => List.mem_cons_of_mem _ (List.mem_append_right _ h)
theorem lk_X6_widthOf_1 : Cond.fieldLink RX6 7 "NoteThemesModel" "s" "[I" ∈ wsX6_widthOf := List.mem_of_getElem? (i := 1) rfl
theorem lk_X6_widthOf_2 : Cond.fieldLink RX6 23 "NoteThemesModel" "heapOf" "[I" ∈ wsX6_widthOf := List.mem_of_getElem? (i := 2) rfl
def f_X6_widthOf_98 (N : Nat) (M : tS) (p0 : Int32) (k4 : Int32 → Int32 → Option (Int32)) (x3 : Int32) (t0 : Int32) : Option (Int32) := k4 t0 (x3 + 1)
set_option maxRecDepth 100000 in
set_option maxHeartbeats 4000000 in
theorem B_X6_widthOf_98 {X : gX} (C : cx X RX6 cX6_widthOf 7 (some .int) wsX6_widthOf 2 44) (a : Nat → Nat) (N : Nat) (M : tS) (p0 : Int32) (r : Int32) (k4 : Int32 → Int32 → Option (Int32)) (hk4 : ∀ (x2 : Int32) (x3 : Int32), k4 x2 x3 = some r → G X (QI X r [mdW (gcA X) a M]) [mdW (gcA X) a M] [some (.ref (a 0)), some (.int p0), some (.int x2), some (.int x3), none, none, none] [] 4) (x3 : Int32) (t0 : Int32) (h : f_X6_widthOf_98 N M p0 k4 x3 t0 = some r) : G X (QI X r [mdW (gcA X) a M]) [mdW (gcA X) a M] [some (.ref (a 0)), some (.int p0), none, some (.int x3), none, none, none] [.int t0] 98 := by
  unfold f_X6_widthOf_98 at h
  refine g_istore_n (pc' := 99) C dX6_widthOf_98 (Nat.le_of_ble_eq_true rfl) rfl (L' := [some (.ref (a 0)), some (.int p0), some (.int t0), some (.int x3), none, none, none]) rfl ?_
  refine g_iinc (pc' := 102) (v := (x3 + 1)) C dX6_widthOf_99 rfl rfl rfl (L' := [some (.ref (a 0)), some (.int p0), some (.int t0), some (.int (x3 + 1)), none, none, none]) rfl ?_
  refine g_goto (pc' := 4) C dX6_widthOf_102 (by decide) ?_
  exact G_loc (lle_s (lle_s (lle_s (lle_s (lle_n (lle_n (lle_n lle_0))))))) (hk4 t0 (x3 + 1) h)
def f_X6_widthOf_97 (N : Nat) (M : tS) (p0 : Int32) (k4 : Int32 → Int32 → Option (Int32)) (x2 : Int32) (x3 : Int32) : Option (Int32) := f_X6_widthOf_98 N M p0 k4 x3 x2
set_option maxRecDepth 100000 in
set_option maxHeartbeats 4000000 in
theorem B_X6_widthOf_97 {X : gX} (C : cx X RX6 cX6_widthOf 7 (some .int) wsX6_widthOf 2 44) (a : Nat → Nat) (N : Nat) (M : tS) (p0 : Int32) (r : Int32) (k4 : Int32 → Int32 → Option (Int32)) (hk4 : ∀ (x2 : Int32) (x3 : Int32), k4 x2 x3 = some r → G X (QI X r [mdW (gcA X) a M]) [mdW (gcA X) a M] [some (.ref (a 0)), some (.int p0), some (.int x2), some (.int x3), none, none, none] [] 4) (x2 : Int32) (x3 : Int32) (h : f_X6_widthOf_97 N M p0 k4 x2 x3 = some r) : G X (QI X r [mdW (gcA X) a M]) [mdW (gcA X) a M] [some (.ref (a 0)), some (.int p0), some (.int x2), some (.int x3), none, none, none] [] 97 := by
  unfold f_X6_widthOf_97 at h
  refine g_iload_n (pc' := 98) C dX6_widthOf_97 rfl rfl ?_
  exact G_loc (lle_s (lle_s (lle_n (lle_s (lle_n (lle_n (lle_n lle_0))))))) (B_X6_widthOf_98 C a N M p0 r k4 hk4 x3 x2 h)
def f_X6_widthOf_67 (N : Nat) (M : tS) (p0 : Int32) (k4 : Int32 → Int32 → Option (Int32)) (x2 : Int32) (x3 : Int32) (x4 : Int32) (x5 : Int32) (t0 : Int32) : Option (Int32) := (if t0 = 0 then f_X6_widthOf_97 N M p0 k4 x2 x3 else (bd (f_X6_distance N M x4 x5) (fun r1 => (if r1 ≤ x2 then f_X6_widthOf_97 N M p0 k4 x2 x3 else (bd (f_X6_distance N M x4 x5) (fun r2 => f_X6_widthOf_98 N M p0 k4 x3 r2))))))
set_option maxRecDepth 100000 in
set_option maxHeartbeats 4000000 in
theorem B_X6_widthOf_67 {X : gX} (C : cx X RX6 cX6_widthOf 7 (some .int) wsX6_widthOf 2 44) (a : Nat → Nat) (N : Nat) (M : tS) (p0 : Int32) (r : Int32) (k4 : Int32 → Int32 → Option (Int32)) (hk4 : ∀ (x2 : Int32) (x3 : Int32), k4 x2 x3 = some r → G X (QI X r [mdW (gcA X) a M]) [mdW (gcA X) a M] [some (.ref (a 0)), some (.int p0), some (.int x2), some (.int x3), none, none, none] [] 4) (x2 : Int32) (x3 : Int32) (x4 : Int32) (x5 : Int32) (t0 : Int32) (h : f_X6_widthOf_67 N M p0 k4 x2 x3 x4 x5 t0 = some r) : G X (QI X r [mdW (gcA X) a M]) [mdW (gcA X) a M] [some (.ref (a 0)), some (.int p0), some (.int x2), some (.int x3), some (.int x4), some (.int x5), none] [.int t0] 67 := by
  unfold f_X6_widthOf_67 at h
  refine g_istore (pc' := 69) C dX6_widthOf_67 (Nat.le_of_ble_eq_true rfl) rfl (L' := [some (.ref (a 0)), some (.int p0), some (.int x2), some (.int x3), some (.int x4), some (.int x5), some (.int t0)]) rfl ?_
  refine g_iload (pc' := 71) C dX6_widthOf_69 rfl rfl ?_
  refine g_if_eq (pc' := 74) (tgt := 97) C dX6_widthOf_71 (by decide) rfl h (fun c h => ?_) (fun c h => ?_)
  · exact G_loc (lle_s (lle_s (lle_s (lle_s (lle_n (lle_n (lle_n lle_0))))))) (B_X6_widthOf_97 C a N M p0 r k4 hk4 x2 x3 h)
  · refine g_aload_n (pc' := 75) C dX6_widthOf_74 rfl rfl ?_
    refine g_iload (pc' := 77) C dX6_widthOf_75 rfl rfl ?_
    refine g_iload (pc' := 79) C dX6_widthOf_77 rfl rfl ?_
    refine k_X6_distance (pc' := 82) C a N M x4 x5 [0] rfl (by decide) gX6_widthOf_X6_distance ⟨Nat.le_of_ble_eq_true rfl, Nat.le_of_ble_eq_true rfl⟩ (Nat.le_of_ble_eq_true rfl) rfl dX6_widthOf_79 rfl h (fun r1 h => ?_)
    refine g_iload_n (pc' := 83) C dX6_widthOf_82 rfl rfl ?_
    refine g_icmp_le (pc' := 86) (tgt := 97) C dX6_widthOf_83 (by decide) rfl h (fun c h => ?_) (fun c h => ?_)
    · exact G_loc (lle_s (lle_s (lle_s (lle_s (lle_n (lle_n (lle_n lle_0))))))) (B_X6_widthOf_97 C a N M p0 r k4 hk4 x2 x3 h)
    · refine g_aload_n (pc' := 87) C dX6_widthOf_86 rfl rfl ?_
      refine g_iload (pc' := 89) C dX6_widthOf_87 rfl rfl ?_
      refine g_iload (pc' := 91) C dX6_widthOf_89 rfl rfl ?_
      refine k_X6_distance (pc' := 94) C a N M x4 x5 [0] rfl (by decide) gX6_widthOf_X6_distance ⟨Nat.le_of_ble_eq_true rfl, Nat.le_of_ble_eq_true rfl⟩ (Nat.le_of_ble_eq_true rfl) rfl dX6_widthOf_91 rfl h (fun r2 h => ?_)
      refine g_goto (pc' := 98) C dX6_widthOf_94 (by decide) ?_
      exact G_loc (lle_s (lle_s (lle_n (lle_s (lle_n (lle_n (lle_n lle_0))))))) (B_X6_widthOf_98 C a N M p0 r k4 hk4 x3 r2 h)
def f_X6_widthOf_66 (N : Nat) (M : tS) (p0 : Int32) (k4 : Int32 → Int32 → Option (Int32)) (x2 : Int32) (x3 : Int32) (x4 : Int32) (x5 : Int32) : Option (Int32) := f_X6_widthOf_67 N M p0 k4 x2 x3 x4 x5 (0 : Int32)
set_option maxRecDepth 100000 in
set_option maxHeartbeats 4000000 in
theorem B_X6_widthOf_66 {X : gX} (C : cx X RX6 cX6_widthOf 7 (some .int) wsX6_widthOf 2 44) (a : Nat → Nat) (N : Nat) (M : tS) (p0 : Int32) (r : Int32) (k4 : Int32 → Int32 → Option (Int32)) (hk4 : ∀ (x2 : Int32) (x3 : Int32), k4 x2 x3 = some r → G X (QI X r [mdW (gcA X) a M]) [mdW (gcA X) a M] [some (.ref (a 0)), some (.int p0), some (.int x2), some (.int x3), none, none, none] [] 4) (x2 : Int32) (x3 : Int32) (x4 : Int32) (x5 : Int32) (h : f_X6_widthOf_66 N M p0 k4 x2 x3 x4 x5 = some r) : G X (QI X r [mdW (gcA X) a M]) [mdW (gcA X) a M] [some (.ref (a 0)), some (.int p0), some (.int x2), some (.int x3), some (.int x4), some (.int x5), none] [] 66 := by
  unfold f_X6_widthOf_66 at h
  refine g_iconst (pc' := 67) (v := 0) C dX6_widthOf_66 (by decide) rfl ?_
  exact G_loc (lle_s (lle_s (lle_s (lle_s (lle_s (lle_s (lle_n lle_0))))))) (B_X6_widthOf_67 C a N M p0 r k4 hk4 x2 x3 x4 x5 (0 : Int32) h)
def f_X6_widthOf_4b (N : Nat) (M : tS) (p0 : Int32)  (k4 : Int32 → Int32 → Option (Int32)) (x2 : Int32) (x3 : Int32) : Option (Int32) := (if ((20 : Int32) * (M 0 (0 : Int32).toNatClampNeg)) ≤ x3 then some x2 else (if (20 : Int32) = 0 then none else (if (20 : Int32) = 0 then none else (if (M 0 (0 : Int32).toNatClampNeg) ≤ (x3 - x3 / (20 : Int32) * (20 : Int32)) then f_X6_widthOf_66 N M p0 k4 x2 x3 (x3 / (20 : Int32)) (x3 - x3 / (20 : Int32) * (20 : Int32)) else (if (x3 / (20 : Int32)) < 0 ∨ 20 ≤ (x3 / (20 : Int32)).toNatClampNeg then none else (if (M 7 (x3 / (20 : Int32)).toNatClampNeg) = p0 then (if (x3 - x3 / (20 : Int32) * (20 : Int32)) < 0 ∨ 20 ≤ (x3 - x3 / (20 : Int32) * (20 : Int32)).toNatClampNeg then none else (if (M 7 (x3 - x3 / (20 : Int32) * (20 : Int32)).toNatClampNeg) = p0 then f_X6_widthOf_67 N M p0 k4 x2 x3 (x3 / (20 : Int32)) (x3 - x3 / (20 : Int32) * (20 : Int32)) (1 : Int32) else f_X6_widthOf_66 N M p0 k4 x2 x3 (x3 / (20 : Int32)) (x3 - x3 / (20 : Int32) * (20 : Int32)))) else f_X6_widthOf_66 N M p0 k4 x2 x3 (x3 / (20 : Int32)) (x3 - x3 / (20 : Int32) * (20 : Int32))))))))
def f_X6_widthOf_4 (N : Nat) (M : tS) (p0 : Int32)  : Nat → Int32 → Int32 → Option (Int32)
  | 0 => fun _ _ => none
  | n + 1 => f_X6_widthOf_4b N M p0  (f_X6_widthOf_4 N M p0  n)
set_option maxRecDepth 100000 in
set_option maxHeartbeats 4000000 in
theorem B_X6_widthOf_4b {X : gX} (C : cx X RX6 cX6_widthOf 7 (some .int) wsX6_widthOf 2 44) (a : Nat → Nat) (N : Nat) (M : tS) (p0 : Int32) (r : Int32)  (k4 : Int32 → Int32 → Option (Int32)) (hk4 : ∀ (x2 : Int32) (x3 : Int32), k4 x2 x3 = some r → G X (QI X r [mdW (gcA X) a M]) [mdW (gcA X) a M] [some (.ref (a 0)), some (.int p0), some (.int x2), some (.int x3), none, none, none] [] 4) (x2 : Int32) (x3 : Int32) (h : f_X6_widthOf_4b N M p0  k4 x2 x3 = some r) : G X (QI X r [mdW (gcA X) a M]) [mdW (gcA X) a M] [some (.ref (a 0)), some (.int p0), some (.int x2), some (.int x3), none, none, none] [] 4 := by
  unfold f_X6_widthOf_4b at h
  refine g_iload_n (pc' := 5) C dX6_widthOf_4 rfl rfl ?_
  refine g_bipush (pc' := 7) (v := 20) C dX6_widthOf_5 (by decide) rfl ?_
  refine g_aload_n (pc' := 8) C dX6_widthOf_7 rfl rfl ?_
  refine gg_X6_0 (pc' := 11) (i := 0) C rfl hi_X6_widthOf_X6 lk_X6_widthOf_1 dX6_widthOf_8 rfl ?_
  refine g_iconst (pc' := 12) (v := 0) C dX6_widthOf_11 (by decide) rfl ?_
  refine g_iald0 (pc' := 13) (i := 0) (j := 1) C rfl rfl dX6_widthOf_12 rfl (by unfold vp_in; decide) ?_
  refine g_imul (pc' := 14) C dX6_widthOf_13 rfl ?_
  refine g_icmp_ge (pc' := 17) (tgt := 105) C dX6_widthOf_14 (by decide) rfl h (fun c h => ?_) (fun c h => ?_)
  · refine g_iload_n (pc' := 106) C dX6_widthOf_105 rfl rfl ?_
    obtain rfl := Option.some.inj h
    exact g_iret C dX6_widthOf_106
  · refine g_iload_n (pc' := 18) C dX6_widthOf_17 rfl rfl ?_
    refine g_bipush (pc' := 20) (v := 20) C dX6_widthOf_18 (by decide) rfl ?_
    refine g_idiv (pc' := 21) C dX6_widthOf_20 rfl h (fun h => ?_)
    refine g_istore (pc' := 23) C dX6_widthOf_21 (Nat.le_of_ble_eq_true rfl) rfl (L' := [some (.ref (a 0)), some (.int p0), some (.int x2), some (.int x3), some (.int (x3 / (20 : Int32))), none, none]) rfl ?_
    refine g_iload_n (pc' := 24) C dX6_widthOf_23 rfl rfl ?_
    refine g_bipush (pc' := 26) (v := 20) C dX6_widthOf_24 (by decide) rfl ?_
    refine g_irem (pc' := 27) C dX6_widthOf_26 rfl h (fun h => ?_)
    refine g_istore (pc' := 29) C dX6_widthOf_27 (Nat.le_of_ble_eq_true rfl) rfl (L' := [some (.ref (a 0)), some (.int p0), some (.int x2), some (.int x3), some (.int (x3 / (20 : Int32))), some (.int (x3 - x3 / (20 : Int32) * (20 : Int32))), none]) rfl ?_
    refine g_iload (pc' := 31) C dX6_widthOf_29 rfl rfl ?_
    refine g_aload_n (pc' := 32) C dX6_widthOf_31 rfl rfl ?_
    refine gg_X6_0 (pc' := 35) (i := 0) C rfl hi_X6_widthOf_X6 lk_X6_widthOf_1 dX6_widthOf_32 rfl ?_
    refine g_iconst (pc' := 36) (v := 0) C dX6_widthOf_35 (by decide) rfl ?_
    refine g_iald0 (pc' := 37) (i := 0) (j := 1) C rfl rfl dX6_widthOf_36 rfl (by unfold vp_in; decide) ?_
    refine g_icmp_ge (pc' := 40) (tgt := 66) C dX6_widthOf_37 (by decide) rfl h (fun c h => ?_) (fun c h => ?_)
    · exact G_loc (lle_s (lle_s (lle_s (lle_s (lle_s (lle_s (lle_n lle_0))))))) (B_X6_widthOf_66 C a N M p0 r k4 hk4 x2 x3 (x3 / (20 : Int32)) (x3 - x3 / (20 : Int32) * (20 : Int32)) h)
    · refine g_aload_n (pc' := 41) C dX6_widthOf_40 rfl rfl ?_
      refine gg_X6_7 (pc' := 44) (i := 0) C rfl hi_X6_widthOf_X6 lk_X6_widthOf_2 dX6_widthOf_41 rfl ?_
      refine g_iload (pc' := 46) C dX6_widthOf_44 rfl rfl ?_
      refine g_iald (pc' := 47) (i := 0) (j := 5) C rfl rfl dX6_widthOf_46 rfl h (fun h => ?_)
      refine g_iload_n (pc' := 48) C dX6_widthOf_47 rfl rfl ?_
      refine g_icmp_ne (pc' := 51) (tgt := 66) C dX6_widthOf_48 (by decide) rfl h (fun c h => ?_) (fun c h => ?_)
      · refine g_aload_n (pc' := 52) C dX6_widthOf_51 rfl rfl ?_
        refine gg_X6_7 (pc' := 55) (i := 0) C rfl hi_X6_widthOf_X6 lk_X6_widthOf_2 dX6_widthOf_52 rfl ?_
        refine g_iload (pc' := 57) C dX6_widthOf_55 rfl rfl ?_
        refine g_iald (pc' := 58) (i := 0) (j := 5) C rfl rfl dX6_widthOf_57 rfl h (fun h => ?_)
        refine g_iload_n (pc' := 59) C dX6_widthOf_58 rfl rfl ?_
        refine g_icmp_ne (pc' := 62) (tgt := 66) C dX6_widthOf_59 (by decide) rfl h (fun c h => ?_) (fun c h => ?_)
        · refine g_iconst (pc' := 63) (v := 1) C dX6_widthOf_62 (by decide) rfl ?_
          refine g_goto (pc' := 67) C dX6_widthOf_63 (by decide) ?_
          exact G_loc (lle_s (lle_s (lle_s (lle_s (lle_s (lle_s (lle_n lle_0))))))) (B_X6_widthOf_67 C a N M p0 r k4 hk4 x2 x3 (x3 / (20 : Int32)) (x3 - x3 / (20 : Int32) * (20 : Int32)) (1 : Int32) h)
        · exact G_loc (lle_s (lle_s (lle_s (lle_s (lle_s (lle_s (lle_n lle_0))))))) (B_X6_widthOf_66 C a N M p0 r k4 hk4 x2 x3 (x3 / (20 : Int32)) (x3 - x3 / (20 : Int32) * (20 : Int32)) h)
      · exact G_loc (lle_s (lle_s (lle_s (lle_s (lle_s (lle_s (lle_n lle_0))))))) (B_X6_widthOf_66 C a N M p0 r k4 hk4 x2 x3 (x3 / (20 : Int32)) (x3 - x3 / (20 : Int32) * (20 : Int32)) h)
set_option maxRecDepth 100000 in
set_option maxHeartbeats 4000000 in
theorem L_X6_widthOf_4 {X : gX} (C : cx X RX6 cX6_widthOf 7 (some .int) wsX6_widthOf 2 44) (a : Nat → Nat) (N : Nat) (M : tS) (p0 : Int32) (r : Int32)  : ∀ (n : Nat) (x2 : Int32) (x3 : Int32), f_X6_widthOf_4 N M p0  n x2 x3 = some r → G X (QI X r [mdW (gcA X) a M]) [mdW (gcA X) a M] [some (.ref (a 0)), some (.int p0), some (.int x2), some (.int x3), none, none, none] [] 4 := by
  intro n
  induction n with
  | zero => intro x2 x3 h; have h : (none : Option (Int32)) = some r := h; cases h
  | succ n ih => intro x2 x3 h; exact B_X6_widthOf_4b C a N M p0 r  (f_X6_widthOf_4 N M p0  n) ih x2 x3 h
def f_X6_widthOf (N : Nat) (M : tS) (p0 : Int32) : Option (Int32) := f_X6_widthOf_4 N M p0 N (0 : Int32) (0 : Int32)
set_option maxRecDepth 100000 in
set_option maxHeartbeats 4000000 in
theorem B_X6_widthOf {X : gX} (C : cx X RX6 cX6_widthOf 7 (some .int) wsX6_widthOf 2 44) (a : Nat → Nat) (N : Nat) (M : tS) (p0 : Int32) (r : Int32) (h : f_X6_widthOf N M p0 = some r) : G X (QI X r [mdW (gcA X) a M]) [mdW (gcA X) a M] [some (.ref (a 0)), some (.int p0), none, none, none, none, none] [] 0 := by
  unfold f_X6_widthOf at h
  refine g_iconst (pc' := 1) (v := 0) C dX6_widthOf_0 (by decide) rfl ?_
  refine g_istore_n (pc' := 2) C dX6_widthOf_1 (Nat.le_of_ble_eq_true rfl) rfl (L' := [some (.ref (a 0)), some (.int p0), some (.int (0 : Int32)), none, none, none, none]) rfl ?_
  refine g_iconst (pc' := 3) (v := 0) C dX6_widthOf_2 (by decide) rfl ?_
  refine g_istore_n (pc' := 4) C dX6_widthOf_3 (Nat.le_of_ble_eq_true rfl) rfl (L' := [some (.ref (a 0)), some (.int p0), some (.int (0 : Int32)), some (.int (0 : Int32)), none, none, none]) rfl ?_
  exact G_loc (lle_s (lle_s (lle_s (lle_s (lle_n (lle_n (lle_n lle_0))))))) (L_X6_widthOf_4 C a N M p0 r N (0 : Int32) (0 : Int32) h)
set_option maxRecDepth 100000 in
set_option maxHeartbeats 4000000 in
theorem c_X6_widthOf (l : Launch) (D : va_G) (cA : Nat → ClassId) (a : Nat → Nat) (N : Nat) (M : tS) (p0 : Int32) (r : Int32) (h : f_X6_widthOf N M p0 = some r) : MI l D cA yX6_widthOf wsX6_widthOf 2 44 [.ref (a 0), .int p0] [mdW cA a M] r [mdW cA a M] := MI_of (cc := cX6_widthOf) (maxL := 7) (rt := some .int) (by decide +kernel) rfl (List.forall_mem_cons.mpr ⟨rfl, List.forall_mem_cons.mpr ⟨rfl, List.forall_mem_nil _⟩⟩) (Nat.le_of_ble_eq_true rfl) (fun X e1 e2 e3 C => by subst e1; subst e2; subst e3; exact B_X6_widthOf C a N M p0 r h)
set_option maxRecDepth 100000 in
set_option maxHeartbeats 4000000 in
theorem nd_X6_widthOf : nd yX6_widthOf 1 := ⟨by decide +kernel, by decide +kernel, by decide +kernel⟩
set_option maxRecDepth 100000 in
set_option maxHeartbeats 4000000 in
theorem k_X6_widthOf {X : gX} {own : String} {cc : ByteArray} {nL : Nat} {ret : Option FieldType} {Ts : List Cond} {fr lm : Nat} {Q : State → Prop} {ms : List va_W} {L : List (Option Value)} {st : List Value} {pc pc' idx : Nat} {ρ : Type} {T : Int32 → Option ρ} {res : ρ} (C : cx X own cc nL ret Ts fr lm) (a : Nat → Nat) (N : Nat) (M : tS) (p0 : Int32) (is : List Nat) (hC : is.map (fun i => ms[i]?) = [some (mdW (gcA X) a M)]) (hn : is.Nodup) (hG : GoodIn Ts (wsV own idx RX6 yX6_widthOf wsX6_widthOf)) (hR : 2 + 1 ≤ fr ∧ 8 + (7 + 11) + 44 ≤ lm) (hst : (st.map fun v => v.category).sum ≤ 8) (hLn : L.length = nL) (d : decode cc pc = .ok (.invokevirtual idx, 3)) (hp : pc + 3 = pc') (h : bd (f_X6_widthOf N M p0) T = some res) (kk : ∀ (r : Int32), T r = some res → G X Q (ms) L (.int r :: st) pc') : G X Q ms L (.int p0 :: .ref (a 0) :: st) pc := by
  obtain ⟨r, h1, h⟩ := ob h
  exact G_callVI C (As := [.int p0]) (c_X6_widthOf (gl X) (gD X) (gcA X) a N M p0 r h1) hG rfl nd_X6_widthOf hR (q0 := 0) rfl rfl hC hn rfl rfl hst hLn d hp (G_ms (rpl_same (mc := [mdW (gcA X) a M]) hC) (kk r h))
def f_X6_heap (N : Nat) (M : tS) (p0 : Int32) (p1 : Int32) : Option (Int32 × tS) := (bd2 (f_X6_laysNow N M) (fun r1 M1 => (bd (f_X6_in N p0 (0 : Int32) (r1 - (1 : Int32))) (fun r2 => (if r2 = 0 then some ((-1 : Int32), M1) else (if p1 = (0 : Int32) then (bd (f_X6_notesIn N M1 p0) (fun r3 => some (r3, M1))) else (if p1 = (1 : Int32) then (bd (f_X6_lowestOf N M1 p0) (fun r4 => some (r4, M1))) else (if p1 = (2 : Int32) then (bd (f_X6_dotsIn N M1 p0) (fun r5 => some (r5, M1))) else (if p1 = (3 : Int32) then (bd (f_X6_themesIn N M1 p0) (fun r6 => some (r6, M1))) else (if p1 = (4 : Int32) then (bd (f_X6_without N M1 p0) (fun r7 => some (r7, M1))) else (if p1 = (5 : Int32) then (bd (f_X6_middleOf N M1 p0) (fun r8 => some (r8, M1))) else (if p1 = (6 : Int32) then (bd (f_X6_widthOf N M1 p0) (fun r9 => some (r9, M1))) else some ((-2 : Int32), M1)))))))))))))
set_option maxRecDepth 100000 in
set_option maxHeartbeats 4000000 in
theorem B_X6_heap {X : gX} (C : cx X RX6 cX6_heap 3 (some .int) wsX6_heap 5 114) (a : Nat → Nat) (N : Nat) (M : tS) (p0 : Int32) (p1 : Int32) (r : Int32) (Mz : tS) (h : f_X6_heap N M p0 p1 = some (r, Mz)) : G X (QI X r [mdW (gcA X) a Mz]) [mdW (gcA X) a M] [some (.ref (a 0)), some (.int p0), some (.int p1)] [] 0 := by
  unfold f_X6_heap at h
  refine g_iload_n (pc' := 1) C dX6_heap_0 rfl rfl ?_
  refine g_iconst (pc' := 2) (v := 0) C dX6_heap_1 (by decide) rfl ?_
  refine g_aload_n (pc' := 3) C dX6_heap_2 rfl rfl ?_
  refine k_X6_laysNow (pc' := 6) C a N M [0] rfl (by decide) gX6_heap_X6_laysNow ⟨Nat.le_of_ble_eq_true rfl, Nat.le_of_ble_eq_true rfl⟩ (Nat.le_of_ble_eq_true rfl) rfl dX6_heap_3 rfl h (fun r1 M1 h => ?_)
  show G X _ [mdW (gcA X) a M1] _ _ _
  refine g_iconst (pc' := 7) (v := 1) C dX6_heap_6 (by decide) rfl ?_
  refine g_isub (pc' := 8) C dX6_heap_7 rfl ?_
  refine k_X6_in (pc' := 11) C N p0 (0 : Int32) (r1 - (1 : Int32)) [] rfl (by decide) gX6_heap_X6_in ⟨Nat.le_of_ble_eq_true rfl, Nat.le_of_ble_eq_true rfl⟩ (Nat.le_of_ble_eq_true rfl) rfl dX6_heap_8 rfl h (fun r2 h => ?_)
  refine g_if_ne (pc' := 14) (tgt := 16) C dX6_heap_11 (by decide) rfl h (fun c h => ?_) (fun c h => ?_)
  · refine g_iconst (pc' := 15) (v := -1) C dX6_heap_14 (by decide) rfl ?_
    obtain ⟨rfl, rfl⟩ := pj2 (Option.some.inj h)
    exact g_iret C dX6_heap_15
  · refine g_iload_n (pc' := 17) C dX6_heap_16 rfl rfl ?_
    refine oif h (fun c h => ?_) (fun c0 h => ?_)
    · refine g_tabIn (pc' := 60) (off := 43) C dX6_heap_17 (by rw [c] <;> decide) (by rw [c] <;> decide) (by rw [c] <;> decide) (by decide) ?_
      refine g_aload_n (pc' := 61) C dX6_heap_60 rfl rfl ?_
      refine g_iload_n (pc' := 62) C dX6_heap_61 rfl rfl ?_
      refine k_X6_notesIn (pc' := 65) C a N M1 p0 [0] rfl (by decide) gX6_heap_X6_notesIn ⟨Nat.le_of_ble_eq_true rfl, Nat.le_of_ble_eq_true rfl⟩ (Nat.le_of_ble_eq_true rfl) rfl dX6_heap_62 rfl h (fun r3 h => ?_)
      obtain ⟨rfl, rfl⟩ := pj2 (Option.some.inj h)
      exact g_iret C dX6_heap_65
    refine oif h (fun c h => ?_) (fun c1 h => ?_)
    · refine g_tabIn (pc' := 66) (off := 49) C dX6_heap_17 (by rw [c] <;> decide) (by rw [c] <;> decide) (by rw [c] <;> decide) (by decide) ?_
      refine g_aload_n (pc' := 67) C dX6_heap_66 rfl rfl ?_
      refine g_iload_n (pc' := 68) C dX6_heap_67 rfl rfl ?_
      refine k_X6_lowestOf (pc' := 71) C a N M1 p0 [0] rfl (by decide) gX6_heap_X6_lowestOf ⟨Nat.le_of_ble_eq_true rfl, Nat.le_of_ble_eq_true rfl⟩ (Nat.le_of_ble_eq_true rfl) rfl dX6_heap_68 rfl h (fun r4 h => ?_)
      obtain ⟨rfl, rfl⟩ := pj2 (Option.some.inj h)
      exact g_iret C dX6_heap_71
    refine oif h (fun c h => ?_) (fun c2 h => ?_)
    · refine g_tabIn (pc' := 72) (off := 55) C dX6_heap_17 (by rw [c] <;> decide) (by rw [c] <;> decide) (by rw [c] <;> decide) (by decide) ?_
      refine g_aload_n (pc' := 73) C dX6_heap_72 rfl rfl ?_
      refine g_iload_n (pc' := 74) C dX6_heap_73 rfl rfl ?_
      refine k_X6_dotsIn (pc' := 77) C a N M1 p0 [0] rfl (by decide) gX6_heap_X6_dotsIn ⟨Nat.le_of_ble_eq_true rfl, Nat.le_of_ble_eq_true rfl⟩ (Nat.le_of_ble_eq_true rfl) rfl dX6_heap_74 rfl h (fun r5 h => ?_)
      obtain ⟨rfl, rfl⟩ := pj2 (Option.some.inj h)
      exact g_iret C dX6_heap_77
    refine oif h (fun c h => ?_) (fun c3 h => ?_)
    · refine g_tabIn (pc' := 78) (off := 61) C dX6_heap_17 (by rw [c] <;> decide) (by rw [c] <;> decide) (by rw [c] <;> decide) (by decide) ?_
      refine g_aload_n (pc' := 79) C dX6_heap_78 rfl rfl ?_
      refine g_iload_n (pc' := 80) C dX6_heap_79 rfl rfl ?_
      refine k_X6_themesIn (pc' := 83) C a N M1 p0 [0] rfl (by decide) gX6_heap_X6_themesIn ⟨Nat.le_of_ble_eq_true rfl, Nat.le_of_ble_eq_true rfl⟩ (Nat.le_of_ble_eq_true rfl) rfl dX6_heap_80 rfl h (fun r6 h => ?_)
      obtain ⟨rfl, rfl⟩ := pj2 (Option.some.inj h)
      exact g_iret C dX6_heap_83
    refine oif h (fun c h => ?_) (fun c4 h => ?_)
    · refine g_tabIn (pc' := 84) (off := 67) C dX6_heap_17 (by rw [c] <;> decide) (by rw [c] <;> decide) (by rw [c] <;> decide) (by decide) ?_
      refine g_aload_n (pc' := 85) C dX6_heap_84 rfl rfl ?_
      refine g_iload_n (pc' := 86) C dX6_heap_85 rfl rfl ?_
      refine k_X6_without (pc' := 89) C a N M1 p0 [0] rfl (by decide) gX6_heap_X6_without ⟨Nat.le_of_ble_eq_true rfl, Nat.le_of_ble_eq_true rfl⟩ (Nat.le_of_ble_eq_true rfl) rfl dX6_heap_86 rfl h (fun r7 h => ?_)
      obtain ⟨rfl, rfl⟩ := pj2 (Option.some.inj h)
      exact g_iret C dX6_heap_89
    refine oif h (fun c h => ?_) (fun c5 h => ?_)
    · refine g_tabIn (pc' := 90) (off := 73) C dX6_heap_17 (by rw [c] <;> decide) (by rw [c] <;> decide) (by rw [c] <;> decide) (by decide) ?_
      refine g_aload_n (pc' := 91) C dX6_heap_90 rfl rfl ?_
      refine g_iload_n (pc' := 92) C dX6_heap_91 rfl rfl ?_
      refine k_X6_middleOf (pc' := 95) C a N M1 p0 [0] rfl (by decide) gX6_heap_X6_middleOf ⟨Nat.le_of_ble_eq_true rfl, Nat.le_of_ble_eq_true rfl⟩ (Nat.le_of_ble_eq_true rfl) rfl dX6_heap_92 rfl h (fun r8 h => ?_)
      obtain ⟨rfl, rfl⟩ := pj2 (Option.some.inj h)
      exact g_iret C dX6_heap_95
    refine oif h (fun c h => ?_) (fun c6 h => ?_)
    · refine g_tabIn (pc' := 96) (off := 79) C dX6_heap_17 (by rw [c] <;> decide) (by rw [c] <;> decide) (by rw [c] <;> decide) (by decide) ?_
      refine g_aload_n (pc' := 97) C dX6_heap_96 rfl rfl ?_
      refine g_iload_n (pc' := 98) C dX6_heap_97 rfl rfl ?_
      refine k_X6_widthOf (pc' := 101) C a N M1 p0 [0] rfl (by decide) gX6_heap_X6_widthOf ⟨Nat.le_of_ble_eq_true rfl, Nat.le_of_ble_eq_true rfl⟩ (Nat.le_of_ble_eq_true rfl) rfl dX6_heap_98 rfl h (fun r9 h => ?_)
      obtain ⟨rfl, rfl⟩ := pj2 (Option.some.inj h)
      exact g_iret C dX6_heap_101
    have e0 := lv_neT (a := 0) c0 (by decide)
    have e1 := lv_neT (a := 1) c1 (by decide)
    have e2 := lv_neT (a := 2) c2 (by decide)
    have e3 := lv_neT (a := 3) c3 (by decide)
    have e4 := lv_neT (a := 4) c4 (by decide)
    have e5 := lv_neT (a := 5) c5 (by decide)
    have e6 := lv_neT (a := 6) c6 (by decide)
    refine g_tabOut (pc' := 102) C dX6_heap_17 (by omega) (by decide) ?_
    refine g_bipush (pc' := 104) (v := -2) C dX6_heap_102 (by decide) rfl ?_
    obtain ⟨rfl, rfl⟩ := pj2 (Option.some.inj h)
    exact g_iret C dX6_heap_104
set_option maxRecDepth 100000 in
set_option maxHeartbeats 4000000 in
theorem c_X6_heap (l : Launch) (D : va_G) (cA : Nat → ClassId) (a : Nat → Nat) (N : Nat) (M : tS) (p0 : Int32) (p1 : Int32) (r : Int32) (Mz : tS) (h : f_X6_heap N M p0 p1 = some (r, Mz)) : MI l D cA yX6_heap wsX6_heap 5 114 [.ref (a 0), .int p0, .int p1] [mdW cA a M] r [mdW cA a Mz] := MI_of (cc := cX6_heap) (maxL := 3) (rt := some .int) (by decide +kernel) rfl (List.forall_mem_cons.mpr ⟨rfl, List.forall_mem_cons.mpr ⟨rfl, List.forall_mem_cons.mpr ⟨rfl, List.forall_mem_nil _⟩⟩⟩) (Nat.le_of_ble_eq_true rfl) (fun X e1 e2 e3 C => by subst e1; subst e2; subst e3; exact B_X6_heap C a N M p0 p1 r Mz h)
set_option maxRecDepth 100000 in
set_option maxHeartbeats 4000000 in
theorem nd_X6_heap : nd yX6_heap 2 := ⟨by decide +kernel, by decide +kernel, by decide +kernel⟩
set_option maxRecDepth 100000 in
set_option maxHeartbeats 4000000 in
theorem k_X6_heap {X : gX} {own : String} {cc : ByteArray} {nL : Nat} {ret : Option FieldType} {Ts : List Cond} {fr lm : Nat} {Q : State → Prop} {ms : List va_W} {L : List (Option Value)} {st : List Value} {pc pc' idx : Nat} {ρ : Type} {T : Int32 → tS → Option ρ} {res : ρ} (C : cx X own cc nL ret Ts fr lm) (a : Nat → Nat) (N : Nat) (M : tS) (p0 : Int32) (p1 : Int32) (is : List Nat) (hC : is.map (fun i => ms[i]?) = [some (mdW (gcA X) a M)]) (hn : is.Nodup) (hG : GoodIn Ts (wsV own idx RX6 yX6_heap wsX6_heap)) (hR : 5 + 1 ≤ fr ∧ 8 + (3 + 11) + 114 ≤ lm) (hst : (st.map fun v => v.category).sum ≤ 8) (hLn : L.length = nL) (d : decode cc pc = .ok (.invokevirtual idx, 3)) (hp : pc + 3 = pc') (h : bd2 (f_X6_heap N M p0 p1) T = some res) (kk : ∀ (r : Int32) (Mz : tS), T r Mz = some res → G X Q (rpl ms is [mdW (gcA X) a Mz]) L (.int r :: st) pc') : G X Q ms L (.int p1 :: .int p0 :: .ref (a 0) :: st) pc := by
  obtain ⟨r, Mz, h1, h⟩ := ob2 h
  exact G_callVI C (As := [.int p0, .int p1]) (c_X6_heap (gl X) (gD X) (gcA X) a N M p0 p1 r Mz h1) hG rfl nd_X6_heap hR (q0 := 0) rfl rfl hC hn rfl rfl hst hLn d hp (kk r Mz h)
theorem hi_X6_dotsOfTheme_X6 : ∀ w ∈ wsX60, w ∈ wsX6_dotsOfTheme := fun w h => List.mem_cons_of_mem _ (List.mem_append_right _ h)
theorem lk_X6_dotsOfTheme_1 : Cond.fieldLink RX6 7 "NoteThemesModel" "s" "[I" ∈ wsX6_dotsOfTheme := List.mem_of_getElem? (i := 1) rfl
def f_X6_dotsOfTheme_33 (N : Nat) (M : tS) (p0 : Int32) (k4 : Int32 → Int32 → Option (Int32)) (x3 : Int32) (t0 : Int32) (t1 : Int32) : Option (Int32) := k4 (t1 + t0) (x3 + 1)
set_option maxRecDepth 100000 in
set_option maxHeartbeats 4000000 in
theorem B_X6_dotsOfTheme_33 {X : gX} (C : cx X RX6 cX6_dotsOfTheme 4 (some .int) wsX6_dotsOfTheme 2 45) (a : Nat → Nat) (N : Nat) (M : tS) (p0 : Int32) (r : Int32) (k4 : Int32 → Int32 → Option (Int32)) (hk4 : ∀ (x2 : Int32) (x3 : Int32), k4 x2 x3 = some r → G X (QI X r [mdW (gcA X) a M]) [mdW (gcA X) a M] [some (.ref (a 0)), some (.int p0), some (.int x2), some (.int x3)] [] 4) (x3 : Int32) (t0 : Int32) (t1 : Int32) (h : f_X6_dotsOfTheme_33 N M p0 k4 x3 t0 t1 = some r) : G X (QI X r [mdW (gcA X) a M]) [mdW (gcA X) a M] [some (.ref (a 0)), some (.int p0), none, some (.int x3)] [.int t0, .int t1] 33 := by
  unfold f_X6_dotsOfTheme_33 at h
  refine g_iadd (pc' := 34) C dX6_dotsOfTheme_33 rfl ?_
  refine g_istore_n (pc' := 35) C dX6_dotsOfTheme_34 (Nat.le_of_ble_eq_true rfl) rfl (L' := [some (.ref (a 0)), some (.int p0), some (.int (t1 + t0)), some (.int x3)]) rfl ?_
  refine g_iinc (pc' := 38) (v := (x3 + 1)) C dX6_dotsOfTheme_35 rfl rfl rfl (L' := [some (.ref (a 0)), some (.int p0), some (.int (t1 + t0)), some (.int (x3 + 1))]) rfl ?_
  refine g_goto (pc' := 4) C dX6_dotsOfTheme_38 (by decide) ?_
  exact G_loc (lle_s (lle_s (lle_s (lle_s lle_0)))) (hk4 (t1 + t0) (x3 + 1) h)
def f_X6_dotsOfTheme_4b (N : Nat) (M : tS) (p0 : Int32)  (k4 : Int32 → Int32 → Option (Int32)) (x2 : Int32) (x3 : Int32) : Option (Int32) := (if (M 0 (0 : Int32).toNatClampNeg) ≤ x3 then some x2 else (bd (f_X6_themeOf N M x3) (fun r1 => (if r1 = p0 then (bd (f_X6_dotsOf N M x3) (fun r2 => f_X6_dotsOfTheme_33 N M p0 k4 x3 r2 x2)) else f_X6_dotsOfTheme_33 N M p0 k4 x3 (0 : Int32) x2))))
def f_X6_dotsOfTheme_4 (N : Nat) (M : tS) (p0 : Int32)  : Nat → Int32 → Int32 → Option (Int32)
  | 0 => fun _ _ => none
  | n + 1 => f_X6_dotsOfTheme_4b N M p0  (f_X6_dotsOfTheme_4 N M p0  n)
set_option maxRecDepth 100000 in
set_option maxHeartbeats 4000000 in
theorem B_X6_dotsOfTheme_4b {X : gX} (C : cx X RX6 cX6_dotsOfTheme 4 (some .int) wsX6_dotsOfTheme 2 45) (a : Nat → Nat) (N : Nat) (M : tS) (p0 : Int32) (r : Int32)  (k4 : Int32 → Int32 → Option (Int32)) (hk4 : ∀ (x2 : Int32) (x3 : Int32), k4 x2 x3 = some r → G X (QI X r [mdW (gcA X) a M]) [mdW (gcA X) a M] [some (.ref (a 0)), some (.int p0), some (.int x2), some (.int x3)] [] 4) (x2 : Int32) (x3 : Int32) (h : f_X6_dotsOfTheme_4b N M p0  k4 x2 x3 = some r) : G X (QI X r [mdW (gcA X) a M]) [mdW (gcA X) a M] [some (.ref (a 0)), some (.int p0), some (.int x2), some (.int x3)] [] 4 := by
  unfold f_X6_dotsOfTheme_4b at h
  refine g_iload_n (pc' := 5) C dX6_dotsOfTheme_4 rfl rfl ?_
  refine g_aload_n (pc' := 6) C dX6_dotsOfTheme_5 rfl rfl ?_
  refine gg_X6_0 (pc' := 9) (i := 0) C rfl hi_X6_dotsOfTheme_X6 lk_X6_dotsOfTheme_1 dX6_dotsOfTheme_6 rfl ?_
  refine g_iconst (pc' := 10) (v := 0) C dX6_dotsOfTheme_9 (by decide) rfl ?_
  refine g_iald0 (pc' := 11) (i := 0) (j := 1) C rfl rfl dX6_dotsOfTheme_10 rfl (by unfold vp_in; decide) ?_
  refine g_icmp_ge (pc' := 14) (tgt := 41) C dX6_dotsOfTheme_11 (by decide) rfl h (fun c h => ?_) (fun c h => ?_)
  · refine g_iload_n (pc' := 42) C dX6_dotsOfTheme_41 rfl rfl ?_
    obtain rfl := Option.some.inj h
    exact g_iret C dX6_dotsOfTheme_42
  · refine g_iload_n (pc' := 15) C dX6_dotsOfTheme_14 rfl rfl ?_
    refine g_aload_n (pc' := 16) C dX6_dotsOfTheme_15 rfl rfl ?_
    refine g_iload_n (pc' := 17) C dX6_dotsOfTheme_16 rfl rfl ?_
    refine k_X6_themeOf (pc' := 20) C a N M x3 [0] rfl (by decide) gX6_dotsOfTheme_X6_themeOf ⟨Nat.le_of_ble_eq_true rfl, Nat.le_of_ble_eq_true rfl⟩ (Nat.le_of_ble_eq_true rfl) rfl dX6_dotsOfTheme_17 rfl h (fun r1 h => ?_)
    refine g_iload_n (pc' := 21) C dX6_dotsOfTheme_20 rfl rfl ?_
    refine g_icmp_ne (pc' := 24) (tgt := 32) C dX6_dotsOfTheme_21 (by decide) rfl h (fun c h => ?_) (fun c h => ?_)
    · refine g_aload_n (pc' := 25) C dX6_dotsOfTheme_24 rfl rfl ?_
      refine g_iload_n (pc' := 26) C dX6_dotsOfTheme_25 rfl rfl ?_
      refine k_X6_dotsOf (pc' := 29) C a N M x3 [0] rfl (by decide) gX6_dotsOfTheme_X6_dotsOf ⟨Nat.le_of_ble_eq_true rfl, Nat.le_of_ble_eq_true rfl⟩ (Nat.le_of_ble_eq_true rfl) rfl dX6_dotsOfTheme_26 rfl h (fun r2 h => ?_)
      refine g_goto (pc' := 33) C dX6_dotsOfTheme_29 (by decide) ?_
      exact G_loc (lle_s (lle_s (lle_n (lle_s lle_0)))) (B_X6_dotsOfTheme_33 C a N M p0 r k4 hk4 x3 r2 x2 h)
    · refine g_iconst (pc' := 33) (v := 0) C dX6_dotsOfTheme_32 (by decide) rfl ?_
      exact G_loc (lle_s (lle_s (lle_n (lle_s lle_0)))) (B_X6_dotsOfTheme_33 C a N M p0 r k4 hk4 x3 (0 : Int32) x2 h)
set_option maxRecDepth 100000 in
set_option maxHeartbeats 4000000 in
theorem L_X6_dotsOfTheme_4 {X : gX} (C : cx X RX6 cX6_dotsOfTheme 4 (some .int) wsX6_dotsOfTheme 2 45) (a : Nat → Nat) (N : Nat) (M : tS) (p0 : Int32) (r : Int32)  : ∀ (n : Nat) (x2 : Int32) (x3 : Int32), f_X6_dotsOfTheme_4 N M p0  n x2 x3 = some r → G X (QI X r [mdW (gcA X) a M]) [mdW (gcA X) a M] [some (.ref (a 0)), some (.int p0), some (.int x2), some (.int x3)] [] 4 := by
  intro n
  induction n with
  | zero => intro x2 x3 h; have h : (none : Option (Int32)) = some r := h; cases h
  | succ n ih => intro x2 x3 h; exact B_X6_dotsOfTheme_4b C a N M p0 r  (f_X6_dotsOfTheme_4 N M p0  n) ih x2 x3 h
def f_X6_dotsOfTheme (N : Nat) (M : tS) (p0 : Int32) : Option (Int32) := f_X6_dotsOfTheme_4 N M p0 N (0 : Int32) (0 : Int32)
set_option maxRecDepth 100000 in
set_option maxHeartbeats 4000000 in
theorem B_X6_dotsOfTheme {X : gX} (C : cx X RX6 cX6_dotsOfTheme 4 (some .int) wsX6_dotsOfTheme 2 45) (a : Nat → Nat) (N : Nat) (M : tS) (p0 : Int32) (r : Int32) (h : f_X6_dotsOfTheme N M p0 = some r) : G X (QI X r [mdW (gcA X) a M]) [mdW (gcA X) a M] [some (.ref (a 0)), some (.int p0), none, none] [] 0 := by
  unfold f_X6_dotsOfTheme at h
  refine g_iconst (pc' := 1) (v := 0) C dX6_dotsOfTheme_0 (by decide) rfl ?_
  refine g_istore_n (pc' := 2) C dX6_dotsOfTheme_1 (Nat.le_of_ble_eq_true rfl) rfl (L' := [some (.ref (a 0)), some (.int p0), some (.int (0 : Int32)), none]) rfl ?_
  refine g_iconst (pc' := 3) (v := 0) C dX6_dotsOfTheme_2 (by decide) rfl ?_
  refine g_istore_n (pc' := 4) C dX6_dotsOfTheme_3 (Nat.le_of_ble_eq_true rfl) rfl (L' := [some (.ref (a 0)), some (.int p0), some (.int (0 : Int32)), some (.int (0 : Int32))]) rfl ?_
  exact G_loc (lle_s (lle_s (lle_s (lle_s lle_0)))) (L_X6_dotsOfTheme_4 C a N M p0 r N (0 : Int32) (0 : Int32) h)
set_option maxRecDepth 100000 in
set_option maxHeartbeats 4000000 in
theorem c_X6_dotsOfTheme (l : Launch) (D : va_G) (cA : Nat → ClassId) (a : Nat → Nat) (N : Nat) (M : tS) (p0 : Int32) (r : Int32) (h : f_X6_dotsOfTheme N M p0 = some r) : MI l D cA yX6_dotsOfTheme wsX6_dotsOfTheme 2 45 [.ref (a 0), .int p0] [mdW cA a M] r [mdW cA a M] := MI_of (cc := cX6_dotsOfTheme) (maxL := 4) (rt := some .int) (by decide +kernel) rfl (List.forall_mem_cons.mpr ⟨rfl, List.forall_mem_cons.mpr ⟨rfl, List.forall_mem_nil _⟩⟩) (Nat.le_of_ble_eq_true rfl) (fun X e1 e2 e3 C => by subst e1; subst e2; subst e3; exact B_X6_dotsOfTheme C a N M p0 r h)
set_option maxRecDepth 100000 in
set_option maxHeartbeats 4000000 in
theorem nd_X6_dotsOfTheme : nd yX6_dotsOfTheme 1 := ⟨by decide +kernel, by decide +kernel, by decide +kernel⟩
set_option maxRecDepth 100000 in
set_option maxHeartbeats 4000000 in
theorem k_X6_dotsOfTheme {X : gX} {own : String} {cc : ByteArray} {nL : Nat} {ret : Option FieldType} {Ts : List Cond} {fr lm : Nat} {Q : State → Prop} {ms : List va_W} {L : List (Option Value)} {st : List Value} {pc pc' idx : Nat} {ρ : Type} {T : Int32 → Option ρ} {res : ρ} (C : cx X own cc nL ret Ts fr lm) (a : Nat → Nat) (N : Nat) (M : tS) (p0 : Int32) (is : List Nat) (hC : is.map (fun i => ms[i]?) = [some (mdW (gcA X) a M)]) (hn : is.Nodup) (hG : GoodIn Ts (wsV own idx RX6 yX6_dotsOfTheme wsX6_dotsOfTheme)) (hR : 2 + 1 ≤ fr ∧ 8 + (4 + 11) + 45 ≤ lm) (hst : (st.map fun v => v.category).sum ≤ 8) (hLn : L.length = nL) (d : decode cc pc = .ok (.invokevirtual idx, 3)) (hp : pc + 3 = pc') (h : bd (f_X6_dotsOfTheme N M p0) T = some res) (kk : ∀ (r : Int32), T r = some res → G X Q (ms) L (.int r :: st) pc') : G X Q ms L (.int p0 :: .ref (a 0) :: st) pc := by
  obtain ⟨r, h1, h⟩ := ob h
  exact G_callVI C (As := [.int p0]) (c_X6_dotsOfTheme (gl X) (gD X) (gcA X) a N M p0 r h1) hG rfl nd_X6_dotsOfTheme hR (q0 := 0) rfl rfl hC hn rfl rfl hst hLn d hp (G_ms (rpl_same (mc := [mdW (gcA X) a M]) hC) (kk r h))
theorem hi_X6_rankOf_X6 : ∀ w ∈ wsX60, w ∈ wsX6_rankOf := fun w h => List.mem_cons_of_mem _ (List.mem_append_right _ h)
theorem lk_X6_rankOf_1 : Cond.fieldLink RX6 7 "NoteThemesModel" "s" "[I" ∈ wsX6_rankOf := List.mem_of_getElem? (i := 1) rfl
def f_X6_rankOf_48 (N : Nat) (M : tS) (p0 : Int32) (k4 : Int32 → Int32 → Option (Int32)) (x3 : Int32) (t0 : Int32) (t1 : Int32) : Option (Int32) := k4 (t1 + t0) (x3 + 1)
set_option maxRecDepth 100000 in
set_option maxHeartbeats 4000000 in
theorem B_X6_rankOf_48 {X : gX} (C : cx X RX6 cX6_rankOf 5 (some .int) wsX6_rankOf 3 68) (a : Nat → Nat) (N : Nat) (M : tS) (p0 : Int32) (r : Int32) (k4 : Int32 → Int32 → Option (Int32)) (hk4 : ∀ (x2 : Int32) (x3 : Int32), k4 x2 x3 = some r → G X (QI X r [mdW (gcA X) a M]) [mdW (gcA X) a M] [some (.ref (a 0)), some (.int p0), some (.int x2), some (.int x3), none] [] 4) (x3 : Int32) (t0 : Int32) (t1 : Int32) (h : f_X6_rankOf_48 N M p0 k4 x3 t0 t1 = some r) : G X (QI X r [mdW (gcA X) a M]) [mdW (gcA X) a M] [some (.ref (a 0)), some (.int p0), none, some (.int x3), none] [.int t0, .int t1] 48 := by
  unfold f_X6_rankOf_48 at h
  refine g_iadd (pc' := 49) C dX6_rankOf_48 rfl ?_
  refine g_istore_n (pc' := 50) C dX6_rankOf_49 (Nat.le_of_ble_eq_true rfl) rfl (L' := [some (.ref (a 0)), some (.int p0), some (.int (t1 + t0)), some (.int x3), none]) rfl ?_
  refine g_iinc (pc' := 53) (v := (x3 + 1)) C dX6_rankOf_50 rfl rfl rfl (L' := [some (.ref (a 0)), some (.int p0), some (.int (t1 + t0)), some (.int (x3 + 1)), none]) rfl ?_
  refine g_goto (pc' := 4) C dX6_rankOf_53 (by decide) ?_
  exact G_loc (lle_s (lle_s (lle_s (lle_s (lle_n lle_0))))) (hk4 (t1 + t0) (x3 + 1) h)
def f_X6_rankOf_47 (N : Nat) (M : tS) (p0 : Int32) (k4 : Int32 → Int32 → Option (Int32)) (x3 : Int32) (t0 : Int32) : Option (Int32) := f_X6_rankOf_48 N M p0 k4 x3 (0 : Int32) t0
set_option maxRecDepth 100000 in
set_option maxHeartbeats 4000000 in
theorem B_X6_rankOf_47 {X : gX} (C : cx X RX6 cX6_rankOf 5 (some .int) wsX6_rankOf 3 68) (a : Nat → Nat) (N : Nat) (M : tS) (p0 : Int32) (r : Int32) (k4 : Int32 → Int32 → Option (Int32)) (hk4 : ∀ (x2 : Int32) (x3 : Int32), k4 x2 x3 = some r → G X (QI X r [mdW (gcA X) a M]) [mdW (gcA X) a M] [some (.ref (a 0)), some (.int p0), some (.int x2), some (.int x3), none] [] 4) (x3 : Int32) (t0 : Int32) (h : f_X6_rankOf_47 N M p0 k4 x3 t0 = some r) : G X (QI X r [mdW (gcA X) a M]) [mdW (gcA X) a M] [some (.ref (a 0)), some (.int p0), none, some (.int x3), none] [.int t0] 47 := by
  unfold f_X6_rankOf_47 at h
  refine g_iconst (pc' := 48) (v := 0) C dX6_rankOf_47 (by decide) rfl ?_
  exact G_loc (lle_s (lle_s (lle_n (lle_s (lle_n lle_0))))) (B_X6_rankOf_48 C a N M p0 r k4 hk4 x3 (0 : Int32) t0 h)
def f_X6_rankOf_43 (N : Nat) (M : tS) (p0 : Int32) (k4 : Int32 → Int32 → Option (Int32)) (x3 : Int32) (t0 : Int32) : Option (Int32) := f_X6_rankOf_48 N M p0 k4 x3 (1 : Int32) t0
set_option maxRecDepth 100000 in
set_option maxHeartbeats 4000000 in
theorem B_X6_rankOf_43 {X : gX} (C : cx X RX6 cX6_rankOf 5 (some .int) wsX6_rankOf 3 68) (a : Nat → Nat) (N : Nat) (M : tS) (p0 : Int32) (r : Int32) (k4 : Int32 → Int32 → Option (Int32)) (hk4 : ∀ (x2 : Int32) (x3 : Int32), k4 x2 x3 = some r → G X (QI X r [mdW (gcA X) a M]) [mdW (gcA X) a M] [some (.ref (a 0)), some (.int p0), some (.int x2), some (.int x3), none] [] 4) (x3 : Int32) (t0 : Int32) (h : f_X6_rankOf_43 N M p0 k4 x3 t0 = some r) : G X (QI X r [mdW (gcA X) a M]) [mdW (gcA X) a M] [some (.ref (a 0)), some (.int p0), none, some (.int x3), none] [.int t0] 43 := by
  unfold f_X6_rankOf_43 at h
  refine g_iconst (pc' := 44) (v := 1) C dX6_rankOf_43 (by decide) rfl ?_
  refine g_goto (pc' := 48) C dX6_rankOf_44 (by decide) ?_
  exact G_loc (lle_s (lle_s (lle_n (lle_s (lle_n lle_0))))) (B_X6_rankOf_48 C a N M p0 r k4 hk4 x3 (1 : Int32) t0 h)
def f_X6_rankOf_4b (N : Nat) (M : tS) (p0 : Int32)  (k4 : Int32 → Int32 → Option (Int32)) (x2 : Int32) (x3 : Int32) : Option (Int32) := (if (M 0 (1 : Int32).toNatClampNeg) ≤ x3 then some x2 else (bd (f_X6_dotsOfTheme N M x3) (fun r1 => (bd (f_X6_dotsOfTheme N M p0) (fun r2 => (if 0 < (r1 - r2) then f_X6_rankOf_43 N M p0 k4 x3 x2 else (if (r1 - r2) = 0 then (if p0 ≤ x3 then f_X6_rankOf_47 N M p0 k4 x3 x2 else f_X6_rankOf_43 N M p0 k4 x3 x2) else f_X6_rankOf_47 N M p0 k4 x3 x2)))))))
def f_X6_rankOf_4 (N : Nat) (M : tS) (p0 : Int32)  : Nat → Int32 → Int32 → Option (Int32)
  | 0 => fun _ _ => none
  | n + 1 => f_X6_rankOf_4b N M p0  (f_X6_rankOf_4 N M p0  n)
set_option maxRecDepth 100000 in
set_option maxHeartbeats 4000000 in
theorem B_X6_rankOf_4b {X : gX} (C : cx X RX6 cX6_rankOf 5 (some .int) wsX6_rankOf 3 68) (a : Nat → Nat) (N : Nat) (M : tS) (p0 : Int32) (r : Int32)  (k4 : Int32 → Int32 → Option (Int32)) (hk4 : ∀ (x2 : Int32) (x3 : Int32), k4 x2 x3 = some r → G X (QI X r [mdW (gcA X) a M]) [mdW (gcA X) a M] [some (.ref (a 0)), some (.int p0), some (.int x2), some (.int x3), none] [] 4) (x2 : Int32) (x3 : Int32) (h : f_X6_rankOf_4b N M p0  k4 x2 x3 = some r) : G X (QI X r [mdW (gcA X) a M]) [mdW (gcA X) a M] [some (.ref (a 0)), some (.int p0), some (.int x2), some (.int x3), none] [] 4 := by
  unfold f_X6_rankOf_4b at h
  refine g_iload_n (pc' := 5) C dX6_rankOf_4 rfl rfl ?_
  refine g_aload_n (pc' := 6) C dX6_rankOf_5 rfl rfl ?_
  refine gg_X6_0 (pc' := 9) (i := 0) C rfl hi_X6_rankOf_X6 lk_X6_rankOf_1 dX6_rankOf_6 rfl ?_
  refine g_iconst (pc' := 10) (v := 1) C dX6_rankOf_9 (by decide) rfl ?_
  refine g_iald0 (pc' := 11) (i := 0) (j := 1) C rfl rfl dX6_rankOf_10 rfl (by unfold vp_in; decide) ?_
  refine g_icmp_ge (pc' := 14) (tgt := 56) C dX6_rankOf_11 (by decide) rfl h (fun c h => ?_) (fun c h => ?_)
  · refine g_iload_n (pc' := 57) C dX6_rankOf_56 rfl rfl ?_
    obtain rfl := Option.some.inj h
    exact g_iret C dX6_rankOf_57
  · refine g_aload_n (pc' := 15) C dX6_rankOf_14 rfl rfl ?_
    refine g_iload_n (pc' := 16) C dX6_rankOf_15 rfl rfl ?_
    refine k_X6_dotsOfTheme (pc' := 19) C a N M x3 [0] rfl (by decide) gX6_rankOf_X6_dotsOfTheme ⟨Nat.le_of_ble_eq_true rfl, Nat.le_of_ble_eq_true rfl⟩ (Nat.le_of_ble_eq_true rfl) rfl dX6_rankOf_16 rfl h (fun r1 h => ?_)
    refine g_aload_n (pc' := 20) C dX6_rankOf_19 rfl rfl ?_
    refine g_iload_n (pc' := 21) C dX6_rankOf_20 rfl rfl ?_
    refine k_X6_dotsOfTheme (pc' := 24) C a N M p0 [0] rfl (by decide) gX6_rankOf_X6_dotsOfTheme ⟨Nat.le_of_ble_eq_true rfl, Nat.le_of_ble_eq_true rfl⟩ (Nat.le_of_ble_eq_true rfl) rfl dX6_rankOf_21 rfl h (fun r2 h => ?_)
    refine g_isub (pc' := 25) C dX6_rankOf_24 rfl ?_
    refine g_istore (pc' := 27) C dX6_rankOf_25 (Nat.le_of_ble_eq_true rfl) rfl (L' := [some (.ref (a 0)), some (.int p0), some (.int x2), some (.int x3), some (.int (r1 - r2))]) rfl ?_
    refine g_iload_n (pc' := 28) C dX6_rankOf_27 rfl rfl ?_
    refine g_iload (pc' := 30) C dX6_rankOf_28 rfl rfl ?_
    refine g_if_gt (pc' := 33) (tgt := 43) C dX6_rankOf_30 (by decide) rfl h (fun c h => ?_) (fun c h => ?_)
    · exact G_loc (lle_s (lle_s (lle_n (lle_s (lle_n lle_0))))) (B_X6_rankOf_43 C a N M p0 r k4 hk4 x3 x2 h)
    · refine g_iload (pc' := 35) C dX6_rankOf_33 rfl rfl ?_
      refine g_if_ne (pc' := 38) (tgt := 47) C dX6_rankOf_35 (by decide) rfl h (fun c h => ?_) (fun c h => ?_)
      · refine g_iload_n (pc' := 39) C dX6_rankOf_38 rfl rfl ?_
        refine g_iload_n (pc' := 40) C dX6_rankOf_39 rfl rfl ?_
        refine g_icmp_ge (pc' := 43) (tgt := 47) C dX6_rankOf_40 (by decide) rfl h (fun c h => ?_) (fun c h => ?_)
        · exact G_loc (lle_s (lle_s (lle_n (lle_s (lle_n lle_0))))) (B_X6_rankOf_47 C a N M p0 r k4 hk4 x3 x2 h)
        · exact G_loc (lle_s (lle_s (lle_n (lle_s (lle_n lle_0))))) (B_X6_rankOf_43 C a N M p0 r k4 hk4 x3 x2 h)
      · exact G_loc (lle_s (lle_s (lle_n (lle_s (lle_n lle_0))))) (B_X6_rankOf_47 C a N M p0 r k4 hk4 x3 x2 h)
set_option maxRecDepth 100000 in
set_option maxHeartbeats 4000000 in
theorem L_X6_rankOf_4 {X : gX} (C : cx X RX6 cX6_rankOf 5 (some .int) wsX6_rankOf 3 68) (a : Nat → Nat) (N : Nat) (M : tS) (p0 : Int32) (r : Int32)  : ∀ (n : Nat) (x2 : Int32) (x3 : Int32), f_X6_rankOf_4 N M p0  n x2 x3 = some r → G X (QI X r [mdW (gcA X) a M]) [mdW (gcA X) a M] [some (.ref (a 0)), some (.int p0), some (.int x2), some (.int x3), none] [] 4 := by
  intro n
  induction n with
  | zero => intro x2 x3 h; have h : (none : Option (Int32)) = some r := h; cases h
  | succ n ih => intro x2 x3 h; exact B_X6_rankOf_4b C a N M p0 r  (f_X6_rankOf_4 N M p0  n) ih x2 x3 h
def f_X6_rankOf (N : Nat) (M : tS) (p0 : Int32) : Option (Int32) := f_X6_rankOf_4 N M p0 N (0 : Int32) (0 : Int32)
set_option maxRecDepth 100000 in
set_option maxHeartbeats 4000000 in
theorem B_X6_rankOf {X : gX} (C : cx X RX6 cX6_rankOf 5 (some .int) wsX6_rankOf 3 68) (a : Nat → Nat) (N : Nat) (M : tS) (p0 : Int32) (r : Int32) (h : f_X6_rankOf N M p0 = some r) : G X (QI X r [mdW (gcA X) a M]) [mdW (gcA X) a M] [some (.ref (a 0)), some (.int p0), none, none, none] [] 0 := by
  unfold f_X6_rankOf at h
  refine g_iconst (pc' := 1) (v := 0) C dX6_rankOf_0 (by decide) rfl ?_
  refine g_istore_n (pc' := 2) C dX6_rankOf_1 (Nat.le_of_ble_eq_true rfl) rfl (L' := [some (.ref (a 0)), some (.int p0), some (.int (0 : Int32)), none, none]) rfl ?_
  refine g_iconst (pc' := 3) (v := 0) C dX6_rankOf_2 (by decide) rfl ?_
  refine g_istore_n (pc' := 4) C dX6_rankOf_3 (Nat.le_of_ble_eq_true rfl) rfl (L' := [some (.ref (a 0)), some (.int p0), some (.int (0 : Int32)), some (.int (0 : Int32)), none]) rfl ?_
  exact G_loc (lle_s (lle_s (lle_s (lle_s (lle_n lle_0))))) (L_X6_rankOf_4 C a N M p0 r N (0 : Int32) (0 : Int32) h)
set_option maxRecDepth 100000 in
set_option maxHeartbeats 4000000 in
theorem c_X6_rankOf (l : Launch) (D : va_G) (cA : Nat → ClassId) (a : Nat → Nat) (N : Nat) (M : tS) (p0 : Int32) (r : Int32) (h : f_X6_rankOf N M p0 = some r) : MI l D cA yX6_rankOf wsX6_rankOf 3 68 [.ref (a 0), .int p0] [mdW cA a M] r [mdW cA a M] := MI_of (cc := cX6_rankOf) (maxL := 5) (rt := some .int) (by decide +kernel) rfl (List.forall_mem_cons.mpr ⟨rfl, List.forall_mem_cons.mpr ⟨rfl, List.forall_mem_nil _⟩⟩) (Nat.le_of_ble_eq_true rfl) (fun X e1 e2 e3 C => by subst e1; subst e2; subst e3; exact B_X6_rankOf C a N M p0 r h)
set_option maxRecDepth 100000 in
set_option maxHeartbeats 4000000 in
theorem nd_X6_rankOf : nd yX6_rankOf 1 := ⟨by decide +kernel, by decide +kernel, by decide +kernel⟩
set_option maxRecDepth 100000 in
set_option maxHeartbeats 4000000 in
theorem k_X6_rankOf {X : gX} {own : String} {cc : ByteArray} {nL : Nat} {ret : Option FieldType} {Ts : List Cond} {fr lm : Nat} {Q : State → Prop} {ms : List va_W} {L : List (Option Value)} {st : List Value} {pc pc' idx : Nat} {ρ : Type} {T : Int32 → Option ρ} {res : ρ} (C : cx X own cc nL ret Ts fr lm) (a : Nat → Nat) (N : Nat) (M : tS) (p0 : Int32) (is : List Nat) (hC : is.map (fun i => ms[i]?) = [some (mdW (gcA X) a M)]) (hn : is.Nodup) (hG : GoodIn Ts (wsV own idx RX6 yX6_rankOf wsX6_rankOf)) (hR : 3 + 1 ≤ fr ∧ 8 + (5 + 11) + 68 ≤ lm) (hst : (st.map fun v => v.category).sum ≤ 8) (hLn : L.length = nL) (d : decode cc pc = .ok (.invokevirtual idx, 3)) (hp : pc + 3 = pc') (h : bd (f_X6_rankOf N M p0) T = some res) (kk : ∀ (r : Int32), T r = some res → G X Q (ms) L (.int r :: st) pc') : G X Q ms L (.int p0 :: .ref (a 0) :: st) pc := by
  obtain ⟨r, h1, h⟩ := ob h
  exact G_callVI C (As := [.int p0]) (c_X6_rankOf (gl X) (gD X) (gcA X) a N M p0 r h1) hG rfl nd_X6_rankOf hR (q0 := 0) rfl rfl hC hn rfl rfl hst hLn d hp (G_ms (rpl_same (mc := [mdW (gcA X) a M]) hC) (kk r h))
theorem hi_X6_heapsOfTheme_X6 : ∀ w ∈ wsX60, w ∈ wsX6_heapsOfTheme := fun w h => List.mem_cons_of_mem _ (List.mem_append_right _ h)
theorem lk_X6_heapsOfTheme_1 : Cond.fieldLink RX6 7 "NoteThemesModel" "s" "[I" ∈ wsX6_heapsOfTheme := List.mem_of_getElem? (i := 1) rfl
theorem lk_X6_heapsOfTheme_2 : Cond.fieldLink RX6 23 "NoteThemesModel" "heapOf" "[I" ∈ wsX6_heapsOfTheme := List.mem_of_getElem? (i := 2) rfl
def f_X6_heapsOfTheme_59b (N : Nat) (p0 : Int32)  (k59 : Int32 → Int32 → tS → Option (Int32 × tS)) (x4 : Int32) (x5 : Int32) (M : tS) : Option (Int32 × tS) := (if x5 = 0 then some (x4, M) else k59 (x4 + 1) (x5 &&& (x5 - (1 : Int32))) M)
def f_X6_heapsOfTheme_59 (N : Nat) (p0 : Int32)  : Nat → Int32 → Int32 → tS → Option (Int32 × tS)
  | 0 => fun _ _ _ => none
  | n + 1 => f_X6_heapsOfTheme_59b N p0  (f_X6_heapsOfTheme_59 N p0  n)
set_option maxRecDepth 100000 in
set_option maxHeartbeats 4000000 in
theorem B_X6_heapsOfTheme_59b {X : gX} (C : cx X RX6 cX6_heapsOfTheme 6 (some .int) wsX6_heapsOfTheme 5 114) (a : Nat → Nat) (N : Nat) (p0 : Int32) (r : Int32) (Mz : tS)  (k59 : Int32 → Int32 → tS → Option (Int32 × tS)) (hk59 : ∀ (x4 : Int32) (x5 : Int32) (M : tS), k59 x4 x5 M = some (r, Mz) → G X (QI X r [mdW (gcA X) a Mz]) [mdW (gcA X) a M] [some (.ref (a 0)), some (.int p0), none, none, some (.int x4), some (.int x5)] [] 59) (x4 : Int32) (x5 : Int32) (M : tS) (h : f_X6_heapsOfTheme_59b N p0  k59 x4 x5 M = some (r, Mz)) : G X (QI X r [mdW (gcA X) a Mz]) [mdW (gcA X) a M] [some (.ref (a 0)), some (.int p0), none, none, some (.int x4), some (.int x5)] [] 59 := by
  unfold f_X6_heapsOfTheme_59b at h
  refine g_iload (pc' := 61) C dX6_heapsOfTheme_59 rfl rfl ?_
  refine g_if_eq (pc' := 64) (tgt := 79) C dX6_heapsOfTheme_61 (by decide) rfl h (fun c h => ?_) (fun c h => ?_)
  · refine g_iload (pc' := 81) C dX6_heapsOfTheme_79 rfl rfl ?_
    obtain ⟨rfl, rfl⟩ := pj2 (Option.some.inj h)
    exact g_iret C dX6_heapsOfTheme_81
  · refine g_iinc (pc' := 67) (v := (x4 + 1)) C dX6_heapsOfTheme_64 rfl rfl rfl (L' := [some (.ref (a 0)), some (.int p0), none, none, some (.int (x4 + 1)), some (.int x5)]) rfl ?_
    refine g_iload (pc' := 69) C dX6_heapsOfTheme_67 rfl rfl ?_
    refine g_iload (pc' := 71) C dX6_heapsOfTheme_69 rfl rfl ?_
    refine g_iconst (pc' := 72) (v := 1) C dX6_heapsOfTheme_71 (by decide) rfl ?_
    refine g_isub (pc' := 73) C dX6_heapsOfTheme_72 rfl ?_
    refine g_iand (pc' := 74) C dX6_heapsOfTheme_73 rfl ?_
    refine g_istore (pc' := 76) C dX6_heapsOfTheme_74 (Nat.le_of_ble_eq_true rfl) rfl (L' := [some (.ref (a 0)), some (.int p0), none, none, some (.int (x4 + 1)), some (.int (x5 &&& (x5 - (1 : Int32))))]) rfl ?_
    refine g_goto (pc' := 59) C dX6_heapsOfTheme_76 (by decide) ?_
    exact G_loc (lle_s (lle_s (lle_n (lle_n (lle_s (lle_s lle_0)))))) (hk59 (x4 + 1) (x5 &&& (x5 - (1 : Int32))) M h)
set_option maxRecDepth 100000 in
set_option maxHeartbeats 4000000 in
theorem L_X6_heapsOfTheme_59 {X : gX} (C : cx X RX6 cX6_heapsOfTheme 6 (some .int) wsX6_heapsOfTheme 5 114) (a : Nat → Nat) (N : Nat) (p0 : Int32) (r : Int32) (Mz : tS)  : ∀ (n : Nat) (x4 : Int32) (x5 : Int32) (M : tS), f_X6_heapsOfTheme_59 N p0  n x4 x5 M = some (r, Mz) → G X (QI X r [mdW (gcA X) a Mz]) [mdW (gcA X) a M] [some (.ref (a 0)), some (.int p0), none, none, some (.int x4), some (.int x5)] [] 59 := by
  intro n
  induction n with
  | zero => intro x4 x5 M h; have h : (none : Option (Int32 × tS)) = some (r, Mz) := h; cases h
  | succ n ih => intro x4 x5 M h; exact B_X6_heapsOfTheme_59b C a N p0 r Mz  (f_X6_heapsOfTheme_59 N p0  n) ih x4 x5 M h
def f_X6_heapsOfTheme_45 (N : Nat) (p0 : Int32) (k10 : Int32 → Int32 → tS → Option (Int32 × tS)) (x4 : Int32) (t0 : Int32) (t1 : Int32) (M : tS) : Option (Int32 × tS) := k10 (t1 ||| t0) (x4 + 1) M
set_option maxRecDepth 100000 in
set_option maxHeartbeats 4000000 in
theorem B_X6_heapsOfTheme_45 {X : gX} (C : cx X RX6 cX6_heapsOfTheme 6 (some .int) wsX6_heapsOfTheme 5 114) (a : Nat → Nat) (N : Nat) (p0 : Int32) (r : Int32) (Mz : tS) (k10 : Int32 → Int32 → tS → Option (Int32 × tS)) (hk10 : ∀ (x2 : Int32) (x4 : Int32) (M : tS), k10 x2 x4 M = some (r, Mz) → G X (QI X r [mdW (gcA X) a Mz]) [mdW (gcA X) a M] [some (.ref (a 0)), some (.int p0), some (.int x2), none, some (.int x4), none] [] 10) (x4 : Int32) (t0 : Int32) (t1 : Int32) (M : tS) (h : f_X6_heapsOfTheme_45 N p0 k10 x4 t0 t1 M = some (r, Mz)) : G X (QI X r [mdW (gcA X) a Mz]) [mdW (gcA X) a M] [some (.ref (a 0)), some (.int p0), none, none, some (.int x4), none] [.int t0, .int t1] 45 := by
  unfold f_X6_heapsOfTheme_45 at h
  refine g_ior (pc' := 46) C dX6_heapsOfTheme_45 rfl ?_
  refine g_istore_n (pc' := 47) C dX6_heapsOfTheme_46 (Nat.le_of_ble_eq_true rfl) rfl (L' := [some (.ref (a 0)), some (.int p0), some (.int (t1 ||| t0)), none, some (.int x4), none]) rfl ?_
  refine g_iinc (pc' := 50) (v := (x4 + 1)) C dX6_heapsOfTheme_47 rfl rfl rfl (L' := [some (.ref (a 0)), some (.int p0), some (.int (t1 ||| t0)), none, some (.int (x4 + 1)), none]) rfl ?_
  refine g_goto (pc' := 10) C dX6_heapsOfTheme_50 (by decide) ?_
  exact G_loc (lle_s (lle_s (lle_s (lle_n (lle_s (lle_n lle_0)))))) (hk10 (t1 ||| t0) (x4 + 1) M h)
def f_X6_heapsOfTheme_10b (N : Nat) (p0 : Int32)  (k10 : Int32 → Int32 → tS → Option (Int32 × tS)) (x2 : Int32) (x4 : Int32) (M : tS) : Option (Int32 × tS) := (if (M 0 (0 : Int32).toNatClampNeg) ≤ x4 then f_X6_heapsOfTheme_59 N p0 N (0 : Int32) x2 M else (bd (f_X6_themeOf N M x4) (fun r1 => (if r1 = p0 then (if x4 < 0 ∨ 20 ≤ x4.toNatClampNeg then none else f_X6_heapsOfTheme_45 N p0 k10 x4 ((1 : Int32) <<< ((M 7 x4.toNatClampNeg) &&& 31)) x2 M) else f_X6_heapsOfTheme_45 N p0 k10 x4 (0 : Int32) x2 M))))
def f_X6_heapsOfTheme_10 (N : Nat) (p0 : Int32)  : Nat → Int32 → Int32 → tS → Option (Int32 × tS)
  | 0 => fun _ _ _ => none
  | n + 1 => f_X6_heapsOfTheme_10b N p0  (f_X6_heapsOfTheme_10 N p0  n)
set_option maxRecDepth 100000 in
set_option maxHeartbeats 4000000 in
theorem B_X6_heapsOfTheme_10b {X : gX} (C : cx X RX6 cX6_heapsOfTheme 6 (some .int) wsX6_heapsOfTheme 5 114) (a : Nat → Nat) (N : Nat) (p0 : Int32) (r : Int32) (Mz : tS)  (k10 : Int32 → Int32 → tS → Option (Int32 × tS)) (hk10 : ∀ (x2 : Int32) (x4 : Int32) (M : tS), k10 x2 x4 M = some (r, Mz) → G X (QI X r [mdW (gcA X) a Mz]) [mdW (gcA X) a M] [some (.ref (a 0)), some (.int p0), some (.int x2), none, some (.int x4), none] [] 10) (x2 : Int32) (x4 : Int32) (M : tS) (h : f_X6_heapsOfTheme_10b N p0  k10 x2 x4 M = some (r, Mz)) : G X (QI X r [mdW (gcA X) a Mz]) [mdW (gcA X) a M] [some (.ref (a 0)), some (.int p0), some (.int x2), none, some (.int x4), none] [] 10 := by
  unfold f_X6_heapsOfTheme_10b at h
  refine g_iload (pc' := 12) C dX6_heapsOfTheme_10 rfl rfl ?_
  refine g_aload_n (pc' := 13) C dX6_heapsOfTheme_12 rfl rfl ?_
  refine gg_X6_0 (pc' := 16) (i := 0) C rfl hi_X6_heapsOfTheme_X6 lk_X6_heapsOfTheme_1 dX6_heapsOfTheme_13 rfl ?_
  refine g_iconst (pc' := 17) (v := 0) C dX6_heapsOfTheme_16 (by decide) rfl ?_
  refine g_iald0 (pc' := 18) (i := 0) (j := 1) C rfl rfl dX6_heapsOfTheme_17 rfl (by unfold vp_in; decide) ?_
  refine g_icmp_ge (pc' := 21) (tgt := 53) C dX6_heapsOfTheme_18 (by decide) rfl h (fun c h => ?_) (fun c h => ?_)
  · refine g_iconst (pc' := 54) (v := 0) C dX6_heapsOfTheme_53 (by decide) rfl ?_
    refine g_istore (pc' := 56) C dX6_heapsOfTheme_54 (Nat.le_of_ble_eq_true rfl) rfl (L' := [some (.ref (a 0)), some (.int p0), some (.int x2), none, some (.int (0 : Int32)), none]) rfl ?_
    refine g_iload_n (pc' := 57) C dX6_heapsOfTheme_56 rfl rfl ?_
    refine g_istore (pc' := 59) C dX6_heapsOfTheme_57 (Nat.le_of_ble_eq_true rfl) rfl (L' := [some (.ref (a 0)), some (.int p0), some (.int x2), none, some (.int (0 : Int32)), some (.int x2)]) rfl ?_
    exact G_loc (lle_s (lle_s (lle_n (lle_n (lle_s (lle_s lle_0)))))) (L_X6_heapsOfTheme_59 C a N p0 r Mz N (0 : Int32) x2 M h)
  · refine g_iload_n (pc' := 22) C dX6_heapsOfTheme_21 rfl rfl ?_
    refine g_aload_n (pc' := 23) C dX6_heapsOfTheme_22 rfl rfl ?_
    refine g_iload (pc' := 25) C dX6_heapsOfTheme_23 rfl rfl ?_
    refine k_X6_themeOf (pc' := 28) C a N M x4 [0] rfl (by decide) gX6_heapsOfTheme_X6_themeOf ⟨Nat.le_of_ble_eq_true rfl, Nat.le_of_ble_eq_true rfl⟩ (Nat.le_of_ble_eq_true rfl) rfl dX6_heapsOfTheme_25 rfl h (fun r1 h => ?_)
    refine g_iload_n (pc' := 29) C dX6_heapsOfTheme_28 rfl rfl ?_
    refine g_icmp_ne (pc' := 32) (tgt := 44) C dX6_heapsOfTheme_29 (by decide) rfl h (fun c h => ?_) (fun c h => ?_)
    · refine g_iconst (pc' := 33) (v := 1) C dX6_heapsOfTheme_32 (by decide) rfl ?_
      refine g_aload_n (pc' := 34) C dX6_heapsOfTheme_33 rfl rfl ?_
      refine gg_X6_7 (pc' := 37) (i := 0) C rfl hi_X6_heapsOfTheme_X6 lk_X6_heapsOfTheme_2 dX6_heapsOfTheme_34 rfl ?_
      refine g_iload (pc' := 39) C dX6_heapsOfTheme_37 rfl rfl ?_
      refine g_iald (pc' := 40) (i := 0) (j := 5) C rfl rfl dX6_heapsOfTheme_39 rfl h (fun h => ?_)
      refine g_ishl (pc' := 41) C dX6_heapsOfTheme_40 rfl ?_
      refine g_goto (pc' := 45) C dX6_heapsOfTheme_41 (by decide) ?_
      exact G_loc (lle_s (lle_s (lle_n (lle_n (lle_s (lle_n lle_0)))))) (B_X6_heapsOfTheme_45 C a N p0 r Mz k10 hk10 x4 ((1 : Int32) <<< ((M 7 x4.toNatClampNeg) &&& 31)) x2 M h)
    · refine g_iconst (pc' := 45) (v := 0) C dX6_heapsOfTheme_44 (by decide) rfl ?_
      exact G_loc (lle_s (lle_s (lle_n (lle_n (lle_s (lle_n lle_0)))))) (B_X6_heapsOfTheme_45 C a N p0 r Mz k10 hk10 x4 (0 : Int32) x2 M h)
set_option maxRecDepth 100000 in
set_option maxHeartbeats 4000000 in
theorem L_X6_heapsOfTheme_10 {X : gX} (C : cx X RX6 cX6_heapsOfTheme 6 (some .int) wsX6_heapsOfTheme 5 114) (a : Nat → Nat) (N : Nat) (p0 : Int32) (r : Int32) (Mz : tS)  : ∀ (n : Nat) (x2 : Int32) (x4 : Int32) (M : tS), f_X6_heapsOfTheme_10 N p0  n x2 x4 M = some (r, Mz) → G X (QI X r [mdW (gcA X) a Mz]) [mdW (gcA X) a M] [some (.ref (a 0)), some (.int p0), some (.int x2), none, some (.int x4), none] [] 10 := by
  intro n
  induction n with
  | zero => intro x2 x4 M h; have h : (none : Option (Int32 × tS)) = some (r, Mz) := h; cases h
  | succ n ih => intro x2 x4 M h; exact B_X6_heapsOfTheme_10b C a N p0 r Mz  (f_X6_heapsOfTheme_10 N p0  n) ih x2 x4 M h
def f_X6_heapsOfTheme (N : Nat) (M : tS) (p0 : Int32) : Option (Int32 × tS) := (bd2 (f_X6_laysNow N M) (fun r1 M1 => f_X6_heapsOfTheme_10 N p0 N (0 : Int32) (0 : Int32) M1))
set_option maxRecDepth 100000 in
set_option maxHeartbeats 4000000 in
theorem B_X6_heapsOfTheme {X : gX} (C : cx X RX6 cX6_heapsOfTheme 6 (some .int) wsX6_heapsOfTheme 5 114) (a : Nat → Nat) (N : Nat) (M : tS) (p0 : Int32) (r : Int32) (Mz : tS) (h : f_X6_heapsOfTheme N M p0 = some (r, Mz)) : G X (QI X r [mdW (gcA X) a Mz]) [mdW (gcA X) a M] [some (.ref (a 0)), some (.int p0), none, none, none, none] [] 0 := by
  unfold f_X6_heapsOfTheme at h
  refine g_iconst (pc' := 1) (v := 0) C dX6_heapsOfTheme_0 (by decide) rfl ?_
  refine g_istore_n (pc' := 2) C dX6_heapsOfTheme_1 (Nat.le_of_ble_eq_true rfl) rfl (L' := [some (.ref (a 0)), some (.int p0), some (.int (0 : Int32)), none, none, none]) rfl ?_
  refine g_aload_n (pc' := 3) C dX6_heapsOfTheme_2 rfl rfl ?_
  refine k_X6_laysNow (pc' := 6) C a N M [0] rfl (by decide) gX6_heapsOfTheme_X6_laysNow ⟨Nat.le_of_ble_eq_true rfl, Nat.le_of_ble_eq_true rfl⟩ (Nat.le_of_ble_eq_true rfl) rfl dX6_heapsOfTheme_3 rfl h (fun r1 M1 h => ?_)
  show G X _ [mdW (gcA X) a M1] _ _ _
  refine g_istore_n (pc' := 7) C dX6_heapsOfTheme_6 (Nat.le_of_ble_eq_true rfl) rfl (L' := [some (.ref (a 0)), some (.int p0), some (.int (0 : Int32)), some (.int r1), none, none]) rfl ?_
  refine g_iconst (pc' := 8) (v := 0) C dX6_heapsOfTheme_7 (by decide) rfl ?_
  refine g_istore (pc' := 10) C dX6_heapsOfTheme_8 (Nat.le_of_ble_eq_true rfl) rfl (L' := [some (.ref (a 0)), some (.int p0), some (.int (0 : Int32)), some (.int r1), some (.int (0 : Int32)), none]) rfl ?_
  exact G_loc (lle_s (lle_s (lle_s (lle_n (lle_s (lle_n lle_0)))))) (L_X6_heapsOfTheme_10 C a N p0 r Mz N (0 : Int32) (0 : Int32) M1 h)
set_option maxRecDepth 100000 in
set_option maxHeartbeats 4000000 in
theorem c_X6_heapsOfTheme (l : Launch) (D : va_G) (cA : Nat → ClassId) (a : Nat → Nat) (N : Nat) (M : tS) (p0 : Int32) (r : Int32) (Mz : tS) (h : f_X6_heapsOfTheme N M p0 = some (r, Mz)) : MI l D cA yX6_heapsOfTheme wsX6_heapsOfTheme 5 114 [.ref (a 0), .int p0] [mdW cA a M] r [mdW cA a Mz] := MI_of (cc := cX6_heapsOfTheme) (maxL := 6) (rt := some .int) (by decide +kernel) rfl (List.forall_mem_cons.mpr ⟨rfl, List.forall_mem_cons.mpr ⟨rfl, List.forall_mem_nil _⟩⟩) (Nat.le_of_ble_eq_true rfl) (fun X e1 e2 e3 C => by subst e1; subst e2; subst e3; exact B_X6_heapsOfTheme C a N M p0 r Mz h)
set_option maxRecDepth 100000 in
set_option maxHeartbeats 4000000 in
theorem nd_X6_heapsOfTheme : nd yX6_heapsOfTheme 1 := ⟨by decide +kernel, by decide +kernel, by decide +kernel⟩
set_option maxRecDepth 100000 in
set_option maxHeartbeats 4000000 in
theorem k_X6_heapsOfTheme {X : gX} {own : String} {cc : ByteArray} {nL : Nat} {ret : Option FieldType} {Ts : List Cond} {fr lm : Nat} {Q : State → Prop} {ms : List va_W} {L : List (Option Value)} {st : List Value} {pc pc' idx : Nat} {ρ : Type} {T : Int32 → tS → Option ρ} {res : ρ} (C : cx X own cc nL ret Ts fr lm) (a : Nat → Nat) (N : Nat) (M : tS) (p0 : Int32) (is : List Nat) (hC : is.map (fun i => ms[i]?) = [some (mdW (gcA X) a M)]) (hn : is.Nodup) (hG : GoodIn Ts (wsV own idx RX6 yX6_heapsOfTheme wsX6_heapsOfTheme)) (hR : 5 + 1 ≤ fr ∧ 8 + (6 + 11) + 114 ≤ lm) (hst : (st.map fun v => v.category).sum ≤ 8) (hLn : L.length = nL) (d : decode cc pc = .ok (.invokevirtual idx, 3)) (hp : pc + 3 = pc') (h : bd2 (f_X6_heapsOfTheme N M p0) T = some res) (kk : ∀ (r : Int32) (Mz : tS), T r Mz = some res → G X Q (rpl ms is [mdW (gcA X) a Mz]) L (.int r :: st) pc') : G X Q ms L (.int p0 :: .ref (a 0) :: st) pc := by
  obtain ⟨r, Mz, h1, h⟩ := ob2 h
  exact G_callVI C (As := [.int p0]) (c_X6_heapsOfTheme (gl X) (gD X) (gcA X) a N M p0 r Mz h1) hG rfl nd_X6_heapsOfTheme hR (q0 := 0) rfl rfl hC hn rfl rfl hst hLn d hp (kk r Mz h)
def f_X6_voted_25 (N : Nat) (M : tS) (p0 : Int32) (k4 : Int32 → Int32 → Option (Int32)) (x3 : Int32) (t0 : Int32) (t1 : Int32) : Option (Int32) := k4 (t1 + t0) (x3 + 1)
set_option maxRecDepth 100000 in
set_option maxHeartbeats 4000000 in
theorem B_X6_voted_25 {X : gX} (C : cx X RX6 cX6_voted 4 (some .int) wsX6_voted 1 22) (a : Nat → Nat) (N : Nat) (M : tS) (p0 : Int32) (r : Int32) (k4 : Int32 → Int32 → Option (Int32)) (hk4 : ∀ (x2 : Int32) (x3 : Int32), k4 x2 x3 = some r → G X (QI X r [mdW (gcA X) a M]) [mdW (gcA X) a M] [some (.ref (a 0)), some (.int p0), some (.int x2), some (.int x3)] [] 4) (x3 : Int32) (t0 : Int32) (t1 : Int32) (h : f_X6_voted_25 N M p0 k4 x3 t0 t1 = some r) : G X (QI X r [mdW (gcA X) a M]) [mdW (gcA X) a M] [some (.ref (a 0)), some (.int p0), none, some (.int x3)] [.int t0, .int t1] 25 := by
  unfold f_X6_voted_25 at h
  refine g_iadd (pc' := 26) C dX6_voted_25 rfl ?_
  refine g_istore_n (pc' := 27) C dX6_voted_26 (Nat.le_of_ble_eq_true rfl) rfl (L' := [some (.ref (a 0)), some (.int p0), some (.int (t1 + t0)), some (.int x3)]) rfl ?_
  refine g_iinc (pc' := 30) (v := (x3 + 1)) C dX6_voted_27 rfl rfl rfl (L' := [some (.ref (a 0)), some (.int p0), some (.int (t1 + t0)), some (.int (x3 + 1))]) rfl ?_
  refine g_goto (pc' := 4) C dX6_voted_30 (by decide) ?_
  exact G_loc (lle_s (lle_s (lle_s (lle_s lle_0)))) (hk4 (t1 + t0) (x3 + 1) h)
def f_X6_voted_4b (N : Nat) (M : tS) (p0 : Int32)  (k4 : Int32 → Int32 → Option (Int32)) (x2 : Int32) (x3 : Int32) : Option (Int32) := (if (6 : Int32) ≤ x3 then some x2 else (bd (f_X6_voteOf N M p0 x3) (fun r1 => (if r1 < 0 then f_X6_voted_25 N M p0 k4 x3 (0 : Int32) x2 else f_X6_voted_25 N M p0 k4 x3 (1 : Int32) x2))))
def f_X6_voted_4 (N : Nat) (M : tS) (p0 : Int32)  : Nat → Int32 → Int32 → Option (Int32)
  | 0 => fun _ _ => none
  | n + 1 => f_X6_voted_4b N M p0  (f_X6_voted_4 N M p0  n)
set_option maxRecDepth 100000 in
set_option maxHeartbeats 4000000 in
theorem B_X6_voted_4b {X : gX} (C : cx X RX6 cX6_voted 4 (some .int) wsX6_voted 1 22) (a : Nat → Nat) (N : Nat) (M : tS) (p0 : Int32) (r : Int32)  (k4 : Int32 → Int32 → Option (Int32)) (hk4 : ∀ (x2 : Int32) (x3 : Int32), k4 x2 x3 = some r → G X (QI X r [mdW (gcA X) a M]) [mdW (gcA X) a M] [some (.ref (a 0)), some (.int p0), some (.int x2), some (.int x3)] [] 4) (x2 : Int32) (x3 : Int32) (h : f_X6_voted_4b N M p0  k4 x2 x3 = some r) : G X (QI X r [mdW (gcA X) a M]) [mdW (gcA X) a M] [some (.ref (a 0)), some (.int p0), some (.int x2), some (.int x3)] [] 4 := by
  unfold f_X6_voted_4b at h
  refine g_iload_n (pc' := 5) C dX6_voted_4 rfl rfl ?_
  refine g_bipush (pc' := 7) (v := 6) C dX6_voted_5 (by decide) rfl ?_
  refine g_icmp_ge (pc' := 10) (tgt := 33) C dX6_voted_7 (by decide) rfl h (fun c h => ?_) (fun c h => ?_)
  · refine g_iload_n (pc' := 34) C dX6_voted_33 rfl rfl ?_
    obtain rfl := Option.some.inj h
    exact g_iret C dX6_voted_34
  · refine g_iload_n (pc' := 11) C dX6_voted_10 rfl rfl ?_
    refine g_aload_n (pc' := 12) C dX6_voted_11 rfl rfl ?_
    refine g_iload_n (pc' := 13) C dX6_voted_12 rfl rfl ?_
    refine g_iload_n (pc' := 14) C dX6_voted_13 rfl rfl ?_
    refine k_X6_voteOf (pc' := 17) C a N M p0 x3 [0] rfl (by decide) gX6_voted_X6_voteOf ⟨Nat.le_of_ble_eq_true rfl, Nat.le_of_ble_eq_true rfl⟩ (Nat.le_of_ble_eq_true rfl) rfl dX6_voted_14 rfl h (fun r1 h => ?_)
    refine g_if_lt (pc' := 20) (tgt := 24) C dX6_voted_17 (by decide) rfl h (fun c h => ?_) (fun c h => ?_)
    · refine g_iconst (pc' := 25) (v := 0) C dX6_voted_24 (by decide) rfl ?_
      exact G_loc (lle_s (lle_s (lle_n (lle_s lle_0)))) (B_X6_voted_25 C a N M p0 r k4 hk4 x3 (0 : Int32) x2 h)
    · refine g_iconst (pc' := 21) (v := 1) C dX6_voted_20 (by decide) rfl ?_
      refine g_goto (pc' := 25) C dX6_voted_21 (by decide) ?_
      exact G_loc (lle_s (lle_s (lle_n (lle_s lle_0)))) (B_X6_voted_25 C a N M p0 r k4 hk4 x3 (1 : Int32) x2 h)
set_option maxRecDepth 100000 in
set_option maxHeartbeats 4000000 in
theorem L_X6_voted_4 {X : gX} (C : cx X RX6 cX6_voted 4 (some .int) wsX6_voted 1 22) (a : Nat → Nat) (N : Nat) (M : tS) (p0 : Int32) (r : Int32)  : ∀ (n : Nat) (x2 : Int32) (x3 : Int32), f_X6_voted_4 N M p0  n x2 x3 = some r → G X (QI X r [mdW (gcA X) a M]) [mdW (gcA X) a M] [some (.ref (a 0)), some (.int p0), some (.int x2), some (.int x3)] [] 4 := by
  intro n
  induction n with
  | zero => intro x2 x3 h; have h : (none : Option (Int32)) = some r := h; cases h
  | succ n ih => intro x2 x3 h; exact B_X6_voted_4b C a N M p0 r  (f_X6_voted_4 N M p0  n) ih x2 x3 h
def f_X6_voted (N : Nat) (M : tS) (p0 : Int32) : Option (Int32) := f_X6_voted_4 N M p0 N (0 : Int32) (0 : Int32)
set_option maxRecDepth 100000 in
set_option maxHeartbeats 4000000 in
theorem B_X6_voted {X : gX} (C : cx X RX6 cX6_voted 4 (some .int) wsX6_voted 1 22) (a : Nat → Nat) (N : Nat) (M : tS) (p0 : Int32) (r : Int32) (h : f_X6_voted N M p0 = some r) : G X (QI X r [mdW (gcA X) a M]) [mdW (gcA X) a M] [some (.ref (a 0)), some (.int p0), none, none] [] 0 := by
  unfold f_X6_voted at h
  refine g_iconst (pc' := 1) (v := 0) C dX6_voted_0 (by decide) rfl ?_
  refine g_istore_n (pc' := 2) C dX6_voted_1 (Nat.le_of_ble_eq_true rfl) rfl (L' := [some (.ref (a 0)), some (.int p0), some (.int (0 : Int32)), none]) rfl ?_
  refine g_iconst (pc' := 3) (v := 0) C dX6_voted_2 (by decide) rfl ?_
  refine g_istore_n (pc' := 4) C dX6_voted_3 (Nat.le_of_ble_eq_true rfl) rfl (L' := [some (.ref (a 0)), some (.int p0), some (.int (0 : Int32)), some (.int (0 : Int32))]) rfl ?_
  exact G_loc (lle_s (lle_s (lle_s (lle_s lle_0)))) (L_X6_voted_4 C a N M p0 r N (0 : Int32) (0 : Int32) h)
set_option maxRecDepth 100000 in
set_option maxHeartbeats 4000000 in
theorem c_X6_voted (l : Launch) (D : va_G) (cA : Nat → ClassId) (a : Nat → Nat) (N : Nat) (M : tS) (p0 : Int32) (r : Int32) (h : f_X6_voted N M p0 = some r) : MI l D cA yX6_voted wsX6_voted 1 22 [.ref (a 0), .int p0] [mdW cA a M] r [mdW cA a M] := MI_of (cc := cX6_voted) (maxL := 4) (rt := some .int) (by decide +kernel) rfl (List.forall_mem_cons.mpr ⟨rfl, List.forall_mem_cons.mpr ⟨rfl, List.forall_mem_nil _⟩⟩) (Nat.le_of_ble_eq_true rfl) (fun X e1 e2 e3 C => by subst e1; subst e2; subst e3; exact B_X6_voted C a N M p0 r h)
set_option maxRecDepth 100000 in
set_option maxHeartbeats 4000000 in
theorem nd_X6_voted : nd yX6_voted 1 := ⟨by decide +kernel, by decide +kernel, by decide +kernel⟩
set_option maxRecDepth 100000 in
set_option maxHeartbeats 4000000 in
theorem k_X6_voted {X : gX} {own : String} {cc : ByteArray} {nL : Nat} {ret : Option FieldType} {Ts : List Cond} {fr lm : Nat} {Q : State → Prop} {ms : List va_W} {L : List (Option Value)} {st : List Value} {pc pc' idx : Nat} {ρ : Type} {T : Int32 → Option ρ} {res : ρ} (C : cx X own cc nL ret Ts fr lm) (a : Nat → Nat) (N : Nat) (M : tS) (p0 : Int32) (is : List Nat) (hC : is.map (fun i => ms[i]?) = [some (mdW (gcA X) a M)]) (hn : is.Nodup) (hG : GoodIn Ts (wsV own idx RX6 yX6_voted wsX6_voted)) (hR : 1 + 1 ≤ fr ∧ 8 + (4 + 11) + 22 ≤ lm) (hst : (st.map fun v => v.category).sum ≤ 8) (hLn : L.length = nL) (d : decode cc pc = .ok (.invokevirtual idx, 3)) (hp : pc + 3 = pc') (h : bd (f_X6_voted N M p0) T = some res) (kk : ∀ (r : Int32), T r = some res → G X Q (ms) L (.int r :: st) pc') : G X Q ms L (.int p0 :: .ref (a 0) :: st) pc := by
  obtain ⟨r, h1, h⟩ := ob h
  exact G_callVI C (As := [.int p0]) (c_X6_voted (gl X) (gD X) (gcA X) a N M p0 r h1) hG rfl nd_X6_voted hR (q0 := 0) rfl rfl hC hn rfl rfl hst hLn d hp (G_ms (rpl_same (mc := [mdW (gcA X) a M]) hC) (kk r h))
def f_X6_theme (N : Nat) (M : tS) (p0 : Int32) (p1 : Int32) : Option (Int32 × tS) := (bd (f_X6_isTheme N M p0) (fun r1 => (if r1 = 0 then some ((-1 : Int32), M) else (if p1 = (0 : Int32) then (bd (f_X6_notesOf N M p0) (fun r2 => some (r2, M))) else (if p1 = (1 : Int32) then (bd (f_X6_dotsOfTheme N M p0) (fun r3 => some (r3, M))) else (if p1 = (2 : Int32) then (bd (f_X6_nameOf N M p0) (fun r4 => some (r4, M))) else (if p1 = (3 : Int32) then (bd (f_X6_rankOf N M p0) (fun r5 => some (r5, M))) else (if p1 = (4 : Int32) then (bd2 (f_X6_heapsOfTheme N M p0) (fun r6 M6 => some (r6, M6))) else (if p1 = (5 : Int32) then (bd (f_X6_voted N M p0) (fun r7 => some (r7, M))) else some ((-2 : Int32), M))))))))))
set_option maxRecDepth 100000 in
set_option maxHeartbeats 4000000 in
theorem B_X6_theme {X : gX} (C : cx X RX6 cX6_theme 3 (some .int) wsX6_theme 6 139) (a : Nat → Nat) (N : Nat) (M : tS) (p0 : Int32) (p1 : Int32) (r : Int32) (Mz : tS) (h : f_X6_theme N M p0 p1 = some (r, Mz)) : G X (QI X r [mdW (gcA X) a Mz]) [mdW (gcA X) a M] [some (.ref (a 0)), some (.int p0), some (.int p1)] [] 0 := by
  unfold f_X6_theme at h
  refine g_aload_n (pc' := 1) C dX6_theme_0 rfl rfl ?_
  refine g_iload_n (pc' := 2) C dX6_theme_1 rfl rfl ?_
  refine k_X6_isTheme (pc' := 5) C a N M p0 [0] rfl (by decide) gX6_theme_X6_isTheme ⟨Nat.le_of_ble_eq_true rfl, Nat.le_of_ble_eq_true rfl⟩ (Nat.le_of_ble_eq_true rfl) rfl dX6_theme_2 rfl h (fun r1 h => ?_)
  refine g_if_ne (pc' := 8) (tgt := 10) C dX6_theme_5 (by decide) rfl h (fun c h => ?_) (fun c h => ?_)
  · refine g_iconst (pc' := 9) (v := -1) C dX6_theme_8 (by decide) rfl ?_
    obtain ⟨rfl, rfl⟩ := pj2 (Option.some.inj h)
    exact g_iret C dX6_theme_9
  · refine g_iload_n (pc' := 11) C dX6_theme_10 rfl rfl ?_
    refine oif h (fun c h => ?_) (fun c0 h => ?_)
    · refine g_tabIn (pc' := 48) (off := 37) C dX6_theme_11 (by rw [c] <;> decide) (by rw [c] <;> decide) (by rw [c] <;> decide) (by decide) ?_
      refine g_aload_n (pc' := 49) C dX6_theme_48 rfl rfl ?_
      refine g_iload_n (pc' := 50) C dX6_theme_49 rfl rfl ?_
      refine k_X6_notesOf (pc' := 53) C a N M p0 [0] rfl (by decide) gX6_theme_X6_notesOf ⟨Nat.le_of_ble_eq_true rfl, Nat.le_of_ble_eq_true rfl⟩ (Nat.le_of_ble_eq_true rfl) rfl dX6_theme_50 rfl h (fun r2 h => ?_)
      obtain ⟨rfl, rfl⟩ := pj2 (Option.some.inj h)
      exact g_iret C dX6_theme_53
    refine oif h (fun c h => ?_) (fun c1 h => ?_)
    · refine g_tabIn (pc' := 54) (off := 43) C dX6_theme_11 (by rw [c] <;> decide) (by rw [c] <;> decide) (by rw [c] <;> decide) (by decide) ?_
      refine g_aload_n (pc' := 55) C dX6_theme_54 rfl rfl ?_
      refine g_iload_n (pc' := 56) C dX6_theme_55 rfl rfl ?_
      refine k_X6_dotsOfTheme (pc' := 59) C a N M p0 [0] rfl (by decide) gX6_theme_X6_dotsOfTheme ⟨Nat.le_of_ble_eq_true rfl, Nat.le_of_ble_eq_true rfl⟩ (Nat.le_of_ble_eq_true rfl) rfl dX6_theme_56 rfl h (fun r3 h => ?_)
      obtain ⟨rfl, rfl⟩ := pj2 (Option.some.inj h)
      exact g_iret C dX6_theme_59
    refine oif h (fun c h => ?_) (fun c2 h => ?_)
    · refine g_tabIn (pc' := 60) (off := 49) C dX6_theme_11 (by rw [c] <;> decide) (by rw [c] <;> decide) (by rw [c] <;> decide) (by decide) ?_
      refine g_aload_n (pc' := 61) C dX6_theme_60 rfl rfl ?_
      refine g_iload_n (pc' := 62) C dX6_theme_61 rfl rfl ?_
      refine k_X6_nameOf (pc' := 65) C a N M p0 [0] rfl (by decide) gX6_theme_X6_nameOf ⟨Nat.le_of_ble_eq_true rfl, Nat.le_of_ble_eq_true rfl⟩ (Nat.le_of_ble_eq_true rfl) rfl dX6_theme_62 rfl h (fun r4 h => ?_)
      obtain ⟨rfl, rfl⟩ := pj2 (Option.some.inj h)
      exact g_iret C dX6_theme_65
    refine oif h (fun c h => ?_) (fun c3 h => ?_)
    · refine g_tabIn (pc' := 66) (off := 55) C dX6_theme_11 (by rw [c] <;> decide) (by rw [c] <;> decide) (by rw [c] <;> decide) (by decide) ?_
      refine g_aload_n (pc' := 67) C dX6_theme_66 rfl rfl ?_
      refine g_iload_n (pc' := 68) C dX6_theme_67 rfl rfl ?_
      refine k_X6_rankOf (pc' := 71) C a N M p0 [0] rfl (by decide) gX6_theme_X6_rankOf ⟨Nat.le_of_ble_eq_true rfl, Nat.le_of_ble_eq_true rfl⟩ (Nat.le_of_ble_eq_true rfl) rfl dX6_theme_68 rfl h (fun r5 h => ?_)
      obtain ⟨rfl, rfl⟩ := pj2 (Option.some.inj h)
      exact g_iret C dX6_theme_71
    refine oif h (fun c h => ?_) (fun c4 h => ?_)
    · refine g_tabIn (pc' := 72) (off := 61) C dX6_theme_11 (by rw [c] <;> decide) (by rw [c] <;> decide) (by rw [c] <;> decide) (by decide) ?_
      refine g_aload_n (pc' := 73) C dX6_theme_72 rfl rfl ?_
      refine g_iload_n (pc' := 74) C dX6_theme_73 rfl rfl ?_
      refine k_X6_heapsOfTheme (pc' := 77) C a N M p0 [0] rfl (by decide) gX6_theme_X6_heapsOfTheme ⟨Nat.le_of_ble_eq_true rfl, Nat.le_of_ble_eq_true rfl⟩ (Nat.le_of_ble_eq_true rfl) rfl dX6_theme_74 rfl h (fun r6 M6 h => ?_)
      show G X _ [mdW (gcA X) a M6] _ _ _
      obtain ⟨rfl, rfl⟩ := pj2 (Option.some.inj h)
      exact g_iret C dX6_theme_77
    refine oif h (fun c h => ?_) (fun c5 h => ?_)
    · refine g_tabIn (pc' := 78) (off := 67) C dX6_theme_11 (by rw [c] <;> decide) (by rw [c] <;> decide) (by rw [c] <;> decide) (by decide) ?_
      refine g_aload_n (pc' := 79) C dX6_theme_78 rfl rfl ?_
      refine g_iload_n (pc' := 80) C dX6_theme_79 rfl rfl ?_
      refine k_X6_voted (pc' := 83) C a N M p0 [0] rfl (by decide) gX6_theme_X6_voted ⟨Nat.le_of_ble_eq_true rfl, Nat.le_of_ble_eq_true rfl⟩ (Nat.le_of_ble_eq_true rfl) rfl dX6_theme_80 rfl h (fun r7 h => ?_)
      obtain ⟨rfl, rfl⟩ := pj2 (Option.some.inj h)
      exact g_iret C dX6_theme_83
    have e0 := lv_neT (a := 0) c0 (by decide)
    have e1 := lv_neT (a := 1) c1 (by decide)
    have e2 := lv_neT (a := 2) c2 (by decide)
    have e3 := lv_neT (a := 3) c3 (by decide)
    have e4 := lv_neT (a := 4) c4 (by decide)
    have e5 := lv_neT (a := 5) c5 (by decide)
    refine g_tabOut (pc' := 84) C dX6_theme_11 (by omega) (by decide) ?_
    refine g_bipush (pc' := 86) (v := -2) C dX6_theme_84 (by decide) rfl ?_
    obtain ⟨rfl, rfl⟩ := pj2 (Option.some.inj h)
    exact g_iret C dX6_theme_86
set_option maxRecDepth 100000 in
set_option maxHeartbeats 4000000 in
theorem c_X6_theme (l : Launch) (D : va_G) (cA : Nat → ClassId) (a : Nat → Nat) (N : Nat) (M : tS) (p0 : Int32) (p1 : Int32) (r : Int32) (Mz : tS) (h : f_X6_theme N M p0 p1 = some (r, Mz)) : MI l D cA yX6_theme wsX6_theme 6 139 [.ref (a 0), .int p0, .int p1] [mdW cA a M] r [mdW cA a Mz] := MI_of (cc := cX6_theme) (maxL := 3) (rt := some .int) (by decide +kernel) rfl (List.forall_mem_cons.mpr ⟨rfl, List.forall_mem_cons.mpr ⟨rfl, List.forall_mem_cons.mpr ⟨rfl, List.forall_mem_nil _⟩⟩⟩) (Nat.le_of_ble_eq_true rfl) (fun X e1 e2 e3 C => by subst e1; subst e2; subst e3; exact B_X6_theme C a N M p0 p1 r Mz h)
set_option maxRecDepth 100000 in
set_option maxHeartbeats 4000000 in
theorem nd_X6_theme : nd yX6_theme 2 := ⟨by decide +kernel, by decide +kernel, by decide +kernel⟩
set_option maxRecDepth 100000 in
set_option maxHeartbeats 4000000 in
theorem k_X6_theme {X : gX} {own : String} {cc : ByteArray} {nL : Nat} {ret : Option FieldType} {Ts : List Cond} {fr lm : Nat} {Q : State → Prop} {ms : List va_W} {L : List (Option Value)} {st : List Value} {pc pc' idx : Nat} {ρ : Type} {T : Int32 → tS → Option ρ} {res : ρ} (C : cx X own cc nL ret Ts fr lm) (a : Nat → Nat) (N : Nat) (M : tS) (p0 : Int32) (p1 : Int32) (is : List Nat) (hC : is.map (fun i => ms[i]?) = [some (mdW (gcA X) a M)]) (hn : is.Nodup) (hG : GoodIn Ts (wsV own idx RX6 yX6_theme wsX6_theme)) (hR : 6 + 1 ≤ fr ∧ 8 + (3 + 11) + 139 ≤ lm) (hst : (st.map fun v => v.category).sum ≤ 8) (hLn : L.length = nL) (d : decode cc pc = .ok (.invokevirtual idx, 3)) (hp : pc + 3 = pc') (h : bd2 (f_X6_theme N M p0 p1) T = some res) (kk : ∀ (r : Int32) (Mz : tS), T r Mz = some res → G X Q (rpl ms is [mdW (gcA X) a Mz]) L (.int r :: st) pc') : G X Q ms L (.int p1 :: .int p0 :: .ref (a 0) :: st) pc := by
  obtain ⟨r, Mz, h1, h⟩ := ob2 h
  exact G_callVI C (As := [.int p0, .int p1]) (c_X6_theme (gl X) (gD X) (gcA X) a N M p0 p1 r Mz h1) hG rfl nd_X6_theme hR (q0 := 0) rfl rfl hC hn rfl rfl hst hLn d hp (kk r Mz h)
def f_X6_votes (N : Nat) (M : tS) (p0 : Int32) (p1 : Int32) : Option (Int32) := (bd (f_X6_isTheme N M p0) (fun r1 => (if r1 = 0 then some (-1 : Int32) else (bd (f_X6_in N p1 (0 : Int32) (9 : Int32)) (fun r2 => (if r2 = 0 then some (-2 : Int32) else (bd (f_X6_votesFor N M p0 p1) (fun r3 => some r3))))))))
set_option maxRecDepth 100000 in
set_option maxHeartbeats 4000000 in
theorem B_X6_votes {X : gX} (C : cx X RX6 cX6_votes 3 (some .int) wsX6_votes 2 46) (a : Nat → Nat) (N : Nat) (M : tS) (p0 : Int32) (p1 : Int32) (r : Int32) (h : f_X6_votes N M p0 p1 = some r) : G X (QI X r [mdW (gcA X) a M]) [mdW (gcA X) a M] [some (.ref (a 0)), some (.int p0), some (.int p1)] [] 0 := by
  unfold f_X6_votes at h
  refine g_aload_n (pc' := 1) C dX6_votes_0 rfl rfl ?_
  refine g_iload_n (pc' := 2) C dX6_votes_1 rfl rfl ?_
  refine k_X6_isTheme (pc' := 5) C a N M p0 [0] rfl (by decide) gX6_votes_X6_isTheme ⟨Nat.le_of_ble_eq_true rfl, Nat.le_of_ble_eq_true rfl⟩ (Nat.le_of_ble_eq_true rfl) rfl dX6_votes_2 rfl h (fun r1 h => ?_)
  refine g_if_ne (pc' := 8) (tgt := 10) C dX6_votes_5 (by decide) rfl h (fun c h => ?_) (fun c h => ?_)
  · refine g_iconst (pc' := 9) (v := -1) C dX6_votes_8 (by decide) rfl ?_
    obtain rfl := Option.some.inj h
    exact g_iret C dX6_votes_9
  · refine g_iload_n (pc' := 11) C dX6_votes_10 rfl rfl ?_
    refine g_iconst (pc' := 12) (v := 0) C dX6_votes_11 (by decide) rfl ?_
    refine g_bipush (pc' := 14) (v := 9) C dX6_votes_12 (by decide) rfl ?_
    refine k_X6_in (pc' := 17) C N p1 (0 : Int32) (9 : Int32) [] rfl (by decide) gX6_votes_X6_in ⟨Nat.le_of_ble_eq_true rfl, Nat.le_of_ble_eq_true rfl⟩ (Nat.le_of_ble_eq_true rfl) rfl dX6_votes_14 rfl h (fun r2 h => ?_)
    refine g_if_eq (pc' := 20) (tgt := 29) C dX6_votes_17 (by decide) rfl h (fun c h => ?_) (fun c h => ?_)
    · refine g_bipush (pc' := 31) (v := -2) C dX6_votes_29 (by decide) rfl ?_
      obtain rfl := Option.some.inj h
      exact g_iret C dX6_votes_31
    · refine g_aload_n (pc' := 21) C dX6_votes_20 rfl rfl ?_
      refine g_iload_n (pc' := 22) C dX6_votes_21 rfl rfl ?_
      refine g_iload_n (pc' := 23) C dX6_votes_22 rfl rfl ?_
      refine k_X6_votesFor (pc' := 26) C a N M p0 p1 [0] rfl (by decide) gX6_votes_X6_votesFor ⟨Nat.le_of_ble_eq_true rfl, Nat.le_of_ble_eq_true rfl⟩ (Nat.le_of_ble_eq_true rfl) rfl dX6_votes_23 rfl h (fun r3 h => ?_)
      refine g_goto (pc' := 31) C dX6_votes_26 (by decide) ?_
      obtain rfl := Option.some.inj h
      exact g_iret C dX6_votes_31
set_option maxRecDepth 100000 in
set_option maxHeartbeats 4000000 in
theorem c_X6_votes (l : Launch) (D : va_G) (cA : Nat → ClassId) (a : Nat → Nat) (N : Nat) (M : tS) (p0 : Int32) (p1 : Int32) (r : Int32) (h : f_X6_votes N M p0 p1 = some r) : MI l D cA yX6_votes wsX6_votes 2 46 [.ref (a 0), .int p0, .int p1] [mdW cA a M] r [mdW cA a M] := MI_of (cc := cX6_votes) (maxL := 3) (rt := some .int) (by decide +kernel) rfl (List.forall_mem_cons.mpr ⟨rfl, List.forall_mem_cons.mpr ⟨rfl, List.forall_mem_cons.mpr ⟨rfl, List.forall_mem_nil _⟩⟩⟩) (Nat.le_of_ble_eq_true rfl) (fun X e1 e2 e3 C => by subst e1; subst e2; subst e3; exact B_X6_votes C a N M p0 p1 r h)
set_option maxRecDepth 100000 in
set_option maxHeartbeats 4000000 in
theorem nd_X6_votes : nd yX6_votes 2 := ⟨by decide +kernel, by decide +kernel, by decide +kernel⟩
set_option maxRecDepth 100000 in
set_option maxHeartbeats 4000000 in
theorem k_X6_votes {X : gX} {own : String} {cc : ByteArray} {nL : Nat} {ret : Option FieldType} {Ts : List Cond} {fr lm : Nat} {Q : State → Prop} {ms : List va_W} {L : List (Option Value)} {st : List Value} {pc pc' idx : Nat} {ρ : Type} {T : Int32 → Option ρ} {res : ρ} (C : cx X own cc nL ret Ts fr lm) (a : Nat → Nat) (N : Nat) (M : tS) (p0 : Int32) (p1 : Int32) (is : List Nat) (hC : is.map (fun i => ms[i]?) = [some (mdW (gcA X) a M)]) (hn : is.Nodup) (hG : GoodIn Ts (wsV own idx RX6 yX6_votes wsX6_votes)) (hR : 2 + 1 ≤ fr ∧ 8 + (3 + 11) + 46 ≤ lm) (hst : (st.map fun v => v.category).sum ≤ 8) (hLn : L.length = nL) (d : decode cc pc = .ok (.invokevirtual idx, 3)) (hp : pc + 3 = pc') (h : bd (f_X6_votes N M p0 p1) T = some res) (kk : ∀ (r : Int32), T r = some res → G X Q (ms) L (.int r :: st) pc') : G X Q ms L (.int p1 :: .int p0 :: .ref (a 0) :: st) pc := by
  obtain ⟨r, h1, h⟩ := ob h
  exact G_callVI C (As := [.int p0, .int p1]) (c_X6_votes (gl X) (gD X) (gcA X) a N M p0 p1 r h1) hG rfl nd_X6_votes hR (q0 := 0) rfl rfl hC hn rfl rfl hst hLn d hp (G_ms (rpl_same (mc := [mdW (gcA X) a M]) hC) (kk r h))
theorem hi_X6_ifDragged_X6 : ∀ w ∈ wsX60, w ∈ wsX6_ifDragged := fun w h => List.mem_cons_of_mem _ (List.mem_append_right _ h)
theorem lk_X6_ifDragged_1 : Cond.fieldLink RX6 32 "NoteThemesModel" "heapHad" "[I" ∈ wsX6_ifDragged := List.mem_of_getElem? (i := 1) rfl
theorem lk_X6_ifDragged_2 : Cond.fieldLink RX6 23 "NoteThemesModel" "heapOf" "[I" ∈ wsX6_ifDragged := List.mem_of_getElem? (i := 2) rfl
theorem lk_X6_ifDragged_3 : Cond.fieldLink RX6 7 "NoteThemesModel" "s" "[I" ∈ wsX6_ifDragged := List.mem_of_getElem? (i := 3) rfl
def f_X6_ifDragged_152 (N : Nat) (p0 : Int32) (p1 : Int32) (p2 : Int32) (p3 : Int32) (k102 : Int32 → Int32 → Int32 → Int32 → Int32 → tS → Option (Int32 × tS)) (x6 : Int32) (x7 : Int32) (x8 : Int32) (x10 : Int32) (t0 : Int32) (t1 : Int32) (M : tS) : Option (Int32 × tS) := k102 x6 x7 x8 (t1 + t0) (x10 + 1) M
set_option maxRecDepth 100000 in
set_option maxHeartbeats 4000000 in
theorem B_X6_ifDragged_152 {X : gX} (C : cx X RX6 cX6_ifDragged 11 (some .int) wsX6_ifDragged 5 114) (a : Nat → Nat) (N : Nat) (p0 : Int32) (p1 : Int32) (p2 : Int32) (p3 : Int32) (r : Int32) (Mz : tS) (k102 : Int32 → Int32 → Int32 → Int32 → Int32 → tS → Option (Int32 × tS)) (hk102 : ∀ (x6 : Int32) (x7 : Int32) (x8 : Int32) (x9 : Int32) (x10 : Int32) (M : tS), k102 x6 x7 x8 x9 x10 M = some (r, Mz) → G X (QI X r [mdW (gcA X) a Mz]) [mdW (gcA X) a M] [some (.ref (a 0)), some (.int p0), some (.int p1), some (.int p2), some (.int p3), none, some (.int x6), some (.int x7), some (.int x8), some (.int x9), some (.int x10)] [] 102) (x6 : Int32) (x7 : Int32) (x8 : Int32) (x10 : Int32) (t0 : Int32) (t1 : Int32) (M : tS) (h : f_X6_ifDragged_152 N p0 p1 p2 p3 k102 x6 x7 x8 x10 t0 t1 M = some (r, Mz)) : G X (QI X r [mdW (gcA X) a Mz]) [mdW (gcA X) a M] [some (.ref (a 0)), some (.int p0), some (.int p1), some (.int p2), some (.int p3), none, some (.int x6), some (.int x7), some (.int x8), none, some (.int x10)] [.int t0, .int t1] 152 := by
  unfold f_X6_ifDragged_152 at h
  refine g_iadd (pc' := 153) C dX6_ifDragged_152 rfl ?_
  refine g_istore (pc' := 155) C dX6_ifDragged_153 (Nat.le_of_ble_eq_true rfl) rfl (L' := [some (.ref (a 0)), some (.int p0), some (.int p1), some (.int p2), some (.int p3), none, some (.int x6), some (.int x7), some (.int x8), some (.int (t1 + t0)), some (.int x10)]) rfl ?_
  refine g_iinc (pc' := 158) (v := (x10 + 1)) C dX6_ifDragged_155 rfl rfl rfl (L' := [some (.ref (a 0)), some (.int p0), some (.int p1), some (.int p2), some (.int p3), none, some (.int x6), some (.int x7), some (.int x8), some (.int (t1 + t0)), some (.int (x10 + 1))]) rfl ?_
  refine g_goto (pc' := 102) C dX6_ifDragged_158 (by decide) ?_
  exact G_loc (lle_s (lle_s (lle_s (lle_s (lle_s (lle_n (lle_s (lle_s (lle_s (lle_s (lle_s lle_0))))))))))) (hk102 x6 x7 x8 (t1 + t0) (x10 + 1) M h)
def f_X6_ifDragged_151 (N : Nat) (p0 : Int32) (p1 : Int32) (p2 : Int32) (p3 : Int32) (k102 : Int32 → Int32 → Int32 → Int32 → Int32 → tS → Option (Int32 × tS)) (x6 : Int32) (x7 : Int32) (x8 : Int32) (x10 : Int32) (t0 : Int32) (M : tS) : Option (Int32 × tS) := f_X6_ifDragged_152 N p0 p1 p2 p3 k102 x6 x7 x8 x10 (0 : Int32) t0 M
set_option maxRecDepth 100000 in
set_option maxHeartbeats 4000000 in
theorem B_X6_ifDragged_151 {X : gX} (C : cx X RX6 cX6_ifDragged 11 (some .int) wsX6_ifDragged 5 114) (a : Nat → Nat) (N : Nat) (p0 : Int32) (p1 : Int32) (p2 : Int32) (p3 : Int32) (r : Int32) (Mz : tS) (k102 : Int32 → Int32 → Int32 → Int32 → Int32 → tS → Option (Int32 × tS)) (hk102 : ∀ (x6 : Int32) (x7 : Int32) (x8 : Int32) (x9 : Int32) (x10 : Int32) (M : tS), k102 x6 x7 x8 x9 x10 M = some (r, Mz) → G X (QI X r [mdW (gcA X) a Mz]) [mdW (gcA X) a M] [some (.ref (a 0)), some (.int p0), some (.int p1), some (.int p2), some (.int p3), none, some (.int x6), some (.int x7), some (.int x8), some (.int x9), some (.int x10)] [] 102) (x6 : Int32) (x7 : Int32) (x8 : Int32) (x10 : Int32) (t0 : Int32) (M : tS) (h : f_X6_ifDragged_151 N p0 p1 p2 p3 k102 x6 x7 x8 x10 t0 M = some (r, Mz)) : G X (QI X r [mdW (gcA X) a Mz]) [mdW (gcA X) a M] [some (.ref (a 0)), some (.int p0), some (.int p1), some (.int p2), some (.int p3), none, some (.int x6), some (.int x7), some (.int x8), none, some (.int x10)] [.int t0] 151 := by
  unfold f_X6_ifDragged_151 at h
  refine g_iconst (pc' := 152) (v := 0) C dX6_ifDragged_151 (by decide) rfl ?_
  exact G_loc (lle_s (lle_s (lle_s (lle_s (lle_s (lle_n (lle_s (lle_s (lle_s (lle_n (lle_s lle_0))))))))))) (B_X6_ifDragged_152 C a N p0 p1 p2 p3 r Mz k102 hk102 x6 x7 x8 x10 (0 : Int32) t0 M h)
def f_X6_ifDragged_102b (N : Nat) (p0 : Int32) (p1 : Int32) (p2 : Int32) (p3 : Int32)  (k102 : Int32 → Int32 → Int32 → Int32 → Int32 → tS → Option (Int32 × tS)) (x6 : Int32) (x7 : Int32) (x8 : Int32) (x9 : Int32) (x10 : Int32) (M : tS) : Option (Int32 × tS) := (if (M 0 (0 : Int32).toNatClampNeg) ≤ x10 then (bd (f_X6_comes N M p0 x6 x7) (fun M1 => (if p3 = 0 then some (x8, M1) else (if p3 = (1 : Int32) then (if p0 < 0 ∨ 20 ≤ p0.toNatClampNeg then none else (bd (f_X6_notesIn N M1 (M1 7 p0.toNatClampNeg)) (fun r2 => some (r2, M1)))) else some (x9, M1))))) else (if x10 < 0 ∨ 20 ≤ x10.toNatClampNeg then none else (if p0 < 0 ∨ 20 ≤ p0.toNatClampNeg then none else (if (M 14 x10.toNatClampNeg) = (M 14 p0.toNatClampNeg) then (if x10 < 0 ∨ 20 ≤ x10.toNatClampNeg then none else (if p0 < 0 ∨ 20 ≤ p0.toNatClampNeg then none else (if (M 7 x10.toNatClampNeg) = (M 7 p0.toNatClampNeg) then f_X6_ifDragged_151 N p0 p1 p2 p3 k102 x6 x7 x8 x10 x9 M else f_X6_ifDragged_152 N p0 p1 p2 p3 k102 x6 x7 x8 x10 (1 : Int32) x9 M))) else f_X6_ifDragged_151 N p0 p1 p2 p3 k102 x6 x7 x8 x10 x9 M))))
def f_X6_ifDragged_102 (N : Nat) (p0 : Int32) (p1 : Int32) (p2 : Int32) (p3 : Int32)  : Nat → Int32 → Int32 → Int32 → Int32 → Int32 → tS → Option (Int32 × tS)
  | 0 => fun _ _ _ _ _ _ => none
  | n + 1 => f_X6_ifDragged_102b N p0 p1 p2 p3  (f_X6_ifDragged_102 N p0 p1 p2 p3  n)
set_option maxRecDepth 100000 in
set_option maxHeartbeats 4000000 in
theorem B_X6_ifDragged_102b {X : gX} (C : cx X RX6 cX6_ifDragged 11 (some .int) wsX6_ifDragged 5 114) (a : Nat → Nat) (N : Nat) (p0 : Int32) (p1 : Int32) (p2 : Int32) (p3 : Int32) (r : Int32) (Mz : tS)  (k102 : Int32 → Int32 → Int32 → Int32 → Int32 → tS → Option (Int32 × tS)) (hk102 : ∀ (x6 : Int32) (x7 : Int32) (x8 : Int32) (x9 : Int32) (x10 : Int32) (M : tS), k102 x6 x7 x8 x9 x10 M = some (r, Mz) → G X (QI X r [mdW (gcA X) a Mz]) [mdW (gcA X) a M] [some (.ref (a 0)), some (.int p0), some (.int p1), some (.int p2), some (.int p3), none, some (.int x6), some (.int x7), some (.int x8), some (.int x9), some (.int x10)] [] 102) (x6 : Int32) (x7 : Int32) (x8 : Int32) (x9 : Int32) (x10 : Int32) (M : tS) (h : f_X6_ifDragged_102b N p0 p1 p2 p3  k102 x6 x7 x8 x9 x10 M = some (r, Mz)) : G X (QI X r [mdW (gcA X) a Mz]) [mdW (gcA X) a M] [some (.ref (a 0)), some (.int p0), some (.int p1), some (.int p2), some (.int p3), none, some (.int x6), some (.int x7), some (.int x8), some (.int x9), some (.int x10)] [] 102 := by
  unfold f_X6_ifDragged_102b at h
  refine g_iload (pc' := 104) C dX6_ifDragged_102 rfl rfl ?_
  refine g_aload_n (pc' := 105) C dX6_ifDragged_104 rfl rfl ?_
  refine gg_X6_0 (pc' := 108) (i := 0) C rfl hi_X6_ifDragged_X6 lk_X6_ifDragged_3 dX6_ifDragged_105 rfl ?_
  refine g_iconst (pc' := 109) (v := 0) C dX6_ifDragged_108 (by decide) rfl ?_
  refine g_iald0 (pc' := 110) (i := 0) (j := 1) C rfl rfl dX6_ifDragged_109 rfl (by unfold vp_in; decide) ?_
  refine g_icmp_ge (pc' := 113) (tgt := 161) C dX6_ifDragged_110 (by decide) rfl h (fun c h => ?_) (fun c h => ?_)
  · refine g_aload_n (pc' := 162) C dX6_ifDragged_161 rfl rfl ?_
    refine g_iload_n (pc' := 163) C dX6_ifDragged_162 rfl rfl ?_
    refine g_iload (pc' := 165) C dX6_ifDragged_163 rfl rfl ?_
    refine g_iload (pc' := 167) C dX6_ifDragged_165 rfl rfl ?_
    refine k_X6_comes (pc' := 170) C a N M p0 x6 x7 [0] rfl (by decide) gX6_ifDragged_X6_comes ⟨Nat.le_of_ble_eq_true rfl, Nat.le_of_ble_eq_true rfl⟩ (Nat.le_of_ble_eq_true rfl) rfl dX6_ifDragged_167 rfl h (fun M1 h => ?_)
    show G X _ [mdW (gcA X) a M1] _ _ _
    refine g_iload (pc' := 172) C dX6_ifDragged_170 rfl rfl ?_
    refine g_if_ne (pc' := 175) (tgt := 180) C dX6_ifDragged_172 (by decide) rfl h (fun c h => ?_) (fun c h => ?_)
    · refine g_iload (pc' := 177) C dX6_ifDragged_175 rfl rfl ?_
      refine g_goto (pc' := 201) C dX6_ifDragged_177 (by decide) ?_
      obtain ⟨rfl, rfl⟩ := pj2 (Option.some.inj h)
      exact g_iret C dX6_ifDragged_201
    · refine g_iload (pc' := 182) C dX6_ifDragged_180 rfl rfl ?_
      refine g_iconst (pc' := 183) (v := 1) C dX6_ifDragged_182 (by decide) rfl ?_
      refine g_icmp_ne (pc' := 186) (tgt := 199) C dX6_ifDragged_183 (by decide) rfl h (fun c h => ?_) (fun c h => ?_)
      · refine g_aload_n (pc' := 187) C dX6_ifDragged_186 rfl rfl ?_
        refine g_aload_n (pc' := 188) C dX6_ifDragged_187 rfl rfl ?_
        refine gg_X6_7 (pc' := 191) (i := 0) C rfl hi_X6_ifDragged_X6 lk_X6_ifDragged_2 dX6_ifDragged_188 rfl ?_
        refine g_iload_n (pc' := 192) C dX6_ifDragged_191 rfl rfl ?_
        refine g_iald (pc' := 193) (i := 0) (j := 5) C rfl rfl dX6_ifDragged_192 rfl h (fun h => ?_)
        refine k_X6_notesIn (pc' := 196) C a N M1 (M1 7 p0.toNatClampNeg) [0] rfl (by decide) gX6_ifDragged_X6_notesIn ⟨Nat.le_of_ble_eq_true rfl, Nat.le_of_ble_eq_true rfl⟩ (Nat.le_of_ble_eq_true rfl) rfl dX6_ifDragged_193 rfl h (fun r2 h => ?_)
        refine g_goto (pc' := 201) C dX6_ifDragged_196 (by decide) ?_
        obtain ⟨rfl, rfl⟩ := pj2 (Option.some.inj h)
        exact g_iret C dX6_ifDragged_201
      · refine g_iload (pc' := 201) C dX6_ifDragged_199 rfl rfl ?_
        obtain ⟨rfl, rfl⟩ := pj2 (Option.some.inj h)
        exact g_iret C dX6_ifDragged_201
  · refine g_iload (pc' := 115) C dX6_ifDragged_113 rfl rfl ?_
    refine g_aload_n (pc' := 116) C dX6_ifDragged_115 rfl rfl ?_
    refine gg_X6_14 (pc' := 119) (i := 0) C rfl hi_X6_ifDragged_X6 lk_X6_ifDragged_1 dX6_ifDragged_116 rfl ?_
    refine g_iload (pc' := 121) C dX6_ifDragged_119 rfl rfl ?_
    refine g_iald (pc' := 122) (i := 0) (j := 8) C rfl rfl dX6_ifDragged_121 rfl h (fun h => ?_)
    refine g_aload_n (pc' := 123) C dX6_ifDragged_122 rfl rfl ?_
    refine gg_X6_14 (pc' := 126) (i := 0) C rfl hi_X6_ifDragged_X6 lk_X6_ifDragged_1 dX6_ifDragged_123 rfl ?_
    refine g_iload_n (pc' := 127) C dX6_ifDragged_126 rfl rfl ?_
    refine g_iald (pc' := 128) (i := 0) (j := 8) C rfl rfl dX6_ifDragged_127 rfl h (fun h => ?_)
    refine g_icmp_ne (pc' := 131) (tgt := 151) C dX6_ifDragged_128 (by decide) rfl h (fun c h => ?_) (fun c h => ?_)
    · refine g_aload_n (pc' := 132) C dX6_ifDragged_131 rfl rfl ?_
      refine gg_X6_7 (pc' := 135) (i := 0) C rfl hi_X6_ifDragged_X6 lk_X6_ifDragged_2 dX6_ifDragged_132 rfl ?_
      refine g_iload (pc' := 137) C dX6_ifDragged_135 rfl rfl ?_
      refine g_iald (pc' := 138) (i := 0) (j := 5) C rfl rfl dX6_ifDragged_137 rfl h (fun h => ?_)
      refine g_aload_n (pc' := 139) C dX6_ifDragged_138 rfl rfl ?_
      refine gg_X6_7 (pc' := 142) (i := 0) C rfl hi_X6_ifDragged_X6 lk_X6_ifDragged_2 dX6_ifDragged_139 rfl ?_
      refine g_iload_n (pc' := 143) C dX6_ifDragged_142 rfl rfl ?_
      refine g_iald (pc' := 144) (i := 0) (j := 5) C rfl rfl dX6_ifDragged_143 rfl h (fun h => ?_)
      refine g_icmp_eq (pc' := 147) (tgt := 151) C dX6_ifDragged_144 (by decide) rfl h (fun c h => ?_) (fun c h => ?_)
      · exact G_loc (lle_s (lle_s (lle_s (lle_s (lle_s (lle_n (lle_s (lle_s (lle_s (lle_n (lle_s lle_0))))))))))) (B_X6_ifDragged_151 C a N p0 p1 p2 p3 r Mz k102 hk102 x6 x7 x8 x10 x9 M h)
      · refine g_iconst (pc' := 148) (v := 1) C dX6_ifDragged_147 (by decide) rfl ?_
        refine g_goto (pc' := 152) C dX6_ifDragged_148 (by decide) ?_
        exact G_loc (lle_s (lle_s (lle_s (lle_s (lle_s (lle_n (lle_s (lle_s (lle_s (lle_n (lle_s lle_0))))))))))) (B_X6_ifDragged_152 C a N p0 p1 p2 p3 r Mz k102 hk102 x6 x7 x8 x10 (1 : Int32) x9 M h)
    · exact G_loc (lle_s (lle_s (lle_s (lle_s (lle_s (lle_n (lle_s (lle_s (lle_s (lle_n (lle_s lle_0))))))))))) (B_X6_ifDragged_151 C a N p0 p1 p2 p3 r Mz k102 hk102 x6 x7 x8 x10 x9 M h)
set_option maxRecDepth 100000 in
set_option maxHeartbeats 4000000 in
theorem L_X6_ifDragged_102 {X : gX} (C : cx X RX6 cX6_ifDragged 11 (some .int) wsX6_ifDragged 5 114) (a : Nat → Nat) (N : Nat) (p0 : Int32) (p1 : Int32) (p2 : Int32) (p3 : Int32) (r : Int32) (Mz : tS)  : ∀ (n : Nat) (x6 : Int32) (x7 : Int32) (x8 : Int32) (x9 : Int32) (x10 : Int32) (M : tS), f_X6_ifDragged_102 N p0 p1 p2 p3  n x6 x7 x8 x9 x10 M = some (r, Mz) → G X (QI X r [mdW (gcA X) a Mz]) [mdW (gcA X) a M] [some (.ref (a 0)), some (.int p0), some (.int p1), some (.int p2), some (.int p3), none, some (.int x6), some (.int x7), some (.int x8), some (.int x9), some (.int x10)] [] 102 := by
  intro n
  induction n with
  | zero => intro x6 x7 x8 x9 x10 M h; have h : (none : Option (Int32 × tS)) = some (r, Mz) := h; cases h
  | succ n ih => intro x6 x7 x8 x9 x10 M h; exact B_X6_ifDragged_102b C a N p0 p1 p2 p3 r Mz  (f_X6_ifDragged_102 N p0 p1 p2 p3  n) ih x6 x7 x8 x9 x10 M h
def f_X6_ifDragged_40b (N : Nat) (p0 : Int32) (p1 : Int32) (p2 : Int32) (p3 : Int32)  (k40 : Int32 → tS → Option (Int32 × tS)) (x6 : Int32) (M : tS) : Option (Int32 × tS) := (if (20 : Int32) ≤ x6 then (bd (f_X6_of N M p0 (0 : Int32)) (fun r1 => (bd (f_X6_of N M p0 (1 : Int32)) (fun r2 => (bd (f_X6_comes N M p0 p1 p2) (fun M3 => (bd2 (f_X6_laysNow N M3) (fun r4 M4 => f_X6_ifDragged_102 N p0 p1 p2 p3 N r1 r2 r4 (0 : Int32) (0 : Int32) M4)))))))) else (if x6 < 0 ∨ 20 ≤ x6.toNatClampNeg then none else (if x6 < 0 ∨ 20 ≤ x6.toNatClampNeg then none else k40 (x6 + 1) (va_up M 14 (upd (M 14) x6.toNatClampNeg (M 7 x6.toNatClampNeg))))))
def f_X6_ifDragged_40 (N : Nat) (p0 : Int32) (p1 : Int32) (p2 : Int32) (p3 : Int32)  : Nat → Int32 → tS → Option (Int32 × tS)
  | 0 => fun _ _ => none
  | n + 1 => f_X6_ifDragged_40b N p0 p1 p2 p3  (f_X6_ifDragged_40 N p0 p1 p2 p3  n)
set_option maxRecDepth 100000 in
set_option maxHeartbeats 4000000 in
theorem B_X6_ifDragged_40b {X : gX} (C : cx X RX6 cX6_ifDragged 11 (some .int) wsX6_ifDragged 5 114) (a : Nat → Nat) (N : Nat) (p0 : Int32) (p1 : Int32) (p2 : Int32) (p3 : Int32) (r : Int32) (Mz : tS)  (k40 : Int32 → tS → Option (Int32 × tS)) (hk40 : ∀ (x6 : Int32) (M : tS), k40 x6 M = some (r, Mz) → G X (QI X r [mdW (gcA X) a Mz]) [mdW (gcA X) a M] [some (.ref (a 0)), some (.int p0), some (.int p1), some (.int p2), some (.int p3), none, some (.int x6), none, none, none, none] [] 40) (x6 : Int32) (M : tS) (h : f_X6_ifDragged_40b N p0 p1 p2 p3  k40 x6 M = some (r, Mz)) : G X (QI X r [mdW (gcA X) a Mz]) [mdW (gcA X) a M] [some (.ref (a 0)), some (.int p0), some (.int p1), some (.int p2), some (.int p3), none, some (.int x6), none, none, none, none] [] 40 := by
  unfold f_X6_ifDragged_40b at h
  refine g_iload (pc' := 42) C dX6_ifDragged_40 rfl rfl ?_
  refine g_bipush (pc' := 44) (v := 20) C dX6_ifDragged_42 (by decide) rfl ?_
  refine g_icmp_ge (pc' := 47) (tgt := 67) C dX6_ifDragged_44 (by decide) rfl h (fun c h => ?_) (fun c h => ?_)
  · refine g_aload_n (pc' := 68) C dX6_ifDragged_67 rfl rfl ?_
    refine g_iload_n (pc' := 69) C dX6_ifDragged_68 rfl rfl ?_
    refine g_iconst (pc' := 70) (v := 0) C dX6_ifDragged_69 (by decide) rfl ?_
    refine k_X6_of (pc' := 73) C a N M p0 (0 : Int32) [0] rfl (by decide) gX6_ifDragged_X6_of ⟨Nat.le_of_ble_eq_true rfl, Nat.le_of_ble_eq_true rfl⟩ (Nat.le_of_ble_eq_true rfl) rfl dX6_ifDragged_70 rfl h (fun r1 h => ?_)
    refine g_istore (pc' := 75) C dX6_ifDragged_73 (Nat.le_of_ble_eq_true rfl) rfl (L' := [some (.ref (a 0)), some (.int p0), some (.int p1), some (.int p2), some (.int p3), none, some (.int r1), none, none, none, none]) rfl ?_
    refine g_aload_n (pc' := 76) C dX6_ifDragged_75 rfl rfl ?_
    refine g_iload_n (pc' := 77) C dX6_ifDragged_76 rfl rfl ?_
    refine g_iconst (pc' := 78) (v := 1) C dX6_ifDragged_77 (by decide) rfl ?_
    refine k_X6_of (pc' := 81) C a N M p0 (1 : Int32) [0] rfl (by decide) gX6_ifDragged_X6_of ⟨Nat.le_of_ble_eq_true rfl, Nat.le_of_ble_eq_true rfl⟩ (Nat.le_of_ble_eq_true rfl) rfl dX6_ifDragged_78 rfl h (fun r2 h => ?_)
    refine g_istore (pc' := 83) C dX6_ifDragged_81 (Nat.le_of_ble_eq_true rfl) rfl (L' := [some (.ref (a 0)), some (.int p0), some (.int p1), some (.int p2), some (.int p3), none, some (.int r1), some (.int r2), none, none, none]) rfl ?_
    refine g_aload_n (pc' := 84) C dX6_ifDragged_83 rfl rfl ?_
    refine g_iload_n (pc' := 85) C dX6_ifDragged_84 rfl rfl ?_
    refine g_iload_n (pc' := 86) C dX6_ifDragged_85 rfl rfl ?_
    refine g_iload_n (pc' := 87) C dX6_ifDragged_86 rfl rfl ?_
    refine k_X6_comes (pc' := 90) C a N M p0 p1 p2 [0] rfl (by decide) gX6_ifDragged_X6_comes ⟨Nat.le_of_ble_eq_true rfl, Nat.le_of_ble_eq_true rfl⟩ (Nat.le_of_ble_eq_true rfl) rfl dX6_ifDragged_87 rfl h (fun M3 h => ?_)
    show G X _ [mdW (gcA X) a M3] _ _ _
    refine g_aload_n (pc' := 91) C dX6_ifDragged_90 rfl rfl ?_
    refine k_X6_laysNow (pc' := 94) C a N M3 [0] rfl (by decide) gX6_ifDragged_X6_laysNow ⟨Nat.le_of_ble_eq_true rfl, Nat.le_of_ble_eq_true rfl⟩ (Nat.le_of_ble_eq_true rfl) rfl dX6_ifDragged_91 rfl h (fun r4 M4 h => ?_)
    show G X _ [mdW (gcA X) a M4] _ _ _
    refine g_istore (pc' := 96) C dX6_ifDragged_94 (Nat.le_of_ble_eq_true rfl) rfl (L' := [some (.ref (a 0)), some (.int p0), some (.int p1), some (.int p2), some (.int p3), none, some (.int r1), some (.int r2), some (.int r4), none, none]) rfl ?_
    refine g_iconst (pc' := 97) (v := 0) C dX6_ifDragged_96 (by decide) rfl ?_
    refine g_istore (pc' := 99) C dX6_ifDragged_97 (Nat.le_of_ble_eq_true rfl) rfl (L' := [some (.ref (a 0)), some (.int p0), some (.int p1), some (.int p2), some (.int p3), none, some (.int r1), some (.int r2), some (.int r4), some (.int (0 : Int32)), none]) rfl ?_
    refine g_iconst (pc' := 100) (v := 0) C dX6_ifDragged_99 (by decide) rfl ?_
    refine g_istore (pc' := 102) C dX6_ifDragged_100 (Nat.le_of_ble_eq_true rfl) rfl (L' := [some (.ref (a 0)), some (.int p0), some (.int p1), some (.int p2), some (.int p3), none, some (.int r1), some (.int r2), some (.int r4), some (.int (0 : Int32)), some (.int (0 : Int32))]) rfl ?_
    exact G_loc (lle_s (lle_s (lle_s (lle_s (lle_s (lle_n (lle_s (lle_s (lle_s (lle_s (lle_s lle_0))))))))))) (L_X6_ifDragged_102 C a N p0 p1 p2 p3 r Mz N r1 r2 r4 (0 : Int32) (0 : Int32) M4 h)
  · refine g_aload_n (pc' := 48) C dX6_ifDragged_47 rfl rfl ?_
    refine gg_X6_14 (pc' := 51) (i := 0) C rfl hi_X6_ifDragged_X6 lk_X6_ifDragged_1 dX6_ifDragged_48 rfl ?_
    refine g_iload (pc' := 53) C dX6_ifDragged_51 rfl rfl ?_
    refine g_aload_n (pc' := 54) C dX6_ifDragged_53 rfl rfl ?_
    refine gg_X6_7 (pc' := 57) (i := 0) C rfl hi_X6_ifDragged_X6 lk_X6_ifDragged_2 dX6_ifDragged_54 rfl ?_
    refine g_iload (pc' := 59) C dX6_ifDragged_57 rfl rfl ?_
    refine g_iald (pc' := 60) (i := 0) (j := 5) C rfl rfl dX6_ifDragged_59 rfl h (fun h => ?_)
    refine g_iast (pc' := 61) (i := 0) (j := 8) (w' := mdW (gcA X) a (va_up M 14 (upd (M 14) x6.toNatClampNeg (M 7 x6.toNatClampNeg)))) C rfl rfl rfl dX6_ifDragged_60 rfl h (fun h => ?_)
    show G X _ [mdW (gcA X) a (va_up M 14 (upd (M 14) x6.toNatClampNeg (M 7 x6.toNatClampNeg)))] _ _ _
    refine g_iinc (pc' := 64) (v := (x6 + 1)) C dX6_ifDragged_61 rfl rfl rfl (L' := [some (.ref (a 0)), some (.int p0), some (.int p1), some (.int p2), some (.int p3), none, some (.int (x6 + 1)), none, none, none, none]) rfl ?_
    refine g_goto (pc' := 40) C dX6_ifDragged_64 (by decide) ?_
    exact G_loc (lle_s (lle_s (lle_s (lle_s (lle_s (lle_n (lle_s (lle_n (lle_n (lle_n (lle_n lle_0))))))))))) (hk40 (x6 + 1) (va_up M 14 (upd (M 14) x6.toNatClampNeg (M 7 x6.toNatClampNeg))) h)
set_option maxRecDepth 100000 in
set_option maxHeartbeats 4000000 in
theorem L_X6_ifDragged_40 {X : gX} (C : cx X RX6 cX6_ifDragged 11 (some .int) wsX6_ifDragged 5 114) (a : Nat → Nat) (N : Nat) (p0 : Int32) (p1 : Int32) (p2 : Int32) (p3 : Int32) (r : Int32) (Mz : tS)  : ∀ (n : Nat) (x6 : Int32) (M : tS), f_X6_ifDragged_40 N p0 p1 p2 p3  n x6 M = some (r, Mz) → G X (QI X r [mdW (gcA X) a Mz]) [mdW (gcA X) a M] [some (.ref (a 0)), some (.int p0), some (.int p1), some (.int p2), some (.int p3), none, some (.int x6), none, none, none, none] [] 40 := by
  intro n
  induction n with
  | zero => intro x6 M h; have h : (none : Option (Int32 × tS)) = some (r, Mz) := h; cases h
  | succ n ih => intro x6 M h; exact B_X6_ifDragged_40b C a N p0 p1 p2 p3 r Mz  (f_X6_ifDragged_40 N p0 p1 p2 p3  n) ih x6 M h
def f_X6_ifDragged (N : Nat) (M : tS) (p0 : Int32) (p1 : Int32) (p2 : Int32) (p3 : Int32) : Option (Int32 × tS) := (bd (f_X6_isNote N M p0) (fun r1 => (if r1 = 0 then some ((-1 : Int32), M) else (bd (f_X6_isPlace N p1 p2) (fun r2 => (if r2 = 0 then some ((-1 : Int32), M) else (bd (f_X6_in N p3 (0 : Int32) (2 : Int32)) (fun r3 => (if r3 = 0 then some ((-2 : Int32), M) else (bd2 (f_X6_laysNow N M) (fun r4 M4 => f_X6_ifDragged_40 N p0 p1 p2 p3 N (0 : Int32) M4)))))))))))
set_option maxRecDepth 100000 in
set_option maxHeartbeats 4000000 in
theorem B_X6_ifDragged {X : gX} (C : cx X RX6 cX6_ifDragged 11 (some .int) wsX6_ifDragged 5 114) (a : Nat → Nat) (N : Nat) (M : tS) (p0 : Int32) (p1 : Int32) (p2 : Int32) (p3 : Int32) (r : Int32) (Mz : tS) (h : f_X6_ifDragged N M p0 p1 p2 p3 = some (r, Mz)) : G X (QI X r [mdW (gcA X) a Mz]) [mdW (gcA X) a M] [some (.ref (a 0)), some (.int p0), some (.int p1), some (.int p2), some (.int p3), none, none, none, none, none, none] [] 0 := by
  unfold f_X6_ifDragged at h
  refine g_aload_n (pc' := 1) C dX6_ifDragged_0 rfl rfl ?_
  refine g_iload_n (pc' := 2) C dX6_ifDragged_1 rfl rfl ?_
  refine k_X6_isNote (pc' := 5) C a N M p0 [0] rfl (by decide) gX6_ifDragged_X6_isNote ⟨Nat.le_of_ble_eq_true rfl, Nat.le_of_ble_eq_true rfl⟩ (Nat.le_of_ble_eq_true rfl) rfl dX6_ifDragged_2 rfl h (fun r1 h => ?_)
  refine g_if_eq (pc' := 8) (tgt := 16) C dX6_ifDragged_5 (by decide) rfl h (fun c h => ?_) (fun c h => ?_)
  · refine g_iconst (pc' := 17) (v := -1) C dX6_ifDragged_16 (by decide) rfl ?_
    obtain ⟨rfl, rfl⟩ := pj2 (Option.some.inj h)
    exact g_iret C dX6_ifDragged_17
  · refine g_iload_n (pc' := 9) C dX6_ifDragged_8 rfl rfl ?_
    refine g_iload_n (pc' := 10) C dX6_ifDragged_9 rfl rfl ?_
    refine k_X6_isPlace (pc' := 13) C N p1 p2 [] rfl (by decide) gX6_ifDragged_X6_isPlace ⟨Nat.le_of_ble_eq_true rfl, Nat.le_of_ble_eq_true rfl⟩ (Nat.le_of_ble_eq_true rfl) rfl dX6_ifDragged_10 rfl h (fun r2 h => ?_)
    refine g_if_ne (pc' := 16) (tgt := 18) C dX6_ifDragged_13 (by decide) rfl h (fun c h => ?_) (fun c h => ?_)
    · refine g_iconst (pc' := 17) (v := -1) C dX6_ifDragged_16 (by decide) rfl ?_
      obtain ⟨rfl, rfl⟩ := pj2 (Option.some.inj h)
      exact g_iret C dX6_ifDragged_17
    · refine g_iload (pc' := 20) C dX6_ifDragged_18 rfl rfl ?_
      refine g_iconst (pc' := 21) (v := 0) C dX6_ifDragged_20 (by decide) rfl ?_
      refine g_iconst (pc' := 22) (v := 2) C dX6_ifDragged_21 (by decide) rfl ?_
      refine k_X6_in (pc' := 25) C N p3 (0 : Int32) (2 : Int32) [] rfl (by decide) gX6_ifDragged_X6_in ⟨Nat.le_of_ble_eq_true rfl, Nat.le_of_ble_eq_true rfl⟩ (Nat.le_of_ble_eq_true rfl) rfl dX6_ifDragged_22 rfl h (fun r3 h => ?_)
      refine g_if_ne (pc' := 28) (tgt := 31) C dX6_ifDragged_25 (by decide) rfl h (fun c h => ?_) (fun c h => ?_)
      · refine g_bipush (pc' := 30) (v := -2) C dX6_ifDragged_28 (by decide) rfl ?_
        obtain ⟨rfl, rfl⟩ := pj2 (Option.some.inj h)
        exact g_iret C dX6_ifDragged_30
      · refine g_aload_n (pc' := 32) C dX6_ifDragged_31 rfl rfl ?_
        refine k_X6_laysNow (pc' := 35) C a N M [0] rfl (by decide) gX6_ifDragged_X6_laysNow ⟨Nat.le_of_ble_eq_true rfl, Nat.le_of_ble_eq_true rfl⟩ (Nat.le_of_ble_eq_true rfl) rfl dX6_ifDragged_32 rfl h (fun r4 M4 h => ?_)
        show G X _ [mdW (gcA X) a M4] _ _ _
        refine g_istore (pc' := 37) C dX6_ifDragged_35 (Nat.le_of_ble_eq_true rfl) rfl (L' := [some (.ref (a 0)), some (.int p0), some (.int p1), some (.int p2), some (.int p3), some (.int r4), none, none, none, none, none]) rfl ?_
        refine g_iconst (pc' := 38) (v := 0) C dX6_ifDragged_37 (by decide) rfl ?_
        refine g_istore (pc' := 40) C dX6_ifDragged_38 (Nat.le_of_ble_eq_true rfl) rfl (L' := [some (.ref (a 0)), some (.int p0), some (.int p1), some (.int p2), some (.int p3), some (.int r4), some (.int (0 : Int32)), none, none, none, none]) rfl ?_
        exact G_loc (lle_s (lle_s (lle_s (lle_s (lle_s (lle_n (lle_s (lle_n (lle_n (lle_n (lle_n lle_0))))))))))) (L_X6_ifDragged_40 C a N p0 p1 p2 p3 r Mz N (0 : Int32) M4 h)
set_option maxRecDepth 100000 in
set_option maxHeartbeats 4000000 in
theorem c_X6_ifDragged (l : Launch) (D : va_G) (cA : Nat → ClassId) (a : Nat → Nat) (N : Nat) (M : tS) (p0 : Int32) (p1 : Int32) (p2 : Int32) (p3 : Int32) (r : Int32) (Mz : tS) (h : f_X6_ifDragged N M p0 p1 p2 p3 = some (r, Mz)) : MI l D cA yX6_ifDragged wsX6_ifDragged 5 114 [.ref (a 0), .int p0, .int p1, .int p2, .int p3] [mdW cA a M] r [mdW cA a Mz] := MI_of (cc := cX6_ifDragged) (maxL := 11) (rt := some .int) (by decide +kernel) rfl (List.forall_mem_cons.mpr ⟨rfl, List.forall_mem_cons.mpr ⟨rfl, List.forall_mem_cons.mpr ⟨rfl, List.forall_mem_cons.mpr ⟨rfl, List.forall_mem_cons.mpr ⟨rfl, List.forall_mem_nil _⟩⟩⟩⟩⟩) (Nat.le_of_ble_eq_true rfl) (fun X e1 e2 e3 C => by subst e1; subst e2; subst e3; exact B_X6_ifDragged C a N M p0 p1 p2 p3 r Mz h)
set_option maxRecDepth 100000 in
set_option maxHeartbeats 4000000 in
theorem nd_X6_ifDragged : nd yX6_ifDragged 4 := ⟨by decide +kernel, by decide +kernel, by decide +kernel⟩
set_option maxRecDepth 100000 in
set_option maxHeartbeats 4000000 in
theorem k_X6_ifDragged {X : gX} {own : String} {cc : ByteArray} {nL : Nat} {ret : Option FieldType} {Ts : List Cond} {fr lm : Nat} {Q : State → Prop} {ms : List va_W} {L : List (Option Value)} {st : List Value} {pc pc' idx : Nat} {ρ : Type} {T : Int32 → tS → Option ρ} {res : ρ} (C : cx X own cc nL ret Ts fr lm) (a : Nat → Nat) (N : Nat) (M : tS) (p0 : Int32) (p1 : Int32) (p2 : Int32) (p3 : Int32) (is : List Nat) (hC : is.map (fun i => ms[i]?) = [some (mdW (gcA X) a M)]) (hn : is.Nodup) (hG : GoodIn Ts (wsV own idx RX6 yX6_ifDragged wsX6_ifDragged)) (hR : 5 + 1 ≤ fr ∧ 8 + (11 + 11) + 114 ≤ lm) (hst : (st.map fun v => v.category).sum ≤ 8) (hLn : L.length = nL) (d : decode cc pc = .ok (.invokevirtual idx, 3)) (hp : pc + 3 = pc') (h : bd2 (f_X6_ifDragged N M p0 p1 p2 p3) T = some res) (kk : ∀ (r : Int32) (Mz : tS), T r Mz = some res → G X Q (rpl ms is [mdW (gcA X) a Mz]) L (.int r :: st) pc') : G X Q ms L (.int p3 :: .int p2 :: .int p1 :: .int p0 :: .ref (a 0) :: st) pc := by
  obtain ⟨r, Mz, h1, h⟩ := ob2 h
  exact G_callVI C (As := [.int p0, .int p1, .int p2, .int p3]) (c_X6_ifDragged (gl X) (gD X) (gcA X) a N M p0 p1 p2 p3 r Mz h1) hG rfl nd_X6_ifDragged hR (q0 := 0) rfl rfl hC hn rfl rfl hst hLn d hp (kk r Mz h)
def f_X6_reachFor_15b (N : Nat) (p0 : Int32)  (k15 : Int32 → tS → Option (Int32 × tS)) (x2 : Int32) (M : tS) : Option (Int32 × tS) := (bd2 (f_X6_laysHeaps N M x2 (-5 : Int32)) (fun r1 M1 => (if r1 ≤ p0 then some (x2, M1) else k15 (x2 + 1) M1)))
def f_X6_reachFor_15 (N : Nat) (p0 : Int32)  : Nat → Int32 → tS → Option (Int32 × tS)
  | 0 => fun _ _ => none
  | n + 1 => f_X6_reachFor_15b N p0  (f_X6_reachFor_15 N p0  n)
set_option maxRecDepth 100000 in
set_option maxHeartbeats 4000000 in
theorem B_X6_reachFor_15b {X : gX} (C : cx X RX6 cX6_reachFor 3 (some .int) wsX6_reachFor 4 94) (a : Nat → Nat) (N : Nat) (p0 : Int32) (r : Int32) (Mz : tS)  (k15 : Int32 → tS → Option (Int32 × tS)) (hk15 : ∀ (x2 : Int32) (M : tS), k15 x2 M = some (r, Mz) → G X (QI X r [mdW (gcA X) a Mz]) [mdW (gcA X) a M] [some (.ref (a 0)), some (.int p0), some (.int x2)] [] 15) (x2 : Int32) (M : tS) (h : f_X6_reachFor_15b N p0  k15 x2 M = some (r, Mz)) : G X (QI X r [mdW (gcA X) a Mz]) [mdW (gcA X) a M] [some (.ref (a 0)), some (.int p0), some (.int x2)] [] 15 := by
  unfold f_X6_reachFor_15b at h
  refine g_aload_n (pc' := 16) C dX6_reachFor_15 rfl rfl ?_
  refine g_iload_n (pc' := 17) C dX6_reachFor_16 rfl rfl ?_
  refine g_bipush (pc' := 19) (v := -5) C dX6_reachFor_17 (by decide) rfl ?_
  refine k_X6_laysHeaps (pc' := 22) C a N M x2 (-5 : Int32) [0] rfl (by decide) gX6_reachFor_X6_laysHeaps ⟨Nat.le_of_ble_eq_true rfl, Nat.le_of_ble_eq_true rfl⟩ (Nat.le_of_ble_eq_true rfl) rfl dX6_reachFor_19 rfl h (fun r1 M1 h => ?_)
  show G X _ [mdW (gcA X) a M1] _ _ _
  refine g_iload_n (pc' := 23) C dX6_reachFor_22 rfl rfl ?_
  refine g_icmp_le (pc' := 26) (tgt := 32) C dX6_reachFor_23 (by decide) rfl h (fun c h => ?_) (fun c h => ?_)
  · refine g_iload_n (pc' := 33) C dX6_reachFor_32 rfl rfl ?_
    obtain ⟨rfl, rfl⟩ := pj2 (Option.some.inj h)
    exact g_iret C dX6_reachFor_33
  · refine g_iinc (pc' := 29) (v := (x2 + 1)) C dX6_reachFor_26 rfl rfl rfl (L' := [some (.ref (a 0)), some (.int p0), some (.int (x2 + 1))]) rfl ?_
    refine g_goto (pc' := 15) C dX6_reachFor_29 (by decide) ?_
    exact G_loc (lle_s (lle_s (lle_s lle_0))) (hk15 (x2 + 1) M1 h)
set_option maxRecDepth 100000 in
set_option maxHeartbeats 4000000 in
theorem L_X6_reachFor_15 {X : gX} (C : cx X RX6 cX6_reachFor 3 (some .int) wsX6_reachFor 4 94) (a : Nat → Nat) (N : Nat) (p0 : Int32) (r : Int32) (Mz : tS)  : ∀ (n : Nat) (x2 : Int32) (M : tS), f_X6_reachFor_15 N p0  n x2 M = some (r, Mz) → G X (QI X r [mdW (gcA X) a Mz]) [mdW (gcA X) a M] [some (.ref (a 0)), some (.int p0), some (.int x2)] [] 15 := by
  intro n
  induction n with
  | zero => intro x2 M h; have h : (none : Option (Int32 × tS)) = some (r, Mz) := h; cases h
  | succ n ih => intro x2 M h; exact B_X6_reachFor_15b C a N p0 r Mz  (f_X6_reachFor_15 N p0  n) ih x2 M h
def f_X6_reachFor (N : Nat) (M : tS) (p0 : Int32) : Option (Int32 × tS) := (bd (f_X6_in N p0 (1 : Int32) (20 : Int32)) (fun r1 => (if r1 = 0 then some ((-2 : Int32), M) else f_X6_reachFor_15 N p0 N (0 : Int32) M)))
set_option maxRecDepth 100000 in
set_option maxHeartbeats 4000000 in
theorem B_X6_reachFor {X : gX} (C : cx X RX6 cX6_reachFor 3 (some .int) wsX6_reachFor 4 94) (a : Nat → Nat) (N : Nat) (M : tS) (p0 : Int32) (r : Int32) (Mz : tS) (h : f_X6_reachFor N M p0 = some (r, Mz)) : G X (QI X r [mdW (gcA X) a Mz]) [mdW (gcA X) a M] [some (.ref (a 0)), some (.int p0), none] [] 0 := by
  unfold f_X6_reachFor at h
  refine g_iload_n (pc' := 1) C dX6_reachFor_0 rfl rfl ?_
  refine g_iconst (pc' := 2) (v := 1) C dX6_reachFor_1 (by decide) rfl ?_
  refine g_bipush (pc' := 4) (v := 20) C dX6_reachFor_2 (by decide) rfl ?_
  refine k_X6_in (pc' := 7) C N p0 (1 : Int32) (20 : Int32) [] rfl (by decide) gX6_reachFor_X6_in ⟨Nat.le_of_ble_eq_true rfl, Nat.le_of_ble_eq_true rfl⟩ (Nat.le_of_ble_eq_true rfl) rfl dX6_reachFor_4 rfl h (fun r1 h => ?_)
  refine g_if_ne (pc' := 10) (tgt := 13) C dX6_reachFor_7 (by decide) rfl h (fun c h => ?_) (fun c h => ?_)
  · refine g_bipush (pc' := 12) (v := -2) C dX6_reachFor_10 (by decide) rfl ?_
    obtain ⟨rfl, rfl⟩ := pj2 (Option.some.inj h)
    exact g_iret C dX6_reachFor_12
  · refine g_iconst (pc' := 14) (v := 0) C dX6_reachFor_13 (by decide) rfl ?_
    refine g_istore_n (pc' := 15) C dX6_reachFor_14 (Nat.le_of_ble_eq_true rfl) rfl (L' := [some (.ref (a 0)), some (.int p0), some (.int (0 : Int32))]) rfl ?_
    exact G_loc (lle_s (lle_s (lle_s lle_0))) (L_X6_reachFor_15 C a N p0 r Mz N (0 : Int32) M h)
set_option maxRecDepth 100000 in
set_option maxHeartbeats 4000000 in
theorem c_X6_reachFor (l : Launch) (D : va_G) (cA : Nat → ClassId) (a : Nat → Nat) (N : Nat) (M : tS) (p0 : Int32) (r : Int32) (Mz : tS) (h : f_X6_reachFor N M p0 = some (r, Mz)) : MI l D cA yX6_reachFor wsX6_reachFor 4 94 [.ref (a 0), .int p0] [mdW cA a M] r [mdW cA a Mz] := MI_of (cc := cX6_reachFor) (maxL := 3) (rt := some .int) (by decide +kernel) rfl (List.forall_mem_cons.mpr ⟨rfl, List.forall_mem_cons.mpr ⟨rfl, List.forall_mem_nil _⟩⟩) (Nat.le_of_ble_eq_true rfl) (fun X e1 e2 e3 C => by subst e1; subst e2; subst e3; exact B_X6_reachFor C a N M p0 r Mz h)
set_option maxRecDepth 100000 in
set_option maxHeartbeats 4000000 in
theorem nd_X6_reachFor : nd yX6_reachFor 1 := ⟨by decide +kernel, by decide +kernel, by decide +kernel⟩
set_option maxRecDepth 100000 in
set_option maxHeartbeats 4000000 in
theorem k_X6_reachFor {X : gX} {own : String} {cc : ByteArray} {nL : Nat} {ret : Option FieldType} {Ts : List Cond} {fr lm : Nat} {Q : State → Prop} {ms : List va_W} {L : List (Option Value)} {st : List Value} {pc pc' idx : Nat} {ρ : Type} {T : Int32 → tS → Option ρ} {res : ρ} (C : cx X own cc nL ret Ts fr lm) (a : Nat → Nat) (N : Nat) (M : tS) (p0 : Int32) (is : List Nat) (hC : is.map (fun i => ms[i]?) = [some (mdW (gcA X) a M)]) (hn : is.Nodup) (hG : GoodIn Ts (wsV own idx RX6 yX6_reachFor wsX6_reachFor)) (hR : 4 + 1 ≤ fr ∧ 8 + (3 + 11) + 94 ≤ lm) (hst : (st.map fun v => v.category).sum ≤ 8) (hLn : L.length = nL) (d : decode cc pc = .ok (.invokevirtual idx, 3)) (hp : pc + 3 = pc') (h : bd2 (f_X6_reachFor N M p0) T = some res) (kk : ∀ (r : Int32) (Mz : tS), T r Mz = some res → G X Q (rpl ms is [mdW (gcA X) a Mz]) L (.int r :: st) pc') : G X Q ms L (.int p0 :: .ref (a 0) :: st) pc := by
  obtain ⟨r, Mz, h1, h⟩ := ob2 h
  exact G_callVI C (As := [.int p0]) (c_X6_reachFor (gl X) (gD X) (gcA X) a N M p0 r Mz h1) hG rfl nd_X6_reachFor hR (q0 := 0) rfl rfl hC hn rfl rfl hst hLn d hp (kk r Mz h)
theorem hi_X6_nearest_X6 : ∀ w ∈ wsX60, w ∈ wsX6_nearest := fun w h => List.mem_cons_of_mem _ (List.mem_append_right _ h)
theorem lk_X6_nearest_1 : Cond.fieldLink RX6 7 "NoteThemesModel" "s" "[I" ∈ wsX6_nearest := List.mem_of_getElem? (i := 1) rfl
def f_X6_nearest_107 (N : Nat) (M : tS) (p0 : Int32) (k19 : Int32 → Int32 → Int32 → Option (Int32)) (k33 : Int32 → Int32 → Int32 → Int32 → Option (Int32)) (x2 : Int32) (x4 : Int32) (x5 : Int32) (t0 : Int32) : Option (Int32) := k33 x2 t0 x4 (x5 + 1)
set_option maxRecDepth 100000 in
set_option maxHeartbeats 4000000 in
theorem B_X6_nearest_107 {X : gX} (C : cx X RX6 cX6_nearest 7 (some .int) wsX6_nearest 2 44) (a : Nat → Nat) (N : Nat) (M : tS) (p0 : Int32) (r : Int32) (k19 : Int32 → Int32 → Int32 → Option (Int32)) (hk19 : ∀ (x2 : Int32) (x3 : Int32) (x4 : Int32), k19 x2 x3 x4 = some r → G X (QI X r [mdW (gcA X) a M]) [mdW (gcA X) a M] [some (.ref (a 0)), some (.int p0), some (.int x2), some (.int x3), some (.int x4), none, none] [] 19) (k33 : Int32 → Int32 → Int32 → Int32 → Option (Int32)) (hk33 : ∀ (x2 : Int32) (x3 : Int32) (x4 : Int32) (x5 : Int32), k33 x2 x3 x4 x5 = some r → G X (QI X r [mdW (gcA X) a M]) [mdW (gcA X) a M] [some (.ref (a 0)), some (.int p0), some (.int x2), some (.int x3), some (.int x4), some (.int x5), none] [] 33) (x2 : Int32) (x4 : Int32) (x5 : Int32) (t0 : Int32) (h : f_X6_nearest_107 N M p0 k19 k33 x2 x4 x5 t0 = some r) : G X (QI X r [mdW (gcA X) a M]) [mdW (gcA X) a M] [some (.ref (a 0)), some (.int p0), some (.int x2), none, some (.int x4), some (.int x5), none] [.int t0] 107 := by
  unfold f_X6_nearest_107 at h
  refine g_istore_n (pc' := 108) C dX6_nearest_107 (Nat.le_of_ble_eq_true rfl) rfl (L' := [some (.ref (a 0)), some (.int p0), some (.int x2), some (.int t0), some (.int x4), some (.int x5), none]) rfl ?_
  refine g_iinc (pc' := 111) (v := (x5 + 1)) C dX6_nearest_108 rfl rfl rfl (L' := [some (.ref (a 0)), some (.int p0), some (.int x2), some (.int t0), some (.int x4), some (.int (x5 + 1)), none]) rfl ?_
  refine g_goto (pc' := 33) C dX6_nearest_111 (by decide) ?_
  exact G_loc (lle_s (lle_s (lle_s (lle_s (lle_s (lle_s (lle_n lle_0))))))) (hk33 x2 t0 x4 (x5 + 1) h)
def f_X6_nearest_90 (N : Nat) (M : tS) (p0 : Int32) (k19 : Int32 → Int32 → Int32 → Option (Int32)) (k33 : Int32 → Int32 → Int32 → Int32 → Option (Int32)) (x3 : Int32) (x4 : Int32) (x5 : Int32) (x6 : Int32) (t0 : Int32) : Option (Int32) := (if x6 = 0 then f_X6_nearest_107 N M p0 k19 k33 t0 x4 x5 x3 else (bd (f_X6_distance N M x5 p0) (fun r1 => f_X6_nearest_107 N M p0 k19 k33 t0 x4 x5 r1)))
set_option maxRecDepth 100000 in
set_option maxHeartbeats 4000000 in
theorem B_X6_nearest_90 {X : gX} (C : cx X RX6 cX6_nearest 7 (some .int) wsX6_nearest 2 44) (a : Nat → Nat) (N : Nat) (M : tS) (p0 : Int32) (r : Int32) (k19 : Int32 → Int32 → Int32 → Option (Int32)) (hk19 : ∀ (x2 : Int32) (x3 : Int32) (x4 : Int32), k19 x2 x3 x4 = some r → G X (QI X r [mdW (gcA X) a M]) [mdW (gcA X) a M] [some (.ref (a 0)), some (.int p0), some (.int x2), some (.int x3), some (.int x4), none, none] [] 19) (k33 : Int32 → Int32 → Int32 → Int32 → Option (Int32)) (hk33 : ∀ (x2 : Int32) (x3 : Int32) (x4 : Int32) (x5 : Int32), k33 x2 x3 x4 x5 = some r → G X (QI X r [mdW (gcA X) a M]) [mdW (gcA X) a M] [some (.ref (a 0)), some (.int p0), some (.int x2), some (.int x3), some (.int x4), some (.int x5), none] [] 33) (x3 : Int32) (x4 : Int32) (x5 : Int32) (x6 : Int32) (t0 : Int32) (h : f_X6_nearest_90 N M p0 k19 k33 x3 x4 x5 x6 t0 = some r) : G X (QI X r [mdW (gcA X) a M]) [mdW (gcA X) a M] [some (.ref (a 0)), some (.int p0), none, some (.int x3), some (.int x4), some (.int x5), some (.int x6)] [.int t0] 90 := by
  unfold f_X6_nearest_90 at h
  refine g_istore_n (pc' := 91) C dX6_nearest_90 (Nat.le_of_ble_eq_true rfl) rfl (L' := [some (.ref (a 0)), some (.int p0), some (.int t0), some (.int x3), some (.int x4), some (.int x5), some (.int x6)]) rfl ?_
  refine g_iload (pc' := 93) C dX6_nearest_91 rfl rfl ?_
  refine g_if_eq (pc' := 96) (tgt := 106) C dX6_nearest_93 (by decide) rfl h (fun c h => ?_) (fun c h => ?_)
  · refine g_iload_n (pc' := 107) C dX6_nearest_106 rfl rfl ?_
    exact G_loc (lle_s (lle_s (lle_s (lle_n (lle_s (lle_s (lle_n lle_0))))))) (B_X6_nearest_107 C a N M p0 r k19 hk19 k33 hk33 t0 x4 x5 x3 h)
  · refine g_aload_n (pc' := 97) C dX6_nearest_96 rfl rfl ?_
    refine g_iload (pc' := 99) C dX6_nearest_97 rfl rfl ?_
    refine g_iload_n (pc' := 100) C dX6_nearest_99 rfl rfl ?_
    refine k_X6_distance (pc' := 103) C a N M x5 p0 [0] rfl (by decide) gX6_nearest_X6_distance ⟨Nat.le_of_ble_eq_true rfl, Nat.le_of_ble_eq_true rfl⟩ (Nat.le_of_ble_eq_true rfl) rfl dX6_nearest_100 rfl h (fun r1 h => ?_)
    refine g_goto (pc' := 107) C dX6_nearest_103 (by decide) ?_
    exact G_loc (lle_s (lle_s (lle_s (lle_n (lle_s (lle_s (lle_n lle_0))))))) (B_X6_nearest_107 C a N M p0 r k19 hk19 k33 hk33 t0 x4 x5 r1 h)
def f_X6_nearest_77 (N : Nat) (M : tS) (p0 : Int32) (k19 : Int32 → Int32 → Int32 → Option (Int32)) (k33 : Int32 → Int32 → Int32 → Int32 → Option (Int32)) (x2 : Int32) (x3 : Int32) (x4 : Int32) (x5 : Int32) (t0 : Int32) : Option (Int32) := (if t0 = 0 then f_X6_nearest_90 N M p0 k19 k33 x3 x4 x5 t0 x2 else f_X6_nearest_90 N M p0 k19 k33 x3 x4 x5 t0 x4)
set_option maxRecDepth 100000 in
set_option maxHeartbeats 4000000 in
theorem B_X6_nearest_77 {X : gX} (C : cx X RX6 cX6_nearest 7 (some .int) wsX6_nearest 2 44) (a : Nat → Nat) (N : Nat) (M : tS) (p0 : Int32) (r : Int32) (k19 : Int32 → Int32 → Int32 → Option (Int32)) (hk19 : ∀ (x2 : Int32) (x3 : Int32) (x4 : Int32), k19 x2 x3 x4 = some r → G X (QI X r [mdW (gcA X) a M]) [mdW (gcA X) a M] [some (.ref (a 0)), some (.int p0), some (.int x2), some (.int x3), some (.int x4), none, none] [] 19) (k33 : Int32 → Int32 → Int32 → Int32 → Option (Int32)) (hk33 : ∀ (x2 : Int32) (x3 : Int32) (x4 : Int32) (x5 : Int32), k33 x2 x3 x4 x5 = some r → G X (QI X r [mdW (gcA X) a M]) [mdW (gcA X) a M] [some (.ref (a 0)), some (.int p0), some (.int x2), some (.int x3), some (.int x4), some (.int x5), none] [] 33) (x2 : Int32) (x3 : Int32) (x4 : Int32) (x5 : Int32) (t0 : Int32) (h : f_X6_nearest_77 N M p0 k19 k33 x2 x3 x4 x5 t0 = some r) : G X (QI X r [mdW (gcA X) a M]) [mdW (gcA X) a M] [some (.ref (a 0)), some (.int p0), some (.int x2), some (.int x3), some (.int x4), some (.int x5), none] [.int t0] 77 := by
  unfold f_X6_nearest_77 at h
  refine g_istore (pc' := 79) C dX6_nearest_77 (Nat.le_of_ble_eq_true rfl) rfl (L' := [some (.ref (a 0)), some (.int p0), some (.int x2), some (.int x3), some (.int x4), some (.int x5), some (.int t0)]) rfl ?_
  refine g_iload (pc' := 81) C dX6_nearest_79 rfl rfl ?_
  refine g_if_eq (pc' := 84) (tgt := 89) C dX6_nearest_81 (by decide) rfl h (fun c h => ?_) (fun c h => ?_)
  · refine g_iload_n (pc' := 90) C dX6_nearest_89 rfl rfl ?_
    exact G_loc (lle_s (lle_s (lle_n (lle_s (lle_s (lle_s (lle_s lle_0))))))) (B_X6_nearest_90 C a N M p0 r k19 hk19 k33 hk33 x3 x4 x5 t0 x2 h)
  · refine g_iload (pc' := 86) C dX6_nearest_84 rfl rfl ?_
    refine g_goto (pc' := 90) C dX6_nearest_86 (by decide) ?_
    exact G_loc (lle_s (lle_s (lle_n (lle_s (lle_s (lle_s (lle_s lle_0))))))) (B_X6_nearest_90 C a N M p0 r k19 hk19 k33 hk33 x3 x4 x5 t0 x4 h)
def f_X6_nearest_76 (N : Nat) (M : tS) (p0 : Int32) (k19 : Int32 → Int32 → Int32 → Option (Int32)) (k33 : Int32 → Int32 → Int32 → Int32 → Option (Int32)) (x2 : Int32) (x3 : Int32) (x4 : Int32) (x5 : Int32) : Option (Int32) := f_X6_nearest_77 N M p0 k19 k33 x2 x3 x4 x5 (0 : Int32)
set_option maxRecDepth 100000 in
set_option maxHeartbeats 4000000 in
theorem B_X6_nearest_76 {X : gX} (C : cx X RX6 cX6_nearest 7 (some .int) wsX6_nearest 2 44) (a : Nat → Nat) (N : Nat) (M : tS) (p0 : Int32) (r : Int32) (k19 : Int32 → Int32 → Int32 → Option (Int32)) (hk19 : ∀ (x2 : Int32) (x3 : Int32) (x4 : Int32), k19 x2 x3 x4 = some r → G X (QI X r [mdW (gcA X) a M]) [mdW (gcA X) a M] [some (.ref (a 0)), some (.int p0), some (.int x2), some (.int x3), some (.int x4), none, none] [] 19) (k33 : Int32 → Int32 → Int32 → Int32 → Option (Int32)) (hk33 : ∀ (x2 : Int32) (x3 : Int32) (x4 : Int32) (x5 : Int32), k33 x2 x3 x4 x5 = some r → G X (QI X r [mdW (gcA X) a M]) [mdW (gcA X) a M] [some (.ref (a 0)), some (.int p0), some (.int x2), some (.int x3), some (.int x4), some (.int x5), none] [] 33) (x2 : Int32) (x3 : Int32) (x4 : Int32) (x5 : Int32) (h : f_X6_nearest_76 N M p0 k19 k33 x2 x3 x4 x5 = some r) : G X (QI X r [mdW (gcA X) a M]) [mdW (gcA X) a M] [some (.ref (a 0)), some (.int p0), some (.int x2), some (.int x3), some (.int x4), some (.int x5), none] [] 76 := by
  unfold f_X6_nearest_76 at h
  refine g_iconst (pc' := 77) (v := 0) C dX6_nearest_76 (by decide) rfl ?_
  exact G_loc (lle_s (lle_s (lle_s (lle_s (lle_s (lle_s (lle_n lle_0))))))) (B_X6_nearest_77 C a N M p0 r k19 hk19 k33 hk33 x2 x3 x4 x5 (0 : Int32) h)
def f_X6_nearest_33b (N : Nat) (M : tS) (p0 : Int32) (k19 : Int32 → Int32 → Int32 → Option (Int32)) (k33 : Int32 → Int32 → Int32 → Int32 → Option (Int32)) (x2 : Int32) (x3 : Int32) (x4 : Int32) (x5 : Int32) : Option (Int32) := (if (M 0 (0 : Int32).toNatClampNeg) ≤ x5 then k19 x2 x3 (x4 + 1) else (if x5 = p0 then f_X6_nearest_76 N M p0 k19 k33 x2 x3 x4 x5 else (bd (f_X6_themeOf N M x5) (fun r1 => (if r1 = x4 then (bd (f_X6_distance N M x5 p0) (fun r2 => (if x3 ≤ r2 then f_X6_nearest_76 N M p0 k19 k33 x2 x3 x4 x5 else f_X6_nearest_77 N M p0 k19 k33 x2 x3 x4 x5 (1 : Int32)))) else f_X6_nearest_76 N M p0 k19 k33 x2 x3 x4 x5)))))
def f_X6_nearest_33 (N : Nat) (M : tS) (p0 : Int32) (k19 : Int32 → Int32 → Int32 → Option (Int32)) : Nat → Int32 → Int32 → Int32 → Int32 → Option (Int32)
  | 0 => fun _ _ _ _ => none
  | n + 1 => f_X6_nearest_33b N M p0 k19 (f_X6_nearest_33 N M p0 k19 n)
set_option maxRecDepth 100000 in
set_option maxHeartbeats 4000000 in
theorem B_X6_nearest_33b {X : gX} (C : cx X RX6 cX6_nearest 7 (some .int) wsX6_nearest 2 44) (a : Nat → Nat) (N : Nat) (M : tS) (p0 : Int32) (r : Int32) (k19 : Int32 → Int32 → Int32 → Option (Int32)) (hk19 : ∀ (x2 : Int32) (x3 : Int32) (x4 : Int32), k19 x2 x3 x4 = some r → G X (QI X r [mdW (gcA X) a M]) [mdW (gcA X) a M] [some (.ref (a 0)), some (.int p0), some (.int x2), some (.int x3), some (.int x4), none, none] [] 19) (k33 : Int32 → Int32 → Int32 → Int32 → Option (Int32)) (hk33 : ∀ (x2 : Int32) (x3 : Int32) (x4 : Int32) (x5 : Int32), k33 x2 x3 x4 x5 = some r → G X (QI X r [mdW (gcA X) a M]) [mdW (gcA X) a M] [some (.ref (a 0)), some (.int p0), some (.int x2), some (.int x3), some (.int x4), some (.int x5), none] [] 33) (x2 : Int32) (x3 : Int32) (x4 : Int32) (x5 : Int32) (h : f_X6_nearest_33b N M p0 k19 k33 x2 x3 x4 x5 = some r) : G X (QI X r [mdW (gcA X) a M]) [mdW (gcA X) a M] [some (.ref (a 0)), some (.int p0), some (.int x2), some (.int x3), some (.int x4), some (.int x5), none] [] 33 := by
  unfold f_X6_nearest_33b at h
  refine g_iload (pc' := 35) C dX6_nearest_33 rfl rfl ?_
  refine g_aload_n (pc' := 36) C dX6_nearest_35 rfl rfl ?_
  refine gg_X6_0 (pc' := 39) (i := 0) C rfl hi_X6_nearest_X6 lk_X6_nearest_1 dX6_nearest_36 rfl ?_
  refine g_iconst (pc' := 40) (v := 0) C dX6_nearest_39 (by decide) rfl ?_
  refine g_iald0 (pc' := 41) (i := 0) (j := 1) C rfl rfl dX6_nearest_40 rfl (by unfold vp_in; decide) ?_
  refine g_icmp_ge (pc' := 44) (tgt := 114) C dX6_nearest_41 (by decide) rfl h (fun c h => ?_) (fun c h => ?_)
  · refine g_iinc (pc' := 117) (v := (x4 + 1)) C dX6_nearest_114 rfl rfl rfl (L' := [some (.ref (a 0)), some (.int p0), some (.int x2), some (.int x3), some (.int (x4 + 1)), some (.int x5), none]) rfl ?_
    refine g_goto (pc' := 19) C dX6_nearest_117 (by decide) ?_
    exact G_loc (lle_s (lle_s (lle_s (lle_s (lle_s (lle_n (lle_n lle_0))))))) (hk19 x2 x3 (x4 + 1) h)
  · refine g_iload (pc' := 46) C dX6_nearest_44 rfl rfl ?_
    refine g_iload_n (pc' := 47) C dX6_nearest_46 rfl rfl ?_
    refine g_icmp_eq (pc' := 50) (tgt := 76) C dX6_nearest_47 (by decide) rfl h (fun c h => ?_) (fun c h => ?_)
    · exact G_loc (lle_s (lle_s (lle_s (lle_s (lle_s (lle_s (lle_n lle_0))))))) (B_X6_nearest_76 C a N M p0 r k19 hk19 k33 hk33 x2 x3 x4 x5 h)
    · refine g_aload_n (pc' := 51) C dX6_nearest_50 rfl rfl ?_
      refine g_iload (pc' := 53) C dX6_nearest_51 rfl rfl ?_
      refine k_X6_themeOf (pc' := 56) C a N M x5 [0] rfl (by decide) gX6_nearest_X6_themeOf ⟨Nat.le_of_ble_eq_true rfl, Nat.le_of_ble_eq_true rfl⟩ (Nat.le_of_ble_eq_true rfl) rfl dX6_nearest_53 rfl h (fun r1 h => ?_)
      refine g_iload (pc' := 58) C dX6_nearest_56 rfl rfl ?_
      refine g_icmp_ne (pc' := 61) (tgt := 76) C dX6_nearest_58 (by decide) rfl h (fun c h => ?_) (fun c h => ?_)
      · refine g_aload_n (pc' := 62) C dX6_nearest_61 rfl rfl ?_
        refine g_iload (pc' := 64) C dX6_nearest_62 rfl rfl ?_
        refine g_iload_n (pc' := 65) C dX6_nearest_64 rfl rfl ?_
        refine k_X6_distance (pc' := 68) C a N M x5 p0 [0] rfl (by decide) gX6_nearest_X6_distance ⟨Nat.le_of_ble_eq_true rfl, Nat.le_of_ble_eq_true rfl⟩ (Nat.le_of_ble_eq_true rfl) rfl dX6_nearest_65 rfl h (fun r2 h => ?_)
        refine g_iload_n (pc' := 69) C dX6_nearest_68 rfl rfl ?_
        refine g_icmp_ge (pc' := 72) (tgt := 76) C dX6_nearest_69 (by decide) rfl h (fun c h => ?_) (fun c h => ?_)
        · exact G_loc (lle_s (lle_s (lle_s (lle_s (lle_s (lle_s (lle_n lle_0))))))) (B_X6_nearest_76 C a N M p0 r k19 hk19 k33 hk33 x2 x3 x4 x5 h)
        · refine g_iconst (pc' := 73) (v := 1) C dX6_nearest_72 (by decide) rfl ?_
          refine g_goto (pc' := 77) C dX6_nearest_73 (by decide) ?_
          exact G_loc (lle_s (lle_s (lle_s (lle_s (lle_s (lle_s (lle_n lle_0))))))) (B_X6_nearest_77 C a N M p0 r k19 hk19 k33 hk33 x2 x3 x4 x5 (1 : Int32) h)
      · exact G_loc (lle_s (lle_s (lle_s (lle_s (lle_s (lle_s (lle_n lle_0))))))) (B_X6_nearest_76 C a N M p0 r k19 hk19 k33 hk33 x2 x3 x4 x5 h)
set_option maxRecDepth 100000 in
set_option maxHeartbeats 4000000 in
theorem L_X6_nearest_33 {X : gX} (C : cx X RX6 cX6_nearest 7 (some .int) wsX6_nearest 2 44) (a : Nat → Nat) (N : Nat) (M : tS) (p0 : Int32) (r : Int32) (k19 : Int32 → Int32 → Int32 → Option (Int32)) (hk19 : ∀ (x2 : Int32) (x3 : Int32) (x4 : Int32), k19 x2 x3 x4 = some r → G X (QI X r [mdW (gcA X) a M]) [mdW (gcA X) a M] [some (.ref (a 0)), some (.int p0), some (.int x2), some (.int x3), some (.int x4), none, none] [] 19) : ∀ (n : Nat) (x2 : Int32) (x3 : Int32) (x4 : Int32) (x5 : Int32), f_X6_nearest_33 N M p0 k19 n x2 x3 x4 x5 = some r → G X (QI X r [mdW (gcA X) a M]) [mdW (gcA X) a M] [some (.ref (a 0)), some (.int p0), some (.int x2), some (.int x3), some (.int x4), some (.int x5), none] [] 33 := by
  intro n
  induction n with
  | zero => intro x2 x3 x4 x5 h; have h : (none : Option (Int32)) = some r := h; cases h
  | succ n ih => intro x2 x3 x4 x5 h; exact B_X6_nearest_33b C a N M p0 r k19 hk19 (f_X6_nearest_33 N M p0 k19 n) ih x2 x3 x4 x5 h
def f_X6_nearest_19b (N : Nat) (M : tS) (p0 : Int32)  (k19 : Int32 → Int32 → Int32 → Option (Int32)) (x2 : Int32) (x3 : Int32) (x4 : Int32) : Option (Int32) := (if (M 0 (1 : Int32).toNatClampNeg) ≤ x4 then some x2 else f_X6_nearest_33 N M p0 k19 N x2 x3 x4 (0 : Int32))
def f_X6_nearest_19 (N : Nat) (M : tS) (p0 : Int32)  : Nat → Int32 → Int32 → Int32 → Option (Int32)
  | 0 => fun _ _ _ => none
  | n + 1 => f_X6_nearest_19b N M p0  (f_X6_nearest_19 N M p0  n)
set_option maxRecDepth 100000 in
set_option maxHeartbeats 4000000 in
theorem B_X6_nearest_19b {X : gX} (C : cx X RX6 cX6_nearest 7 (some .int) wsX6_nearest 2 44) (a : Nat → Nat) (N : Nat) (M : tS) (p0 : Int32) (r : Int32)  (k19 : Int32 → Int32 → Int32 → Option (Int32)) (hk19 : ∀ (x2 : Int32) (x3 : Int32) (x4 : Int32), k19 x2 x3 x4 = some r → G X (QI X r [mdW (gcA X) a M]) [mdW (gcA X) a M] [some (.ref (a 0)), some (.int p0), some (.int x2), some (.int x3), some (.int x4), none, none] [] 19) (x2 : Int32) (x3 : Int32) (x4 : Int32) (h : f_X6_nearest_19b N M p0  k19 x2 x3 x4 = some r) : G X (QI X r [mdW (gcA X) a M]) [mdW (gcA X) a M] [some (.ref (a 0)), some (.int p0), some (.int x2), some (.int x3), some (.int x4), none, none] [] 19 := by
  unfold f_X6_nearest_19b at h
  refine g_iload (pc' := 21) C dX6_nearest_19 rfl rfl ?_
  refine g_aload_n (pc' := 22) C dX6_nearest_21 rfl rfl ?_
  refine gg_X6_0 (pc' := 25) (i := 0) C rfl hi_X6_nearest_X6 lk_X6_nearest_1 dX6_nearest_22 rfl ?_
  refine g_iconst (pc' := 26) (v := 1) C dX6_nearest_25 (by decide) rfl ?_
  refine g_iald0 (pc' := 27) (i := 0) (j := 1) C rfl rfl dX6_nearest_26 rfl (by unfold vp_in; decide) ?_
  refine g_icmp_ge (pc' := 30) (tgt := 120) C dX6_nearest_27 (by decide) rfl h (fun c h => ?_) (fun c h => ?_)
  · refine g_iload_n (pc' := 121) C dX6_nearest_120 rfl rfl ?_
    obtain rfl := Option.some.inj h
    exact g_iret C dX6_nearest_121
  · refine g_iconst (pc' := 31) (v := 0) C dX6_nearest_30 (by decide) rfl ?_
    refine g_istore (pc' := 33) C dX6_nearest_31 (Nat.le_of_ble_eq_true rfl) rfl (L' := [some (.ref (a 0)), some (.int p0), some (.int x2), some (.int x3), some (.int x4), some (.int (0 : Int32)), none]) rfl ?_
    exact G_loc (lle_s (lle_s (lle_s (lle_s (lle_s (lle_s (lle_n lle_0))))))) (L_X6_nearest_33 C a N M p0 r k19 hk19 N x2 x3 x4 (0 : Int32) h)
set_option maxRecDepth 100000 in
set_option maxHeartbeats 4000000 in
theorem L_X6_nearest_19 {X : gX} (C : cx X RX6 cX6_nearest 7 (some .int) wsX6_nearest 2 44) (a : Nat → Nat) (N : Nat) (M : tS) (p0 : Int32) (r : Int32)  : ∀ (n : Nat) (x2 : Int32) (x3 : Int32) (x4 : Int32), f_X6_nearest_19 N M p0  n x2 x3 x4 = some r → G X (QI X r [mdW (gcA X) a M]) [mdW (gcA X) a M] [some (.ref (a 0)), some (.int p0), some (.int x2), some (.int x3), some (.int x4), none, none] [] 19 := by
  intro n
  induction n with
  | zero => intro x2 x3 x4 h; have h : (none : Option (Int32)) = some r := h; cases h
  | succ n ih => intro x2 x3 x4 h; exact B_X6_nearest_19b C a N M p0 r  (f_X6_nearest_19 N M p0  n) ih x2 x3 x4 h
def f_X6_nearest (N : Nat) (M : tS) (p0 : Int32) : Option (Int32) := (bd (f_X6_isNote N M p0) (fun r1 => (if r1 = 0 then some (-1 : Int32) else f_X6_nearest_19 N M p0 N (-5 : Int32) (49 : Int32) (0 : Int32))))
set_option maxRecDepth 100000 in
set_option maxHeartbeats 4000000 in
theorem B_X6_nearest {X : gX} (C : cx X RX6 cX6_nearest 7 (some .int) wsX6_nearest 2 44) (a : Nat → Nat) (N : Nat) (M : tS) (p0 : Int32) (r : Int32) (h : f_X6_nearest N M p0 = some r) : G X (QI X r [mdW (gcA X) a M]) [mdW (gcA X) a M] [some (.ref (a 0)), some (.int p0), none, none, none, none, none] [] 0 := by
  unfold f_X6_nearest at h
  refine g_aload_n (pc' := 1) C dX6_nearest_0 rfl rfl ?_
  refine g_iload_n (pc' := 2) C dX6_nearest_1 rfl rfl ?_
  refine k_X6_isNote (pc' := 5) C a N M p0 [0] rfl (by decide) gX6_nearest_X6_isNote ⟨Nat.le_of_ble_eq_true rfl, Nat.le_of_ble_eq_true rfl⟩ (Nat.le_of_ble_eq_true rfl) rfl dX6_nearest_2 rfl h (fun r1 h => ?_)
  refine g_if_ne (pc' := 8) (tgt := 10) C dX6_nearest_5 (by decide) rfl h (fun c h => ?_) (fun c h => ?_)
  · refine g_iconst (pc' := 9) (v := -1) C dX6_nearest_8 (by decide) rfl ?_
    obtain rfl := Option.some.inj h
    exact g_iret C dX6_nearest_9
  · refine g_bipush (pc' := 12) (v := -5) C dX6_nearest_10 (by decide) rfl ?_
    refine g_istore_n (pc' := 13) C dX6_nearest_12 (Nat.le_of_ble_eq_true rfl) rfl (L' := [some (.ref (a 0)), some (.int p0), some (.int (-5 : Int32)), none, none, none, none]) rfl ?_
    refine g_bipush (pc' := 15) (v := 49) C dX6_nearest_13 (by decide) rfl ?_
    refine g_istore_n (pc' := 16) C dX6_nearest_15 (Nat.le_of_ble_eq_true rfl) rfl (L' := [some (.ref (a 0)), some (.int p0), some (.int (-5 : Int32)), some (.int (49 : Int32)), none, none, none]) rfl ?_
    refine g_iconst (pc' := 17) (v := 0) C dX6_nearest_16 (by decide) rfl ?_
    refine g_istore (pc' := 19) C dX6_nearest_17 (Nat.le_of_ble_eq_true rfl) rfl (L' := [some (.ref (a 0)), some (.int p0), some (.int (-5 : Int32)), some (.int (49 : Int32)), some (.int (0 : Int32)), none, none]) rfl ?_
    exact G_loc (lle_s (lle_s (lle_s (lle_s (lle_s (lle_n (lle_n lle_0))))))) (L_X6_nearest_19 C a N M p0 r N (-5 : Int32) (49 : Int32) (0 : Int32) h)
set_option maxRecDepth 100000 in
set_option maxHeartbeats 4000000 in
theorem c_X6_nearest (l : Launch) (D : va_G) (cA : Nat → ClassId) (a : Nat → Nat) (N : Nat) (M : tS) (p0 : Int32) (r : Int32) (h : f_X6_nearest N M p0 = some r) : MI l D cA yX6_nearest wsX6_nearest 2 44 [.ref (a 0), .int p0] [mdW cA a M] r [mdW cA a M] := MI_of (cc := cX6_nearest) (maxL := 7) (rt := some .int) (by decide +kernel) rfl (List.forall_mem_cons.mpr ⟨rfl, List.forall_mem_cons.mpr ⟨rfl, List.forall_mem_nil _⟩⟩) (Nat.le_of_ble_eq_true rfl) (fun X e1 e2 e3 C => by subst e1; subst e2; subst e3; exact B_X6_nearest C a N M p0 r h)
set_option maxRecDepth 100000 in
set_option maxHeartbeats 4000000 in
theorem nd_X6_nearest : nd yX6_nearest 1 := ⟨by decide +kernel, by decide +kernel, by decide +kernel⟩
set_option maxRecDepth 100000 in
set_option maxHeartbeats 4000000 in
theorem k_X6_nearest {X : gX} {own : String} {cc : ByteArray} {nL : Nat} {ret : Option FieldType} {Ts : List Cond} {fr lm : Nat} {Q : State → Prop} {ms : List va_W} {L : List (Option Value)} {st : List Value} {pc pc' idx : Nat} {ρ : Type} {T : Int32 → Option ρ} {res : ρ} (C : cx X own cc nL ret Ts fr lm) (a : Nat → Nat) (N : Nat) (M : tS) (p0 : Int32) (is : List Nat) (hC : is.map (fun i => ms[i]?) = [some (mdW (gcA X) a M)]) (hn : is.Nodup) (hG : GoodIn Ts (wsV own idx RX6 yX6_nearest wsX6_nearest)) (hR : 2 + 1 ≤ fr ∧ 8 + (7 + 11) + 44 ≤ lm) (hst : (st.map fun v => v.category).sum ≤ 8) (hLn : L.length = nL) (d : decode cc pc = .ok (.invokevirtual idx, 3)) (hp : pc + 3 = pc') (h : bd (f_X6_nearest N M p0) T = some res) (kk : ∀ (r : Int32), T r = some res → G X Q (ms) L (.int r :: st) pc') : G X Q ms L (.int p0 :: .ref (a 0) :: st) pc := by
  obtain ⟨r, h1, h⟩ := ob h
  exact G_callVI C (As := [.int p0]) (c_X6_nearest (gl X) (gD X) (gcA X) a N M p0 r h1) hG rfl nd_X6_nearest hR (q0 := 0) rfl rfl hC hn rfl rfl hst hLn d hp (G_ms (rpl_same (mc := [mdW (gcA X) a M]) hC) (kk r h))
theorem hi_X6_stuck_X6 : ∀ w ∈ wsX60, w ∈ wsX6_stuck := fun w h => List.mem_cons_of_mem _ (List.mem_append_right _ h)
theorem lk_X6_stuck_1 : Cond.fieldLink RX6 7 "NoteThemesModel" "s" "[I" ∈ wsX6_stuck := List.mem_of_getElem? (i := 1) rfl
def f_X6_stuck_4b (N : Nat) (M : tS)  (k4 : Int32 → Int32 → Option (Int32)) (x1 : Int32) (x2 : Int32) : Option (Int32) := (if (M 0 (0 : Int32).toNatClampNeg) ≤ x2 then some x1 else (bd (f_X6_dotsOf N M x2) (fun r1 => k4 (x1 + r1) (x2 + 1))))
def f_X6_stuck_4 (N : Nat) (M : tS)  : Nat → Int32 → Int32 → Option (Int32)
  | 0 => fun _ _ => none
  | n + 1 => f_X6_stuck_4b N M  (f_X6_stuck_4 N M  n)
set_option maxRecDepth 100000 in
set_option maxHeartbeats 4000000 in
theorem B_X6_stuck_4b {X : gX} (C : cx X RX6 cX6_stuck 3 (some .int) wsX6_stuck 2 45) (a : Nat → Nat) (N : Nat) (M : tS) (r : Int32)  (k4 : Int32 → Int32 → Option (Int32)) (hk4 : ∀ (x1 : Int32) (x2 : Int32), k4 x1 x2 = some r → G X (QI X r [mdW (gcA X) a M]) [mdW (gcA X) a M] [some (.ref (a 0)), some (.int x1), some (.int x2)] [] 4) (x1 : Int32) (x2 : Int32) (h : f_X6_stuck_4b N M  k4 x1 x2 = some r) : G X (QI X r [mdW (gcA X) a M]) [mdW (gcA X) a M] [some (.ref (a 0)), some (.int x1), some (.int x2)] [] 4 := by
  unfold f_X6_stuck_4b at h
  refine g_iload_n (pc' := 5) C dX6_stuck_4 rfl rfl ?_
  refine g_aload_n (pc' := 6) C dX6_stuck_5 rfl rfl ?_
  refine gg_X6_0 (pc' := 9) (i := 0) C rfl hi_X6_stuck_X6 lk_X6_stuck_1 dX6_stuck_6 rfl ?_
  refine g_iconst (pc' := 10) (v := 0) C dX6_stuck_9 (by decide) rfl ?_
  refine g_iald0 (pc' := 11) (i := 0) (j := 1) C rfl rfl dX6_stuck_10 rfl (by unfold vp_in; decide) ?_
  refine g_icmp_ge (pc' := 14) (tgt := 28) C dX6_stuck_11 (by decide) rfl h (fun c h => ?_) (fun c h => ?_)
  · refine g_iload_n (pc' := 29) C dX6_stuck_28 rfl rfl ?_
    obtain rfl := Option.some.inj h
    exact g_iret C dX6_stuck_29
  · refine g_iload_n (pc' := 15) C dX6_stuck_14 rfl rfl ?_
    refine g_aload_n (pc' := 16) C dX6_stuck_15 rfl rfl ?_
    refine g_iload_n (pc' := 17) C dX6_stuck_16 rfl rfl ?_
    refine k_X6_dotsOf (pc' := 20) C a N M x2 [0] rfl (by decide) gX6_stuck_X6_dotsOf ⟨Nat.le_of_ble_eq_true rfl, Nat.le_of_ble_eq_true rfl⟩ (Nat.le_of_ble_eq_true rfl) rfl dX6_stuck_17 rfl h (fun r1 h => ?_)
    refine g_iadd (pc' := 21) C dX6_stuck_20 rfl ?_
    refine g_istore_n (pc' := 22) C dX6_stuck_21 (Nat.le_of_ble_eq_true rfl) rfl (L' := [some (.ref (a 0)), some (.int (x1 + r1)), some (.int x2)]) rfl ?_
    refine g_iinc (pc' := 25) (v := (x2 + 1)) C dX6_stuck_22 rfl rfl rfl (L' := [some (.ref (a 0)), some (.int (x1 + r1)), some (.int (x2 + 1))]) rfl ?_
    refine g_goto (pc' := 4) C dX6_stuck_25 (by decide) ?_
    exact G_loc (lle_s (lle_s (lle_s lle_0))) (hk4 (x1 + r1) (x2 + 1) h)
set_option maxRecDepth 100000 in
set_option maxHeartbeats 4000000 in
theorem L_X6_stuck_4 {X : gX} (C : cx X RX6 cX6_stuck 3 (some .int) wsX6_stuck 2 45) (a : Nat → Nat) (N : Nat) (M : tS) (r : Int32)  : ∀ (n : Nat) (x1 : Int32) (x2 : Int32), f_X6_stuck_4 N M  n x1 x2 = some r → G X (QI X r [mdW (gcA X) a M]) [mdW (gcA X) a M] [some (.ref (a 0)), some (.int x1), some (.int x2)] [] 4 := by
  intro n
  induction n with
  | zero => intro x1 x2 h; have h : (none : Option (Int32)) = some r := h; cases h
  | succ n ih => intro x1 x2 h; exact B_X6_stuck_4b C a N M r  (f_X6_stuck_4 N M  n) ih x1 x2 h
def f_X6_stuck (N : Nat) (M : tS)  : Option (Int32) := f_X6_stuck_4 N M N (0 : Int32) (0 : Int32)
set_option maxRecDepth 100000 in
set_option maxHeartbeats 4000000 in
theorem B_X6_stuck {X : gX} (C : cx X RX6 cX6_stuck 3 (some .int) wsX6_stuck 2 45) (a : Nat → Nat) (N : Nat) (M : tS)  (r : Int32) (h : f_X6_stuck N M = some r) : G X (QI X r [mdW (gcA X) a M]) [mdW (gcA X) a M] [some (.ref (a 0)), none, none] [] 0 := by
  unfold f_X6_stuck at h
  refine g_iconst (pc' := 1) (v := 0) C dX6_stuck_0 (by decide) rfl ?_
  refine g_istore_n (pc' := 2) C dX6_stuck_1 (Nat.le_of_ble_eq_true rfl) rfl (L' := [some (.ref (a 0)), some (.int (0 : Int32)), none]) rfl ?_
  refine g_iconst (pc' := 3) (v := 0) C dX6_stuck_2 (by decide) rfl ?_
  refine g_istore_n (pc' := 4) C dX6_stuck_3 (Nat.le_of_ble_eq_true rfl) rfl (L' := [some (.ref (a 0)), some (.int (0 : Int32)), some (.int (0 : Int32))]) rfl ?_
  exact G_loc (lle_s (lle_s (lle_s lle_0))) (L_X6_stuck_4 C a N M r N (0 : Int32) (0 : Int32) h)
set_option maxRecDepth 100000 in
set_option maxHeartbeats 4000000 in
theorem c_X6_stuck (l : Launch) (D : va_G) (cA : Nat → ClassId) (a : Nat → Nat) (N : Nat) (M : tS)  (r : Int32) (h : f_X6_stuck N M = some r) : MI l D cA yX6_stuck wsX6_stuck 2 45 [.ref (a 0)] [mdW cA a M] r [mdW cA a M] := MI_of (cc := cX6_stuck) (maxL := 3) (rt := some .int) (by decide +kernel) rfl (List.forall_mem_cons.mpr ⟨rfl, List.forall_mem_nil _⟩) (Nat.le_of_ble_eq_true rfl) (fun X e1 e2 e3 C => by subst e1; subst e2; subst e3; exact B_X6_stuck C a N M r h)
set_option maxRecDepth 100000 in
set_option maxHeartbeats 4000000 in
theorem nd_X6_stuck : nd yX6_stuck 0 := ⟨by decide +kernel, by decide +kernel, by decide +kernel⟩
set_option maxRecDepth 100000 in
set_option maxHeartbeats 4000000 in
theorem k_X6_stuck {X : gX} {own : String} {cc : ByteArray} {nL : Nat} {ret : Option FieldType} {Ts : List Cond} {fr lm : Nat} {Q : State → Prop} {ms : List va_W} {L : List (Option Value)} {st : List Value} {pc pc' idx : Nat} {ρ : Type} {T : Int32 → Option ρ} {res : ρ} (C : cx X own cc nL ret Ts fr lm) (a : Nat → Nat) (N : Nat) (M : tS)  (is : List Nat) (hC : is.map (fun i => ms[i]?) = [some (mdW (gcA X) a M)]) (hn : is.Nodup) (hG : GoodIn Ts (wsV own idx RX6 yX6_stuck wsX6_stuck)) (hR : 2 + 1 ≤ fr ∧ 8 + (3 + 11) + 45 ≤ lm) (hst : (st.map fun v => v.category).sum ≤ 8) (hLn : L.length = nL) (d : decode cc pc = .ok (.invokevirtual idx, 3)) (hp : pc + 3 = pc') (h : bd (f_X6_stuck N M) T = some res) (kk : ∀ (r : Int32), T r = some res → G X Q (ms) L (.int r :: st) pc') : G X Q ms L (.ref (a 0) :: st) pc := by
  obtain ⟨r, h1, h⟩ := ob h
  exact G_callVI C (As := []) (c_X6_stuck (gl X) (gD X) (gcA X) a N M r h1) hG rfl nd_X6_stuck hR (q0 := 0) rfl rfl hC hn rfl rfl hst hLn d hp (G_ms (rpl_same (mc := [mdW (gcA X) a M]) hC) (kk r h))
theorem hi_X6_left_X6 : ∀ w ∈ wsX60, w ∈ wsX6_left := fun w h => List.mem_cons_of_mem _ (List.mem_append_right _ h)
theorem lk_X6_left_1 : Cond.fieldLink RX6 7 "NoteThemesModel" "s" "[I" ∈ wsX6_left := List.mem_of_getElem? (i := 1) rfl
def f_X6_left_33 (N : Nat) (M : tS) (k4 : Int32 → Int32 → Option (Int32)) (x2 : Int32) (t0 : Int32) (t1 : Int32) : Option (Int32) := k4 (t1 + t0) (x2 + 1)
set_option maxRecDepth 100000 in
set_option maxHeartbeats 4000000 in
theorem B_X6_left_33 {X : gX} (C : cx X RX6 cX6_left 4 (some .int) wsX6_left 2 45) (a : Nat → Nat) (N : Nat) (M : tS) (r : Int32) (k4 : Int32 → Int32 → Option (Int32)) (hk4 : ∀ (x1 : Int32) (x2 : Int32), k4 x1 x2 = some r → G X (QI X r [mdW (gcA X) a M]) [mdW (gcA X) a M] [some (.ref (a 0)), some (.int x1), some (.int x2), none] [] 4) (x2 : Int32) (t0 : Int32) (t1 : Int32) (h : f_X6_left_33 N M k4 x2 t0 t1 = some r) : G X (QI X r [mdW (gcA X) a M]) [mdW (gcA X) a M] [some (.ref (a 0)), none, some (.int x2), none] [.int t0, .int t1] 33 := by
  unfold f_X6_left_33 at h
  refine g_iadd (pc' := 34) C dX6_left_33 rfl ?_
  refine g_istore_n (pc' := 35) C dX6_left_34 (Nat.le_of_ble_eq_true rfl) rfl (L' := [some (.ref (a 0)), some (.int (t1 + t0)), some (.int x2), none]) rfl ?_
  refine g_iinc (pc' := 38) (v := (x2 + 1)) C dX6_left_35 rfl rfl rfl (L' := [some (.ref (a 0)), some (.int (t1 + t0)), some (.int (x2 + 1)), none]) rfl ?_
  refine g_goto (pc' := 4) C dX6_left_38 (by decide) ?_
  exact G_loc (lle_s (lle_s (lle_s (lle_n lle_0)))) (hk4 (t1 + t0) (x2 + 1) h)
def f_X6_left_4b (N : Nat) (M : tS)  (k4 : Int32 → Int32 → Option (Int32)) (x1 : Int32) (x2 : Int32) : Option (Int32) := (if (6 : Int32) ≤ x2 then some x1 else (bd (f_X6_stuckBy N M x2) (fun r1 => (if ((M 0 (3 : Int32).toNatClampNeg) - r1) ≤ 0 then f_X6_left_33 N M k4 x2 (0 : Int32) x1 else f_X6_left_33 N M k4 x2 ((M 0 (3 : Int32).toNatClampNeg) - r1) x1))))
def f_X6_left_4 (N : Nat) (M : tS)  : Nat → Int32 → Int32 → Option (Int32)
  | 0 => fun _ _ => none
  | n + 1 => f_X6_left_4b N M  (f_X6_left_4 N M  n)
set_option maxRecDepth 100000 in
set_option maxHeartbeats 4000000 in
theorem B_X6_left_4b {X : gX} (C : cx X RX6 cX6_left 4 (some .int) wsX6_left 2 45) (a : Nat → Nat) (N : Nat) (M : tS) (r : Int32)  (k4 : Int32 → Int32 → Option (Int32)) (hk4 : ∀ (x1 : Int32) (x2 : Int32), k4 x1 x2 = some r → G X (QI X r [mdW (gcA X) a M]) [mdW (gcA X) a M] [some (.ref (a 0)), some (.int x1), some (.int x2), none] [] 4) (x1 : Int32) (x2 : Int32) (h : f_X6_left_4b N M  k4 x1 x2 = some r) : G X (QI X r [mdW (gcA X) a M]) [mdW (gcA X) a M] [some (.ref (a 0)), some (.int x1), some (.int x2), none] [] 4 := by
  unfold f_X6_left_4b at h
  refine g_iload_n (pc' := 5) C dX6_left_4 rfl rfl ?_
  refine g_bipush (pc' := 7) (v := 6) C dX6_left_5 (by decide) rfl ?_
  refine g_icmp_ge (pc' := 10) (tgt := 41) C dX6_left_7 (by decide) rfl h (fun c h => ?_) (fun c h => ?_)
  · refine g_iload_n (pc' := 42) C dX6_left_41 rfl rfl ?_
    obtain rfl := Option.some.inj h
    exact g_iret C dX6_left_42
  · refine g_aload_n (pc' := 11) C dX6_left_10 rfl rfl ?_
    refine gg_X6_0 (pc' := 14) (i := 0) C rfl hi_X6_left_X6 lk_X6_left_1 dX6_left_11 rfl ?_
    refine g_iconst (pc' := 15) (v := 3) C dX6_left_14 (by decide) rfl ?_
    refine g_iald0 (pc' := 16) (i := 0) (j := 1) C rfl rfl dX6_left_15 rfl (by unfold vp_in; decide) ?_
    refine g_aload_n (pc' := 17) C dX6_left_16 rfl rfl ?_
    refine g_iload_n (pc' := 18) C dX6_left_17 rfl rfl ?_
    refine k_X6_stuckBy (pc' := 21) C a N M x2 [0] rfl (by decide) gX6_left_X6_stuckBy ⟨Nat.le_of_ble_eq_true rfl, Nat.le_of_ble_eq_true rfl⟩ (Nat.le_of_ble_eq_true rfl) rfl dX6_left_18 rfl h (fun r1 h => ?_)
    refine g_isub (pc' := 22) C dX6_left_21 rfl ?_
    refine g_istore_n (pc' := 23) C dX6_left_22 (Nat.le_of_ble_eq_true rfl) rfl (L' := [some (.ref (a 0)), some (.int x1), some (.int x2), some (.int ((M 0 (3 : Int32).toNatClampNeg) - r1))]) rfl ?_
    refine g_iload_n (pc' := 24) C dX6_left_23 rfl rfl ?_
    refine g_iload_n (pc' := 25) C dX6_left_24 rfl rfl ?_
    refine g_if_le (pc' := 28) (tgt := 32) C dX6_left_25 (by decide) rfl h (fun c h => ?_) (fun c h => ?_)
    · refine g_iconst (pc' := 33) (v := 0) C dX6_left_32 (by decide) rfl ?_
      exact G_loc (lle_s (lle_n (lle_s (lle_n lle_0)))) (B_X6_left_33 C a N M r k4 hk4 x2 (0 : Int32) x1 h)
    · refine g_iload_n (pc' := 29) C dX6_left_28 rfl rfl ?_
      refine g_goto (pc' := 33) C dX6_left_29 (by decide) ?_
      exact G_loc (lle_s (lle_n (lle_s (lle_n lle_0)))) (B_X6_left_33 C a N M r k4 hk4 x2 ((M 0 (3 : Int32).toNatClampNeg) - r1) x1 h)
set_option maxRecDepth 100000 in
set_option maxHeartbeats 4000000 in
theorem L_X6_left_4 {X : gX} (C : cx X RX6 cX6_left 4 (some .int) wsX6_left 2 45) (a : Nat → Nat) (N : Nat) (M : tS) (r : Int32)  : ∀ (n : Nat) (x1 : Int32) (x2 : Int32), f_X6_left_4 N M  n x1 x2 = some r → G X (QI X r [mdW (gcA X) a M]) [mdW (gcA X) a M] [some (.ref (a 0)), some (.int x1), some (.int x2), none] [] 4 := by
  intro n
  induction n with
  | zero => intro x1 x2 h; have h : (none : Option (Int32)) = some r := h; cases h
  | succ n ih => intro x1 x2 h; exact B_X6_left_4b C a N M r  (f_X6_left_4 N M  n) ih x1 x2 h
def f_X6_left (N : Nat) (M : tS)  : Option (Int32) := f_X6_left_4 N M N (0 : Int32) (0 : Int32)
set_option maxRecDepth 100000 in
set_option maxHeartbeats 4000000 in
theorem B_X6_left {X : gX} (C : cx X RX6 cX6_left 4 (some .int) wsX6_left 2 45) (a : Nat → Nat) (N : Nat) (M : tS)  (r : Int32) (h : f_X6_left N M = some r) : G X (QI X r [mdW (gcA X) a M]) [mdW (gcA X) a M] [some (.ref (a 0)), none, none, none] [] 0 := by
  unfold f_X6_left at h
  refine g_iconst (pc' := 1) (v := 0) C dX6_left_0 (by decide) rfl ?_
  refine g_istore_n (pc' := 2) C dX6_left_1 (Nat.le_of_ble_eq_true rfl) rfl (L' := [some (.ref (a 0)), some (.int (0 : Int32)), none, none]) rfl ?_
  refine g_iconst (pc' := 3) (v := 0) C dX6_left_2 (by decide) rfl ?_
  refine g_istore_n (pc' := 4) C dX6_left_3 (Nat.le_of_ble_eq_true rfl) rfl (L' := [some (.ref (a 0)), some (.int (0 : Int32)), some (.int (0 : Int32)), none]) rfl ?_
  exact G_loc (lle_s (lle_s (lle_s (lle_n lle_0)))) (L_X6_left_4 C a N M r N (0 : Int32) (0 : Int32) h)
set_option maxRecDepth 100000 in
set_option maxHeartbeats 4000000 in
theorem c_X6_left (l : Launch) (D : va_G) (cA : Nat → ClassId) (a : Nat → Nat) (N : Nat) (M : tS)  (r : Int32) (h : f_X6_left N M = some r) : MI l D cA yX6_left wsX6_left 2 45 [.ref (a 0)] [mdW cA a M] r [mdW cA a M] := MI_of (cc := cX6_left) (maxL := 4) (rt := some .int) (by decide +kernel) rfl (List.forall_mem_cons.mpr ⟨rfl, List.forall_mem_nil _⟩) (Nat.le_of_ble_eq_true rfl) (fun X e1 e2 e3 C => by subst e1; subst e2; subst e3; exact B_X6_left C a N M r h)
set_option maxRecDepth 100000 in
set_option maxHeartbeats 4000000 in
theorem nd_X6_left : nd yX6_left 0 := ⟨by decide +kernel, by decide +kernel, by decide +kernel⟩
set_option maxRecDepth 100000 in
set_option maxHeartbeats 4000000 in
theorem k_X6_left {X : gX} {own : String} {cc : ByteArray} {nL : Nat} {ret : Option FieldType} {Ts : List Cond} {fr lm : Nat} {Q : State → Prop} {ms : List va_W} {L : List (Option Value)} {st : List Value} {pc pc' idx : Nat} {ρ : Type} {T : Int32 → Option ρ} {res : ρ} (C : cx X own cc nL ret Ts fr lm) (a : Nat → Nat) (N : Nat) (M : tS)  (is : List Nat) (hC : is.map (fun i => ms[i]?) = [some (mdW (gcA X) a M)]) (hn : is.Nodup) (hG : GoodIn Ts (wsV own idx RX6 yX6_left wsX6_left)) (hR : 2 + 1 ≤ fr ∧ 8 + (4 + 11) + 45 ≤ lm) (hst : (st.map fun v => v.category).sum ≤ 8) (hLn : L.length = nL) (d : decode cc pc = .ok (.invokevirtual idx, 3)) (hp : pc + 3 = pc') (h : bd (f_X6_left N M) T = some res) (kk : ∀ (r : Int32), T r = some res → G X Q (ms) L (.int r :: st) pc') : G X Q ms L (.ref (a 0) :: st) pc := by
  obtain ⟨r, h1, h⟩ := ob h
  exact G_callVI C (As := []) (c_X6_left (gl X) (gD X) (gcA X) a N M r h1) hG rfl nd_X6_left hR (q0 := 0) rfl rfl hC hn rfl rfl hst hLn d hp (G_ms (rpl_same (mc := [mdW (gcA X) a M]) hC) (kk r h))
theorem hi_X6_named_X6 : ∀ w ∈ wsX60, w ∈ wsX6_named := fun w h => List.mem_cons_of_mem _ (List.mem_append_right _ h)
theorem lk_X6_named_1 : Cond.fieldLink RX6 7 "NoteThemesModel" "s" "[I" ∈ wsX6_named := List.mem_of_getElem? (i := 1) rfl
def f_X6_named_30 (N : Nat) (M : tS) (k4 : Int32 → Int32 → Option (Int32)) (x2 : Int32) (t0 : Int32) (t1 : Int32) : Option (Int32) := k4 (t1 + t0) (x2 + 1)
set_option maxRecDepth 100000 in
set_option maxHeartbeats 4000000 in
theorem B_X6_named_30 {X : gX} (C : cx X RX6 cX6_named 3 (some .int) wsX6_named 3 73) (a : Nat → Nat) (N : Nat) (M : tS) (r : Int32) (k4 : Int32 → Int32 → Option (Int32)) (hk4 : ∀ (x1 : Int32) (x2 : Int32), k4 x1 x2 = some r → G X (QI X r [mdW (gcA X) a M]) [mdW (gcA X) a M] [some (.ref (a 0)), some (.int x1), some (.int x2)] [] 4) (x2 : Int32) (t0 : Int32) (t1 : Int32) (h : f_X6_named_30 N M k4 x2 t0 t1 = some r) : G X (QI X r [mdW (gcA X) a M]) [mdW (gcA X) a M] [some (.ref (a 0)), none, some (.int x2)] [.int t0, .int t1] 30 := by
  unfold f_X6_named_30 at h
  refine g_iadd (pc' := 31) C dX6_named_30 rfl ?_
  refine g_istore_n (pc' := 32) C dX6_named_31 (Nat.le_of_ble_eq_true rfl) rfl (L' := [some (.ref (a 0)), some (.int (t1 + t0)), some (.int x2)]) rfl ?_
  refine g_iinc (pc' := 35) (v := (x2 + 1)) C dX6_named_32 rfl rfl rfl (L' := [some (.ref (a 0)), some (.int (t1 + t0)), some (.int (x2 + 1))]) rfl ?_
  refine g_goto (pc' := 4) C dX6_named_35 (by decide) ?_
  exact G_loc (lle_s (lle_s (lle_s lle_0))) (hk4 (t1 + t0) (x2 + 1) h)
def f_X6_named_4b (N : Nat) (M : tS)  (k4 : Int32 → Int32 → Option (Int32)) (x1 : Int32) (x2 : Int32) : Option (Int32) := (if (M 0 (1 : Int32).toNatClampNeg) ≤ x2 then some x1 else (bd (f_X6_nameOf N M x2) (fun r1 => (if r1 = (-5 : Int32) then f_X6_named_30 N M k4 x2 (0 : Int32) x1 else f_X6_named_30 N M k4 x2 (1 : Int32) x1))))
def f_X6_named_4 (N : Nat) (M : tS)  : Nat → Int32 → Int32 → Option (Int32)
  | 0 => fun _ _ => none
  | n + 1 => f_X6_named_4b N M  (f_X6_named_4 N M  n)
set_option maxRecDepth 100000 in
set_option maxHeartbeats 4000000 in
theorem B_X6_named_4b {X : gX} (C : cx X RX6 cX6_named 3 (some .int) wsX6_named 3 73) (a : Nat → Nat) (N : Nat) (M : tS) (r : Int32)  (k4 : Int32 → Int32 → Option (Int32)) (hk4 : ∀ (x1 : Int32) (x2 : Int32), k4 x1 x2 = some r → G X (QI X r [mdW (gcA X) a M]) [mdW (gcA X) a M] [some (.ref (a 0)), some (.int x1), some (.int x2)] [] 4) (x1 : Int32) (x2 : Int32) (h : f_X6_named_4b N M  k4 x1 x2 = some r) : G X (QI X r [mdW (gcA X) a M]) [mdW (gcA X) a M] [some (.ref (a 0)), some (.int x1), some (.int x2)] [] 4 := by
  unfold f_X6_named_4b at h
  refine g_iload_n (pc' := 5) C dX6_named_4 rfl rfl ?_
  refine g_aload_n (pc' := 6) C dX6_named_5 rfl rfl ?_
  refine gg_X6_0 (pc' := 9) (i := 0) C rfl hi_X6_named_X6 lk_X6_named_1 dX6_named_6 rfl ?_
  refine g_iconst (pc' := 10) (v := 1) C dX6_named_9 (by decide) rfl ?_
  refine g_iald0 (pc' := 11) (i := 0) (j := 1) C rfl rfl dX6_named_10 rfl (by unfold vp_in; decide) ?_
  refine g_icmp_ge (pc' := 14) (tgt := 38) C dX6_named_11 (by decide) rfl h (fun c h => ?_) (fun c h => ?_)
  · refine g_iload_n (pc' := 39) C dX6_named_38 rfl rfl ?_
    obtain rfl := Option.some.inj h
    exact g_iret C dX6_named_39
  · refine g_iload_n (pc' := 15) C dX6_named_14 rfl rfl ?_
    refine g_aload_n (pc' := 16) C dX6_named_15 rfl rfl ?_
    refine g_iload_n (pc' := 17) C dX6_named_16 rfl rfl ?_
    refine k_X6_nameOf (pc' := 20) C a N M x2 [0] rfl (by decide) gX6_named_X6_nameOf ⟨Nat.le_of_ble_eq_true rfl, Nat.le_of_ble_eq_true rfl⟩ (Nat.le_of_ble_eq_true rfl) rfl dX6_named_17 rfl h (fun r1 h => ?_)
    refine g_bipush (pc' := 22) (v := -5) C dX6_named_20 (by decide) rfl ?_
    refine g_icmp_ne (pc' := 25) (tgt := 29) C dX6_named_22 (by decide) rfl h (fun c h => ?_) (fun c h => ?_)
    · refine g_iconst (pc' := 26) (v := 0) C dX6_named_25 (by decide) rfl ?_
      refine g_goto (pc' := 30) C dX6_named_26 (by decide) ?_
      exact G_loc (lle_s (lle_n (lle_s lle_0))) (B_X6_named_30 C a N M r k4 hk4 x2 (0 : Int32) x1 h)
    · refine g_iconst (pc' := 30) (v := 1) C dX6_named_29 (by decide) rfl ?_
      exact G_loc (lle_s (lle_n (lle_s lle_0))) (B_X6_named_30 C a N M r k4 hk4 x2 (1 : Int32) x1 h)
set_option maxRecDepth 100000 in
set_option maxHeartbeats 4000000 in
theorem L_X6_named_4 {X : gX} (C : cx X RX6 cX6_named 3 (some .int) wsX6_named 3 73) (a : Nat → Nat) (N : Nat) (M : tS) (r : Int32)  : ∀ (n : Nat) (x1 : Int32) (x2 : Int32), f_X6_named_4 N M  n x1 x2 = some r → G X (QI X r [mdW (gcA X) a M]) [mdW (gcA X) a M] [some (.ref (a 0)), some (.int x1), some (.int x2)] [] 4 := by
  intro n
  induction n with
  | zero => intro x1 x2 h; have h : (none : Option (Int32)) = some r := h; cases h
  | succ n ih => intro x1 x2 h; exact B_X6_named_4b C a N M r  (f_X6_named_4 N M  n) ih x1 x2 h
def f_X6_named (N : Nat) (M : tS)  : Option (Int32) := f_X6_named_4 N M N (0 : Int32) (0 : Int32)
set_option maxRecDepth 100000 in
set_option maxHeartbeats 4000000 in
theorem B_X6_named {X : gX} (C : cx X RX6 cX6_named 3 (some .int) wsX6_named 3 73) (a : Nat → Nat) (N : Nat) (M : tS)  (r : Int32) (h : f_X6_named N M = some r) : G X (QI X r [mdW (gcA X) a M]) [mdW (gcA X) a M] [some (.ref (a 0)), none, none] [] 0 := by
  unfold f_X6_named at h
  refine g_iconst (pc' := 1) (v := 0) C dX6_named_0 (by decide) rfl ?_
  refine g_istore_n (pc' := 2) C dX6_named_1 (Nat.le_of_ble_eq_true rfl) rfl (L' := [some (.ref (a 0)), some (.int (0 : Int32)), none]) rfl ?_
  refine g_iconst (pc' := 3) (v := 0) C dX6_named_2 (by decide) rfl ?_
  refine g_istore_n (pc' := 4) C dX6_named_3 (Nat.le_of_ble_eq_true rfl) rfl (L' := [some (.ref (a 0)), some (.int (0 : Int32)), some (.int (0 : Int32))]) rfl ?_
  exact G_loc (lle_s (lle_s (lle_s lle_0))) (L_X6_named_4 C a N M r N (0 : Int32) (0 : Int32) h)
set_option maxRecDepth 100000 in
set_option maxHeartbeats 4000000 in
theorem c_X6_named (l : Launch) (D : va_G) (cA : Nat → ClassId) (a : Nat → Nat) (N : Nat) (M : tS)  (r : Int32) (h : f_X6_named N M = some r) : MI l D cA yX6_named wsX6_named 3 73 [.ref (a 0)] [mdW cA a M] r [mdW cA a M] := MI_of (cc := cX6_named) (maxL := 3) (rt := some .int) (by decide +kernel) rfl (List.forall_mem_cons.mpr ⟨rfl, List.forall_mem_nil _⟩) (Nat.le_of_ble_eq_true rfl) (fun X e1 e2 e3 C => by subst e1; subst e2; subst e3; exact B_X6_named C a N M r h)
set_option maxRecDepth 100000 in
set_option maxHeartbeats 4000000 in
theorem nd_X6_named : nd yX6_named 0 := ⟨by decide +kernel, by decide +kernel, by decide +kernel⟩
set_option maxRecDepth 100000 in
set_option maxHeartbeats 4000000 in
theorem k_X6_named {X : gX} {own : String} {cc : ByteArray} {nL : Nat} {ret : Option FieldType} {Ts : List Cond} {fr lm : Nat} {Q : State → Prop} {ms : List va_W} {L : List (Option Value)} {st : List Value} {pc pc' idx : Nat} {ρ : Type} {T : Int32 → Option ρ} {res : ρ} (C : cx X own cc nL ret Ts fr lm) (a : Nat → Nat) (N : Nat) (M : tS)  (is : List Nat) (hC : is.map (fun i => ms[i]?) = [some (mdW (gcA X) a M)]) (hn : is.Nodup) (hG : GoodIn Ts (wsV own idx RX6 yX6_named wsX6_named)) (hR : 3 + 1 ≤ fr ∧ 8 + (3 + 11) + 73 ≤ lm) (hst : (st.map fun v => v.category).sum ≤ 8) (hLn : L.length = nL) (d : decode cc pc = .ok (.invokevirtual idx, 3)) (hp : pc + 3 = pc') (h : bd (f_X6_named N M) T = some res) (kk : ∀ (r : Int32), T r = some res → G X Q (ms) L (.int r :: st) pc') : G X Q ms L (.ref (a 0) :: st) pc := by
  obtain ⟨r, h1, h⟩ := ob h
  exact G_callVI C (As := []) (c_X6_named (gl X) (gD X) (gcA X) a N M r h1) hG rfl nd_X6_named hR (q0 := 0) rfl rfl hC hn rfl rfl hst hLn d hp (G_ms (rpl_same (mc := [mdW (gcA X) a M]) hC) (kk r h))
theorem hi_X6_alone_X6 : ∀ w ∈ wsX60, w ∈ wsX6_alone := fun w h => List.mem_cons_of_mem _ (List.mem_append_right _ h)
theorem lk_X6_alone_1 : Cond.fieldLink RX6 7 "NoteThemesModel" "s" "[I" ∈ wsX6_alone := List.mem_of_getElem? (i := 1) rfl
def f_X6_alone_28 (N : Nat) (M : tS) (k4 : Int32 → Int32 → Option (Int32)) (x2 : Int32) (t0 : Int32) (t1 : Int32) : Option (Int32) := k4 (t1 + t0) (x2 + 1)
set_option maxRecDepth 100000 in
set_option maxHeartbeats 4000000 in
theorem B_X6_alone_28 {X : gX} (C : cx X RX6 cX6_alone 3 (some .int) wsX6_alone 3 67) (a : Nat → Nat) (N : Nat) (M : tS) (r : Int32) (k4 : Int32 → Int32 → Option (Int32)) (hk4 : ∀ (x1 : Int32) (x2 : Int32), k4 x1 x2 = some r → G X (QI X r [mdW (gcA X) a M]) [mdW (gcA X) a M] [some (.ref (a 0)), some (.int x1), some (.int x2)] [] 4) (x2 : Int32) (t0 : Int32) (t1 : Int32) (h : f_X6_alone_28 N M k4 x2 t0 t1 = some r) : G X (QI X r [mdW (gcA X) a M]) [mdW (gcA X) a M] [some (.ref (a 0)), none, some (.int x2)] [.int t0, .int t1] 28 := by
  unfold f_X6_alone_28 at h
  refine g_iadd (pc' := 29) C dX6_alone_28 rfl ?_
  refine g_istore_n (pc' := 30) C dX6_alone_29 (Nat.le_of_ble_eq_true rfl) rfl (L' := [some (.ref (a 0)), some (.int (t1 + t0)), some (.int x2)]) rfl ?_
  refine g_iinc (pc' := 33) (v := (x2 + 1)) C dX6_alone_30 rfl rfl rfl (L' := [some (.ref (a 0)), some (.int (t1 + t0)), some (.int (x2 + 1))]) rfl ?_
  refine g_goto (pc' := 4) C dX6_alone_33 (by decide) ?_
  exact G_loc (lle_s (lle_s (lle_s lle_0))) (hk4 (t1 + t0) (x2 + 1) h)
def f_X6_alone_4b (N : Nat) (M : tS)  (k4 : Int32 → Int32 → Option (Int32)) (x1 : Int32) (x2 : Int32) : Option (Int32) := (if (M 0 (0 : Int32).toNatClampNeg) ≤ x2 then some x1 else (bd (f_X6_near N M x2) (fun r1 => (if r1 = 0 then f_X6_alone_28 N M k4 x2 (1 : Int32) x1 else f_X6_alone_28 N M k4 x2 (0 : Int32) x1))))
def f_X6_alone_4 (N : Nat) (M : tS)  : Nat → Int32 → Int32 → Option (Int32)
  | 0 => fun _ _ => none
  | n + 1 => f_X6_alone_4b N M  (f_X6_alone_4 N M  n)
set_option maxRecDepth 100000 in
set_option maxHeartbeats 4000000 in
theorem B_X6_alone_4b {X : gX} (C : cx X RX6 cX6_alone 3 (some .int) wsX6_alone 3 67) (a : Nat → Nat) (N : Nat) (M : tS) (r : Int32)  (k4 : Int32 → Int32 → Option (Int32)) (hk4 : ∀ (x1 : Int32) (x2 : Int32), k4 x1 x2 = some r → G X (QI X r [mdW (gcA X) a M]) [mdW (gcA X) a M] [some (.ref (a 0)), some (.int x1), some (.int x2)] [] 4) (x1 : Int32) (x2 : Int32) (h : f_X6_alone_4b N M  k4 x1 x2 = some r) : G X (QI X r [mdW (gcA X) a M]) [mdW (gcA X) a M] [some (.ref (a 0)), some (.int x1), some (.int x2)] [] 4 := by
  unfold f_X6_alone_4b at h
  refine g_iload_n (pc' := 5) C dX6_alone_4 rfl rfl ?_
  refine g_aload_n (pc' := 6) C dX6_alone_5 rfl rfl ?_
  refine gg_X6_0 (pc' := 9) (i := 0) C rfl hi_X6_alone_X6 lk_X6_alone_1 dX6_alone_6 rfl ?_
  refine g_iconst (pc' := 10) (v := 0) C dX6_alone_9 (by decide) rfl ?_
  refine g_iald0 (pc' := 11) (i := 0) (j := 1) C rfl rfl dX6_alone_10 rfl (by unfold vp_in; decide) ?_
  refine g_icmp_ge (pc' := 14) (tgt := 36) C dX6_alone_11 (by decide) rfl h (fun c h => ?_) (fun c h => ?_)
  · refine g_iload_n (pc' := 37) C dX6_alone_36 rfl rfl ?_
    obtain rfl := Option.some.inj h
    exact g_iret C dX6_alone_37
  · refine g_iload_n (pc' := 15) C dX6_alone_14 rfl rfl ?_
    refine g_aload_n (pc' := 16) C dX6_alone_15 rfl rfl ?_
    refine g_iload_n (pc' := 17) C dX6_alone_16 rfl rfl ?_
    refine k_X6_near (pc' := 20) C a N M x2 [0] rfl (by decide) gX6_alone_X6_near ⟨Nat.le_of_ble_eq_true rfl, Nat.le_of_ble_eq_true rfl⟩ (Nat.le_of_ble_eq_true rfl) rfl dX6_alone_17 rfl h (fun r1 h => ?_)
    refine g_if_ne (pc' := 23) (tgt := 27) C dX6_alone_20 (by decide) rfl h (fun c h => ?_) (fun c h => ?_)
    · refine g_iconst (pc' := 24) (v := 1) C dX6_alone_23 (by decide) rfl ?_
      refine g_goto (pc' := 28) C dX6_alone_24 (by decide) ?_
      exact G_loc (lle_s (lle_n (lle_s lle_0))) (B_X6_alone_28 C a N M r k4 hk4 x2 (1 : Int32) x1 h)
    · refine g_iconst (pc' := 28) (v := 0) C dX6_alone_27 (by decide) rfl ?_
      exact G_loc (lle_s (lle_n (lle_s lle_0))) (B_X6_alone_28 C a N M r k4 hk4 x2 (0 : Int32) x1 h)
set_option maxRecDepth 100000 in
set_option maxHeartbeats 4000000 in
theorem L_X6_alone_4 {X : gX} (C : cx X RX6 cX6_alone 3 (some .int) wsX6_alone 3 67) (a : Nat → Nat) (N : Nat) (M : tS) (r : Int32)  : ∀ (n : Nat) (x1 : Int32) (x2 : Int32), f_X6_alone_4 N M  n x1 x2 = some r → G X (QI X r [mdW (gcA X) a M]) [mdW (gcA X) a M] [some (.ref (a 0)), some (.int x1), some (.int x2)] [] 4 := by
  intro n
  induction n with
  | zero => intro x1 x2 h; have h : (none : Option (Int32)) = some r := h; cases h
  | succ n ih => intro x1 x2 h; exact B_X6_alone_4b C a N M r  (f_X6_alone_4 N M  n) ih x1 x2 h
def f_X6_alone (N : Nat) (M : tS)  : Option (Int32) := f_X6_alone_4 N M N (0 : Int32) (0 : Int32)
set_option maxRecDepth 100000 in
set_option maxHeartbeats 4000000 in
theorem B_X6_alone {X : gX} (C : cx X RX6 cX6_alone 3 (some .int) wsX6_alone 3 67) (a : Nat → Nat) (N : Nat) (M : tS)  (r : Int32) (h : f_X6_alone N M = some r) : G X (QI X r [mdW (gcA X) a M]) [mdW (gcA X) a M] [some (.ref (a 0)), none, none] [] 0 := by
  unfold f_X6_alone at h
  refine g_iconst (pc' := 1) (v := 0) C dX6_alone_0 (by decide) rfl ?_
  refine g_istore_n (pc' := 2) C dX6_alone_1 (Nat.le_of_ble_eq_true rfl) rfl (L' := [some (.ref (a 0)), some (.int (0 : Int32)), none]) rfl ?_
  refine g_iconst (pc' := 3) (v := 0) C dX6_alone_2 (by decide) rfl ?_
  refine g_istore_n (pc' := 4) C dX6_alone_3 (Nat.le_of_ble_eq_true rfl) rfl (L' := [some (.ref (a 0)), some (.int (0 : Int32)), some (.int (0 : Int32))]) rfl ?_
  exact G_loc (lle_s (lle_s (lle_s lle_0))) (L_X6_alone_4 C a N M r N (0 : Int32) (0 : Int32) h)
set_option maxRecDepth 100000 in
set_option maxHeartbeats 4000000 in
theorem c_X6_alone (l : Launch) (D : va_G) (cA : Nat → ClassId) (a : Nat → Nat) (N : Nat) (M : tS)  (r : Int32) (h : f_X6_alone N M = some r) : MI l D cA yX6_alone wsX6_alone 3 67 [.ref (a 0)] [mdW cA a M] r [mdW cA a M] := MI_of (cc := cX6_alone) (maxL := 3) (rt := some .int) (by decide +kernel) rfl (List.forall_mem_cons.mpr ⟨rfl, List.forall_mem_nil _⟩) (Nat.le_of_ble_eq_true rfl) (fun X e1 e2 e3 C => by subst e1; subst e2; subst e3; exact B_X6_alone C a N M r h)
set_option maxRecDepth 100000 in
set_option maxHeartbeats 4000000 in
theorem nd_X6_alone : nd yX6_alone 0 := ⟨by decide +kernel, by decide +kernel, by decide +kernel⟩
set_option maxRecDepth 100000 in
set_option maxHeartbeats 4000000 in
theorem k_X6_alone {X : gX} {own : String} {cc : ByteArray} {nL : Nat} {ret : Option FieldType} {Ts : List Cond} {fr lm : Nat} {Q : State → Prop} {ms : List va_W} {L : List (Option Value)} {st : List Value} {pc pc' idx : Nat} {ρ : Type} {T : Int32 → Option ρ} {res : ρ} (C : cx X own cc nL ret Ts fr lm) (a : Nat → Nat) (N : Nat) (M : tS)  (is : List Nat) (hC : is.map (fun i => ms[i]?) = [some (mdW (gcA X) a M)]) (hn : is.Nodup) (hG : GoodIn Ts (wsV own idx RX6 yX6_alone wsX6_alone)) (hR : 3 + 1 ≤ fr ∧ 8 + (3 + 11) + 67 ≤ lm) (hst : (st.map fun v => v.category).sum ≤ 8) (hLn : L.length = nL) (d : decode cc pc = .ok (.invokevirtual idx, 3)) (hp : pc + 3 = pc') (h : bd (f_X6_alone N M) T = some res) (kk : ∀ (r : Int32), T r = some res → G X Q (ms) L (.int r :: st) pc') : G X Q ms L (.ref (a 0) :: st) pc := by
  obtain ⟨r, h1, h⟩ := ob h
  exact G_callVI C (As := []) (c_X6_alone (gl X) (gD X) (gcA X) a N M r h1) hG rfl nd_X6_alone hR (q0 := 0) rfl rfl hC hn rfl rfl hst hLn d hp (G_ms (rpl_same (mc := [mdW (gcA X) a M]) hC) (kk r h))
theorem hi_X6_count_X6 : ∀ w ∈ wsX60, w ∈ wsX6_count := fun w h => List.mem_cons_of_mem _ (List.mem_append_right _ h)
theorem lk_X6_count_1 : Cond.fieldLink RX6 7 "NoteThemesModel" "s" "[I" ∈ wsX6_count := List.mem_of_getElem? (i := 1) rfl
theorem lk_X6_count_2 : Cond.fieldLink RX6 35 "NoteThemesModel" "known" "I" ∈ wsX6_count := List.mem_of_getElem? (i := 2) rfl
theorem lk_X6_count_3 : Cond.fieldLink RX6 133 "NoteThemesModel" "length" "I" ∈ wsX6_count := List.mem_of_getElem? (i := 3) rfl
def f_X6_count (N : Nat) (M : tS) (p0 : Int32) : Option (Int32 × tS) := (bd (f_X6_in N p0 (8 : Int32) (10 : Int32)) (fun r1 => (if r1 = 0 then (if p0 = (0 : Int32) then some ((M 0 (0 : Int32).toNatClampNeg), M) else (if p0 = (1 : Int32) then (bd2 (f_X6_laysNow N M) (fun r2 M2 => some (r2, M2))) else (if p0 = (2 : Int32) then some ((M 0 (1 : Int32).toNatClampNeg), M) else (if p0 = (3 : Int32) then (bd (f_X6_stuck N M) (fun r3 => some (r3, M))) else (if p0 = (4 : Int32) then (bd (f_X6_left N M) (fun r4 => some (r4, M))) else (if p0 = (5 : Int32) then (bd (f_X6_notesOf N M (-1 : Int32)) (fun r5 => some (r5, M))) else (if p0 = (6 : Int32) then (bd (f_X6_named N M) (fun r6 => some (r6, M))) else (if p0 = (7 : Int32) then (bd (f_X6_alone N M) (fun r7 => some (r7, M))) else (if p0 = (8 : Int32) then some ((-2 : Int32), M) else (if p0 = (9 : Int32) then some ((-2 : Int32), M) else (if p0 = (10 : Int32) then some ((-2 : Int32), M) else (if p0 = (11 : Int32) then some ((M 2 0), M) else (if p0 = (12 : Int32) then some ((M 6 0), M) else some ((-2 : Int32), M)))))))))))))) else (if (((2 : Int32) + p0) - (8 : Int32)) < 0 ∨ 233 ≤ (((2 : Int32) + p0) - (8 : Int32)).toNatClampNeg then none else some ((M 0 (((2 : Int32) + p0) - (8 : Int32)).toNatClampNeg), M)))))
set_option maxRecDepth 100000 in
set_option maxHeartbeats 4000000 in
theorem B_X6_count {X : gX} (C : cx X RX6 cX6_count 2 (some .int) wsX6_count 5 114) (a : Nat → Nat) (N : Nat) (M : tS) (p0 : Int32) (r : Int32) (Mz : tS) (h : f_X6_count N M p0 = some (r, Mz)) : G X (QI X r [mdW (gcA X) a Mz]) [mdW (gcA X) a M] [some (.ref (a 0)), some (.int p0)] [] 0 := by
  unfold f_X6_count at h
  refine g_iload_n (pc' := 1) C dX6_count_0 rfl rfl ?_
  refine g_bipush (pc' := 3) (v := 8) C dX6_count_1 (by decide) rfl ?_
  refine g_bipush (pc' := 5) (v := 10) C dX6_count_3 (by decide) rfl ?_
  refine k_X6_in (pc' := 8) C N p0 (8 : Int32) (10 : Int32) [] rfl (by decide) gX6_count_X6_in ⟨Nat.le_of_ble_eq_true rfl, Nat.le_of_ble_eq_true rfl⟩ (Nat.le_of_ble_eq_true rfl) rfl dX6_count_5 rfl h (fun r1 h => ?_)
  refine g_if_eq (pc' := 11) (tgt := 23) C dX6_count_8 (by decide) rfl h (fun c h => ?_) (fun c h => ?_)
  · refine g_iload_n (pc' := 24) C dX6_count_23 rfl rfl ?_
    refine oif h (fun c h => ?_) (fun c0 h => ?_)
    · refine g_tabIn (pc' := 92) (off := 68) C dX6_count_24 (by rw [c] <;> decide) (by rw [c] <;> decide) (by rw [c] <;> decide) (by decide) ?_
      refine g_aload_n (pc' := 93) C dX6_count_92 rfl rfl ?_
      refine gg_X6_0 (pc' := 96) (i := 0) C rfl hi_X6_count_X6 lk_X6_count_1 dX6_count_93 rfl ?_
      refine g_iconst (pc' := 97) (v := 0) C dX6_count_96 (by decide) rfl ?_
      refine g_iald0 (pc' := 98) (i := 0) (j := 1) C rfl rfl dX6_count_97 rfl (by unfold vp_in; decide) ?_
      obtain ⟨rfl, rfl⟩ := pj2 (Option.some.inj h)
      exact g_iret C dX6_count_98
    refine oif h (fun c h => ?_) (fun c1 h => ?_)
    · refine g_tabIn (pc' := 99) (off := 75) C dX6_count_24 (by rw [c] <;> decide) (by rw [c] <;> decide) (by rw [c] <;> decide) (by decide) ?_
      refine g_aload_n (pc' := 100) C dX6_count_99 rfl rfl ?_
      refine k_X6_laysNow (pc' := 103) C a N M [0] rfl (by decide) gX6_count_X6_laysNow ⟨Nat.le_of_ble_eq_true rfl, Nat.le_of_ble_eq_true rfl⟩ (Nat.le_of_ble_eq_true rfl) rfl dX6_count_100 rfl h (fun r2 M2 h => ?_)
      show G X _ [mdW (gcA X) a M2] _ _ _
      obtain ⟨rfl, rfl⟩ := pj2 (Option.some.inj h)
      exact g_iret C dX6_count_103
    refine oif h (fun c h => ?_) (fun c2 h => ?_)
    · refine g_tabIn (pc' := 104) (off := 80) C dX6_count_24 (by rw [c] <;> decide) (by rw [c] <;> decide) (by rw [c] <;> decide) (by decide) ?_
      refine g_aload_n (pc' := 105) C dX6_count_104 rfl rfl ?_
      refine gg_X6_0 (pc' := 108) (i := 0) C rfl hi_X6_count_X6 lk_X6_count_1 dX6_count_105 rfl ?_
      refine g_iconst (pc' := 109) (v := 1) C dX6_count_108 (by decide) rfl ?_
      refine g_iald0 (pc' := 110) (i := 0) (j := 1) C rfl rfl dX6_count_109 rfl (by unfold vp_in; decide) ?_
      obtain ⟨rfl, rfl⟩ := pj2 (Option.some.inj h)
      exact g_iret C dX6_count_110
    refine oif h (fun c h => ?_) (fun c3 h => ?_)
    · refine g_tabIn (pc' := 111) (off := 87) C dX6_count_24 (by rw [c] <;> decide) (by rw [c] <;> decide) (by rw [c] <;> decide) (by decide) ?_
      refine g_aload_n (pc' := 112) C dX6_count_111 rfl rfl ?_
      refine k_X6_stuck (pc' := 115) C a N M [0] rfl (by decide) gX6_count_X6_stuck ⟨Nat.le_of_ble_eq_true rfl, Nat.le_of_ble_eq_true rfl⟩ (Nat.le_of_ble_eq_true rfl) rfl dX6_count_112 rfl h (fun r3 h => ?_)
      obtain ⟨rfl, rfl⟩ := pj2 (Option.some.inj h)
      exact g_iret C dX6_count_115
    refine oif h (fun c h => ?_) (fun c4 h => ?_)
    · refine g_tabIn (pc' := 116) (off := 92) C dX6_count_24 (by rw [c] <;> decide) (by rw [c] <;> decide) (by rw [c] <;> decide) (by decide) ?_
      refine g_aload_n (pc' := 117) C dX6_count_116 rfl rfl ?_
      refine k_X6_left (pc' := 120) C a N M [0] rfl (by decide) gX6_count_X6_left ⟨Nat.le_of_ble_eq_true rfl, Nat.le_of_ble_eq_true rfl⟩ (Nat.le_of_ble_eq_true rfl) rfl dX6_count_117 rfl h (fun r4 h => ?_)
      obtain ⟨rfl, rfl⟩ := pj2 (Option.some.inj h)
      exact g_iret C dX6_count_120
    refine oif h (fun c h => ?_) (fun c5 h => ?_)
    · refine g_tabIn (pc' := 121) (off := 97) C dX6_count_24 (by rw [c] <;> decide) (by rw [c] <;> decide) (by rw [c] <;> decide) (by decide) ?_
      refine g_aload_n (pc' := 122) C dX6_count_121 rfl rfl ?_
      refine g_iconst (pc' := 123) (v := -1) C dX6_count_122 (by decide) rfl ?_
      refine k_X6_notesOf (pc' := 126) C a N M (-1 : Int32) [0] rfl (by decide) gX6_count_X6_notesOf ⟨Nat.le_of_ble_eq_true rfl, Nat.le_of_ble_eq_true rfl⟩ (Nat.le_of_ble_eq_true rfl) rfl dX6_count_123 rfl h (fun r5 h => ?_)
      obtain ⟨rfl, rfl⟩ := pj2 (Option.some.inj h)
      exact g_iret C dX6_count_126
    refine oif h (fun c h => ?_) (fun c6 h => ?_)
    · refine g_tabIn (pc' := 127) (off := 103) C dX6_count_24 (by rw [c] <;> decide) (by rw [c] <;> decide) (by rw [c] <;> decide) (by decide) ?_
      refine g_aload_n (pc' := 128) C dX6_count_127 rfl rfl ?_
      refine k_X6_named (pc' := 131) C a N M [0] rfl (by decide) gX6_count_X6_named ⟨Nat.le_of_ble_eq_true rfl, Nat.le_of_ble_eq_true rfl⟩ (Nat.le_of_ble_eq_true rfl) rfl dX6_count_128 rfl h (fun r6 h => ?_)
      obtain ⟨rfl, rfl⟩ := pj2 (Option.some.inj h)
      exact g_iret C dX6_count_131
    refine oif h (fun c h => ?_) (fun c7 h => ?_)
    · refine g_tabIn (pc' := 132) (off := 108) C dX6_count_24 (by rw [c] <;> decide) (by rw [c] <;> decide) (by rw [c] <;> decide) (by decide) ?_
      refine g_aload_n (pc' := 133) C dX6_count_132 rfl rfl ?_
      refine k_X6_alone (pc' := 136) C a N M [0] rfl (by decide) gX6_count_X6_alone ⟨Nat.le_of_ble_eq_true rfl, Nat.le_of_ble_eq_true rfl⟩ (Nat.le_of_ble_eq_true rfl) rfl dX6_count_133 rfl h (fun r7 h => ?_)
      obtain ⟨rfl, rfl⟩ := pj2 (Option.some.inj h)
      exact g_iret C dX6_count_136
    refine oif h (fun c h => ?_) (fun c8 h => ?_)
    · refine g_tabIn (pc' := 147) (off := 123) C dX6_count_24 (by rw [c] <;> decide) (by rw [c] <;> decide) (by rw [c] <;> decide) (by decide) ?_
      refine g_bipush (pc' := 149) (v := -2) C dX6_count_147 (by decide) rfl ?_
      obtain ⟨rfl, rfl⟩ := pj2 (Option.some.inj h)
      exact g_iret C dX6_count_149
    refine oif h (fun c h => ?_) (fun c9 h => ?_)
    · refine g_tabIn (pc' := 147) (off := 123) C dX6_count_24 (by rw [c] <;> decide) (by rw [c] <;> decide) (by rw [c] <;> decide) (by decide) ?_
      refine g_bipush (pc' := 149) (v := -2) C dX6_count_147 (by decide) rfl ?_
      obtain ⟨rfl, rfl⟩ := pj2 (Option.some.inj h)
      exact g_iret C dX6_count_149
    refine oif h (fun c h => ?_) (fun c10 h => ?_)
    · refine g_tabIn (pc' := 147) (off := 123) C dX6_count_24 (by rw [c] <;> decide) (by rw [c] <;> decide) (by rw [c] <;> decide) (by decide) ?_
      refine g_bipush (pc' := 149) (v := -2) C dX6_count_147 (by decide) rfl ?_
      obtain ⟨rfl, rfl⟩ := pj2 (Option.some.inj h)
      exact g_iret C dX6_count_149
    refine oif h (fun c h => ?_) (fun c11 h => ?_)
    · refine g_tabIn (pc' := 137) (off := 113) C dX6_count_24 (by rw [c] <;> decide) (by rw [c] <;> decide) (by rw [c] <;> decide) (by decide) ?_
      refine g_aload_n (pc' := 138) C dX6_count_137 rfl rfl ?_
      refine gg_X6_2 (pc' := 141) (i := 0) C rfl hi_X6_count_X6 lk_X6_count_2 dX6_count_138 rfl ?_
      obtain ⟨rfl, rfl⟩ := pj2 (Option.some.inj h)
      exact g_iret C dX6_count_141
    refine oif h (fun c h => ?_) (fun c12 h => ?_)
    · refine g_tabIn (pc' := 142) (off := 118) C dX6_count_24 (by rw [c] <;> decide) (by rw [c] <;> decide) (by rw [c] <;> decide) (by decide) ?_
      refine g_aload_n (pc' := 143) C dX6_count_142 rfl rfl ?_
      refine gg_X6_6 (pc' := 146) (i := 0) C rfl hi_X6_count_X6 lk_X6_count_3 dX6_count_143 rfl ?_
      obtain ⟨rfl, rfl⟩ := pj2 (Option.some.inj h)
      exact g_iret C dX6_count_146
    have e0 := lv_neT (a := 0) c0 (by decide)
    have e1 := lv_neT (a := 1) c1 (by decide)
    have e2 := lv_neT (a := 2) c2 (by decide)
    have e3 := lv_neT (a := 3) c3 (by decide)
    have e4 := lv_neT (a := 4) c4 (by decide)
    have e5 := lv_neT (a := 5) c5 (by decide)
    have e6 := lv_neT (a := 6) c6 (by decide)
    have e7 := lv_neT (a := 7) c7 (by decide)
    have e8 := lv_neT (a := 8) c8 (by decide)
    have e9 := lv_neT (a := 9) c9 (by decide)
    have e10 := lv_neT (a := 10) c10 (by decide)
    have e11 := lv_neT (a := 11) c11 (by decide)
    have e12 := lv_neT (a := 12) c12 (by decide)
    refine g_tabOut (pc' := 147) C dX6_count_24 (by omega) (by decide) ?_
    refine g_bipush (pc' := 149) (v := -2) C dX6_count_147 (by decide) rfl ?_
    obtain ⟨rfl, rfl⟩ := pj2 (Option.some.inj h)
    exact g_iret C dX6_count_149
  · refine g_aload_n (pc' := 12) C dX6_count_11 rfl rfl ?_
    refine gg_X6_0 (pc' := 15) (i := 0) C rfl hi_X6_count_X6 lk_X6_count_1 dX6_count_12 rfl ?_
    refine g_iconst (pc' := 16) (v := 2) C dX6_count_15 (by decide) rfl ?_
    refine g_iload_n (pc' := 17) C dX6_count_16 rfl rfl ?_
    refine g_iadd (pc' := 18) C dX6_count_17 rfl ?_
    refine g_bipush (pc' := 20) (v := 8) C dX6_count_18 (by decide) rfl ?_
    refine g_isub (pc' := 21) C dX6_count_20 rfl ?_
    refine g_iald (pc' := 22) (i := 0) (j := 1) C rfl rfl dX6_count_21 rfl h (fun h => ?_)
    obtain ⟨rfl, rfl⟩ := pj2 (Option.some.inj h)
    exact g_iret C dX6_count_22
set_option maxRecDepth 100000 in
set_option maxHeartbeats 4000000 in
theorem c_X6_count (l : Launch) (D : va_G) (cA : Nat → ClassId) (a : Nat → Nat) (N : Nat) (M : tS) (p0 : Int32) (r : Int32) (Mz : tS) (h : f_X6_count N M p0 = some (r, Mz)) : MI l D cA yX6_count wsX6_count 5 114 [.ref (a 0), .int p0] [mdW cA a M] r [mdW cA a Mz] := MI_of (cc := cX6_count) (maxL := 2) (rt := some .int) (by decide +kernel) rfl (List.forall_mem_cons.mpr ⟨rfl, List.forall_mem_cons.mpr ⟨rfl, List.forall_mem_nil _⟩⟩) (Nat.le_of_ble_eq_true rfl) (fun X e1 e2 e3 C => by subst e1; subst e2; subst e3; exact B_X6_count C a N M p0 r Mz h)
set_option maxRecDepth 100000 in
set_option maxHeartbeats 4000000 in
theorem nd_X6_count : nd yX6_count 1 := ⟨by decide +kernel, by decide +kernel, by decide +kernel⟩
set_option maxRecDepth 100000 in
set_option maxHeartbeats 4000000 in
theorem k_X6_count {X : gX} {own : String} {cc : ByteArray} {nL : Nat} {ret : Option FieldType} {Ts : List Cond} {fr lm : Nat} {Q : State → Prop} {ms : List va_W} {L : List (Option Value)} {st : List Value} {pc pc' idx : Nat} {ρ : Type} {T : Int32 → tS → Option ρ} {res : ρ} (C : cx X own cc nL ret Ts fr lm) (a : Nat → Nat) (N : Nat) (M : tS) (p0 : Int32) (is : List Nat) (hC : is.map (fun i => ms[i]?) = [some (mdW (gcA X) a M)]) (hn : is.Nodup) (hG : GoodIn Ts (wsV own idx RX6 yX6_count wsX6_count)) (hR : 5 + 1 ≤ fr ∧ 8 + (2 + 11) + 114 ≤ lm) (hst : (st.map fun v => v.category).sum ≤ 8) (hLn : L.length = nL) (d : decode cc pc = .ok (.invokevirtual idx, 3)) (hp : pc + 3 = pc') (h : bd2 (f_X6_count N M p0) T = some res) (kk : ∀ (r : Int32) (Mz : tS), T r Mz = some res → G X Q (rpl ms is [mdW (gcA X) a Mz]) L (.int r :: st) pc') : G X Q ms L (.int p0 :: .ref (a 0) :: st) pc := by
  obtain ⟨r, Mz, h1, h⟩ := ob2 h
  exact G_callVI C (As := [.int p0]) (c_X6_count (gl X) (gD X) (gcA X) a N M p0 r Mz h1) hG rfl nd_X6_count hR (q0 := 0) rfl rfl hC hn rfl rfl hst hLn d hp (kk r Mz h)
