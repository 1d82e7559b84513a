theorem hi_X4_isTaken_X4 : ∀ w ∈ wsX40, w ∈ wsX4_isTaken := fun w h => List.mem_cons_of_mem _ (List.mem_append_right _ h)
theorem lk_X4_isTaken_1 : Cond.fieldLink RX4 9 "NoteThemes$Names" "nameOf" "[I" ∈ wsX4_isTaken := List.mem_of_getElem? (i := 1) rfl
def f_X4_isTaken_2b (N : Nat) (S : tS) (p0 : Int32) (p1 : Int32)  (k2 : Int32 → Option (Int32)) (x3 : Int32) : Option (Int32) := (if p1 ≤ x3 then some (0 : Int32) else (if x3 < 0 ∨ 8 ≤ x3.toNatClampNeg then none else (if (S 0 x3.toNatClampNeg) = p0 then some (1 : Int32) else k2 (x3 + 1))))
def f_X4_isTaken_2 (N : Nat) (S : tS) (p0 : Int32) (p1 : Int32)  : Nat → Int32 → Option (Int32)
  | 0 => fun _ => none
  | n + 1 => f_X4_isTaken_2b N S p0 p1  (f_X4_isTaken_2 N S p0 p1  n)
set_option maxRecDepth 100000 in
set_option maxHeartbeats 4000000 in
theorem B_X4_isTaken_2b {X : gX} (C : cx X RX4 cX4_isTaken 4 (some .boolean) wsX4_isTaken 0 0) (a : Nat → Nat) (N : Nat) (S : tS) (p0 : Int32) (p1 : Int32) (r : Int32)  (k2 : Int32 → Option (Int32)) (hk2 : ∀ (x3 : Int32), k2 x3 = some r → G X (QI X r [nmW (gcA X) a S]) [nmW (gcA X) a S] [some (.ref (a 0)), some (.int p0), some (.int p1), some (.int x3)] [] 2) (x3 : Int32) (h : f_X4_isTaken_2b N S p0 p1  k2 x3 = some r) : G X (QI X r [nmW (gcA X) a S]) [nmW (gcA X) a S] [some (.ref (a 0)), some (.int p0), some (.int p1), some (.int x3)] [] 2 := by
  unfold f_X4_isTaken_2b at h
  refine g_iload_n (pc' := 3) C dX4_isTaken_2 rfl rfl ?_
  refine g_iload_n (pc' := 4) C dX4_isTaken_3 rfl rfl ?_
  refine g_icmp_ge (pc' := 7) (tgt := 25) C dX4_isTaken_4 (by decide) rfl h (fun c h => ?_) (fun c h => ?_)
  · refine g_iconst (pc' := 26) (v := 0) C dX4_isTaken_25 (by decide) rfl ?_
    obtain rfl := Option.some.inj h
    exact g_zret0 C rfl dX4_isTaken_26
  · refine g_aload_n (pc' := 8) C dX4_isTaken_7 rfl rfl ?_
    refine gg_X4_0 (pc' := 11) (i := 0) C rfl hi_X4_isTaken_X4 lk_X4_isTaken_1 dX4_isTaken_8 rfl ?_
    refine g_iload_n (pc' := 12) C dX4_isTaken_11 rfl rfl ?_
    refine g_iald (pc' := 13) (i := 0) (j := 1) C rfl rfl dX4_isTaken_12 rfl h (fun h => ?_)
    refine g_iload_n (pc' := 14) C dX4_isTaken_13 rfl rfl ?_
    refine g_icmp_ne (pc' := 17) (tgt := 19) C dX4_isTaken_14 (by decide) rfl h (fun c h => ?_) (fun c h => ?_)
    · refine g_iconst (pc' := 18) (v := 1) C dX4_isTaken_17 (by decide) rfl ?_
      obtain rfl := Option.some.inj h
      exact g_zret0 C rfl dX4_isTaken_18
    · refine g_iinc (pc' := 22) (v := (x3 + 1)) C dX4_isTaken_19 rfl rfl rfl (L' := [some (.ref (a 0)), some (.int p0), some (.int p1), some (.int (x3 + 1))]) rfl ?_
      refine g_goto (pc' := 2) C dX4_isTaken_22 (by decide) ?_
      exact G_loc (lle_s (lle_s (lle_s (lle_s lle_0)))) (hk2 (x3 + 1) h)
set_option maxRecDepth 100000 in
set_option maxHeartbeats 4000000 in
theorem L_X4_isTaken_2 {X : gX} (C : cx X RX4 cX4_isTaken 4 (some .boolean) wsX4_isTaken 0 0) (a : Nat → Nat) (N : Nat) (S : tS) (p0 : Int32) (p1 : Int32) (r : Int32)  : ∀ (n : Nat) (x3 : Int32), f_X4_isTaken_2 N S p0 p1  n x3 = some r → G X (QI X r [nmW (gcA X) a S]) [nmW (gcA X) a S] [some (.ref (a 0)), some (.int p0), some (.int p1), some (.int x3)] [] 2 := by
  intro n
  induction n with
  | zero => intro x3 h; have h : (none : Option (Int32)) = some r := h; cases h
  | succ n ih => intro x3 h; exact B_X4_isTaken_2b C a N S p0 p1 r  (f_X4_isTaken_2 N S p0 p1  n) ih x3 h
def f_X4_isTaken (N : Nat) (S : tS) (p0 : Int32) (p1 : Int32) : Option (Int32) := f_X4_isTaken_2 N S p0 p1 N (0 : Int32)
set_option maxRecDepth 100000 in
set_option maxHeartbeats 4000000 in
theorem B_X4_isTaken {X : gX} (C : cx X RX4 cX4_isTaken 4 (some .boolean) wsX4_isTaken 0 0) (a : Nat → Nat) (N : Nat) (S : tS) (p0 : Int32) (p1 : Int32) (r : Int32) (h : f_X4_isTaken N S p0 p1 = some r) : G X (QI X r [nmW (gcA X) a S]) [nmW (gcA X) a S] [some (.ref (a 0)), some (.int p0), some (.int p1), none] [] 0 := by
  unfold f_X4_isTaken at h
  refine g_iconst (pc' := 1) (v := 0) C dX4_isTaken_0 (by decide) rfl ?_
  refine g_istore_n (pc' := 2) C dX4_isTaken_1 (Nat.le_of_ble_eq_true rfl) rfl (L' := [some (.ref (a 0)), some (.int p0), some (.int p1), some (.int (0 : Int32))]) rfl ?_
  exact G_loc (lle_s (lle_s (lle_s (lle_s lle_0)))) (L_X4_isTaken_2 C a N S p0 p1 r N (0 : Int32) h)
set_option maxRecDepth 100000 in
set_option maxHeartbeats 4000000 in
theorem c_X4_isTaken (l : Launch) (D : va_G) (cA : Nat → ClassId) (a : Nat → Nat) (N : Nat) (S : tS) (p0 : Int32) (p1 : Int32) (r : Int32) (h : f_X4_isTaken N S p0 p1 = some r) : MI l D cA yX4_isTaken wsX4_isTaken 0 0 [.ref (a 0), .int p0, .int p1] [nmW cA a S] r [nmW cA a S] := MI_of (cc := cX4_isTaken) (maxL := 4) (rt := some .boolean) (by decide +kernel) rfl (List.forall_mem_cons.mpr ⟨rfl, List.forall_mem_cons.mpr ⟨rfl, List.forall_mem_cons.mpr ⟨rfl, List.forall_mem_nil _⟩⟩⟩) (Nat.le_of_ble_eq_true rfl) (fun X e1 e2 e3 C => by subst e1; subst e2; subst e3; exact B_X4_isTaken C a N S p0 p1 r h)
set_option maxRecDepth 100000 in
set_option maxHeartbeats 4000000 in
theorem nd_X4_isTaken : nd yX4_isTaken 2 := ⟨by decide +kernel, by decide +kernel, by decide +kernel⟩
set_option maxRecDepth 100000 in
set_option maxHeartbeats 4000000 in
theorem k_X4_isTaken {X : gX} {own : String} {cc : ByteArray} {nL : Nat} {ret : Option FieldType} {Ts : List Cond} {fr lm : Nat} {Q : State → Prop} {ms : List va_W} {L : List (Option Value)} {st : List Value} {pc pc' idx : Nat} {ρ : Type} {T : Int32 → Option ρ} {res : ρ} (C : cx X own cc nL ret Ts fr lm) (a : Nat → Nat) (N : Nat) (S : tS) (p0 : Int32) (p1 : Int32) (is : List Nat) (hC : is.map (fun i => ms[i]?) = [some (nmW (gcA X) a S)]) (hn : is.Nodup) (hG : GoodIn Ts (wsV own idx RX4 yX4_isTaken wsX4_isTaken)) (hR : 0 + 1 ≤ fr ∧ 8 + (4 + 11) + 0 ≤ lm) (hst : (st.map fun v => v.category).sum ≤ 8) (hLn : L.length = nL) (d : decode cc pc = .ok (.invokevirtual idx, 3)) (hp : pc + 3 = pc') (h : bd (f_X4_isTaken N S p0 p1) T = some res) (kk : ∀ (r : Int32), T r = some res → G X Q (ms) L (.int r :: st) pc') : G X Q ms L (.int p1 :: .int p0 :: .ref (a 0) :: st) pc := by
  obtain ⟨r, h1, h⟩ := ob h
  exact G_callVI C (As := [.int p0, .int p1]) (c_X4_isTaken (gl X) (gD X) (gcA X) a N S p0 p1 r h1) hG rfl nd_X4_isTaken hR (q0 := 0) rfl rfl hC hn rfl rfl hst hLn d hp (G_ms (rpl_same (mc := [nmW (gcA X) a S]) hC) (kk r h))
def f_X4_bestName_49 (N : Nat) (S : tS) (B : tS) (p1 : Int32) (k9 : Int32 → Int32 → Int32 → Option (Int32)) (x3 : Int32) (x4 : Int32) (x5 : Int32) : Option (Int32) := k9 x3 x4 (x5 + 1)
set_option maxRecDepth 100000 in
set_option maxHeartbeats 4000000 in
theorem B_X4_bestName_49 {X : gX} (C : cx X RX4 cX4_bestName 7 (some .int) wsX4_bestName 2 46) (a : Nat → Nat) (b : Nat → Nat) (N : Nat) (S : tS) (B : tS) (p1 : Int32) (r : Int32) (k9 : Int32 → Int32 → Int32 → Option (Int32)) (hk9 : ∀ (x3 : Int32) (x4 : Int32) (x5 : Int32), k9 x3 x4 x5 = some r → G X (QI X r [nmW (gcA X) a S, bdW (gcA X) b B]) [nmW (gcA X) a S, bdW (gcA X) b B] [some (.ref (a 0)), some (.ref (b 0)), some (.int p1), some (.int x3), some (.int x4), some (.int x5), none] [] 9) (x3 : Int32) (x4 : Int32) (x5 : Int32) (h : f_X4_bestName_49 N S B p1 k9 x3 x4 x5 = some r) : G X (QI X r [nmW (gcA X) a S, bdW (gcA X) b B]) [nmW (gcA X) a S, bdW (gcA X) b B] [some (.ref (a 0)), some (.ref (b 0)), some (.int p1), some (.int x3), some (.int x4), some (.int x5), none] [] 49 := by
  unfold f_X4_bestName_49 at h
  refine g_iinc (pc' := 52) (v := (x5 + 1)) C dX4_bestName_49 rfl rfl rfl (L' := [some (.ref (a 0)), some (.ref (b 0)), some (.int p1), some (.int x3), some (.int x4), some (.int (x5 + 1)), none]) rfl ?_
  refine g_goto (pc' := 9) C dX4_bestName_52 (by decide) ?_
  exact G_loc (lle_s (lle_s (lle_s (lle_s (lle_s (lle_s (lle_n lle_0))))))) (hk9 x3 x4 (x5 + 1) h)
def f_X4_bestName_9b (N : Nat) (S : tS) (B : tS) (p1 : Int32)  (k9 : Int32 → Int32 → Int32 → Option (Int32)) (x3 : Int32) (x4 : Int32) (x5 : Int32) : Option (Int32) := (if (10 : Int32) ≤ x5 then some x3 else (bd (f_X0_votesFor N B p1 x5) (fun r1 => (if r1 ≤ x4 then f_X4_bestName_49 N S B p1 k9 x3 x4 x5 else (bd (f_X4_isTaken N S x5 p1) (fun r2 => (if r2 = 0 then f_X4_bestName_49 N S B p1 k9 x5 r1 x5 else f_X4_bestName_49 N S B p1 k9 x3 x4 x5)))))))
def f_X4_bestName_9 (N : Nat) (S : tS) (B : tS) (p1 : Int32)  : Nat → Int32 → Int32 → Int32 → Option (Int32)
  | 0 => fun _ _ _ => none
  | n + 1 => f_X4_bestName_9b N S B p1  (f_X4_bestName_9 N S B p1  n)
set_option maxRecDepth 100000 in
set_option maxHeartbeats 4000000 in
theorem B_X4_bestName_9b {X : gX} (C : cx X RX4 cX4_bestName 7 (some .int) wsX4_bestName 2 46) (a : Nat → Nat) (b : Nat → Nat) (N : Nat) (S : tS) (B : tS) (p1 : Int32) (r : Int32)  (k9 : Int32 → Int32 → Int32 → Option (Int32)) (hk9 : ∀ (x3 : Int32) (x4 : Int32) (x5 : Int32), k9 x3 x4 x5 = some r → G X (QI X r [nmW (gcA X) a S, bdW (gcA X) b B]) [nmW (gcA X) a S, bdW (gcA X) b B] [some (.ref (a 0)), some (.ref (b 0)), some (.int p1), some (.int x3), some (.int x4), some (.int x5), none] [] 9) (x3 : Int32) (x4 : Int32) (x5 : Int32) (h : f_X4_bestName_9b N S B p1  k9 x3 x4 x5 = some r) : G X (QI X r [nmW (gcA X) a S, bdW (gcA X) b B]) [nmW (gcA X) a S, bdW (gcA X) b B] [some (.ref (a 0)), some (.ref (b 0)), some (.int p1), some (.int x3), some (.int x4), some (.int x5), none] [] 9 := by
  unfold f_X4_bestName_9b at h
  refine g_iload (pc' := 11) C dX4_bestName_9 rfl rfl ?_
  refine g_bipush (pc' := 13) (v := 10) C dX4_bestName_11 (by decide) rfl ?_
  refine g_icmp_ge (pc' := 16) (tgt := 55) C dX4_bestName_13 (by decide) rfl h (fun c h => ?_) (fun c h => ?_)
  · refine g_iload_n (pc' := 56) C dX4_bestName_55 rfl rfl ?_
    obtain rfl := Option.some.inj h
    exact g_iret C dX4_bestName_56
  · refine g_aload_n (pc' := 17) C dX4_bestName_16 rfl rfl ?_
    refine g_iload_n (pc' := 18) C dX4_bestName_17 rfl rfl ?_
    refine g_iload (pc' := 20) C dX4_bestName_18 rfl rfl ?_
    refine k_X0_votesFor (pc' := 23) C b N B p1 x5 [1] rfl (by decide) gX4_bestName_X0_votesFor ⟨Nat.le_of_ble_eq_true rfl, Nat.le_of_ble_eq_true rfl⟩ (Nat.le_of_ble_eq_true rfl) rfl dX4_bestName_20 rfl h (fun r1 h => ?_)
    refine g_istore (pc' := 25) C dX4_bestName_23 (Nat.le_of_ble_eq_true rfl) rfl (L' := [some (.ref (a 0)), some (.ref (b 0)), some (.int p1), some (.int x3), some (.int x4), some (.int x5), some (.int r1)]) rfl ?_
    refine g_iload (pc' := 27) C dX4_bestName_25 rfl rfl ?_
    refine g_iload (pc' := 29) C dX4_bestName_27 rfl rfl ?_
    refine g_icmp_le (pc' := 32) (tgt := 49) C dX4_bestName_29 (by decide) rfl h (fun c h => ?_) (fun c h => ?_)
    · exact G_loc (lle_s (lle_s (lle_s (lle_s (lle_s (lle_s (lle_n lle_0))))))) (B_X4_bestName_49 C a b N S B p1 r k9 hk9 x3 x4 x5 h)
    · refine g_aload_n (pc' := 33) C dX4_bestName_32 rfl rfl ?_
      refine g_iload (pc' := 35) C dX4_bestName_33 rfl rfl ?_
      refine g_iload_n (pc' := 36) C dX4_bestName_35 rfl rfl ?_
      refine k_X4_isTaken (pc' := 39) C a N S x5 p1 [0] rfl (by decide) gX4_bestName_X4_isTaken ⟨Nat.le_of_ble_eq_true rfl, Nat.le_of_ble_eq_true rfl⟩ (Nat.le_of_ble_eq_true rfl) rfl dX4_bestName_36 rfl h (fun r2 h => ?_)
      refine g_if_ne (pc' := 42) (tgt := 49) C dX4_bestName_39 (by decide) rfl h (fun c h => ?_) (fun c h => ?_)
      · refine g_iload (pc' := 44) C dX4_bestName_42 rfl rfl ?_
        refine g_istore_n (pc' := 45) C dX4_bestName_44 (Nat.le_of_ble_eq_true rfl) rfl (L' := [some (.ref (a 0)), some (.ref (b 0)), some (.int p1), some (.int x5), some (.int x4), some (.int x5), some (.int r1)]) rfl ?_
        refine g_iload (pc' := 47) C dX4_bestName_45 rfl rfl ?_
        refine g_istore (pc' := 49) C dX4_bestName_47 (Nat.le_of_ble_eq_true rfl) rfl (L' := [some (.ref (a 0)), some (.ref (b 0)), some (.int p1), some (.int x5), some (.int r1), some (.int x5), some (.int r1)]) rfl ?_
        exact G_loc (lle_s (lle_s (lle_s (lle_s (lle_s (lle_s (lle_n lle_0))))))) (B_X4_bestName_49 C a b N S B p1 r k9 hk9 x5 r1 x5 h)
      · exact G_loc (lle_s (lle_s (lle_s (lle_s (lle_s (lle_s (lle_n lle_0))))))) (B_X4_bestName_49 C a b N S B p1 r k9 hk9 x3 x4 x5 h)
set_option maxRecDepth 100000 in
set_option maxHeartbeats 4000000 in
theorem L_X4_bestName_9 {X : gX} (C : cx X RX4 cX4_bestName 7 (some .int) wsX4_bestName 2 46) (a : Nat → Nat) (b : Nat → Nat) (N : Nat) (S : tS) (B : tS) (p1 : Int32) (r : Int32)  : ∀ (n : Nat) (x3 : Int32) (x4 : Int32) (x5 : Int32), f_X4_bestName_9 N S B p1  n x3 x4 x5 = some r → G X (QI X r [nmW (gcA X) a S, bdW (gcA X) b B]) [nmW (gcA X) a S, bdW (gcA X) b B] [some (.ref (a 0)), some (.ref (b 0)), some (.int p1), some (.int x3), some (.int x4), some (.int x5), none] [] 9 := by
  intro n
  induction n with
  | zero => intro x3 x4 x5 h; have h : (none : Option (Int32)) = some r := h; cases h
  | succ n ih => intro x3 x4 x5 h; exact B_X4_bestName_9b C a b N S B p1 r  (f_X4_bestName_9 N S B p1  n) ih x3 x4 x5 h
def f_X4_bestName (N : Nat) (S : tS) (B : tS) (p1 : Int32) : Option (Int32) := f_X4_bestName_9 N S B p1 N (-5 : Int32) (1 : Int32) (0 : Int32)
set_option maxRecDepth 100000 in
set_option maxHeartbeats 4000000 in
theorem B_X4_bestName {X : gX} (C : cx X RX4 cX4_bestName 7 (some .int) wsX4_bestName 2 46) (a : Nat → Nat) (b : Nat → Nat) (N : Nat) (S : tS) (B : tS) (p1 : Int32) (r : Int32) (h : f_X4_bestName N S B p1 = some r) : G X (QI X r [nmW (gcA X) a S, bdW (gcA X) b B]) [nmW (gcA X) a S, bdW (gcA X) b B] [some (.ref (a 0)), some (.ref (b 0)), some (.int p1), none, none, none, none] [] 0 := by
  unfold f_X4_bestName at h
  refine g_bipush (pc' := 2) (v := -5) C dX4_bestName_0 (by decide) rfl ?_
  refine g_istore_n (pc' := 3) C dX4_bestName_2 (Nat.le_of_ble_eq_true rfl) rfl (L' := [some (.ref (a 0)), some (.ref (b 0)), some (.int p1), some (.int (-5 : Int32)), none, none, none]) rfl ?_
  refine g_iconst (pc' := 4) (v := 1) C dX4_bestName_3 (by decide) rfl ?_
  refine g_istore (pc' := 6) C dX4_bestName_4 (Nat.le_of_ble_eq_true rfl) rfl (L' := [some (.ref (a 0)), some (.ref (b 0)), some (.int p1), some (.int (-5 : Int32)), some (.int (1 : Int32)), none, none]) rfl ?_
  refine g_iconst (pc' := 7) (v := 0) C dX4_bestName_6 (by decide) rfl ?_
  refine g_istore (pc' := 9) C dX4_bestName_7 (Nat.le_of_ble_eq_true rfl) rfl (L' := [some (.ref (a 0)), some (.ref (b 0)), some (.int p1), some (.int (-5 : Int32)), some (.int (1 : Int32)), some (.int (0 : Int32)), none]) rfl ?_
  exact G_loc (lle_s (lle_s (lle_s (lle_s (lle_s (lle_s (lle_n lle_0))))))) (L_X4_bestName_9 C a b N S B p1 r N (-5 : Int32) (1 : Int32) (0 : Int32) h)
set_option maxRecDepth 100000 in
set_option maxHeartbeats 4000000 in
theorem c_X4_bestName (l : Launch) (D : va_G) (cA : Nat → ClassId) (a : Nat → Nat) (b : Nat → Nat) (N : Nat) (S : tS) (B : tS) (p1 : Int32) (r : Int32) (h : f_X4_bestName N S B p1 = some r) : MI l D cA yX4_bestName wsX4_bestName 2 46 [.ref (a 0), .ref (b 0), .int p1] [nmW cA a S, bdW cA b B] r [nmW cA a S, bdW cA b B] := MI_of (cc := cX4_bestName) (maxL := 7) (rt := some .int) (by decide +kernel) rfl (List.forall_mem_cons.mpr ⟨rfl, List.forall_mem_cons.mpr ⟨rfl, List.forall_mem_cons.mpr ⟨rfl, List.forall_mem_nil _⟩⟩⟩) (Nat.le_of_ble_eq_true rfl) (fun X e1 e2 e3 C => by subst e1; subst e2; subst e3; exact B_X4_bestName C a b N S B p1 r h)
set_option maxRecDepth 100000 in
set_option maxHeartbeats 4000000 in
theorem nd_X4_bestName : nd yX4_bestName 2 := ⟨by decide +kernel, by decide +kernel, by decide +kernel⟩
set_option maxRecDepth 100000 in
set_option maxHeartbeats 4000000 in
theorem k_X4_bestName {X : gX} {own : String} {cc : ByteArray} {nL : Nat} {ret : Option FieldType} {Ts : List Cond} {fr lm : Nat} {Q : State → Prop} {ms : List va_W} {L : List (Option Value)} {st : List Value} {pc pc' idx : Nat} {ρ : Type} {T : Int32 → Option ρ} {res : ρ} (C : cx X own cc nL ret Ts fr lm) (a : Nat → Nat) (b : Nat → Nat) (N : Nat) (S : tS) (B : tS) (p1 : Int32) (is : List Nat) (hC : is.map (fun i => ms[i]?) = [some (nmW (gcA X) a S), some (bdW (gcA X) b B)]) (hn : is.Nodup) (hG : GoodIn Ts (wsV own idx RX4 yX4_bestName wsX4_bestName)) (hR : 2 + 1 ≤ fr ∧ 8 + (7 + 11) + 46 ≤ lm) (hst : (st.map fun v => v.category).sum ≤ 8) (hLn : L.length = nL) (d : decode cc pc = .ok (.invokevirtual idx, 3)) (hp : pc + 3 = pc') (h : bd (f_X4_bestName N S B p1) T = some res) (kk : ∀ (r : Int32), T r = some res → G X Q (ms) L (.int r :: st) pc') : G X Q ms L (.int p1 :: .ref (b 0) :: .ref (a 0) :: st) pc := by
  obtain ⟨r, h1, h⟩ := ob h
  exact G_callVI C (As := [.ref (b 0), .int p1]) (c_X4_bestName (gl X) (gD X) (gcA X) a b N S B p1 r h1) hG rfl nd_X4_bestName hR (q0 := 0) rfl rfl hC hn rfl rfl hst hLn d hp (G_ms (rpl_same (mc := [nmW (gcA X) a S, bdW (gcA X) b B]) hC) (kk r h))
theorem hi_X4_choose_X0 : ∀ w ∈ wsX00, w ∈ wsX4_choose := fun w h => List.mem_cons_of_mem _ (List.mem_append_left _ (List.mem_append_right _ h))
theorem hi_X4_choose_X4 : ∀ w ∈ wsX40, w ∈ wsX4_choose := fun w h => List.mem_cons_of_mem _ (List.mem_append_right _ h)
theorem lk_X4_choose_1 : Cond.fieldLink RX4 15 "NoteThemes$Board" "themes" "I" ∈ wsX4_choose := List.mem_of_getElem? (i := 1) rfl
theorem lk_X4_choose_2 : Cond.fieldLink RX4 9 "NoteThemes$Names" "nameOf" "[I" ∈ wsX4_choose := List.mem_of_getElem? (i := 2) rfl
def f_X4_choose_38 (N : Nat) (B : tS) (k4 : Int32 → Int32 → tS → Option (Int32 × tS)) (x2 : Int32) (x3 : Int32) (S : tS) : Option (Int32 × tS) := k4 x2 (x3 + 1) S
set_option maxRecDepth 100000 in
set_option maxHeartbeats 4000000 in
theorem B_X4_choose_38 {X : gX} (C : cx X RX4 cX4_choose 4 (some .int) wsX4_choose 3 72) (a : Nat → Nat) (b : Nat → Nat) (N : Nat) (B : tS) (r : Int32) (Sz : tS) (k4 : Int32 → Int32 → tS → Option (Int32 × tS)) (hk4 : ∀ (x2 : Int32) (x3 : Int32) (S : tS), k4 x2 x3 S = some (r, Sz) → G X (QI X r [nmW (gcA X) a Sz, bdW (gcA X) b B]) [nmW (gcA X) a S, bdW (gcA X) b B] [some (.ref (a 0)), some (.ref (b 0)), some (.int x2), some (.int x3)] [] 4) (x2 : Int32) (x3 : Int32) (S : tS) (h : f_X4_choose_38 N B k4 x2 x3 S = some (r, Sz)) : G X (QI X r [nmW (gcA X) a Sz, bdW (gcA X) b B]) [nmW (gcA X) a S, bdW (gcA X) b B] [some (.ref (a 0)), some (.ref (b 0)), some (.int x2), some (.int x3)] [] 38 := by
  unfold f_X4_choose_38 at h
  refine g_iinc (pc' := 41) (v := (x3 + 1)) C dX4_choose_38 rfl rfl rfl (L' := [some (.ref (a 0)), some (.ref (b 0)), some (.int x2), some (.int (x3 + 1))]) rfl ?_
  refine g_goto (pc' := 4) C dX4_choose_41 (by decide) ?_
  exact G_loc (lle_s (lle_s (lle_s (lle_s lle_0)))) (hk4 x2 (x3 + 1) S h)
def f_X4_choose_4b (N : Nat) (B : tS)  (k4 : Int32 → Int32 → tS → Option (Int32 × tS)) (x2 : Int32) (x3 : Int32) (S : tS) : Option (Int32 × tS) := (if (B 5 0) ≤ x3 then some (x2, S) else (bd (f_X4_bestName N S B x3) (fun r1 => (if x3 < 0 ∨ 8 ≤ x3.toNatClampNeg then none else (if x3 < 0 ∨ 8 ≤ x3.toNatClampNeg then none else (if ((upd (S 0) x3.toNatClampNeg r1) x3.toNatClampNeg) = (-5 : Int32) then f_X4_choose_38 N B k4 x2 x3 (va_up S 0 (upd (S 0) x3.toNatClampNeg r1)) else f_X4_choose_38 N B k4 (x2 + 1) x3 (va_up S 0 (upd (S 0) x3.toNatClampNeg r1))))))))
def f_X4_choose_4 (N : Nat) (B : tS)  : Nat → Int32 → Int32 → tS → Option (Int32 × tS)
  | 0 => fun _ _ _ => none
  | n + 1 => f_X4_choose_4b N B  (f_X4_choose_4 N B  n)
set_option maxRecDepth 100000 in
set_option maxHeartbeats 4000000 in
theorem B_X4_choose_4b {X : gX} (C : cx X RX4 cX4_choose 4 (some .int) wsX4_choose 3 72) (a : Nat → Nat) (b : Nat → Nat) (N : Nat) (B : tS) (r : Int32) (Sz : tS)  (k4 : Int32 → Int32 → tS → Option (Int32 × tS)) (hk4 : ∀ (x2 : Int32) (x3 : Int32) (S : tS), k4 x2 x3 S = some (r, Sz) → G X (QI X r [nmW (gcA X) a Sz, bdW (gcA X) b B]) [nmW (gcA X) a S, bdW (gcA X) b B] [some (.ref (a 0)), some (.ref (b 0)), some (.int x2), some (.int x3)] [] 4) (x2 : Int32) (x3 : Int32) (S : tS) (h : f_X4_choose_4b N B  k4 x2 x3 S = some (r, Sz)) : G X (QI X r [nmW (gcA X) a Sz, bdW (gcA X) b B]) [nmW (gcA X) a S, bdW (gcA X) b B] [some (.ref (a 0)), some (.ref (b 0)), some (.int x2), some (.int x3)] [] 4 := by
  unfold f_X4_choose_4b at h
  refine g_iload_n (pc' := 5) C dX4_choose_4 rfl rfl ?_
  refine g_aload_n (pc' := 6) C dX4_choose_5 rfl rfl ?_
  refine gg_X0_5 (pc' := 9) (i := 1) C rfl hi_X4_choose_X0 lk_X4_choose_1 dX4_choose_6 rfl ?_
  refine g_icmp_ge (pc' := 12) (tgt := 44) C dX4_choose_9 (by decide) rfl h (fun c h => ?_) (fun c h => ?_)
  · refine g_iload_n (pc' := 45) C dX4_choose_44 rfl rfl ?_
    obtain ⟨rfl, rfl⟩ := pj2 (Option.some.inj h)
    exact g_iret C dX4_choose_45
  · refine g_aload_n (pc' := 13) C dX4_choose_12 rfl rfl ?_
    refine gg_X4_0 (pc' := 16) (i := 0) C rfl hi_X4_choose_X4 lk_X4_choose_2 dX4_choose_13 rfl ?_
    refine g_iload_n (pc' := 17) C dX4_choose_16 rfl rfl ?_
    refine g_aload_n (pc' := 18) C dX4_choose_17 rfl rfl ?_
    refine g_aload_n (pc' := 19) C dX4_choose_18 rfl rfl ?_
    refine g_iload_n (pc' := 20) C dX4_choose_19 rfl rfl ?_
    refine k_X4_bestName (pc' := 23) C a b N S B x3 [0, 1] rfl (by decide) gX4_choose_X4_bestName ⟨Nat.le_of_ble_eq_true rfl, Nat.le_of_ble_eq_true rfl⟩ (Nat.le_of_ble_eq_true rfl) rfl dX4_choose_20 rfl h (fun r1 h => ?_)
    refine g_iast (pc' := 24) (i := 0) (j := 1) (w' := nmW (gcA X) a (va_up S 0 (upd (S 0) x3.toNatClampNeg r1))) C rfl rfl rfl dX4_choose_23 rfl h (fun h => ?_)
    show G X _ [nmW (gcA X) a (va_up S 0 (upd (S 0) x3.toNatClampNeg r1)), bdW (gcA X) b B] _ _ _
    refine g_aload_n (pc' := 25) C dX4_choose_24 rfl rfl ?_
    refine gg_X4_0 (pc' := 28) (i := 0) C rfl hi_X4_choose_X4 lk_X4_choose_2 dX4_choose_25 rfl ?_
    refine g_iload_n (pc' := 29) C dX4_choose_28 rfl rfl ?_
    refine g_iald (pc' := 30) (i := 0) (j := 1) C rfl rfl dX4_choose_29 rfl h (fun h => ?_)
    refine g_vi (v := ((upd (S 0) x3.toNatClampNeg r1) x3.toNatClampNeg)) rfl ?_
    refine g_bipush (pc' := 32) (v := -5) C dX4_choose_30 (by decide) rfl ?_
    refine g_icmp_eq (pc' := 35) (tgt := 38) C dX4_choose_32 (by decide) rfl h (fun c h => ?_) (fun c h => ?_)
    · exact G_loc (lle_s (lle_s (lle_s (lle_s lle_0)))) (B_X4_choose_38 C a b N B r Sz k4 hk4 x2 x3 (va_up S 0 (upd (S 0) x3.toNatClampNeg r1)) h)
    · refine g_iinc (pc' := 38) (v := (x2 + 1)) C dX4_choose_35 rfl rfl rfl (L' := [some (.ref (a 0)), some (.ref (b 0)), some (.int (x2 + 1)), some (.int x3)]) rfl ?_
      exact G_loc (lle_s (lle_s (lle_s (lle_s lle_0)))) (B_X4_choose_38 C a b N B r Sz k4 hk4 (x2 + 1) x3 (va_up S 0 (upd (S 0) x3.toNatClampNeg r1)) h)
set_option maxRecDepth 100000 in
set_option maxHeartbeats 4000000 in
theorem L_X4_choose_4 {X : gX} (C : cx X RX4 cX4_choose 4 (some .int) wsX4_choose 3 72) (a : Nat → Nat) (b : Nat → Nat) (N : Nat) (B : tS) (r : Int32) (Sz : tS)  : ∀ (n : Nat) (x2 : Int32) (x3 : Int32) (S : tS), f_X4_choose_4 N B  n x2 x3 S = some (r, Sz) → G X (QI X r [nmW (gcA X) a Sz, bdW (gcA X) b B]) [nmW (gcA X) a S, bdW (gcA X) b B] [some (.ref (a 0)), some (.ref (b 0)), some (.int x2), some (.int x3)] [] 4 := by
  intro n
  induction n with
  | zero => intro x2 x3 S h; have h : (none : Option (Int32 × tS)) = some (r, Sz) := h; cases h
  | succ n ih => intro x2 x3 S h; exact B_X4_choose_4b C a b N B r Sz  (f_X4_choose_4 N B  n) ih x2 x3 S h
def f_X4_choose (N : Nat) (S : tS) (B : tS)  : Option (Int32 × tS) := f_X4_choose_4 N B N (0 : Int32) (0 : Int32) S
set_option maxRecDepth 100000 in
set_option maxHeartbeats 4000000 in
theorem B_X4_choose {X : gX} (C : cx X RX4 cX4_choose 4 (some .int) wsX4_choose 3 72) (a : Nat → Nat) (b : Nat → Nat) (N : Nat) (S : tS) (B : tS)  (r : Int32) (Sz : tS) (h : f_X4_choose N S B = some (r, Sz)) : G X (QI X r [nmW (gcA X) a Sz, bdW (gcA X) b B]) [nmW (gcA X) a S, bdW (gcA X) b B] [some (.ref (a 0)), some (.ref (b 0)), none, none] [] 0 := by
  unfold f_X4_choose at h
  refine g_iconst (pc' := 1) (v := 0) C dX4_choose_0 (by decide) rfl ?_
  refine g_istore_n (pc' := 2) C dX4_choose_1 (Nat.le_of_ble_eq_true rfl) rfl (L' := [some (.ref (a 0)), some (.ref (b 0)), some (.int (0 : Int32)), none]) rfl ?_
  refine g_iconst (pc' := 3) (v := 0) C dX4_choose_2 (by decide) rfl ?_
  refine g_istore_n (pc' := 4) C dX4_choose_3 (Nat.le_of_ble_eq_true rfl) rfl (L' := [some (.ref (a 0)), some (.ref (b 0)), some (.int (0 : Int32)), some (.int (0 : Int32))]) rfl ?_
  exact G_loc (lle_s (lle_s (lle_s (lle_s lle_0)))) (L_X4_choose_4 C a b N B r Sz N (0 : Int32) (0 : Int32) S h)
set_option maxRecDepth 100000 in
set_option maxHeartbeats 4000000 in
theorem c_X4_choose (l : Launch) (D : va_G) (cA : Nat → ClassId) (a : Nat → Nat) (b : Nat → Nat) (N : Nat) (S : tS) (B : tS)  (r : Int32) (Sz : tS) (h : f_X4_choose N S B = some (r, Sz)) : MI l D cA yX4_choose wsX4_choose 3 72 [.ref (a 0), .ref (b 0)] [nmW cA a S, bdW cA b B] r [nmW cA a Sz, bdW cA b B] := MI_of (cc := cX4_choose) (maxL := 4) (rt := some .int) (by decide +kernel) rfl (List.forall_mem_cons.mpr ⟨rfl, List.forall_mem_cons.mpr ⟨rfl, List.forall_mem_nil _⟩⟩) (Nat.le_of_ble_eq_true rfl) (fun X e1 e2 e3 C => by subst e1; subst e2; subst e3; exact B_X4_choose C a b N S B r Sz h)
set_option maxRecDepth 100000 in
set_option maxHeartbeats 4000000 in
theorem nd_X4_choose : nd yX4_choose 1 := ⟨by decide +kernel, by decide +kernel, by decide +kernel⟩
set_option maxRecDepth 100000 in
set_option maxHeartbeats 4000000 in
theorem k_X4_choose {X : gX} {own : String} {cc : ByteArray} {nL : Nat} {ret : Option FieldType} {Ts : List Cond} {fr lm : Nat} {Q : State → Prop} {ms : List va_W} {L : List (Option Value)} {st : List Value} {pc pc' idx : Nat} {ρ : Type} {T : Int32 → tS → Option ρ} {res : ρ} (C : cx X own cc nL ret Ts fr lm) (a : Nat → Nat) (b : Nat → Nat) (N : Nat) (S : tS) (B : tS)  (is : List Nat) (hC : is.map (fun i => ms[i]?) = [some (nmW (gcA X) a S), some (bdW (gcA X) b B)]) (hn : is.Nodup) (hG : GoodIn Ts (wsV own idx RX4 yX4_choose wsX4_choose)) (hR : 3 + 1 ≤ fr ∧ 8 + (4 + 11) + 72 ≤ lm) (hst : (st.map fun v => v.category).sum ≤ 8) (hLn : L.length = nL) (d : decode cc pc = .ok (.invokevirtual idx, 3)) (hp : pc + 3 = pc') (h : bd2 (f_X4_choose N S B) T = some res) (kk : ∀ (r : Int32) (Sz : tS), T r Sz = some res → G X Q (rpl ms is [nmW (gcA X) a Sz, bdW (gcA X) b B]) L (.int r :: st) pc') : G X Q ms L (.ref (b 0) :: .ref (a 0) :: st) pc := by
  obtain ⟨r, Sz, h1, h⟩ := ob2 h
  exact G_callVI C (As := [.ref (b 0)]) (c_X4_choose (gl X) (gD X) (gcA X) a b N S B r Sz h1) hG rfl nd_X4_choose hR (q0 := 0) rfl rfl hC hn rfl rfl hst hLn d hp (kk r Sz h)
