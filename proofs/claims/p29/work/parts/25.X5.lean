def f_X5_isWithin (N : Nat)  (p0 : Int32) (p1 : Int32) (p2 : Int32) : Option (Int32) := (if p0 < p1 then some (0 : Int32) else (if p2 < p0 then some (0 : Int32) else some (1 : Int32)))
set_option maxRecDepth 100000 in
set_option maxHeartbeats 4000000 in
theorem B_X5_isWithin {X : gX} (C : cx X RX5 cX5_isWithin 3 (some .boolean) wsX5_isWithin 0 0)  (N : Nat)  (p0 : Int32) (p1 : Int32) (p2 : Int32) (r : Int32) (h : f_X5_isWithin N p0 p1 p2 = some r) : G X (QI X r []) [] [some (.int p0), some (.int p1), some (.int p2)] [] 0 := by
  unfold f_X5_isWithin at h
  refine g_iload_n (pc' := 1) C dX5_isWithin_0 rfl rfl ?_
  refine g_iload_n (pc' := 2) C dX5_isWithin_1 rfl rfl ?_
  refine g_icmp_lt (pc' := 5) (tgt := 14) C dX5_isWithin_2 (by decide) rfl h (fun c h => ?_) (fun c h => ?_)
  · refine g_iconst (pc' := 15) (v := 0) C dX5_isWithin_14 (by decide) rfl ?_
    obtain rfl := Option.some.inj h
    exact g_zret0 C rfl dX5_isWithin_15
  · refine g_iload_n (pc' := 6) C dX5_isWithin_5 rfl rfl ?_
    refine g_iload_n (pc' := 7) C dX5_isWithin_6 rfl rfl ?_
    refine g_icmp_gt (pc' := 10) (tgt := 14) C dX5_isWithin_7 (by decide) rfl h (fun c h => ?_) (fun c h => ?_)
    · refine g_iconst (pc' := 15) (v := 0) C dX5_isWithin_14 (by decide) rfl ?_
      obtain rfl := Option.some.inj h
      exact g_zret0 C rfl dX5_isWithin_15
    · refine g_iconst (pc' := 11) (v := 1) C dX5_isWithin_10 (by decide) rfl ?_
      refine g_goto (pc' := 15) C dX5_isWithin_11 (by decide) ?_
      obtain rfl := Option.some.inj h
      exact g_zret0 C rfl dX5_isWithin_15
set_option maxRecDepth 100000 in
set_option maxHeartbeats 4000000 in
theorem c_X5_isWithin (l : Launch) (D : va_G) (cA : Nat → ClassId)  (N : Nat)  (p0 : Int32) (p1 : Int32) (p2 : Int32) (r : Int32) (h : f_X5_isWithin N p0 p1 p2 = some r) : MI l D cA yX5_isWithin wsX5_isWithin 0 0 [.int p0, .int p1, .int p2] [] r [] := MI_of (cc := cX5_isWithin) (maxL := 3) (rt := some .boolean) (by decide +kernel) rfl (List.forall_mem_cons.mpr ⟨rfl, List.forall_mem_cons.mpr ⟨rfl, List.forall_mem_cons.mpr ⟨rfl, List.forall_mem_nil _⟩⟩⟩) (Nat.le_of_ble_eq_true rfl) (fun X e1 e2 e3 C => by subst e1; subst e2; subst e3; exact B_X5_isWithin C  N p0 p1 p2 r h)
set_option maxRecDepth 100000 in
set_option maxHeartbeats 4000000 in
theorem nd_X5_isWithin : nd yX5_isWithin 3 := ⟨by decide +kernel, by decide +kernel, by decide +kernel⟩
set_option maxRecDepth 100000 in
set_option maxHeartbeats 4000000 in
theorem k_X5_isWithin {X : gX} {own : String} {cc : ByteArray} {nL : Nat} {ret : Option FieldType} {Ts : List Cond} {fr lm : Nat} {Q : State → Prop} {ms : List va_W} {L : List (Option Value)} {st : List Value} {pc pc' idx : Nat} {ρ : Type} {T : Int32 → Option ρ} {res : ρ} (C : cx X own cc nL ret Ts fr lm)  (N : Nat)  (p0 : Int32) (p1 : Int32) (p2 : Int32) (is : List Nat) (hC : is.map (fun i => ms[i]?) = []) (hn : is.Nodup) (hG : GoodIn Ts (va_wsS own idx yX5_isWithin wsX5_isWithin)) (hR : 0 + 1 ≤ fr ∧ 8 + (3 + 11) + 0 ≤ lm) (hst : (st.map fun v => v.category).sum ≤ 8) (hLn : L.length = nL) (d : decode cc pc = .ok (.invokestatic idx, 3)) (hp : pc + 3 = pc') (h : bd (f_X5_isWithin N p0 p1 p2) T = some res) (kk : ∀ (r : Int32), T r = some res → G X Q (ms) L (.int r :: st) pc') : G X Q ms L (.int p2 :: .int p1 :: .int p0 :: st) pc := by
  obtain ⟨r, h1, h⟩ := ob h
  exact G_callSI C (As := [.int p0, .int p1, .int p2]) (c_X5_isWithin (gl X) (gD X) (gcA X)  N p0 p1 p2 r h1) hG rfl nd_X5_isWithin hR hC hn rfl rfl hst hLn d hp (G_ms (rpl_same (mc := []) hC) (kk r h))
def f_X5_isPlace (N : Nat)  (p0 : Int32) (p1 : Int32) : Option (Int32) := (bd (f_X5_isWithin N p0 (0 : Int32) (29 : Int32)) (fun r1 => (if r1 = 0 then some (0 : Int32) else (bd (f_X5_isWithin N p1 (0 : Int32) (19 : Int32)) (fun r2 => (if r2 = 0 then some (0 : Int32) else some (1 : Int32)))))))
set_option maxRecDepth 100000 in
set_option maxHeartbeats 4000000 in
theorem B_X5_isPlace {X : gX} (C : cx X RX5 cX5_isPlace 2 (some .boolean) wsX5_isPlace 1 22)  (N : Nat)  (p0 : Int32) (p1 : Int32) (r : Int32) (h : f_X5_isPlace N p0 p1 = some r) : G X (QI X r []) [] [some (.int p0), some (.int p1)] [] 0 := by
  unfold f_X5_isPlace at h
  refine g_iload_n (pc' := 1) C dX5_isPlace_0 rfl rfl ?_
  refine g_iconst (pc' := 2) (v := 0) C dX5_isPlace_1 (by decide) rfl ?_
  refine g_bipush (pc' := 4) (v := 29) C dX5_isPlace_2 (by decide) rfl ?_
  refine k_X5_isWithin (pc' := 7) C N p0 (0 : Int32) (29 : Int32) [] rfl (by decide) gX5_isPlace_X5_isWithin ⟨Nat.le_of_ble_eq_true rfl, Nat.le_of_ble_eq_true rfl⟩ (Nat.le_of_ble_eq_true rfl) rfl dX5_isPlace_4 rfl h (fun r1 h => ?_)
  refine g_if_eq (pc' := 10) (tgt := 24) C dX5_isPlace_7 (by decide) rfl h (fun c h => ?_) (fun c h => ?_)
  · refine g_iconst (pc' := 25) (v := 0) C dX5_isPlace_24 (by decide) rfl ?_
    obtain rfl := Option.some.inj h
    exact g_zret0 C rfl dX5_isPlace_25
  · refine g_iload_n (pc' := 11) C dX5_isPlace_10 rfl rfl ?_
    refine g_iconst (pc' := 12) (v := 0) C dX5_isPlace_11 (by decide) rfl ?_
    refine g_bipush (pc' := 14) (v := 19) C dX5_isPlace_12 (by decide) rfl ?_
    refine k_X5_isWithin (pc' := 17) C N p1 (0 : Int32) (19 : Int32) [] rfl (by decide) gX5_isPlace_X5_isWithin ⟨Nat.le_of_ble_eq_true rfl, Nat.le_of_ble_eq_true rfl⟩ (Nat.le_of_ble_eq_true rfl) rfl dX5_isPlace_14 rfl h (fun r2 h => ?_)
    refine g_if_eq (pc' := 20) (tgt := 24) C dX5_isPlace_17 (by decide) rfl h (fun c h => ?_) (fun c h => ?_)
    · refine g_iconst (pc' := 25) (v := 0) C dX5_isPlace_24 (by decide) rfl ?_
      obtain rfl := Option.some.inj h
      exact g_zret0 C rfl dX5_isPlace_25
    · refine g_iconst (pc' := 21) (v := 1) C dX5_isPlace_20 (by decide) rfl ?_
      refine g_goto (pc' := 25) C dX5_isPlace_21 (by decide) ?_
      obtain rfl := Option.some.inj h
      exact g_zret0 C rfl dX5_isPlace_25
set_option maxRecDepth 100000 in
set_option maxHeartbeats 4000000 in
theorem c_X5_isPlace (l : Launch) (D : va_G) (cA : Nat → ClassId)  (N : Nat)  (p0 : Int32) (p1 : Int32) (r : Int32) (h : f_X5_isPlace N p0 p1 = some r) : MI l D cA yX5_isPlace wsX5_isPlace 1 22 [.int p0, .int p1] [] r [] := MI_of (cc := cX5_isPlace) (maxL := 2) (rt := some .boolean) (by decide +kernel) rfl (List.forall_mem_cons.mpr ⟨rfl, List.forall_mem_cons.mpr ⟨rfl, List.forall_mem_nil _⟩⟩) (Nat.le_of_ble_eq_true rfl) (fun X e1 e2 e3 C => by subst e1; subst e2; subst e3; exact B_X5_isPlace C  N p0 p1 r h)
set_option maxRecDepth 100000 in
set_option maxHeartbeats 4000000 in
theorem nd_X5_isPlace : nd yX5_isPlace 2 := ⟨by decide +kernel, by decide +kernel, by decide +kernel⟩
set_option maxRecDepth 100000 in
set_option maxHeartbeats 4000000 in
theorem k_X5_isPlace {X : gX} {own : String} {cc : ByteArray} {nL : Nat} {ret : Option FieldType} {Ts : List Cond} {fr lm : Nat} {Q : State → Prop} {ms : List va_W} {L : List (Option Value)} {st : List Value} {pc pc' idx : Nat} {ρ : Type} {T : Int32 → Option ρ} {res : ρ} (C : cx X own cc nL ret Ts fr lm)  (N : Nat)  (p0 : Int32) (p1 : Int32) (is : List Nat) (hC : is.map (fun i => ms[i]?) = []) (hn : is.Nodup) (hG : GoodIn Ts (va_wsS own idx yX5_isPlace wsX5_isPlace)) (hR : 1 + 1 ≤ fr ∧ 8 + (2 + 11) + 22 ≤ lm) (hst : (st.map fun v => v.category).sum ≤ 8) (hLn : L.length = nL) (d : decode cc pc = .ok (.invokestatic idx, 3)) (hp : pc + 3 = pc') (h : bd (f_X5_isPlace N p0 p1) T = some res) (kk : ∀ (r : Int32), T r = some res → G X Q (ms) L (.int r :: st) pc') : G X Q ms L (.int p1 :: .int p0 :: st) pc := by
  obtain ⟨r, h1, h⟩ := ob h
  exact G_callSI C (As := [.int p0, .int p1]) (c_X5_isPlace (gl X) (gD X) (gcA X)  N p0 p1 r h1) hG rfl nd_X5_isPlace hR hC hn rfl rfl hst hLn d hp (G_ms (rpl_same (mc := []) hC) (kk r h))
theorem hi_X5_put_X0 : ∀ w ∈ wsX00, w ∈ wsX5_put := fun w h => List.mem_cons_of_mem _ (List.mem_append_left _ (List.mem_append_right _ h))
theorem hi_X5_put_X5 : ∀ w ∈ wsX50, w ∈ wsX5_put := fun w h => List.mem_cons_of_mem _ (List.mem_append_left _ (List.mem_append_left _ (List.mem_append_right _ h)))
theorem lk_X5_put_1 : Cond.fieldLink RX5 10 "NoteThemes" "board" "LNoteThemes$Board;" ∈ wsX5_put := List.mem_of_getElem? (i := 1) rfl
theorem lk_X5_put_2 : Cond.fieldLink RX5 71 "NoteThemes$Board" "notes" "I" ∈ wsX5_put := List.mem_of_getElem? (i := 2) rfl
theorem lk_X5_put_3 : Cond.fieldLink RX5 19 "NoteThemes" "history" "LNoteThemes$History;" ∈ wsX5_put := List.mem_of_getElem? (i := 3) rfl
def f_X5_put (N : Nat) (Tn : tS) (B : tS) (Hs : tH) (p0 : Int32) (p1 : Int32) : Option (Int32 × tS × tH) := (bd (f_X5_isPlace N p0 p1) (fun r1 => (if r1 = 0 then some ((-1 : Int32), B, Hs) else (if (B 0 0) < (20 : Int32) then (bd (f_X3_remember N Hs B) (fun Hs2 => (bd (f_X0_addNote N B p0 p1) (fun B3 => some (((B3 0 0) - (1 : Int32)), B3, Hs2))))) else some ((-3 : Int32), B, Hs)))))
set_option maxRecDepth 100000 in
set_option maxHeartbeats 4000000 in
theorem B_X5_put {X : gX} (C : cx X RX5 cX5_put 3 (some .int) wsX5_put 3 68) (pa : Nat → Nat → Nat) (N : Nat) (Tn : tS) (B : tS) (Hs : tH) (p0 : Int32) (p1 : Int32) (r : Int32) (Bz : tS) (Hsz : tH) (h : f_X5_put N Tn B Hs p0 p1 = some (r, Bz, Hsz)) : G X (QI X r [ntW pa Tn, bdW (gcA X) (pa 1) Bz, hsW (gcA X) (pa 2) (fun j => pa (10 + j)) Hsz]) [ntW pa Tn, bdW (gcA X) (pa 1) B, hsW (gcA X) (pa 2) (fun j => pa (10 + j)) Hs] [some (.ref (pa 0 0)), some (.int p0), some (.int p1)] [] 0 := by
  unfold f_X5_put at h
  refine g_iload_n (pc' := 1) C dX5_put_0 rfl rfl ?_
  refine g_iload_n (pc' := 2) C dX5_put_1 rfl rfl ?_
  refine k_X5_isPlace (pc' := 5) C N p0 p1 [] rfl (by decide) gX5_put_X5_isPlace ⟨Nat.le_of_ble_eq_true rfl, Nat.le_of_ble_eq_true rfl⟩ (Nat.le_of_ble_eq_true rfl) rfl dX5_put_2 rfl h (fun r1 h => ?_)
  refine g_if_ne (pc' := 8) (tgt := 10) C dX5_put_5 (by decide) rfl h (fun c h => ?_) (fun c h => ?_)
  · refine g_iconst (pc' := 9) (v := -1) C dX5_put_8 (by decide) rfl ?_
    obtain ⟨rfl, rfl, rfl⟩ := pj3 (Option.some.inj h)
    exact g_iret C dX5_put_9
  · refine g_aload_n (pc' := 11) C dX5_put_10 rfl rfl ?_
    refine gg_X5_0 (pc' := 14) (i := 0) C rfl hi_X5_put_X5 lk_X5_put_1 dX5_put_11 rfl ?_
    refine gg_X0_0 (pc' := 17) (i := 1) C rfl hi_X5_put_X0 lk_X5_put_2 dX5_put_14 rfl ?_
    refine g_bipush (pc' := 19) (v := 20) C dX5_put_17 (by decide) rfl ?_
    refine g_icmp_lt (pc' := 22) (tgt := 25) C dX5_put_19 (by decide) rfl h (fun c h => ?_) (fun c h => ?_)
    · refine g_aload_n (pc' := 26) C dX5_put_25 rfl rfl ?_
      refine gg_X5_1 (pc' := 29) (i := 0) C rfl hi_X5_put_X5 lk_X5_put_3 dX5_put_26 rfl ?_
      refine g_aload_n (pc' := 30) C dX5_put_29 rfl rfl ?_
      refine gg_X5_0 (pc' := 33) (i := 0) C rfl hi_X5_put_X5 lk_X5_put_1 dX5_put_30 rfl ?_
      refine k_X3_remember (pc' := 36) C (pa 2) (pa 1) (fun j => pa (10 + j)) N Hs B [2, 1] rfl (by decide) gX5_put_X3_remember ⟨Nat.le_of_ble_eq_true rfl, Nat.le_of_ble_eq_true rfl⟩ (Nat.le_of_ble_eq_true rfl) rfl dX5_put_33 rfl h (fun Hs2 h => ?_)
      show G X _ [ntW pa Tn, bdW (gcA X) (pa 1) B, hsW (gcA X) (pa 2) (fun j => pa (10 + j)) Hs2] _ _ _
      refine g_aload_n (pc' := 37) C dX5_put_36 rfl rfl ?_
      refine gg_X5_0 (pc' := 40) (i := 0) C rfl hi_X5_put_X5 lk_X5_put_1 dX5_put_37 rfl ?_
      refine g_iload_n (pc' := 41) C dX5_put_40 rfl rfl ?_
      refine g_iload_n (pc' := 42) C dX5_put_41 rfl rfl ?_
      refine k_X0_addNote (pc' := 45) C (pa 1) N B p0 p1 [1] rfl (by decide) gX5_put_X0_addNote ⟨Nat.le_of_ble_eq_true rfl, Nat.le_of_ble_eq_true rfl⟩ (Nat.le_of_ble_eq_true rfl) rfl dX5_put_42 rfl h (fun B3 h => ?_)
      show G X _ [ntW pa Tn, bdW (gcA X) (pa 1) B3, hsW (gcA X) (pa 2) (fun j => pa (10 + j)) Hs2] _ _ _
      refine g_aload_n (pc' := 46) C dX5_put_45 rfl rfl ?_
      refine gg_X5_0 (pc' := 49) (i := 0) C rfl hi_X5_put_X5 lk_X5_put_1 dX5_put_46 rfl ?_
      refine gg_X0_0 (pc' := 52) (i := 1) C rfl hi_X5_put_X0 lk_X5_put_2 dX5_put_49 rfl ?_
      refine g_iconst (pc' := 53) (v := 1) C dX5_put_52 (by decide) rfl ?_
      refine g_isub (pc' := 54) C dX5_put_53 rfl ?_
      obtain ⟨rfl, rfl, rfl⟩ := pj3 (Option.some.inj h)
      exact g_iret C dX5_put_54
    · refine g_bipush (pc' := 24) (v := -3) C dX5_put_22 (by decide) rfl ?_
      obtain ⟨rfl, rfl, rfl⟩ := pj3 (Option.some.inj h)
      exact g_iret C dX5_put_24
set_option maxRecDepth 100000 in
set_option maxHeartbeats 4000000 in
theorem c_X5_put (l : Launch) (D : va_G) (cA : Nat → ClassId) (pa : Nat → Nat → Nat) (N : Nat) (Tn : tS) (B : tS) (Hs : tH) (p0 : Int32) (p1 : Int32) (r : Int32) (Bz : tS) (Hsz : tH) (h : f_X5_put N Tn B Hs p0 p1 = some (r, Bz, Hsz)) : MI l D cA yX5_put wsX5_put 3 68 [.ref (pa 0 0), .int p0, .int p1] [ntW pa Tn, bdW cA (pa 1) B, hsW cA (pa 2) (fun j => pa (10 + j)) Hs] r [ntW pa Tn, bdW cA (pa 1) Bz, hsW cA (pa 2) (fun j => pa (10 + j)) Hsz] := MI_of (cc := cX5_put) (maxL := 3) (rt := some .int) (by decide +kernel) rfl (List.forall_mem_cons.mpr ⟨rfl, List.forall_mem_cons.mpr ⟨rfl, List.forall_mem_cons.mpr ⟨rfl, List.forall_mem_nil _⟩⟩⟩) (Nat.le_of_ble_eq_true rfl) (fun X e1 e2 e3 C => by subst e1; subst e2; subst e3; exact B_X5_put C pa N Tn B Hs p0 p1 r Bz Hsz h)
set_option maxRecDepth 100000 in
set_option maxHeartbeats 4000000 in
theorem nd_X5_put : nd yX5_put 2 := ⟨by decide +kernel, by decide +kernel, by decide +kernel⟩
set_option maxRecDepth 100000 in
set_option maxHeartbeats 4000000 in
theorem k_X5_put {X : gX} {own : String} {cc : ByteArray} {nL : Nat} {ret : Option FieldType} {Ts : List Cond} {fr lm : Nat} {Q : State → Prop} {ms : List va_W} {L : List (Option Value)} {st : List Value} {pc pc' idx : Nat} {ρ : Type} {T : Int32 → tS → tH → Option ρ} {res : ρ} (C : cx X own cc nL ret Ts fr lm) (pa : Nat → Nat → Nat) (N : Nat) (Tn : tS) (B : tS) (Hs : tH) (p0 : Int32) (p1 : Int32) (is : List Nat) (hC : is.map (fun i => ms[i]?) = [some (ntW pa Tn), some (bdW (gcA X) (pa 1) B), some (hsW (gcA X) (pa 2) (fun j => pa (10 + j)) Hs)]) (hn : is.Nodup) (hG : GoodIn Ts (wsV own idx RX5 yX5_put wsX5_put)) (hR : 3 + 1 ≤ fr ∧ 8 + (3 + 11) + 68 ≤ lm) (hst : (st.map fun v => v.category).sum ≤ 8) (hLn : L.length = nL) (d : decode cc pc = .ok (.invokevirtual idx, 3)) (hp : pc + 3 = pc') (h : bd3 (f_X5_put N Tn B Hs p0 p1) T = some res) (kk : ∀ (r : Int32) (Bz : tS) (Hsz : tH), T r Bz Hsz = some res → G X Q (rpl ms is [ntW pa Tn, bdW (gcA X) (pa 1) Bz, hsW (gcA X) (pa 2) (fun j => pa (10 + j)) Hsz]) L (.int r :: st) pc') : G X Q ms L (.int p1 :: .int p0 :: .ref (pa 0 0) :: st) pc := by
  obtain ⟨r, Bz, Hsz, h1, h⟩ := ob3 h
  exact G_callVI C (As := [.int p0, .int p1]) (c_X5_put (gl X) (gD X) (gcA X) pa N Tn B Hs p0 p1 r Bz Hsz h1) hG rfl nd_X5_put hR (q0 := 0) rfl rfl hC hn rfl rfl hst hLn d hp (kk r Bz Hsz h)
theorem hi_X5_load_X0 : ∀ w ∈ wsX00, w ∈ wsX5_load := fun w h => List.mem_cons_of_mem _ (List.mem_append_left _ (List.mem_append_right _ h))
theorem hi_X5_load_X1 : ∀ w ∈ wsX10, w ∈ wsX5_load := fun w h => List.mem_cons_of_mem _ (List.mem_append_left _ (List.mem_append_left _ (List.mem_append_right _ h)))
theorem hi_X5_load_X5 : ∀ w ∈ wsX50, w ∈ wsX5_load := fun w h => List.mem_cons_of_mem _ (List.mem_append_left _ (List.mem_append_left _ (List.mem_append_left _ (List.mem_append_right _ h))))
theorem lk_X5_load_1 : Cond.fieldLink RX5 38 "NoteThemes" "trial" "LNoteThemes$Board;" ∈ wsX5_load := List.mem_of_getElem? (i := 1) rfl
theorem lk_X5_load_2 : Cond.fieldLink RX5 10 "NoteThemes" "board" "LNoteThemes$Board;" ∈ wsX5_load := List.mem_of_getElem? (i := 2) rfl
theorem lk_X5_load_3 : Cond.fieldLink RX5 63 "NoteThemes" "boardText" "LNoteThemes$BoardText;" ∈ wsX5_load := List.mem_of_getElem? (i := 3) rfl
theorem lk_X5_load_4 : Cond.fieldLink RX5 30 "NoteThemes" "text" "[C" ∈ wsX5_load := List.mem_of_getElem? (i := 4) rfl
theorem lk_X5_load_5 : Cond.fieldLink RX5 34 "NoteThemes" "textLength" "I" ∈ wsX5_load := List.mem_of_getElem? (i := 5) rfl
theorem lk_X5_load_6 : Cond.fieldLink RX5 91 "NoteThemes$BoardText" "notesRead" "I" ∈ wsX5_load := List.mem_of_getElem? (i := 6) rfl
theorem lk_X5_load_7 : Cond.fieldLink RX5 19 "NoteThemes" "history" "LNoteThemes$History;" ∈ wsX5_load := List.mem_of_getElem? (i := 7) rfl
theorem lk_X5_load_8 : Cond.fieldLink RX5 71 "NoteThemes$Board" "notes" "I" ∈ wsX5_load := List.mem_of_getElem? (i := 8) rfl
def f_X5_load (N : Nat) (Tn : tS) (B : tS) (Hs : tH) (Tx : tS) (Tr : tS) (Bt : tS)  : Option (Int32 × tS × tH × tS × tS) := (bd (f_X0_copyFrom N Tr B) (fun Tr1 => (bd (f_X0_removeAll N Tr1) (fun Tr2 => (bd3 (f_X1_findFault N Bt Tr2 Tx (Tn 5 0)) (fun r3 Bt3 Tr3 => (if r3 = (-1 : Int32) then (if (Bt3 1 0) ≤ (20 : Int32) then (bd (f_X3_remember N Hs B) (fun Hs4 => (bd (f_X0_copyFrom N B Tr3) (fun B5 => some ((B5 0 0), B5, Hs4, Tr3, Bt3))))) else some ((-3 : Int32), B, Hs, Tr3, Bt3)) else some (((-100 : Int32) - r3), B, Hs, Tr3, Bt3))))))))
set_option maxRecDepth 100000 in
set_option maxHeartbeats 4000000 in
theorem B_X5_load {X : gX} (C : cx X RX5 cX5_load 2 (some .int) wsX5_load 6 131) (pa : Nat → Nat → Nat) (N : Nat) (Tn : tS) (B : tS) (Hs : tH) (Tx : tS) (Tr : tS) (Bt : tS)  (r : Int32) (Bz : tS) (Hsz : tH) (Trz : tS) (Btz : tS) (h : f_X5_load N Tn B Hs Tx Tr Bt = some (r, Bz, Hsz, Trz, Btz)) : G X (QI X r [ntW pa Tn, bdW (gcA X) (pa 1) Bz, hsW (gcA X) (pa 2) (fun j => pa (10 + j)) Hsz, txW (gcA X) (pa 4) Tx, bdW (gcA X) (pa 5) Trz, btW (pa 9) (pa 5 0) Btz]) [ntW pa Tn, bdW (gcA X) (pa 1) B, hsW (gcA X) (pa 2) (fun j => pa (10 + j)) Hs, txW (gcA X) (pa 4) Tx, bdW (gcA X) (pa 5) Tr, btW (pa 9) (pa 5 0) Bt] [some (.ref (pa 0 0)), none] [] 0 := by
  unfold f_X5_load at h
  refine g_aload_n (pc' := 1) C dX5_load_0 rfl rfl ?_
  refine gg_X5_6 (pc' := 4) (i := 0) C rfl hi_X5_load_X5 lk_X5_load_1 dX5_load_1 rfl ?_
  refine g_aload_n (pc' := 5) C dX5_load_4 rfl rfl ?_
  refine gg_X5_0 (pc' := 8) (i := 0) C rfl hi_X5_load_X5 lk_X5_load_2 dX5_load_5 rfl ?_
  refine k_X0_copyFrom (pc' := 11) C (pa 5) (pa 1) N Tr B [4, 1] rfl (by decide) gX5_load_X0_copyFrom ⟨Nat.le_of_ble_eq_true rfl, Nat.le_of_ble_eq_true rfl⟩ (Nat.le_of_ble_eq_true rfl) rfl dX5_load_8 rfl h (fun Tr1 h => ?_)
  show G X _ [ntW pa Tn, bdW (gcA X) (pa 1) B, hsW (gcA X) (pa 2) (fun j => pa (10 + j)) Hs, txW (gcA X) (pa 4) Tx, bdW (gcA X) (pa 5) Tr1, btW (pa 9) (pa 5 0) Bt] _ _ _
  refine g_aload_n (pc' := 12) C dX5_load_11 rfl rfl ?_
  refine gg_X5_6 (pc' := 15) (i := 0) C rfl hi_X5_load_X5 lk_X5_load_1 dX5_load_12 rfl ?_
  refine k_X0_removeAll (pc' := 18) C (pa 5) N Tr1 [4] rfl (by decide) gX5_load_X0_removeAll ⟨Nat.le_of_ble_eq_true rfl, Nat.le_of_ble_eq_true rfl⟩ (Nat.le_of_ble_eq_true rfl) rfl dX5_load_15 rfl h (fun Tr2 h => ?_)
  show G X _ [ntW pa Tn, bdW (gcA X) (pa 1) B, hsW (gcA X) (pa 2) (fun j => pa (10 + j)) Hs, txW (gcA X) (pa 4) Tx, bdW (gcA X) (pa 5) Tr2, btW (pa 9) (pa 5 0) Bt] _ _ _
  refine g_aload_n (pc' := 19) C dX5_load_18 rfl rfl ?_
  refine gg_X5_10 (pc' := 22) (i := 0) C rfl hi_X5_load_X5 lk_X5_load_3 dX5_load_19 rfl ?_
  refine g_aload_n (pc' := 23) C dX5_load_22 rfl rfl ?_
  refine gg_X5_4 (pc' := 26) (i := 0) C rfl hi_X5_load_X5 lk_X5_load_4 dX5_load_23 rfl ?_
  refine g_aload_n (pc' := 27) C dX5_load_26 rfl rfl ?_
  refine gg_X5_5 (pc' := 30) (i := 0) C rfl hi_X5_load_X5 lk_X5_load_5 dX5_load_27 rfl ?_
  refine k_X1_findFault (pc' := 33) C (pa 9) (pa 5) (pa 4) N Bt Tr2 Tx (Tn 5 0) [5, 4, 3] rfl (by decide) gX5_load_X1_findFault ⟨Nat.le_of_ble_eq_true rfl, Nat.le_of_ble_eq_true rfl⟩ (Nat.le_of_ble_eq_true rfl) rfl dX5_load_30 rfl h (fun r3 Bt3 Tr3 h => ?_)
  show G X _ [ntW pa Tn, bdW (gcA X) (pa 1) B, hsW (gcA X) (pa 2) (fun j => pa (10 + j)) Hs, txW (gcA X) (pa 4) Tx, bdW (gcA X) (pa 5) Tr3, btW (pa 9) (pa 5 0) Bt3] _ _ _
  refine g_istore_n (pc' := 34) C dX5_load_33 (Nat.le_of_ble_eq_true rfl) rfl (L' := [some (.ref (pa 0 0)), some (.int r3)]) rfl ?_
  refine g_iload_n (pc' := 35) C dX5_load_34 rfl rfl ?_
  refine g_iconst (pc' := 36) (v := -1) C dX5_load_35 (by decide) rfl ?_
  refine g_icmp_eq (pc' := 39) (tgt := 44) C dX5_load_36 (by decide) rfl h (fun c h => ?_) (fun c h => ?_)
  · refine g_aload_n (pc' := 45) C dX5_load_44 rfl rfl ?_
    refine gg_X5_10 (pc' := 48) (i := 0) C rfl hi_X5_load_X5 lk_X5_load_3 dX5_load_45 rfl ?_
    refine gg_X1_1 (pc' := 51) (i := 5) C rfl hi_X5_load_X1 lk_X5_load_6 dX5_load_48 rfl ?_
    refine g_bipush (pc' := 53) (v := 20) C dX5_load_51 (by decide) rfl ?_
    refine g_icmp_le (pc' := 56) (tgt := 59) C dX5_load_53 (by decide) rfl h (fun c h => ?_) (fun c h => ?_)
    · refine g_aload_n (pc' := 60) C dX5_load_59 rfl rfl ?_
      refine gg_X5_1 (pc' := 63) (i := 0) C rfl hi_X5_load_X5 lk_X5_load_7 dX5_load_60 rfl ?_
      refine g_aload_n (pc' := 64) C dX5_load_63 rfl rfl ?_
      refine gg_X5_0 (pc' := 67) (i := 0) C rfl hi_X5_load_X5 lk_X5_load_2 dX5_load_64 rfl ?_
      refine k_X3_remember (pc' := 70) C (pa 2) (pa 1) (fun j => pa (10 + j)) N Hs B [2, 1] rfl (by decide) gX5_load_X3_remember ⟨Nat.le_of_ble_eq_true rfl, Nat.le_of_ble_eq_true rfl⟩ (Nat.le_of_ble_eq_true rfl) rfl dX5_load_67 rfl h (fun Hs4 h => ?_)
      show G X _ [ntW pa Tn, bdW (gcA X) (pa 1) B, hsW (gcA X) (pa 2) (fun j => pa (10 + j)) Hs4, txW (gcA X) (pa 4) Tx, bdW (gcA X) (pa 5) Tr3, btW (pa 9) (pa 5 0) Bt3] _ _ _
      refine g_aload_n (pc' := 71) C dX5_load_70 rfl rfl ?_
      refine gg_X5_0 (pc' := 74) (i := 0) C rfl hi_X5_load_X5 lk_X5_load_2 dX5_load_71 rfl ?_
      refine g_aload_n (pc' := 75) C dX5_load_74 rfl rfl ?_
      refine gg_X5_6 (pc' := 78) (i := 0) C rfl hi_X5_load_X5 lk_X5_load_1 dX5_load_75 rfl ?_
      refine k_X0_copyFrom (pc' := 81) C (pa 1) (pa 5) N B Tr3 [1, 4] rfl (by decide) gX5_load_X0_copyFrom ⟨Nat.le_of_ble_eq_true rfl, Nat.le_of_ble_eq_true rfl⟩ (Nat.le_of_ble_eq_true rfl) rfl dX5_load_78 rfl h (fun B5 h => ?_)
      show G X _ [ntW pa Tn, bdW (gcA X) (pa 1) B5, hsW (gcA X) (pa 2) (fun j => pa (10 + j)) Hs4, txW (gcA X) (pa 4) Tx, bdW (gcA X) (pa 5) Tr3, btW (pa 9) (pa 5 0) Bt3] _ _ _
      refine g_aload_n (pc' := 82) C dX5_load_81 rfl rfl ?_
      refine gg_X5_0 (pc' := 85) (i := 0) C rfl hi_X5_load_X5 lk_X5_load_2 dX5_load_82 rfl ?_
      refine gg_X0_0 (pc' := 88) (i := 1) C rfl hi_X5_load_X0 lk_X5_load_8 dX5_load_85 rfl ?_
      obtain ⟨rfl, rfl, rfl, rfl, rfl⟩ := pj5 (Option.some.inj h)
      exact g_iret C dX5_load_88
    · refine g_bipush (pc' := 58) (v := -3) C dX5_load_56 (by decide) rfl ?_
      obtain ⟨rfl, rfl, rfl, rfl, rfl⟩ := pj5 (Option.some.inj h)
      exact g_iret C dX5_load_58
  · refine g_bipush (pc' := 41) (v := -100) C dX5_load_39 (by decide) rfl ?_
    refine g_iload_n (pc' := 42) C dX5_load_41 rfl rfl ?_
    refine g_isub (pc' := 43) C dX5_load_42 rfl ?_
    obtain ⟨rfl, rfl, rfl, rfl, rfl⟩ := pj5 (Option.some.inj h)
    exact g_iret C dX5_load_43
set_option maxRecDepth 100000 in
set_option maxHeartbeats 4000000 in
theorem c_X5_load (l : Launch) (D : va_G) (cA : Nat → ClassId) (pa : Nat → Nat → Nat) (N : Nat) (Tn : tS) (B : tS) (Hs : tH) (Tx : tS) (Tr : tS) (Bt : tS)  (r : Int32) (Bz : tS) (Hsz : tH) (Trz : tS) (Btz : tS) (h : f_X5_load N Tn B Hs Tx Tr Bt = some (r, Bz, Hsz, Trz, Btz)) : MI l D cA yX5_load wsX5_load 6 131 [.ref (pa 0 0)] [ntW pa Tn, bdW cA (pa 1) B, hsW cA (pa 2) (fun j => pa (10 + j)) Hs, txW cA (pa 4) Tx, bdW cA (pa 5) Tr, btW (pa 9) (pa 5 0) Bt] r [ntW pa Tn, bdW cA (pa 1) Bz, hsW cA (pa 2) (fun j => pa (10 + j)) Hsz, txW cA (pa 4) Tx, bdW cA (pa 5) Trz, btW (pa 9) (pa 5 0) Btz] := MI_of (cc := cX5_load) (maxL := 2) (rt := some .int) (by decide +kernel) rfl (List.forall_mem_cons.mpr ⟨rfl, List.forall_mem_nil _⟩) (Nat.le_of_ble_eq_true rfl) (fun X e1 e2 e3 C => by subst e1; subst e2; subst e3; exact B_X5_load C pa N Tn B Hs Tx Tr Bt r Bz Hsz Trz Btz h)
set_option maxRecDepth 100000 in
set_option maxHeartbeats 4000000 in
theorem nd_X5_load : nd yX5_load 0 := ⟨by decide +kernel, by decide +kernel, by decide +kernel⟩
set_option maxRecDepth 100000 in
set_option maxHeartbeats 4000000 in
theorem k_X5_load {X : gX} {own : String} {cc : ByteArray} {nL : Nat} {ret : Option FieldType} {Ts : List Cond} {fr lm : Nat} {Q : State → Prop} {ms : List va_W} {L : List (Option Value)} {st : List Value} {pc pc' idx : Nat} {ρ : Type} {T : Int32 → tS → tH → tS → tS → Option ρ} {res : ρ} (C : cx X own cc nL ret Ts fr lm) (pa : Nat → Nat → Nat) (N : Nat) (Tn : tS) (B : tS) (Hs : tH) (Tx : tS) (Tr : tS) (Bt : tS)  (is : List Nat) (hC : is.map (fun i => ms[i]?) = [some (ntW pa Tn), some (bdW (gcA X) (pa 1) B), some (hsW (gcA X) (pa 2) (fun j => pa (10 + j)) Hs), some (txW (gcA X) (pa 4) Tx), some (bdW (gcA X) (pa 5) Tr), some (btW (pa 9) (pa 5 0) Bt)]) (hn : is.Nodup) (hG : GoodIn Ts (wsV own idx RX5 yX5_load wsX5_load)) (hR : 6 + 1 ≤ fr ∧ 8 + (2 + 11) + 131 ≤ lm) (hst : (st.map fun v => v.category).sum ≤ 8) (hLn : L.length = nL) (d : decode cc pc = .ok (.invokevirtual idx, 3)) (hp : pc + 3 = pc') (h : bd5 (f_X5_load N Tn B Hs Tx Tr Bt) T = some res) (kk : ∀ (r : Int32) (Bz : tS) (Hsz : tH) (Trz : tS) (Btz : tS), T r Bz Hsz Trz Btz = some res → G X Q (rpl ms is [ntW pa Tn, bdW (gcA X) (pa 1) Bz, hsW (gcA X) (pa 2) (fun j => pa (10 + j)) Hsz, txW (gcA X) (pa 4) Tx, bdW (gcA X) (pa 5) Trz, btW (pa 9) (pa 5 0) Btz]) L (.int r :: st) pc') : G X Q ms L (.ref (pa 0 0) :: st) pc := by
  obtain ⟨r, Bz, Hsz, Trz, Btz, h1, h⟩ := ob5 h
  exact G_callVI C (As := []) (c_X5_load (gl X) (gD X) (gcA X) pa N Tn B Hs Tx Tr Bt r Bz Hsz Trz Btz h1) hG rfl nd_X5_load hR (q0 := 0) rfl rfl hC hn rfl rfl hst hLn d hp (kk r Bz Hsz Trz Btz h)
theorem hi_X5_takeOff_X5 : ∀ w ∈ wsX50, w ∈ wsX5_takeOff := fun w h => List.mem_cons_of_mem _ (List.mem_append_left _ (List.mem_append_left _ (List.mem_append_right _ h)))
theorem lk_X5_takeOff_1 : Cond.fieldLink RX5 10 "NoteThemes" "board" "LNoteThemes$Board;" ∈ wsX5_takeOff := List.mem_of_getElem? (i := 1) rfl
theorem lk_X5_takeOff_2 : Cond.fieldLink RX5 19 "NoteThemes" "history" "LNoteThemes$History;" ∈ wsX5_takeOff := List.mem_of_getElem? (i := 2) rfl
def f_X5_takeOff (N : Nat) (Tn : tS) (B : tS) (Hs : tH) (p0 : Int32) : Option (Int32 × tS × tH) := (bd (f_X0_hasNote N B p0) (fun r1 => (if r1 = 0 then some ((-1 : Int32), B, Hs) else (bd (f_X3_remember N Hs B) (fun Hs2 => (bd (f_X0_dotsOn N B p0) (fun r3 => (bd (f_X0_removeNote N B p0) (fun B4 => some (r3, B4, Hs2))))))))))
set_option maxRecDepth 100000 in
set_option maxHeartbeats 4000000 in
theorem B_X5_takeOff {X : gX} (C : cx X RX5 cX5_takeOff 3 (some .int) wsX5_takeOff 3 69) (pa : Nat → Nat → Nat) (N : Nat) (Tn : tS) (B : tS) (Hs : tH) (p0 : Int32) (r : Int32) (Bz : tS) (Hsz : tH) (h : f_X5_takeOff N Tn B Hs p0 = some (r, Bz, Hsz)) : G X (QI X r [ntW pa Tn, bdW (gcA X) (pa 1) Bz, hsW (gcA X) (pa 2) (fun j => pa (10 + j)) Hsz]) [ntW pa Tn, bdW (gcA X) (pa 1) B, hsW (gcA X) (pa 2) (fun j => pa (10 + j)) Hs] [some (.ref (pa 0 0)), some (.int p0), none] [] 0 := by
  unfold f_X5_takeOff at h
  refine g_aload_n (pc' := 1) C dX5_takeOff_0 rfl rfl ?_
  refine gg_X5_0 (pc' := 4) (i := 0) C rfl hi_X5_takeOff_X5 lk_X5_takeOff_1 dX5_takeOff_1 rfl ?_
  refine g_iload_n (pc' := 5) C dX5_takeOff_4 rfl rfl ?_
  refine k_X0_hasNote (pc' := 8) C (pa 1) N B p0 [1] rfl (by decide) gX5_takeOff_X0_hasNote ⟨Nat.le_of_ble_eq_true rfl, Nat.le_of_ble_eq_true rfl⟩ (Nat.le_of_ble_eq_true rfl) rfl dX5_takeOff_5 rfl h (fun r1 h => ?_)
  refine g_if_ne (pc' := 11) (tgt := 13) C dX5_takeOff_8 (by decide) rfl h (fun c h => ?_) (fun c h => ?_)
  · refine g_iconst (pc' := 12) (v := -1) C dX5_takeOff_11 (by decide) rfl ?_
    obtain ⟨rfl, rfl, rfl⟩ := pj3 (Option.some.inj h)
    exact g_iret C dX5_takeOff_12
  · refine g_aload_n (pc' := 14) C dX5_takeOff_13 rfl rfl ?_
    refine gg_X5_1 (pc' := 17) (i := 0) C rfl hi_X5_takeOff_X5 lk_X5_takeOff_2 dX5_takeOff_14 rfl ?_
    refine g_aload_n (pc' := 18) C dX5_takeOff_17 rfl rfl ?_
    refine gg_X5_0 (pc' := 21) (i := 0) C rfl hi_X5_takeOff_X5 lk_X5_takeOff_1 dX5_takeOff_18 rfl ?_
    refine k_X3_remember (pc' := 24) C (pa 2) (pa 1) (fun j => pa (10 + j)) N Hs B [2, 1] rfl (by decide) gX5_takeOff_X3_remember ⟨Nat.le_of_ble_eq_true rfl, Nat.le_of_ble_eq_true rfl⟩ (Nat.le_of_ble_eq_true rfl) rfl dX5_takeOff_21 rfl h (fun Hs2 h => ?_)
    show G X _ [ntW pa Tn, bdW (gcA X) (pa 1) B, hsW (gcA X) (pa 2) (fun j => pa (10 + j)) Hs2] _ _ _
    refine g_aload_n (pc' := 25) C dX5_takeOff_24 rfl rfl ?_
    refine gg_X5_0 (pc' := 28) (i := 0) C rfl hi_X5_takeOff_X5 lk_X5_takeOff_1 dX5_takeOff_25 rfl ?_
    refine g_iload_n (pc' := 29) C dX5_takeOff_28 rfl rfl ?_
    refine k_X0_dotsOn (pc' := 32) C (pa 1) N B p0 [1] rfl (by decide) gX5_takeOff_X0_dotsOn ⟨Nat.le_of_ble_eq_true rfl, Nat.le_of_ble_eq_true rfl⟩ (Nat.le_of_ble_eq_true rfl) rfl dX5_takeOff_29 rfl h (fun r3 h => ?_)
    refine g_istore_n (pc' := 33) C dX5_takeOff_32 (Nat.le_of_ble_eq_true rfl) rfl (L' := [some (.ref (pa 0 0)), some (.int p0), some (.int r3)]) rfl ?_
    refine g_aload_n (pc' := 34) C dX5_takeOff_33 rfl rfl ?_
    refine gg_X5_0 (pc' := 37) (i := 0) C rfl hi_X5_takeOff_X5 lk_X5_takeOff_1 dX5_takeOff_34 rfl ?_
    refine g_iload_n (pc' := 38) C dX5_takeOff_37 rfl rfl ?_
    refine k_X0_removeNote (pc' := 41) C (pa 1) N B p0 [1] rfl (by decide) gX5_takeOff_X0_removeNote ⟨Nat.le_of_ble_eq_true rfl, Nat.le_of_ble_eq_true rfl⟩ (Nat.le_of_ble_eq_true rfl) rfl dX5_takeOff_38 rfl h (fun B4 h => ?_)
    show G X _ [ntW pa Tn, bdW (gcA X) (pa 1) B4, hsW (gcA X) (pa 2) (fun j => pa (10 + j)) Hs2] _ _ _
    refine g_iload_n (pc' := 42) C dX5_takeOff_41 rfl rfl ?_
    obtain ⟨rfl, rfl, rfl⟩ := pj3 (Option.some.inj h)
    exact g_iret C dX5_takeOff_42
set_option maxRecDepth 100000 in
set_option maxHeartbeats 4000000 in
theorem c_X5_takeOff (l : Launch) (D : va_G) (cA : Nat → ClassId) (pa : Nat → Nat → Nat) (N : Nat) (Tn : tS) (B : tS) (Hs : tH) (p0 : Int32) (r : Int32) (Bz : tS) (Hsz : tH) (h : f_X5_takeOff N Tn B Hs p0 = some (r, Bz, Hsz)) : MI l D cA yX5_takeOff wsX5_takeOff 3 69 [.ref (pa 0 0), .int p0] [ntW pa Tn, bdW cA (pa 1) B, hsW cA (pa 2) (fun j => pa (10 + j)) Hs] r [ntW pa Tn, bdW cA (pa 1) Bz, hsW cA (pa 2) (fun j => pa (10 + j)) Hsz] := MI_of (cc := cX5_takeOff) (maxL := 3) (rt := some .int) (by decide +kernel) rfl (List.forall_mem_cons.mpr ⟨rfl, List.forall_mem_cons.mpr ⟨rfl, List.forall_mem_nil _⟩⟩) (Nat.le_of_ble_eq_true rfl) (fun X e1 e2 e3 C => by subst e1; subst e2; subst e3; exact B_X5_takeOff C pa N Tn B Hs p0 r Bz Hsz h)
set_option maxRecDepth 100000 in
set_option maxHeartbeats 4000000 in
theorem nd_X5_takeOff : nd yX5_takeOff 1 := ⟨by decide +kernel, by decide +kernel, by decide +kernel⟩
set_option maxRecDepth 100000 in
set_option maxHeartbeats 4000000 in
theorem k_X5_takeOff {X : gX} {own : String} {cc : ByteArray} {nL : Nat} {ret : Option FieldType} {Ts : List Cond} {fr lm : Nat} {Q : State → Prop} {ms : List va_W} {L : List (Option Value)} {st : List Value} {pc pc' idx : Nat} {ρ : Type} {T : Int32 → tS → tH → Option ρ} {res : ρ} (C : cx X own cc nL ret Ts fr lm) (pa : Nat → Nat → Nat) (N : Nat) (Tn : tS) (B : tS) (Hs : tH) (p0 : Int32) (is : List Nat) (hC : is.map (fun i => ms[i]?) = [some (ntW pa Tn), some (bdW (gcA X) (pa 1) B), some (hsW (gcA X) (pa 2) (fun j => pa (10 + j)) Hs)]) (hn : is.Nodup) (hG : GoodIn Ts (wsV own idx RX5 yX5_takeOff wsX5_takeOff)) (hR : 3 + 1 ≤ fr ∧ 8 + (3 + 11) + 69 ≤ lm) (hst : (st.map fun v => v.category).sum ≤ 8) (hLn : L.length = nL) (d : decode cc pc = .ok (.invokevirtual idx, 3)) (hp : pc + 3 = pc') (h : bd3 (f_X5_takeOff N Tn B Hs p0) T = some res) (kk : ∀ (r : Int32) (Bz : tS) (Hsz : tH), T r Bz Hsz = some res → G X Q (rpl ms is [ntW pa Tn, bdW (gcA X) (pa 1) Bz, hsW (gcA X) (pa 2) (fun j => pa (10 + j)) Hsz]) L (.int r :: st) pc') : G X Q ms L (.int p0 :: .ref (pa 0 0) :: st) pc := by
  obtain ⟨r, Bz, Hsz, h1, h⟩ := ob3 h
  exact G_callVI C (As := [.int p0]) (c_X5_takeOff (gl X) (gD X) (gcA X) pa N Tn B Hs p0 r Bz Hsz h1) hG rfl nd_X5_takeOff hR (q0 := 0) rfl rfl hC hn rfl rfl hst hLn d hp (kk r Bz Hsz h)
theorem hi_X5_findHeaps_X0 : ∀ w ∈ wsX00, w ∈ wsX5_findHeaps := fun w h => List.mem_cons_of_mem _ (List.mem_append_left _ (List.mem_append_right _ h))
theorem hi_X5_findHeaps_X5 : ∀ w ∈ wsX50, w ∈ wsX5_findHeaps := fun w h => List.mem_cons_of_mem _ (List.mem_append_left _ (List.mem_append_left _ (List.mem_append_right _ h)))
theorem lk_X5_findHeaps_1 : Cond.fieldLink RX5 44 "NoteThemes" "heapsNow" "LNoteThemes$Heaps;" ∈ wsX5_findHeaps := List.mem_of_getElem? (i := 1) rfl
theorem lk_X5_findHeaps_2 : Cond.fieldLink RX5 10 "NoteThemes" "board" "LNoteThemes$Board;" ∈ wsX5_findHeaps := List.mem_of_getElem? (i := 2) rfl
theorem lk_X5_findHeaps_3 : Cond.fieldLink RX5 200 "NoteThemes$Board" "settings" "[I" ∈ wsX5_findHeaps := List.mem_of_getElem? (i := 3) rfl
def f_X5_findHeaps (N : Nat) (Tn : tS) (B : tS) (E : tS)  : Option (Int32 × tS) := (bd2 (f_X2_find N E B (B 7 (0 : Int32).toNatClampNeg)) (fun r1 E1 => some (r1, E1)))
set_option maxRecDepth 100000 in
set_option maxHeartbeats 4000000 in
theorem B_X5_findHeaps {X : gX} (C : cx X RX5 cX5_findHeaps 1 (some .int) wsX5_findHeaps 3 70) (pa : Nat → Nat → Nat) (N : Nat) (Tn : tS) (B : tS) (E : tS)  (r : Int32) (Ez : tS) (h : f_X5_findHeaps N Tn B E = some (r, Ez)) : G X (QI X r [ntW pa Tn, bdW (gcA X) (pa 1) B, heW (gcA X) (pa 6) Ez]) [ntW pa Tn, bdW (gcA X) (pa 1) B, heW (gcA X) (pa 6) E] [some (.ref (pa 0 0))] [] 0 := by
  unfold f_X5_findHeaps at h
  refine g_aload_n (pc' := 1) C dX5_findHeaps_0 rfl rfl ?_
  refine gg_X5_7 (pc' := 4) (i := 0) C rfl hi_X5_findHeaps_X5 lk_X5_findHeaps_1 dX5_findHeaps_1 rfl ?_
  refine g_aload_n (pc' := 5) C dX5_findHeaps_4 rfl rfl ?_
  refine gg_X5_0 (pc' := 8) (i := 0) C rfl hi_X5_findHeaps_X5 lk_X5_findHeaps_2 dX5_findHeaps_5 rfl ?_
  refine g_aload_n (pc' := 9) C dX5_findHeaps_8 rfl rfl ?_
  refine gg_X5_0 (pc' := 12) (i := 0) C rfl hi_X5_findHeaps_X5 lk_X5_findHeaps_2 dX5_findHeaps_9 rfl ?_
  refine gg_X0_7 (pc' := 15) (i := 1) C rfl hi_X5_findHeaps_X0 lk_X5_findHeaps_3 dX5_findHeaps_12 rfl ?_
  refine g_iconst (pc' := 16) (v := 0) C dX5_findHeaps_15 (by decide) rfl ?_
  refine g_iald0 (pc' := 17) (i := 1) (j := 6) C rfl rfl dX5_findHeaps_16 rfl (by unfold vp_in; decide) ?_
  refine k_X2_find (pc' := 20) C (pa 6) (pa 1) N E B (B 7 (0 : Int32).toNatClampNeg) [2, 1] rfl (by decide) gX5_findHeaps_X2_find ⟨Nat.le_of_ble_eq_true rfl, Nat.le_of_ble_eq_true rfl⟩ (Nat.le_of_ble_eq_true rfl) rfl dX5_findHeaps_17 rfl h (fun r1 E1 h => ?_)
  show G X _ [ntW pa Tn, bdW (gcA X) (pa 1) B, heW (gcA X) (pa 6) E1] _ _ _
  obtain ⟨rfl, rfl⟩ := pj2 (Option.some.inj h)
  exact g_iret C dX5_findHeaps_20
set_option maxRecDepth 100000 in
set_option maxHeartbeats 4000000 in
theorem c_X5_findHeaps (l : Launch) (D : va_G) (cA : Nat → ClassId) (pa : Nat → Nat → Nat) (N : Nat) (Tn : tS) (B : tS) (E : tS)  (r : Int32) (Ez : tS) (h : f_X5_findHeaps N Tn B E = some (r, Ez)) : MI l D cA yX5_findHeaps wsX5_findHeaps 3 70 [.ref (pa 0 0)] [ntW pa Tn, bdW cA (pa 1) B, heW cA (pa 6) E] r [ntW pa Tn, bdW cA (pa 1) B, heW cA (pa 6) Ez] := MI_of (cc := cX5_findHeaps) (maxL := 1) (rt := some .int) (by decide +kernel) rfl (List.forall_mem_cons.mpr ⟨rfl, List.forall_mem_nil _⟩) (Nat.le_of_ble_eq_true rfl) (fun X e1 e2 e3 C => by subst e1; subst e2; subst e3; exact B_X5_findHeaps C pa N Tn B E r Ez h)
set_option maxRecDepth 100000 in
set_option maxHeartbeats 4000000 in
theorem nd_X5_findHeaps : nd yX5_findHeaps 0 := ⟨by decide +kernel, by decide +kernel, by decide +kernel⟩
set_option maxRecDepth 100000 in
set_option maxHeartbeats 4000000 in
theorem k_X5_findHeaps {X : gX} {own : String} {cc : ByteArray} {nL : Nat} {ret : Option FieldType} {Ts : List Cond} {fr lm : Nat} {Q : State → Prop} {ms : List va_W} {L : List (Option Value)} {st : List Value} {pc pc' idx : Nat} {ρ : Type} {T : Int32 → tS → Option ρ} {res : ρ} (C : cx X own cc nL ret Ts fr lm) (pa : Nat → Nat → Nat) (N : Nat) (Tn : tS) (B : tS) (E : tS)  (is : List Nat) (hC : is.map (fun i => ms[i]?) = [some (ntW pa Tn), some (bdW (gcA X) (pa 1) B), some (heW (gcA X) (pa 6) E)]) (hn : is.Nodup) (hG : GoodIn Ts (wsV own idx RX5 yX5_findHeaps wsX5_findHeaps)) (hR : 3 + 1 ≤ fr ∧ 8 + (1 + 11) + 70 ≤ lm) (hst : (st.map fun v => v.category).sum ≤ 8) (hLn : L.length = nL) (d : decode cc pc = .ok (.invokevirtual idx, 3)) (hp : pc + 3 = pc') (h : bd2 (f_X5_findHeaps N Tn B E) T = some res) (kk : ∀ (r : Int32) (Ez : tS), T r Ez = some res → G X Q (rpl ms is [ntW pa Tn, bdW (gcA X) (pa 1) B, heW (gcA X) (pa 6) Ez]) L (.int r :: st) pc') : G X Q ms L (.ref (pa 0 0) :: st) pc := by
  obtain ⟨r, Ez, h1, h⟩ := ob2 h
  exact G_callVI C (As := []) (c_X5_findHeaps (gl X) (gD X) (gcA X) pa N Tn B E r Ez h1) hG rfl nd_X5_findHeaps hR (q0 := 0) rfl rfl hC hn rfl rfl hst hLn d hp (kk r Ez h)
theorem hi_X5_drag_X0 : ∀ w ∈ wsX00, w ∈ wsX5_drag := fun w h => List.mem_cons_of_mem _ (List.mem_append_left _ (List.mem_append_left _ (List.mem_append_right _ h)))
theorem hi_X5_drag_X5 : ∀ w ∈ wsX50, w ∈ wsX5_drag := fun w h => List.mem_cons_of_mem _ (List.mem_append_left _ (List.mem_append_left _ (List.mem_append_left _ (List.mem_append_right _ h))))
theorem lk_X5_drag_1 : Cond.fieldLink RX5 10 "NoteThemes" "board" "LNoteThemes$Board;" ∈ wsX5_drag := List.mem_of_getElem? (i := 1) rfl
theorem lk_X5_drag_2 : Cond.fieldLink RX5 106 "NoteThemes$Board" "columnOf" "[I" ∈ wsX5_drag := List.mem_of_getElem? (i := 2) rfl
theorem lk_X5_drag_3 : Cond.fieldLink RX5 110 "NoteThemes$Board" "rowOf" "[I" ∈ wsX5_drag := List.mem_of_getElem? (i := 3) rfl
theorem lk_X5_drag_4 : Cond.fieldLink RX5 19 "NoteThemes" "history" "LNoteThemes$History;" ∈ wsX5_drag := List.mem_of_getElem? (i := 4) rfl
def f_X5_drag_50 (N : Nat) (Tn : tS) (p0 : Int32) (p1 : Int32) (p2 : Int32)  (B : tS) (Hs : tH) (E : tS) : Option (Int32 × tS × tH × tS) := (bd (f_X3_remember N Hs B) (fun Hs1 => (bd (f_X0_moveNote N B p0 p1 p2) (fun B2 => (bd2 (f_X5_findHeaps N Tn B2 E) (fun r3 E3 => some (r3, B2, Hs1, E3)))))))
set_option maxRecDepth 100000 in
set_option maxHeartbeats 4000000 in
theorem B_X5_drag_50 {X : gX} (C : cx X RX5 cX5_drag 4 (some .int) wsX5_drag 4 90) (pa : Nat → Nat → Nat) (N : Nat) (Tn : tS) (p0 : Int32) (p1 : Int32) (p2 : Int32) (r : Int32) (Bz : tS) (Hsz : tH) (Ez : tS)  (B : tS) (Hs : tH) (E : tS) (h : f_X5_drag_50 N Tn p0 p1 p2  B Hs E = some (r, Bz, Hsz, Ez)) : G X (QI X r [ntW pa Tn, bdW (gcA X) (pa 1) Bz, hsW (gcA X) (pa 2) (fun j => pa (10 + j)) Hsz, heW (gcA X) (pa 6) Ez]) [ntW pa Tn, bdW (gcA X) (pa 1) B, hsW (gcA X) (pa 2) (fun j => pa (10 + j)) Hs, heW (gcA X) (pa 6) E] [some (.ref (pa 0 0)), some (.int p0), some (.int p1), some (.int p2)] [] 50 := by
  unfold f_X5_drag_50 at h
  refine g_aload_n (pc' := 51) C dX5_drag_50 rfl rfl ?_
  refine gg_X5_1 (pc' := 54) (i := 0) C rfl hi_X5_drag_X5 lk_X5_drag_4 dX5_drag_51 rfl ?_
  refine g_aload_n (pc' := 55) C dX5_drag_54 rfl rfl ?_
  refine gg_X5_0 (pc' := 58) (i := 0) C rfl hi_X5_drag_X5 lk_X5_drag_1 dX5_drag_55 rfl ?_
  refine k_X3_remember (pc' := 61) C (pa 2) (pa 1) (fun j => pa (10 + j)) N Hs B [2, 1] rfl (by decide) gX5_drag_X3_remember ⟨Nat.le_of_ble_eq_true rfl, Nat.le_of_ble_eq_true rfl⟩ (Nat.le_of_ble_eq_true rfl) rfl dX5_drag_58 rfl h (fun Hs1 h => ?_)
  show G X _ [ntW pa Tn, bdW (gcA X) (pa 1) B, hsW (gcA X) (pa 2) (fun j => pa (10 + j)) Hs1, heW (gcA X) (pa 6) E] _ _ _
  refine g_aload_n (pc' := 62) C dX5_drag_61 rfl rfl ?_
  refine gg_X5_0 (pc' := 65) (i := 0) C rfl hi_X5_drag_X5 lk_X5_drag_1 dX5_drag_62 rfl ?_
  refine g_iload_n (pc' := 66) C dX5_drag_65 rfl rfl ?_
  refine g_iload_n (pc' := 67) C dX5_drag_66 rfl rfl ?_
  refine g_iload_n (pc' := 68) C dX5_drag_67 rfl rfl ?_
  refine k_X0_moveNote (pc' := 71) C (pa 1) N B p0 p1 p2 [1] rfl (by decide) gX5_drag_X0_moveNote ⟨Nat.le_of_ble_eq_true rfl, Nat.le_of_ble_eq_true rfl⟩ (Nat.le_of_ble_eq_true rfl) rfl dX5_drag_68 rfl h (fun B2 h => ?_)
  show G X _ [ntW pa Tn, bdW (gcA X) (pa 1) B2, hsW (gcA X) (pa 2) (fun j => pa (10 + j)) Hs1, heW (gcA X) (pa 6) E] _ _ _
  refine g_aload_n (pc' := 72) C dX5_drag_71 rfl rfl ?_
  refine k_X5_findHeaps (pc' := 75) C pa N Tn B2 E [0, 1, 3] rfl (by decide) gX5_drag_X5_findHeaps ⟨Nat.le_of_ble_eq_true rfl, Nat.le_of_ble_eq_true rfl⟩ (Nat.le_of_ble_eq_true rfl) rfl dX5_drag_72 rfl h (fun r3 E3 h => ?_)
  show G X _ [ntW pa Tn, bdW (gcA X) (pa 1) B2, hsW (gcA X) (pa 2) (fun j => pa (10 + j)) Hs1, heW (gcA X) (pa 6) E3] _ _ _
  obtain ⟨rfl, rfl, rfl, rfl⟩ := pj4 (Option.some.inj h)
  exact g_iret C dX5_drag_75
def f_X5_drag (N : Nat) (Tn : tS) (B : tS) (Hs : tH) (E : tS) (p0 : Int32) (p1 : Int32) (p2 : Int32) : Option (Int32 × tS × tH × tS) := (bd (f_X0_hasNote N B p0) (fun r1 => (if r1 = 0 then some ((-1 : Int32), B, Hs, E) else (bd (f_X5_isPlace N p1 p2) (fun r2 => (if r2 = 0 then some ((-1 : Int32), B, Hs, E) else (if p0 < 0 ∨ 20 ≤ p0.toNatClampNeg then none else (if (B 1 p0.toNatClampNeg) = p1 then (if p0 < 0 ∨ 20 ≤ p0.toNatClampNeg then none else (if (B 2 p0.toNatClampNeg) = p2 then some ((-5 : Int32), B, Hs, E) else f_X5_drag_50 N Tn p0 p1 p2 B Hs E)) else f_X5_drag_50 N Tn p0 p1 p2 B Hs E))))))))
set_option maxRecDepth 100000 in
set_option maxHeartbeats 4000000 in
theorem B_X5_drag {X : gX} (C : cx X RX5 cX5_drag 4 (some .int) wsX5_drag 4 90) (pa : Nat → Nat → Nat) (N : Nat) (Tn : tS) (B : tS) (Hs : tH) (E : tS) (p0 : Int32) (p1 : Int32) (p2 : Int32) (r : Int32) (Bz : tS) (Hsz : tH) (Ez : tS) (h : f_X5_drag N Tn B Hs E p0 p1 p2 = some (r, Bz, Hsz, Ez)) : G X (QI X r [ntW pa Tn, bdW (gcA X) (pa 1) Bz, hsW (gcA X) (pa 2) (fun j => pa (10 + j)) Hsz, heW (gcA X) (pa 6) Ez]) [ntW pa Tn, bdW (gcA X) (pa 1) B, hsW (gcA X) (pa 2) (fun j => pa (10 + j)) Hs, heW (gcA X) (pa 6) E] [some (.ref (pa 0 0)), some (.int p0), some (.int p1), some (.int p2)] [] 0 := by
  unfold f_X5_drag at h
  refine g_aload_n (pc' := 1) C dX5_drag_0 rfl rfl ?_
  refine gg_X5_0 (pc' := 4) (i := 0) C rfl hi_X5_drag_X5 lk_X5_drag_1 dX5_drag_1 rfl ?_
  refine g_iload_n (pc' := 5) C dX5_drag_4 rfl rfl ?_
  refine k_X0_hasNote (pc' := 8) C (pa 1) N B p0 [1] rfl (by decide) gX5_drag_X0_hasNote ⟨Nat.le_of_ble_eq_true rfl, Nat.le_of_ble_eq_true rfl⟩ (Nat.le_of_ble_eq_true rfl) rfl dX5_drag_5 rfl h (fun r1 h => ?_)
  refine g_if_eq (pc' := 11) (tgt := 19) C dX5_drag_8 (by decide) rfl h (fun c h => ?_) (fun c h => ?_)
  · refine g_iconst (pc' := 20) (v := -1) C dX5_drag_19 (by decide) rfl ?_
    obtain ⟨rfl, rfl, rfl, rfl⟩ := pj4 (Option.some.inj h)
    exact g_iret C dX5_drag_20
  · refine g_iload_n (pc' := 12) C dX5_drag_11 rfl rfl ?_
    refine g_iload_n (pc' := 13) C dX5_drag_12 rfl rfl ?_
    refine k_X5_isPlace (pc' := 16) C N p1 p2 [] rfl (by decide) gX5_drag_X5_isPlace ⟨Nat.le_of_ble_eq_true rfl, Nat.le_of_ble_eq_true rfl⟩ (Nat.le_of_ble_eq_true rfl) rfl dX5_drag_13 rfl h (fun r2 h => ?_)
    refine g_if_ne (pc' := 19) (tgt := 21) C dX5_drag_16 (by decide) rfl h (fun c h => ?_) (fun c h => ?_)
    · refine g_iconst (pc' := 20) (v := -1) C dX5_drag_19 (by decide) rfl ?_
      obtain ⟨rfl, rfl, rfl, rfl⟩ := pj4 (Option.some.inj h)
      exact g_iret C dX5_drag_20
    · refine g_aload_n (pc' := 22) C dX5_drag_21 rfl rfl ?_
      refine gg_X5_0 (pc' := 25) (i := 0) C rfl hi_X5_drag_X5 lk_X5_drag_1 dX5_drag_22 rfl ?_
      refine gg_X0_1 (pc' := 28) (i := 1) C rfl hi_X5_drag_X0 lk_X5_drag_2 dX5_drag_25 rfl ?_
      refine g_iload_n (pc' := 29) C dX5_drag_28 rfl rfl ?_
      refine g_iald (pc' := 30) (i := 1) (j := 1) C rfl rfl dX5_drag_29 rfl h (fun h => ?_)
      refine g_iload_n (pc' := 31) C dX5_drag_30 rfl rfl ?_
      refine g_icmp_ne (pc' := 34) (tgt := 50) C dX5_drag_31 (by decide) rfl h (fun c h => ?_) (fun c h => ?_)
      · refine g_aload_n (pc' := 35) C dX5_drag_34 rfl rfl ?_
        refine gg_X5_0 (pc' := 38) (i := 0) C rfl hi_X5_drag_X5 lk_X5_drag_1 dX5_drag_35 rfl ?_
        refine gg_X0_2 (pc' := 41) (i := 1) C rfl hi_X5_drag_X0 lk_X5_drag_3 dX5_drag_38 rfl ?_
        refine g_iload_n (pc' := 42) C dX5_drag_41 rfl rfl ?_
        refine g_iald (pc' := 43) (i := 1) (j := 2) C rfl rfl dX5_drag_42 rfl h (fun h => ?_)
        refine g_iload_n (pc' := 44) C dX5_drag_43 rfl rfl ?_
        refine g_icmp_ne (pc' := 47) (tgt := 50) C dX5_drag_44 (by decide) rfl h (fun c h => ?_) (fun c h => ?_)
        · refine g_bipush (pc' := 49) (v := -5) C dX5_drag_47 (by decide) rfl ?_
          obtain ⟨rfl, rfl, rfl, rfl⟩ := pj4 (Option.some.inj h)
          exact g_iret C dX5_drag_49
        · exact G_loc (lle_s (lle_s (lle_s (lle_s lle_0)))) (B_X5_drag_50 C pa N Tn p0 p1 p2 r Bz Hsz Ez B Hs E h)
      · exact G_loc (lle_s (lle_s (lle_s (lle_s lle_0)))) (B_X5_drag_50 C pa N Tn p0 p1 p2 r Bz Hsz Ez B Hs E h)
set_option maxRecDepth 100000 in
set_option maxHeartbeats 4000000 in
theorem c_X5_drag (l : Launch) (D : va_G) (cA : Nat → ClassId) (pa : Nat → Nat → Nat) (N : Nat) (Tn : tS) (B : tS) (Hs : tH) (E : tS) (p0 : Int32) (p1 : Int32) (p2 : Int32) (r : Int32) (Bz : tS) (Hsz : tH) (Ez : tS) (h : f_X5_drag N Tn B Hs E p0 p1 p2 = some (r, Bz, Hsz, Ez)) : MI l D cA yX5_drag wsX5_drag 4 90 [.ref (pa 0 0), .int p0, .int p1, .int p2] [ntW pa Tn, bdW cA (pa 1) B, hsW cA (pa 2) (fun j => pa (10 + j)) Hs, heW cA (pa 6) E] r [ntW pa Tn, bdW cA (pa 1) Bz, hsW cA (pa 2) (fun j => pa (10 + j)) Hsz, heW cA (pa 6) Ez] := MI_of (cc := cX5_drag) (maxL := 4) (rt := some .int) (by decide +kernel) rfl (List.forall_mem_cons.mpr ⟨rfl, List.forall_mem_cons.mpr ⟨rfl, List.forall_mem_cons.mpr ⟨rfl, List.forall_mem_cons.mpr ⟨rfl, List.forall_mem_nil _⟩⟩⟩⟩) (Nat.le_of_ble_eq_true rfl) (fun X e1 e2 e3 C => by subst e1; subst e2; subst e3; exact B_X5_drag C pa N Tn B Hs E p0 p1 p2 r Bz Hsz Ez h)
set_option maxRecDepth 100000 in
set_option maxHeartbeats 4000000 in
theorem nd_X5_drag : nd yX5_drag 3 := ⟨by decide +kernel, by decide +kernel, by decide +kernel⟩
set_option maxRecDepth 100000 in
set_option maxHeartbeats 4000000 in
theorem k_X5_drag {X : gX} {own : String} {cc : ByteArray} {nL : Nat} {ret : Option FieldType} {Ts : List Cond} {fr lm : Nat} {Q : State → Prop} {ms : List va_W} {L : List (Option Value)} {st : List Value} {pc pc' idx : Nat} {ρ : Type} {T : Int32 → tS → tH → tS → Option ρ} {res : ρ} (C : cx X own cc nL ret Ts fr lm) (pa : Nat → Nat → Nat) (N : Nat) (Tn : tS) (B : tS) (Hs : tH) (E : tS) (p0 : Int32) (p1 : Int32) (p2 : Int32) (is : List Nat) (hC : is.map (fun i => ms[i]?) = [some (ntW pa Tn), some (bdW (gcA X) (pa 1) B), some (hsW (gcA X) (pa 2) (fun j => pa (10 + j)) Hs), some (heW (gcA X) (pa 6) E)]) (hn : is.Nodup) (hG : GoodIn Ts (wsV own idx RX5 yX5_drag wsX5_drag)) (hR : 4 + 1 ≤ fr ∧ 8 + (4 + 11) + 90 ≤ lm) (hst : (st.map fun v => v.category).sum ≤ 8) (hLn : L.length = nL) (d : decode cc pc = .ok (.invokevirtual idx, 3)) (hp : pc + 3 = pc') (h : bd4 (f_X5_drag N Tn B Hs E p0 p1 p2) T = some res) (kk : ∀ (r : Int32) (Bz : tS) (Hsz : tH) (Ez : tS), T r Bz Hsz Ez = some res → G X Q (rpl ms is [ntW pa Tn, bdW (gcA X) (pa 1) Bz, hsW (gcA X) (pa 2) (fun j => pa (10 + j)) Hsz, heW (gcA X) (pa 6) Ez]) L (.int r :: st) pc') : G X Q ms L (.int p2 :: .int p1 :: .int p0 :: .ref (pa 0 0) :: st) pc := by
  obtain ⟨r, Bz, Hsz, Ez, h1, h⟩ := ob4 h
  exact G_callVI C (As := [.int p0, .int p1, .int p2]) (c_X5_drag (gl X) (gD X) (gcA X) pa N Tn B Hs E p0 p1 p2 r Bz Hsz Ez h1) hG rfl nd_X5_drag hR (q0 := 0) rfl rfl hC hn rfl rfl hst hLn d hp (kk r Bz Hsz Ez h)
theorem hi_X5_staysOnBoard_X0 : ∀ w ∈ wsX00, w ∈ wsX5_staysOnBoard := fun w h => List.mem_cons_of_mem _ (List.mem_append_left _ (List.mem_append_right _ h))
theorem hi_X5_staysOnBoard_X2 : ∀ w ∈ wsX20, w ∈ wsX5_staysOnBoard := fun w h => List.mem_cons_of_mem _ (List.mem_append_right _ h)
theorem hi_X5_staysOnBoard_X5 : ∀ w ∈ wsX50, w ∈ wsX5_staysOnBoard := fun w h => List.mem_cons_of_mem _ (List.mem_append_left _ (List.mem_append_left _ (List.mem_append_right _ h)))
theorem lk_X5_staysOnBoard_1 : Cond.fieldLink RX5 10 "NoteThemes" "board" "LNoteThemes$Board;" ∈ wsX5_staysOnBoard := List.mem_of_getElem? (i := 1) rfl
theorem lk_X5_staysOnBoard_2 : Cond.fieldLink RX5 71 "NoteThemes$Board" "notes" "I" ∈ wsX5_staysOnBoard := List.mem_of_getElem? (i := 2) rfl
theorem lk_X5_staysOnBoard_3 : Cond.fieldLink RX5 44 "NoteThemes" "heapsNow" "LNoteThemes$Heaps;" ∈ wsX5_staysOnBoard := List.mem_of_getElem? (i := 3) rfl
theorem lk_X5_staysOnBoard_4 : Cond.fieldLink RX5 160 "NoteThemes$Heaps" "heapOf" "[I" ∈ wsX5_staysOnBoard := List.mem_of_getElem? (i := 4) rfl
theorem lk_X5_staysOnBoard_5 : Cond.fieldLink RX5 106 "NoteThemes$Board" "columnOf" "[I" ∈ wsX5_staysOnBoard := List.mem_of_getElem? (i := 5) rfl
theorem lk_X5_staysOnBoard_6 : Cond.fieldLink RX5 110 "NoteThemes$Board" "rowOf" "[I" ∈ wsX5_staysOnBoard := List.mem_of_getElem? (i := 6) rfl
def f_X5_staysOnBoard_61 (N : Nat) (Tn : tS) (B : tS) (E : tS) (p0 : Int32) (p1 : Int32) (p2 : Int32) (k3 : Int32 → Option (Int32)) (x4 : Int32) : Option (Int32) := k3 (x4 + 1)
set_option maxRecDepth 100000 in
set_option maxHeartbeats 4000000 in
theorem B_X5_staysOnBoard_61 {X : gX} (C : cx X RX5 cX5_staysOnBoard 5 (some .boolean) wsX5_staysOnBoard 2 43) (pa : Nat → Nat → Nat) (N : Nat) (Tn : tS) (B : tS) (E : tS) (p0 : Int32) (p1 : Int32) (p2 : Int32) (r : Int32) (k3 : Int32 → Option (Int32)) (hk3 : ∀ (x4 : Int32), k3 x4 = some r → G X (QI X r [ntW pa Tn, bdW (gcA X) (pa 1) B, heW (gcA X) (pa 6) E]) [ntW pa Tn, bdW (gcA X) (pa 1) B, heW (gcA X) (pa 6) E] [some (.ref (pa 0 0)), some (.int p0), some (.int p1), some (.int p2), some (.int x4)] [] 3) (x4 : Int32) (h : f_X5_staysOnBoard_61 N Tn B E p0 p1 p2 k3 x4 = some r) : G X (QI X r [ntW pa Tn, bdW (gcA X) (pa 1) B, heW (gcA X) (pa 6) E]) [ntW pa Tn, bdW (gcA X) (pa 1) B, heW (gcA X) (pa 6) E] [some (.ref (pa 0 0)), some (.int p0), some (.int p1), some (.int p2), some (.int x4)] [] 61 := by
  unfold f_X5_staysOnBoard_61 at h
  refine g_iinc (pc' := 64) (v := (x4 + 1)) C dX5_staysOnBoard_61 rfl rfl rfl (L' := [some (.ref (pa 0 0)), some (.int p0), some (.int p1), some (.int p2), some (.int (x4 + 1))]) rfl ?_
  refine g_goto (pc' := 3) C dX5_staysOnBoard_64 (by decide) ?_
  exact G_loc (lle_s (lle_s (lle_s (lle_s (lle_s lle_0))))) (hk3 (x4 + 1) h)
def f_X5_staysOnBoard_3b (N : Nat) (Tn : tS) (B : tS) (E : tS) (p0 : Int32) (p1 : Int32) (p2 : Int32)  (k3 : Int32 → Option (Int32)) (x4 : Int32) : Option (Int32) := (if (B 0 0) ≤ x4 then some (1 : Int32) else (if x4 < 0 ∨ 20 ≤ x4.toNatClampNeg then none else (if (E 2 x4.toNatClampNeg) = p0 then (if x4 < 0 ∨ 20 ≤ x4.toNatClampNeg then none else (if x4 < 0 ∨ 20 ≤ x4.toNatClampNeg then none else (bd (f_X5_isPlace N ((B 1 x4.toNatClampNeg) + p1) ((B 2 x4.toNatClampNeg) + p2)) (fun r1 => (if r1 = 0 then some (0 : Int32) else f_X5_staysOnBoard_61 N Tn B E p0 p1 p2 k3 x4))))) else f_X5_staysOnBoard_61 N Tn B E p0 p1 p2 k3 x4)))
def f_X5_staysOnBoard_3 (N : Nat) (Tn : tS) (B : tS) (E : tS) (p0 : Int32) (p1 : Int32) (p2 : Int32)  : Nat → Int32 → Option (Int32)
  | 0 => fun _ => none
  | n + 1 => f_X5_staysOnBoard_3b N Tn B E p0 p1 p2  (f_X5_staysOnBoard_3 N Tn B E p0 p1 p2  n)
set_option maxRecDepth 100000 in
set_option maxHeartbeats 4000000 in
theorem B_X5_staysOnBoard_3b {X : gX} (C : cx X RX5 cX5_staysOnBoard 5 (some .boolean) wsX5_staysOnBoard 2 43) (pa : Nat → Nat → Nat) (N : Nat) (Tn : tS) (B : tS) (E : tS) (p0 : Int32) (p1 : Int32) (p2 : Int32) (r : Int32)  (k3 : Int32 → Option (Int32)) (hk3 : ∀ (x4 : Int32), k3 x4 = some r → G X (QI X r [ntW pa Tn, bdW (gcA X) (pa 1) B, heW (gcA X) (pa 6) E]) [ntW pa Tn, bdW (gcA X) (pa 1) B, heW (gcA X) (pa 6) E] [some (.ref (pa 0 0)), some (.int p0), some (.int p1), some (.int p2), some (.int x4)] [] 3) (x4 : Int32) (h : f_X5_staysOnBoard_3b N Tn B E p0 p1 p2  k3 x4 = some r) : G X (QI X r [ntW pa Tn, bdW (gcA X) (pa 1) B, heW (gcA X) (pa 6) E]) [ntW pa Tn, bdW (gcA X) (pa 1) B, heW (gcA X) (pa 6) E] [some (.ref (pa 0 0)), some (.int p0), some (.int p1), some (.int p2), some (.int x4)] [] 3 := by
  unfold f_X5_staysOnBoard_3b at h
  refine g_iload (pc' := 5) C dX5_staysOnBoard_3 rfl rfl ?_
  refine g_aload_n (pc' := 6) C dX5_staysOnBoard_5 rfl rfl ?_
  refine gg_X5_0 (pc' := 9) (i := 0) C rfl hi_X5_staysOnBoard_X5 lk_X5_staysOnBoard_1 dX5_staysOnBoard_6 rfl ?_
  refine gg_X0_0 (pc' := 12) (i := 1) C rfl hi_X5_staysOnBoard_X0 lk_X5_staysOnBoard_2 dX5_staysOnBoard_9 rfl ?_
  refine g_icmp_ge (pc' := 15) (tgt := 67) C dX5_staysOnBoard_12 (by decide) rfl h (fun c h => ?_) (fun c h => ?_)
  · refine g_iconst (pc' := 68) (v := 1) C dX5_staysOnBoard_67 (by decide) rfl ?_
    obtain rfl := Option.some.inj h
    exact g_zret0 C rfl dX5_staysOnBoard_68
  · refine g_aload_n (pc' := 16) C dX5_staysOnBoard_15 rfl rfl ?_
    refine gg_X5_7 (pc' := 19) (i := 0) C rfl hi_X5_staysOnBoard_X5 lk_X5_staysOnBoard_3 dX5_staysOnBoard_16 rfl ?_
    refine gg_X2_2 (pc' := 22) (i := 2) C rfl hi_X5_staysOnBoard_X2 lk_X5_staysOnBoard_4 dX5_staysOnBoard_19 rfl ?_
    refine g_iload (pc' := 24) C dX5_staysOnBoard_22 rfl rfl ?_
    refine g_iald (pc' := 25) (i := 2) (j := 1) C rfl rfl dX5_staysOnBoard_24 rfl h (fun h => ?_)
    refine g_iload_n (pc' := 26) C dX5_staysOnBoard_25 rfl rfl ?_
    refine g_icmp_ne (pc' := 29) (tgt := 61) C dX5_staysOnBoard_26 (by decide) rfl h (fun c h => ?_) (fun c h => ?_)
    · refine g_aload_n (pc' := 30) C dX5_staysOnBoard_29 rfl rfl ?_
      refine gg_X5_0 (pc' := 33) (i := 0) C rfl hi_X5_staysOnBoard_X5 lk_X5_staysOnBoard_1 dX5_staysOnBoard_30 rfl ?_
      refine gg_X0_1 (pc' := 36) (i := 1) C rfl hi_X5_staysOnBoard_X0 lk_X5_staysOnBoard_5 dX5_staysOnBoard_33 rfl ?_
      refine g_iload (pc' := 38) C dX5_staysOnBoard_36 rfl rfl ?_
      refine g_iald (pc' := 39) (i := 1) (j := 1) C rfl rfl dX5_staysOnBoard_38 rfl h (fun h => ?_)
      refine g_iload_n (pc' := 40) C dX5_staysOnBoard_39 rfl rfl ?_
      refine g_iadd (pc' := 41) C dX5_staysOnBoard_40 rfl ?_
      refine g_aload_n (pc' := 42) C dX5_staysOnBoard_41 rfl rfl ?_
      refine gg_X5_0 (pc' := 45) (i := 0) C rfl hi_X5_staysOnBoard_X5 lk_X5_staysOnBoard_1 dX5_staysOnBoard_42 rfl ?_
      refine gg_X0_2 (pc' := 48) (i := 1) C rfl hi_X5_staysOnBoard_X0 lk_X5_staysOnBoard_6 dX5_staysOnBoard_45 rfl ?_
      refine g_iload (pc' := 50) C dX5_staysOnBoard_48 rfl rfl ?_
      refine g_iald (pc' := 51) (i := 1) (j := 2) C rfl rfl dX5_staysOnBoard_50 rfl h (fun h => ?_)
      refine g_iload_n (pc' := 52) C dX5_staysOnBoard_51 rfl rfl ?_
      refine g_iadd (pc' := 53) C dX5_staysOnBoard_52 rfl ?_
      refine k_X5_isPlace (pc' := 56) C N ((B 1 x4.toNatClampNeg) + p1) ((B 2 x4.toNatClampNeg) + p2) [] rfl (by decide) gX5_staysOnBoard_X5_isPlace ⟨Nat.le_of_ble_eq_true rfl, Nat.le_of_ble_eq_true rfl⟩ (Nat.le_of_ble_eq_true rfl) rfl dX5_staysOnBoard_53 rfl h (fun r1 h => ?_)
      refine g_if_ne (pc' := 59) (tgt := 61) C dX5_staysOnBoard_56 (by decide) rfl h (fun c h => ?_) (fun c h => ?_)
      · refine g_iconst (pc' := 60) (v := 0) C dX5_staysOnBoard_59 (by decide) rfl ?_
        obtain rfl := Option.some.inj h
        exact g_zret0 C rfl dX5_staysOnBoard_60
      · exact G_loc (lle_s (lle_s (lle_s (lle_s (lle_s lle_0))))) (B_X5_staysOnBoard_61 C pa N Tn B E p0 p1 p2 r k3 hk3 x4 h)
    · exact G_loc (lle_s (lle_s (lle_s (lle_s (lle_s lle_0))))) (B_X5_staysOnBoard_61 C pa N Tn B E p0 p1 p2 r k3 hk3 x4 h)
set_option maxRecDepth 100000 in
set_option maxHeartbeats 4000000 in
theorem L_X5_staysOnBoard_3 {X : gX} (C : cx X RX5 cX5_staysOnBoard 5 (some .boolean) wsX5_staysOnBoard 2 43) (pa : Nat → Nat → Nat) (N : Nat) (Tn : tS) (B : tS) (E : tS) (p0 : Int32) (p1 : Int32) (p2 : Int32) (r : Int32)  : ∀ (n : Nat) (x4 : Int32), f_X5_staysOnBoard_3 N Tn B E p0 p1 p2  n x4 = some r → G X (QI X r [ntW pa Tn, bdW (gcA X) (pa 1) B, heW (gcA X) (pa 6) E]) [ntW pa Tn, bdW (gcA X) (pa 1) B, heW (gcA X) (pa 6) E] [some (.ref (pa 0 0)), some (.int p0), some (.int p1), some (.int p2), some (.int x4)] [] 3 := by
  intro n
  induction n with
  | zero => intro x4 h; have h : (none : Option (Int32)) = some r := h; cases h
  | succ n ih => intro x4 h; exact B_X5_staysOnBoard_3b C pa N Tn B E p0 p1 p2 r  (f_X5_staysOnBoard_3 N Tn B E p0 p1 p2  n) ih x4 h
def f_X5_staysOnBoard (N : Nat) (Tn : tS) (B : tS) (E : tS) (p0 : Int32) (p1 : Int32) (p2 : Int32) : Option (Int32) := f_X5_staysOnBoard_3 N Tn B E p0 p1 p2 N (0 : Int32)
set_option maxRecDepth 100000 in
set_option maxHeartbeats 4000000 in
theorem B_X5_staysOnBoard {X : gX} (C : cx X RX5 cX5_staysOnBoard 5 (some .boolean) wsX5_staysOnBoard 2 43) (pa : Nat → Nat → Nat) (N : Nat) (Tn : tS) (B : tS) (E : tS) (p0 : Int32) (p1 : Int32) (p2 : Int32) (r : Int32) (h : f_X5_staysOnBoard N Tn B E p0 p1 p2 = some r) : G X (QI X r [ntW pa Tn, bdW (gcA X) (pa 1) B, heW (gcA X) (pa 6) E]) [ntW pa Tn, bdW (gcA X) (pa 1) B, heW (gcA X) (pa 6) E] [some (.ref (pa 0 0)), some (.int p0), some (.int p1), some (.int p2), none] [] 0 := by
  unfold f_X5_staysOnBoard at h
  refine g_iconst (pc' := 1) (v := 0) C dX5_staysOnBoard_0 (by decide) rfl ?_
  refine g_istore (pc' := 3) C dX5_staysOnBoard_1 (Nat.le_of_ble_eq_true rfl) rfl (L' := [some (.ref (pa 0 0)), some (.int p0), some (.int p1), some (.int p2), some (.int (0 : Int32))]) rfl ?_
  exact G_loc (lle_s (lle_s (lle_s (lle_s (lle_s lle_0))))) (L_X5_staysOnBoard_3 C pa N Tn B E p0 p1 p2 r N (0 : Int32) h)
set_option maxRecDepth 100000 in
set_option maxHeartbeats 4000000 in
theorem c_X5_staysOnBoard (l : Launch) (D : va_G) (cA : Nat → ClassId) (pa : Nat → Nat → Nat) (N : Nat) (Tn : tS) (B : tS) (E : tS) (p0 : Int32) (p1 : Int32) (p2 : Int32) (r : Int32) (h : f_X5_staysOnBoard N Tn B E p0 p1 p2 = some r) : MI l D cA yX5_staysOnBoard wsX5_staysOnBoard 2 43 [.ref (pa 0 0), .int p0, .int p1, .int p2] [ntW pa Tn, bdW cA (pa 1) B, heW cA (pa 6) E] r [ntW pa Tn, bdW cA (pa 1) B, heW cA (pa 6) E] := MI_of (cc := cX5_staysOnBoard) (maxL := 5) (rt := some .boolean) (by decide +kernel) rfl (List.forall_mem_cons.mpr ⟨rfl, List.forall_mem_cons.mpr ⟨rfl, List.forall_mem_cons.mpr ⟨rfl, List.forall_mem_cons.mpr ⟨rfl, List.forall_mem_nil _⟩⟩⟩⟩) (Nat.le_of_ble_eq_true rfl) (fun X e1 e2 e3 C => by subst e1; subst e2; subst e3; exact B_X5_staysOnBoard C pa N Tn B E p0 p1 p2 r h)
set_option maxRecDepth 100000 in
set_option maxHeartbeats 4000000 in
theorem nd_X5_staysOnBoard : nd yX5_staysOnBoard 3 := ⟨by decide +kernel, by decide +kernel, by decide +kernel⟩
set_option maxRecDepth 100000 in
set_option maxHeartbeats 4000000 in
theorem k_X5_staysOnBoard {X : gX} {own : String} {cc : ByteArray} {nL : Nat} {ret : Option FieldType} {Ts : List Cond} {fr lm : Nat} {Q : State → Prop} {ms : List va_W} {L : List (Option Value)} {st : List Value} {pc pc' idx : Nat} {ρ : Type} {T : Int32 → Option ρ} {res : ρ} (C : cx X own cc nL ret Ts fr lm) (pa : Nat → Nat → Nat) (N : Nat) (Tn : tS) (B : tS) (E : tS) (p0 : Int32) (p1 : Int32) (p2 : Int32) (is : List Nat) (hC : is.map (fun i => ms[i]?) = [some (ntW pa Tn), some (bdW (gcA X) (pa 1) B), some (heW (gcA X) (pa 6) E)]) (hn : is.Nodup) (hG : GoodIn Ts (wsV own idx RX5 yX5_staysOnBoard wsX5_staysOnBoard)) (hR : 2 + 1 ≤ fr ∧ 8 + (5 + 11) + 43 ≤ lm) (hst : (st.map fun v => v.category).sum ≤ 8) (hLn : L.length = nL) (d : decode cc pc = .ok (.invokevirtual idx, 3)) (hp : pc + 3 = pc') (h : bd (f_X5_staysOnBoard N Tn B E p0 p1 p2) T = some res) (kk : ∀ (r : Int32), T r = some res → G X Q (ms) L (.int r :: st) pc') : G X Q ms L (.int p2 :: .int p1 :: .int p0 :: .ref (pa 0 0) :: st) pc := by
  obtain ⟨r, h1, h⟩ := ob h
  exact G_callVI C (As := [.int p0, .int p1, .int p2]) (c_X5_staysOnBoard (gl X) (gD X) (gcA X) pa N Tn B E p0 p1 p2 r h1) hG rfl nd_X5_staysOnBoard hR (q0 := 0) rfl rfl hC hn rfl rfl hst hLn d hp (G_ms (rpl_same (mc := [ntW pa Tn, bdW (gcA X) (pa 1) B, heW (gcA X) (pa 6) E]) hC) (kk r h))
theorem hi_X5_moveHeap_X0 : ∀ w ∈ wsX00, w ∈ wsX5_moveHeap := fun w h => List.mem_cons_of_mem _ (List.mem_append_left _ (List.mem_append_right _ h))
theorem hi_X5_moveHeap_X2 : ∀ w ∈ wsX20, w ∈ wsX5_moveHeap := fun w h => List.mem_cons_of_mem _ (List.mem_append_right _ h)
theorem hi_X5_moveHeap_X5 : ∀ w ∈ wsX50, w ∈ wsX5_moveHeap := fun w h => List.mem_cons_of_mem _ (List.mem_append_left _ (List.mem_append_left _ (List.mem_append_right _ h)))
theorem lk_X5_moveHeap_1 : Cond.fieldLink RX5 10 "NoteThemes" "board" "LNoteThemes$Board;" ∈ wsX5_moveHeap := List.mem_of_getElem? (i := 1) rfl
theorem lk_X5_moveHeap_2 : Cond.fieldLink RX5 71 "NoteThemes$Board" "notes" "I" ∈ wsX5_moveHeap := List.mem_of_getElem? (i := 2) rfl
theorem lk_X5_moveHeap_3 : Cond.fieldLink RX5 44 "NoteThemes" "heapsNow" "LNoteThemes$Heaps;" ∈ wsX5_moveHeap := List.mem_of_getElem? (i := 3) rfl
theorem lk_X5_moveHeap_4 : Cond.fieldLink RX5 160 "NoteThemes$Heaps" "heapOf" "[I" ∈ wsX5_moveHeap := List.mem_of_getElem? (i := 4) rfl
theorem lk_X5_moveHeap_5 : Cond.fieldLink RX5 106 "NoteThemes$Board" "columnOf" "[I" ∈ wsX5_moveHeap := List.mem_of_getElem? (i := 5) rfl
theorem lk_X5_moveHeap_6 : Cond.fieldLink RX5 110 "NoteThemes$Board" "rowOf" "[I" ∈ wsX5_moveHeap := List.mem_of_getElem? (i := 6) rfl
def f_X5_moveHeap_62 (N : Nat) (Tn : tS) (E : tS) (p0 : Int32) (p1 : Int32) (p2 : Int32) (k3 : Int32 → tS → Option (tS)) (x4 : Int32) (B : tS) : Option (tS) := k3 (x4 + 1) B
set_option maxRecDepth 100000 in
set_option maxHeartbeats 4000000 in
theorem B_X5_moveHeap_62 {X : gX} (C : cx X RX5 cX5_moveHeap 5 none wsX5_moveHeap 1 23) (pa : Nat → Nat → Nat) (N : Nat) (Tn : tS) (E : tS) (p0 : Int32) (p1 : Int32) (p2 : Int32) (Bz : tS) (k3 : Int32 → tS → Option (tS)) (hk3 : ∀ (x4 : Int32) (B : tS), k3 x4 B = some Bz → G X (QV X [ntW pa Tn, bdW (gcA X) (pa 1) Bz, heW (gcA X) (pa 6) E]) [ntW pa Tn, bdW (gcA X) (pa 1) B, heW (gcA X) (pa 6) E] [some (.ref (pa 0 0)), some (.int p0), some (.int p1), some (.int p2), some (.int x4)] [] 3) (x4 : Int32) (B : tS) (h : f_X5_moveHeap_62 N Tn E p0 p1 p2 k3 x4 B = some Bz) : G X (QV X [ntW pa Tn, bdW (gcA X) (pa 1) Bz, heW (gcA X) (pa 6) E]) [ntW pa Tn, bdW (gcA X) (pa 1) B, heW (gcA X) (pa 6) E] [some (.ref (pa 0 0)), some (.int p0), some (.int p1), some (.int p2), some (.int x4)] [] 62 := by
  unfold f_X5_moveHeap_62 at h
  refine g_iinc (pc' := 65) (v := (x4 + 1)) C dX5_moveHeap_62 rfl rfl rfl (L' := [some (.ref (pa 0 0)), some (.int p0), some (.int p1), some (.int p2), some (.int (x4 + 1))]) rfl ?_
  refine g_goto (pc' := 3) C dX5_moveHeap_65 (by decide) ?_
  exact G_loc (lle_s (lle_s (lle_s (lle_s (lle_s lle_0))))) (hk3 (x4 + 1) B h)
def f_X5_moveHeap_3b (N : Nat) (Tn : tS) (E : tS) (p0 : Int32) (p1 : Int32) (p2 : Int32)  (k3 : Int32 → tS → Option (tS)) (x4 : Int32) (B : tS) : Option (tS) := (if (B 0 0) ≤ x4 then some B else (if x4 < 0 ∨ 20 ≤ x4.toNatClampNeg then none else (if (E 2 x4.toNatClampNeg) = p0 then (if x4 < 0 ∨ 20 ≤ x4.toNatClampNeg then none else (if x4 < 0 ∨ 20 ≤ x4.toNatClampNeg then none else (bd (f_X0_moveNote N B x4 ((B 1 x4.toNatClampNeg) + p1) ((B 2 x4.toNatClampNeg) + p2)) (fun B1 => f_X5_moveHeap_62 N Tn E p0 p1 p2 k3 x4 B1)))) else f_X5_moveHeap_62 N Tn E p0 p1 p2 k3 x4 B)))
def f_X5_moveHeap_3 (N : Nat) (Tn : tS) (E : tS) (p0 : Int32) (p1 : Int32) (p2 : Int32)  : Nat → Int32 → tS → Option (tS)
  | 0 => fun _ _ => none
  | n + 1 => f_X5_moveHeap_3b N Tn E p0 p1 p2  (f_X5_moveHeap_3 N Tn E p0 p1 p2  n)
set_option maxRecDepth 100000 in
set_option maxHeartbeats 4000000 in
theorem B_X5_moveHeap_3b {X : gX} (C : cx X RX5 cX5_moveHeap 5 none wsX5_moveHeap 1 23) (pa : Nat → Nat → Nat) (N : Nat) (Tn : tS) (E : tS) (p0 : Int32) (p1 : Int32) (p2 : Int32) (Bz : tS)  (k3 : Int32 → tS → Option (tS)) (hk3 : ∀ (x4 : Int32) (B : tS), k3 x4 B = some Bz → G X (QV X [ntW pa Tn, bdW (gcA X) (pa 1) Bz, heW (gcA X) (pa 6) E]) [ntW pa Tn, bdW (gcA X) (pa 1) B, heW (gcA X) (pa 6) E] [some (.ref (pa 0 0)), some (.int p0), some (.int p1), some (.int p2), some (.int x4)] [] 3) (x4 : Int32) (B : tS) (h : f_X5_moveHeap_3b N Tn E p0 p1 p2  k3 x4 B = some Bz) : G X (QV X [ntW pa Tn, bdW (gcA X) (pa 1) Bz, heW (gcA X) (pa 6) E]) [ntW pa Tn, bdW (gcA X) (pa 1) B, heW (gcA X) (pa 6) E] [some (.ref (pa 0 0)), some (.int p0), some (.int p1), some (.int p2), some (.int x4)] [] 3 := by
  unfold f_X5_moveHeap_3b at h
  refine g_iload (pc' := 5) C dX5_moveHeap_3 rfl rfl ?_
  refine g_aload_n (pc' := 6) C dX5_moveHeap_5 rfl rfl ?_
  refine gg_X5_0 (pc' := 9) (i := 0) C rfl hi_X5_moveHeap_X5 lk_X5_moveHeap_1 dX5_moveHeap_6 rfl ?_
  refine gg_X0_0 (pc' := 12) (i := 1) C rfl hi_X5_moveHeap_X0 lk_X5_moveHeap_2 dX5_moveHeap_9 rfl ?_
  refine g_icmp_ge (pc' := 15) (tgt := 68) C dX5_moveHeap_12 (by decide) rfl h (fun c h => ?_) (fun c h => ?_)
  · obtain rfl := Option.some.inj h
    exact g_vret C dX5_moveHeap_68
  · refine g_aload_n (pc' := 16) C dX5_moveHeap_15 rfl rfl ?_
    refine gg_X5_7 (pc' := 19) (i := 0) C rfl hi_X5_moveHeap_X5 lk_X5_moveHeap_3 dX5_moveHeap_16 rfl ?_
    refine gg_X2_2 (pc' := 22) (i := 2) C rfl hi_X5_moveHeap_X2 lk_X5_moveHeap_4 dX5_moveHeap_19 rfl ?_
    refine g_iload (pc' := 24) C dX5_moveHeap_22 rfl rfl ?_
    refine g_iald (pc' := 25) (i := 2) (j := 1) C rfl rfl dX5_moveHeap_24 rfl h (fun h => ?_)
    refine g_iload_n (pc' := 26) C dX5_moveHeap_25 rfl rfl ?_
    refine g_icmp_ne (pc' := 29) (tgt := 62) C dX5_moveHeap_26 (by decide) rfl h (fun c h => ?_) (fun c h => ?_)
    · refine g_aload_n (pc' := 30) C dX5_moveHeap_29 rfl rfl ?_
      refine gg_X5_0 (pc' := 33) (i := 0) C rfl hi_X5_moveHeap_X5 lk_X5_moveHeap_1 dX5_moveHeap_30 rfl ?_
      refine g_iload (pc' := 35) C dX5_moveHeap_33 rfl rfl ?_
      refine g_aload_n (pc' := 36) C dX5_moveHeap_35 rfl rfl ?_
      refine gg_X5_0 (pc' := 39) (i := 0) C rfl hi_X5_moveHeap_X5 lk_X5_moveHeap_1 dX5_moveHeap_36 rfl ?_
      refine gg_X0_1 (pc' := 42) (i := 1) C rfl hi_X5_moveHeap_X0 lk_X5_moveHeap_5 dX5_moveHeap_39 rfl ?_
      refine g_iload (pc' := 44) C dX5_moveHeap_42 rfl rfl ?_
      refine g_iald (pc' := 45) (i := 1) (j := 1) C rfl rfl dX5_moveHeap_44 rfl h (fun h => ?_)
      refine g_iload_n (pc' := 46) C dX5_moveHeap_45 rfl rfl ?_
      refine g_iadd (pc' := 47) C dX5_moveHeap_46 rfl ?_
      refine g_aload_n (pc' := 48) C dX5_moveHeap_47 rfl rfl ?_
      refine gg_X5_0 (pc' := 51) (i := 0) C rfl hi_X5_moveHeap_X5 lk_X5_moveHeap_1 dX5_moveHeap_48 rfl ?_
      refine gg_X0_2 (pc' := 54) (i := 1) C rfl hi_X5_moveHeap_X0 lk_X5_moveHeap_6 dX5_moveHeap_51 rfl ?_
      refine g_iload (pc' := 56) C dX5_moveHeap_54 rfl rfl ?_
      refine g_iald (pc' := 57) (i := 1) (j := 2) C rfl rfl dX5_moveHeap_56 rfl h (fun h => ?_)
      refine g_iload_n (pc' := 58) C dX5_moveHeap_57 rfl rfl ?_
      refine g_iadd (pc' := 59) C dX5_moveHeap_58 rfl ?_
      refine k_X0_moveNote (pc' := 62) C (pa 1) N B x4 ((B 1 x4.toNatClampNeg) + p1) ((B 2 x4.toNatClampNeg) + p2) [1] rfl (by decide) gX5_moveHeap_X0_moveNote ⟨Nat.le_of_ble_eq_true rfl, Nat.le_of_ble_eq_true rfl⟩ (Nat.le_of_ble_eq_true rfl) rfl dX5_moveHeap_59 rfl h (fun B1 h => ?_)
      show G X _ [ntW pa Tn, bdW (gcA X) (pa 1) B1, heW (gcA X) (pa 6) E] _ _ _
      exact G_loc (lle_s (lle_s (lle_s (lle_s (lle_s lle_0))))) (B_X5_moveHeap_62 C pa N Tn E p0 p1 p2 Bz k3 hk3 x4 B1 h)
    · exact G_loc (lle_s (lle_s (lle_s (lle_s (lle_s lle_0))))) (B_X5_moveHeap_62 C pa N Tn E p0 p1 p2 Bz k3 hk3 x4 B h)
set_option maxRecDepth 100000 in
set_option maxHeartbeats 4000000 in
theorem L_X5_moveHeap_3 {X : gX} (C : cx X RX5 cX5_moveHeap 5 none wsX5_moveHeap 1 23) (pa : Nat → Nat → Nat) (N : Nat) (Tn : tS) (E : tS) (p0 : Int32) (p1 : Int32) (p2 : Int32) (Bz : tS)  : ∀ (n : Nat) (x4 : Int32) (B : tS), f_X5_moveHeap_3 N Tn E p0 p1 p2  n x4 B = some Bz → G X (QV X [ntW pa Tn, bdW (gcA X) (pa 1) Bz, heW (gcA X) (pa 6) E]) [ntW pa Tn, bdW (gcA X) (pa 1) B, heW (gcA X) (pa 6) E] [some (.ref (pa 0 0)), some (.int p0), some (.int p1), some (.int p2), some (.int x4)] [] 3 := by
  intro n
  induction n with
  | zero => intro x4 B h; have h : (none : Option (tS)) = some Bz := h; cases h
  | succ n ih => intro x4 B h; exact B_X5_moveHeap_3b C pa N Tn E p0 p1 p2 Bz  (f_X5_moveHeap_3 N Tn E p0 p1 p2  n) ih x4 B h
def f_X5_moveHeap (N : Nat) (Tn : tS) (B : tS) (E : tS) (p0 : Int32) (p1 : Int32) (p2 : Int32) : Option (tS) := f_X5_moveHeap_3 N Tn E p0 p1 p2 N (0 : Int32) B
set_option maxRecDepth 100000 in
set_option maxHeartbeats 4000000 in
theorem B_X5_moveHeap {X : gX} (C : cx X RX5 cX5_moveHeap 5 none wsX5_moveHeap 1 23) (pa : Nat → Nat → Nat) (N : Nat) (Tn : tS) (B : tS) (E : tS) (p0 : Int32) (p1 : Int32) (p2 : Int32) (Bz : tS) (h : f_X5_moveHeap N Tn B E p0 p1 p2 = some Bz) : G X (QV X [ntW pa Tn, bdW (gcA X) (pa 1) Bz, heW (gcA X) (pa 6) E]) [ntW pa Tn, bdW (gcA X) (pa 1) B, heW (gcA X) (pa 6) E] [some (.ref (pa 0 0)), some (.int p0), some (.int p1), some (.int p2), none] [] 0 := by
  unfold f_X5_moveHeap at h
  refine g_iconst (pc' := 1) (v := 0) C dX5_moveHeap_0 (by decide) rfl ?_
  refine g_istore (pc' := 3) C dX5_moveHeap_1 (Nat.le_of_ble_eq_true rfl) rfl (L' := [some (.ref (pa 0 0)), some (.int p0), some (.int p1), some (.int p2), some (.int (0 : Int32))]) rfl ?_
  exact G_loc (lle_s (lle_s (lle_s (lle_s (lle_s lle_0))))) (L_X5_moveHeap_3 C pa N Tn E p0 p1 p2 Bz N (0 : Int32) B h)
set_option maxRecDepth 100000 in
set_option maxHeartbeats 4000000 in
theorem c_X5_moveHeap (l : Launch) (D : va_G) (cA : Nat → ClassId) (pa : Nat → Nat → Nat) (N : Nat) (Tn : tS) (B : tS) (E : tS) (p0 : Int32) (p1 : Int32) (p2 : Int32) (Bz : tS) (h : f_X5_moveHeap N Tn B E p0 p1 p2 = some Bz) : MV l D cA yX5_moveHeap wsX5_moveHeap 1 23 [.ref (pa 0 0), .int p0, .int p1, .int p2] [ntW pa Tn, bdW cA (pa 1) B, heW cA (pa 6) E]  [ntW pa Tn, bdW cA (pa 1) Bz, heW cA (pa 6) E] := MV_of (cc := cX5_moveHeap) (maxL := 5) (by decide +kernel) rfl (List.forall_mem_cons.mpr ⟨rfl, List.forall_mem_cons.mpr ⟨rfl, List.forall_mem_cons.mpr ⟨rfl, List.forall_mem_cons.mpr ⟨rfl, List.forall_mem_nil _⟩⟩⟩⟩) (Nat.le_of_ble_eq_true rfl) (fun X e1 e2 e3 C => by subst e1; subst e2; subst e3; exact B_X5_moveHeap C pa N Tn B E p0 p1 p2 Bz h)
set_option maxRecDepth 100000 in
set_option maxHeartbeats 4000000 in
theorem nd_X5_moveHeap : nd yX5_moveHeap 3 := ⟨by decide +kernel, by decide +kernel, by decide +kernel⟩
set_option maxRecDepth 100000 in
set_option maxHeartbeats 4000000 in
theorem k_X5_moveHeap {X : gX} {own : String} {cc : ByteArray} {nL : Nat} {ret : Option FieldType} {Ts : List Cond} {fr lm : Nat} {Q : State → Prop} {ms : List va_W} {L : List (Option Value)} {st : List Value} {pc pc' idx : Nat} {ρ : Type} {T : tS → Option ρ} {res : ρ} (C : cx X own cc nL ret Ts fr lm) (pa : Nat → Nat → Nat) (N : Nat) (Tn : tS) (B : tS) (E : tS) (p0 : Int32) (p1 : Int32) (p2 : Int32) (is : List Nat) (hC : is.map (fun i => ms[i]?) = [some (ntW pa Tn), some (bdW (gcA X) (pa 1) B), some (heW (gcA X) (pa 6) E)]) (hn : is.Nodup) (hG : GoodIn Ts (wsV own idx RX5 yX5_moveHeap wsX5_moveHeap)) (hR : 1 + 1 ≤ fr ∧ 8 + (5 + 11) + 23 ≤ lm) (hst : (st.map fun v => v.category).sum ≤ 8) (hLn : L.length = nL) (d : decode cc pc = .ok (.invokevirtual idx, 3)) (hp : pc + 3 = pc') (h : bd (f_X5_moveHeap N Tn B E p0 p1 p2) T = some res) (kk : ∀ (Bz : tS), T Bz = some res → G X Q (rpl ms is [ntW pa Tn, bdW (gcA X) (pa 1) Bz, heW (gcA X) (pa 6) E]) L (st) pc') : G X Q ms L (.int p2 :: .int p1 :: .int p0 :: .ref (pa 0 0) :: st) pc := by
  obtain ⟨Bz, h1, h⟩ := ob h
  exact G_callVV C (As := [.int p0, .int p1, .int p2]) (c_X5_moveHeap (gl X) (gD X) (gcA X) pa N Tn B E p0 p1 p2 Bz h1) hG rfl nd_X5_moveHeap hR (q0 := 0) rfl rfl hC hn rfl rfl hst hLn d hp (kk Bz h)
theorem hi_X5_dragHeap_X5 : ∀ w ∈ wsX50, w ∈ wsX5_dragHeap := fun w h => List.mem_cons_of_mem _ (List.mem_append_left _ (List.mem_append_left _ (List.mem_append_left _ (List.mem_append_right _ h))))
theorem lk_X5_dragHeap_1 : Cond.fieldLink RX5 44 "NoteThemes" "heapsNow" "LNoteThemes$Heaps;" ∈ wsX5_dragHeap := List.mem_of_getElem? (i := 1) rfl
theorem lk_X5_dragHeap_2 : Cond.fieldLink RX5 19 "NoteThemes" "history" "LNoteThemes$History;" ∈ wsX5_dragHeap := List.mem_of_getElem? (i := 2) rfl
theorem lk_X5_dragHeap_3 : Cond.fieldLink RX5 10 "NoteThemes" "board" "LNoteThemes$Board;" ∈ wsX5_dragHeap := List.mem_of_getElem? (i := 3) rfl
def f_X5_dragHeap_67 (N : Nat) (Tn : tS) (p0 : Int32) (p1 : Int32) (p2 : Int32)  (B : tS) (Hs : tH) (E : tS) : Option (Int32 × tS × tH × tS) := (bd (f_X3_remember N Hs B) (fun Hs1 => (bd (f_X5_moveHeap N Tn B E p0 p1 p2) (fun B2 => (bd2 (f_X5_findHeaps N Tn B2 E) (fun r3 E3 => some (r3, B2, Hs1, E3)))))))
set_option maxRecDepth 100000 in
set_option maxHeartbeats 4000000 in
theorem B_X5_dragHeap_67 {X : gX} (C : cx X RX5 cX5_dragHeap 4 (some .int) wsX5_dragHeap 4 90) (pa : Nat → Nat → Nat) (N : Nat) (Tn : tS) (p0 : Int32) (p1 : Int32) (p2 : Int32) (r : Int32) (Bz : tS) (Hsz : tH) (Ez : tS)  (B : tS) (Hs : tH) (E : tS) (h : f_X5_dragHeap_67 N Tn p0 p1 p2  B Hs E = some (r, Bz, Hsz, Ez)) : G X (QI X r [ntW pa Tn, bdW (gcA X) (pa 1) Bz, hsW (gcA X) (pa 2) (fun j => pa (10 + j)) Hsz, heW (gcA X) (pa 6) Ez]) [ntW pa Tn, bdW (gcA X) (pa 1) B, hsW (gcA X) (pa 2) (fun j => pa (10 + j)) Hs, heW (gcA X) (pa 6) E] [some (.ref (pa 0 0)), some (.int p0), some (.int p1), some (.int p2)] [] 67 := by
  unfold f_X5_dragHeap_67 at h
  refine g_aload_n (pc' := 68) C dX5_dragHeap_67 rfl rfl ?_
  refine gg_X5_1 (pc' := 71) (i := 0) C rfl hi_X5_dragHeap_X5 lk_X5_dragHeap_2 dX5_dragHeap_68 rfl ?_
  refine g_aload_n (pc' := 72) C dX5_dragHeap_71 rfl rfl ?_
  refine gg_X5_0 (pc' := 75) (i := 0) C rfl hi_X5_dragHeap_X5 lk_X5_dragHeap_3 dX5_dragHeap_72 rfl ?_
  refine k_X3_remember (pc' := 78) C (pa 2) (pa 1) (fun j => pa (10 + j)) N Hs B [2, 1] rfl (by decide) gX5_dragHeap_X3_remember ⟨Nat.le_of_ble_eq_true rfl, Nat.le_of_ble_eq_true rfl⟩ (Nat.le_of_ble_eq_true rfl) rfl dX5_dragHeap_75 rfl h (fun Hs1 h => ?_)
  show G X _ [ntW pa Tn, bdW (gcA X) (pa 1) B, hsW (gcA X) (pa 2) (fun j => pa (10 + j)) Hs1, heW (gcA X) (pa 6) E] _ _ _
  refine g_aload_n (pc' := 79) C dX5_dragHeap_78 rfl rfl ?_
  refine g_iload_n (pc' := 80) C dX5_dragHeap_79 rfl rfl ?_
  refine g_iload_n (pc' := 81) C dX5_dragHeap_80 rfl rfl ?_
  refine g_iload_n (pc' := 82) C dX5_dragHeap_81 rfl rfl ?_
  refine k_X5_moveHeap (pc' := 85) C pa N Tn B E p0 p1 p2 [0, 1, 3] rfl (by decide) gX5_dragHeap_X5_moveHeap ⟨Nat.le_of_ble_eq_true rfl, Nat.le_of_ble_eq_true rfl⟩ (Nat.le_of_ble_eq_true rfl) rfl dX5_dragHeap_82 rfl h (fun B2 h => ?_)
  show G X _ [ntW pa Tn, bdW (gcA X) (pa 1) B2, hsW (gcA X) (pa 2) (fun j => pa (10 + j)) Hs1, heW (gcA X) (pa 6) E] _ _ _
  refine g_aload_n (pc' := 86) C dX5_dragHeap_85 rfl rfl ?_
  refine k_X5_findHeaps (pc' := 89) C pa N Tn B2 E [0, 1, 3] rfl (by decide) gX5_dragHeap_X5_findHeaps ⟨Nat.le_of_ble_eq_true rfl, Nat.le_of_ble_eq_true rfl⟩ (Nat.le_of_ble_eq_true rfl) rfl dX5_dragHeap_86 rfl h (fun r3 E3 h => ?_)
  show G X _ [ntW pa Tn, bdW (gcA X) (pa 1) B2, hsW (gcA X) (pa 2) (fun j => pa (10 + j)) Hs1, heW (gcA X) (pa 6) E3] _ _ _
  obtain ⟨rfl, rfl, rfl, rfl⟩ := pj4 (Option.some.inj h)
  exact g_iret C dX5_dragHeap_89
def f_X5_dragHeap (N : Nat) (Tn : tS) (B : tS) (Hs : tH) (E : tS) (p0 : Int32) (p1 : Int32) (p2 : Int32) : Option (Int32 × tS × tH × tS) := (bd2 (f_X5_findHeaps N Tn B E) (fun r1 E1 => (bd (f_X2_has N E1 p0) (fun r2 => (if r2 = 0 then some ((-1 : Int32), B, Hs, E1) else (bd (f_X5_isWithin N p1 (-29 : Int32) (29 : Int32)) (fun r3 => (if r3 = 0 then some ((-2 : Int32), B, Hs, E1) else (bd (f_X5_isWithin N p2 (-19 : Int32) (19 : Int32)) (fun r4 => (if r4 = 0 then some ((-2 : Int32), B, Hs, E1) else (bd (f_X5_staysOnBoard N Tn B E1 p0 p1 p2) (fun r5 => (if r5 = 0 then some ((-4 : Int32), B, Hs, E1) else (if p1 = 0 then (if p2 = 0 then some ((-5 : Int32), B, Hs, E1) else f_X5_dragHeap_67 N Tn p0 p1 p2 B Hs E1) else f_X5_dragHeap_67 N Tn p0 p1 p2 B Hs E1)))))))))))))))
set_option maxRecDepth 100000 in
set_option maxHeartbeats 4000000 in
theorem B_X5_dragHeap {X : gX} (C : cx X RX5 cX5_dragHeap 4 (some .int) wsX5_dragHeap 4 90) (pa : Nat → Nat → Nat) (N : Nat) (Tn : tS) (B : tS) (Hs : tH) (E : tS) (p0 : Int32) (p1 : Int32) (p2 : Int32) (r : Int32) (Bz : tS) (Hsz : tH) (Ez : tS) (h : f_X5_dragHeap N Tn B Hs E p0 p1 p2 = some (r, Bz, Hsz, Ez)) : G X (QI X r [ntW pa Tn, bdW (gcA X) (pa 1) Bz, hsW (gcA X) (pa 2) (fun j => pa (10 + j)) Hsz, heW (gcA X) (pa 6) Ez]) [ntW pa Tn, bdW (gcA X) (pa 1) B, hsW (gcA X) (pa 2) (fun j => pa (10 + j)) Hs, heW (gcA X) (pa 6) E] [some (.ref (pa 0 0)), some (.int p0), some (.int p1), some (.int p2)] [] 0 := by
  unfold f_X5_dragHeap at h
  refine g_aload_n (pc' := 1) C dX5_dragHeap_0 rfl rfl ?_
  refine k_X5_findHeaps (pc' := 4) C pa N Tn B E [0, 1, 3] rfl (by decide) gX5_dragHeap_X5_findHeaps ⟨Nat.le_of_ble_eq_true rfl, Nat.le_of_ble_eq_true rfl⟩ (Nat.le_of_ble_eq_true rfl) rfl dX5_dragHeap_1 rfl h (fun r1 E1 h => ?_)
  show G X _ [ntW pa Tn, bdW (gcA X) (pa 1) B, hsW (gcA X) (pa 2) (fun j => pa (10 + j)) Hs, heW (gcA X) (pa 6) E1] _ _ _
  refine g_pop (pc' := 5) C dX5_dragHeap_4 rfl rfl ?_
  refine g_aload_n (pc' := 6) C dX5_dragHeap_5 rfl rfl ?_
  refine gg_X5_7 (pc' := 9) (i := 0) C rfl hi_X5_dragHeap_X5 lk_X5_dragHeap_1 dX5_dragHeap_6 rfl ?_
  refine g_iload_n (pc' := 10) C dX5_dragHeap_9 rfl rfl ?_
  refine k_X2_has (pc' := 13) C (pa 6) N E1 p0 [3] rfl (by decide) gX5_dragHeap_X2_has ⟨Nat.le_of_ble_eq_true rfl, Nat.le_of_ble_eq_true rfl⟩ (Nat.le_of_ble_eq_true rfl) rfl dX5_dragHeap_10 rfl h (fun r2 h => ?_)
  refine g_if_ne (pc' := 16) (tgt := 18) C dX5_dragHeap_13 (by decide) rfl h (fun c h => ?_) (fun c h => ?_)
  · refine g_iconst (pc' := 17) (v := -1) C dX5_dragHeap_16 (by decide) rfl ?_
    obtain ⟨rfl, rfl, rfl, rfl⟩ := pj4 (Option.some.inj h)
    exact g_iret C dX5_dragHeap_17
  · refine g_iload_n (pc' := 19) C dX5_dragHeap_18 rfl rfl ?_
    refine g_bipush (pc' := 21) (v := -29) C dX5_dragHeap_19 (by decide) rfl ?_
    refine g_bipush (pc' := 23) (v := 29) C dX5_dragHeap_21 (by decide) rfl ?_
    refine k_X5_isWithin (pc' := 26) C N p1 (-29 : Int32) (29 : Int32) [] rfl (by decide) gX5_dragHeap_X5_isWithin ⟨Nat.le_of_ble_eq_true rfl, Nat.le_of_ble_eq_true rfl⟩ (Nat.le_of_ble_eq_true rfl) rfl dX5_dragHeap_23 rfl h (fun r3 h => ?_)
    refine g_if_eq (pc' := 29) (tgt := 40) C dX5_dragHeap_26 (by decide) rfl h (fun c h => ?_) (fun c h => ?_)
    · refine g_bipush (pc' := 42) (v := -2) C dX5_dragHeap_40 (by decide) rfl ?_
      obtain ⟨rfl, rfl, rfl, rfl⟩ := pj4 (Option.some.inj h)
      exact g_iret C dX5_dragHeap_42
    · refine g_iload_n (pc' := 30) C dX5_dragHeap_29 rfl rfl ?_
      refine g_bipush (pc' := 32) (v := -19) C dX5_dragHeap_30 (by decide) rfl ?_
      refine g_bipush (pc' := 34) (v := 19) C dX5_dragHeap_32 (by decide) rfl ?_
      refine k_X5_isWithin (pc' := 37) C N p2 (-19 : Int32) (19 : Int32) [] rfl (by decide) gX5_dragHeap_X5_isWithin ⟨Nat.le_of_ble_eq_true rfl, Nat.le_of_ble_eq_true rfl⟩ (Nat.le_of_ble_eq_true rfl) rfl dX5_dragHeap_34 rfl h (fun r4 h => ?_)
      refine g_if_ne (pc' := 40) (tgt := 43) C dX5_dragHeap_37 (by decide) rfl h (fun c h => ?_) (fun c h => ?_)
      · refine g_bipush (pc' := 42) (v := -2) C dX5_dragHeap_40 (by decide) rfl ?_
        obtain ⟨rfl, rfl, rfl, rfl⟩ := pj4 (Option.some.inj h)
        exact g_iret C dX5_dragHeap_42
      · refine g_aload_n (pc' := 44) C dX5_dragHeap_43 rfl rfl ?_
        refine g_iload_n (pc' := 45) C dX5_dragHeap_44 rfl rfl ?_
        refine g_iload_n (pc' := 46) C dX5_dragHeap_45 rfl rfl ?_
        refine g_iload_n (pc' := 47) C dX5_dragHeap_46 rfl rfl ?_
        refine k_X5_staysOnBoard (pc' := 50) C pa N Tn B E1 p0 p1 p2 [0, 1, 3] rfl (by decide) gX5_dragHeap_X5_staysOnBoard ⟨Nat.le_of_ble_eq_true rfl, Nat.le_of_ble_eq_true rfl⟩ (Nat.le_of_ble_eq_true rfl) rfl dX5_dragHeap_47 rfl h (fun r5 h => ?_)
        refine g_if_ne (pc' := 53) (tgt := 56) C dX5_dragHeap_50 (by decide) rfl h (fun c h => ?_) (fun c h => ?_)
        · refine g_bipush (pc' := 55) (v := -4) C dX5_dragHeap_53 (by decide) rfl ?_
          obtain ⟨rfl, rfl, rfl, rfl⟩ := pj4 (Option.some.inj h)
          exact g_iret C dX5_dragHeap_55
        · refine g_iload_n (pc' := 57) C dX5_dragHeap_56 rfl rfl ?_
          refine g_if_ne (pc' := 60) (tgt := 67) C dX5_dragHeap_57 (by decide) rfl h (fun c h => ?_) (fun c h => ?_)
          · refine g_iload_n (pc' := 61) C dX5_dragHeap_60 rfl rfl ?_
            refine g_if_ne (pc' := 64) (tgt := 67) C dX5_dragHeap_61 (by decide) rfl h (fun c h => ?_) (fun c h => ?_)
            · refine g_bipush (pc' := 66) (v := -5) C dX5_dragHeap_64 (by decide) rfl ?_
              obtain ⟨rfl, rfl, rfl, rfl⟩ := pj4 (Option.some.inj h)
              exact g_iret C dX5_dragHeap_66
            · exact G_loc (lle_s (lle_s (lle_s (lle_s lle_0)))) (B_X5_dragHeap_67 C pa N Tn p0 p1 p2 r Bz Hsz Ez B Hs E1 h)
          · exact G_loc (lle_s (lle_s (lle_s (lle_s lle_0)))) (B_X5_dragHeap_67 C pa N Tn p0 p1 p2 r Bz Hsz Ez B Hs E1 h)
set_option maxRecDepth 100000 in
set_option maxHeartbeats 4000000 in
theorem c_X5_dragHeap (l : Launch) (D : va_G) (cA : Nat → ClassId) (pa : Nat → Nat → Nat) (N : Nat) (Tn : tS) (B : tS) (Hs : tH) (E : tS) (p0 : Int32) (p1 : Int32) (p2 : Int32) (r : Int32) (Bz : tS) (Hsz : tH) (Ez : tS) (h : f_X5_dragHeap N Tn B Hs E p0 p1 p2 = some (r, Bz, Hsz, Ez)) : MI l D cA yX5_dragHeap wsX5_dragHeap 4 90 [.ref (pa 0 0), .int p0, .int p1, .int p2] [ntW pa Tn, bdW cA (pa 1) B, hsW cA (pa 2) (fun j => pa (10 + j)) Hs, heW cA (pa 6) E] r [ntW pa Tn, bdW cA (pa 1) Bz, hsW cA (pa 2) (fun j => pa (10 + j)) Hsz, heW cA (pa 6) Ez] := MI_of (cc := cX5_dragHeap) (maxL := 4) (rt := some .int) (by decide +kernel) rfl (List.forall_mem_cons.mpr ⟨rfl, List.forall_mem_cons.mpr ⟨rfl, List.forall_mem_cons.mpr ⟨rfl, List.forall_mem_cons.mpr ⟨rfl, List.forall_mem_nil _⟩⟩⟩⟩) (Nat.le_of_ble_eq_true rfl) (fun X e1 e2 e3 C => by subst e1; subst e2; subst e3; exact B_X5_dragHeap C pa N Tn B Hs E p0 p1 p2 r Bz Hsz Ez h)
set_option maxRecDepth 100000 in
set_option maxHeartbeats 4000000 in
theorem nd_X5_dragHeap : nd yX5_dragHeap 3 := ⟨by decide +kernel, by decide +kernel, by decide +kernel⟩
set_option maxRecDepth 100000 in
set_option maxHeartbeats 4000000 in
theorem k_X5_dragHeap {X : gX} {own : String} {cc : ByteArray} {nL : Nat} {ret : Option FieldType} {Ts : List Cond} {fr lm : Nat} {Q : State → Prop} {ms : List va_W} {L : List (Option Value)} {st : List Value} {pc pc' idx : Nat} {ρ : Type} {T : Int32 → tS → tH → tS → Option ρ} {res : ρ} (C : cx X own cc nL ret Ts fr lm) (pa : Nat → Nat → Nat) (N : Nat) (Tn : tS) (B : tS) (Hs : tH) (E : tS) (p0 : Int32) (p1 : Int32) (p2 : Int32) (is : List Nat) (hC : is.map (fun i => ms[i]?) = [some (ntW pa Tn), some (bdW (gcA X) (pa 1) B), some (hsW (gcA X) (pa 2) (fun j => pa (10 + j)) Hs), some (heW (gcA X) (pa 6) E)]) (hn : is.Nodup) (hG : GoodIn Ts (wsV own idx RX5 yX5_dragHeap wsX5_dragHeap)) (hR : 4 + 1 ≤ fr ∧ 8 + (4 + 11) + 90 ≤ lm) (hst : (st.map fun v => v.category).sum ≤ 8) (hLn : L.length = nL) (d : decode cc pc = .ok (.invokevirtual idx, 3)) (hp : pc + 3 = pc') (h : bd4 (f_X5_dragHeap N Tn B Hs E p0 p1 p2) T = some res) (kk : ∀ (r : Int32) (Bz : tS) (Hsz : tH) (Ez : tS), T r Bz Hsz Ez = some res → G X Q (rpl ms is [ntW pa Tn, bdW (gcA X) (pa 1) Bz, hsW (gcA X) (pa 2) (fun j => pa (10 + j)) Hsz, heW (gcA X) (pa 6) Ez]) L (.int r :: st) pc') : G X Q ms L (.int p2 :: .int p1 :: .int p0 :: .ref (pa 0 0) :: st) pc := by
  obtain ⟨r, Bz, Hsz, Ez, h1, h⟩ := ob4 h
  exact G_callVI C (As := [.int p0, .int p1, .int p2]) (c_X5_dragHeap (gl X) (gD X) (gcA X) pa N Tn B Hs E p0 p1 p2 r Bz Hsz Ez h1) hG rfl nd_X5_dragHeap hR (q0 := 0) rfl rfl hC hn rfl rfl hst hLn d hp (kk r Bz Hsz Ez h)
def f_X5_isPerson (N : Nat)  (p0 : Int32) : Option (Int32) := (bd (f_X5_isWithin N p0 (0 : Int32) (5 : Int32)) (fun r1 => (if ¬ (r1 = 0 ∨ r1 = 1) then none else some r1)))
set_option maxRecDepth 100000 in
set_option maxHeartbeats 4000000 in
theorem B_X5_isPerson {X : gX} (C : cx X RX5 cX5_isPerson 1 (some .boolean) wsX5_isPerson 1 22)  (N : Nat)  (p0 : Int32) (r : Int32) (h : f_X5_isPerson N p0 = some r) : G X (QI X r []) [] [some (.int p0)] [] 0 := by
  unfold f_X5_isPerson at h
  refine g_iload_n (pc' := 1) C dX5_isPerson_0 rfl rfl ?_
  refine g_iconst (pc' := 2) (v := 0) C dX5_isPerson_1 (by decide) rfl ?_
  refine g_iconst (pc' := 3) (v := 5) C dX5_isPerson_2 (by decide) rfl ?_
  refine k_X5_isWithin (pc' := 6) C N p0 (0 : Int32) (5 : Int32) [] rfl (by decide) gX5_isPerson_X5_isWithin ⟨Nat.le_of_ble_eq_true rfl, Nat.le_of_ble_eq_true rfl⟩ (Nat.le_of_ble_eq_true rfl) rfl dX5_isPerson_3 rfl h (fun r1 h => ?_)
  obtain ⟨hz, h⟩ := og h
  obtain rfl := Option.some.inj h
  exact g_zret0 C (zb hz) dX5_isPerson_6
set_option maxRecDepth 100000 in
set_option maxHeartbeats 4000000 in
theorem c_X5_isPerson (l : Launch) (D : va_G) (cA : Nat → ClassId)  (N : Nat)  (p0 : Int32) (r : Int32) (h : f_X5_isPerson N p0 = some r) : MI l D cA yX5_isPerson wsX5_isPerson 1 22 [.int p0] [] r [] := MI_of (cc := cX5_isPerson) (maxL := 1) (rt := some .boolean) (by decide +kernel) rfl (List.forall_mem_cons.mpr ⟨rfl, List.forall_mem_nil _⟩) (Nat.le_of_ble_eq_true rfl) (fun X e1 e2 e3 C => by subst e1; subst e2; subst e3; exact B_X5_isPerson C  N p0 r h)
set_option maxRecDepth 100000 in
set_option maxHeartbeats 4000000 in
theorem nd_X5_isPerson : nd yX5_isPerson 1 := ⟨by decide +kernel, by decide +kernel, by decide +kernel⟩
set_option maxRecDepth 100000 in
set_option maxHeartbeats 4000000 in
theorem k_X5_isPerson {X : gX} {own : String} {cc : ByteArray} {nL : Nat} {ret : Option FieldType} {Ts : List Cond} {fr lm : Nat} {Q : State → Prop} {ms : List va_W} {L : List (Option Value)} {st : List Value} {pc pc' idx : Nat} {ρ : Type} {T : Int32 → Option ρ} {res : ρ} (C : cx X own cc nL ret Ts fr lm)  (N : Nat)  (p0 : Int32) (is : List Nat) (hC : is.map (fun i => ms[i]?) = []) (hn : is.Nodup) (hG : GoodIn Ts (va_wsS own idx yX5_isPerson wsX5_isPerson)) (hR : 1 + 1 ≤ fr ∧ 8 + (1 + 11) + 22 ≤ lm) (hst : (st.map fun v => v.category).sum ≤ 8) (hLn : L.length = nL) (d : decode cc pc = .ok (.invokestatic idx, 3)) (hp : pc + 3 = pc') (h : bd (f_X5_isPerson N p0) T = some res) (kk : ∀ (r : Int32), T r = some res → G X Q (ms) L (.int r :: st) pc') : G X Q ms L (.int p0 :: st) pc := by
  obtain ⟨r, h1, h⟩ := ob h
  exact G_callSI C (As := [.int p0]) (c_X5_isPerson (gl X) (gD X) (gcA X)  N p0 r h1) hG rfl nd_X5_isPerson hR hC hn rfl rfl hst hLn d hp (G_ms (rpl_same (mc := []) hC) (kk r h))
theorem hi_X5_stick_X5 : ∀ w ∈ wsX50, w ∈ wsX5_stick := fun w h => List.mem_cons_of_mem _ (List.mem_append_left _ (List.mem_append_left _ (List.mem_append_right _ h)))
theorem lk_X5_stick_1 : Cond.fieldLink RX5 10 "NoteThemes" "board" "LNoteThemes$Board;" ∈ wsX5_stick := List.mem_of_getElem? (i := 1) rfl
theorem lk_X5_stick_2 : Cond.fieldLink RX5 19 "NoteThemes" "history" "LNoteThemes$History;" ∈ wsX5_stick := List.mem_of_getElem? (i := 2) rfl
def f_X5_stick (N : Nat) (Tn : tS) (B : tS) (Hs : tH) (p0 : Int32) (p1 : Int32) : Option (Int32 × tS × tH) := (bd (f_X5_isPerson N p0) (fun r1 => (if r1 = 0 then some ((-1 : Int32), B, Hs) else (bd (f_X0_hasNote N B p1) (fun r2 => (if r2 = 0 then some ((-1 : Int32), B, Hs) else (bd (f_X0_dotsLeft N B p0) (fun r3 => (if r3 = 0 then some ((-3 : Int32), B, Hs) else (bd (f_X0_hasMostDots N B p0 p1) (fun r4 => (if r4 = 0 then (bd (f_X3_remember N Hs B) (fun Hs5 => (bd (f_X0_addDots N B p0 p1 (1 : Int32)) (fun B6 => (bd (f_X0_dotsOn N B6 p1) (fun r7 => some (r7, B6, Hs5))))))) else some ((-4 : Int32), B, Hs)))))))))))))
set_option maxRecDepth 100000 in
set_option maxHeartbeats 4000000 in
theorem B_X5_stick {X : gX} (C : cx X RX5 cX5_stick 3 (some .int) wsX5_stick 3 68) (pa : Nat → Nat → Nat) (N : Nat) (Tn : tS) (B : tS) (Hs : tH) (p0 : Int32) (p1 : Int32) (r : Int32) (Bz : tS) (Hsz : tH) (h : f_X5_stick N Tn B Hs p0 p1 = some (r, Bz, Hsz)) : G X (QI X r [ntW pa Tn, bdW (gcA X) (pa 1) Bz, hsW (gcA X) (pa 2) (fun j => pa (10 + j)) Hsz]) [ntW pa Tn, bdW (gcA X) (pa 1) B, hsW (gcA X) (pa 2) (fun j => pa (10 + j)) Hs] [some (.ref (pa 0 0)), some (.int p0), some (.int p1)] [] 0 := by
  unfold f_X5_stick at h
  refine g_iload_n (pc' := 1) C dX5_stick_0 rfl rfl ?_
  refine k_X5_isPerson (pc' := 4) C N p0 [] rfl (by decide) gX5_stick_X5_isPerson ⟨Nat.le_of_ble_eq_true rfl, Nat.le_of_ble_eq_true rfl⟩ (Nat.le_of_ble_eq_true rfl) rfl dX5_stick_1 rfl h (fun r1 h => ?_)
  refine g_if_eq (pc' := 7) (tgt := 18) C dX5_stick_4 (by decide) rfl h (fun c h => ?_) (fun c h => ?_)
  · refine g_iconst (pc' := 19) (v := -1) C dX5_stick_18 (by decide) rfl ?_
    obtain ⟨rfl, rfl, rfl⟩ := pj3 (Option.some.inj h)
    exact g_iret C dX5_stick_19
  · refine g_aload_n (pc' := 8) C dX5_stick_7 rfl rfl ?_
    refine gg_X5_0 (pc' := 11) (i := 0) C rfl hi_X5_stick_X5 lk_X5_stick_1 dX5_stick_8 rfl ?_
    refine g_iload_n (pc' := 12) C dX5_stick_11 rfl rfl ?_
    refine k_X0_hasNote (pc' := 15) C (pa 1) N B p1 [1] rfl (by decide) gX5_stick_X0_hasNote ⟨Nat.le_of_ble_eq_true rfl, Nat.le_of_ble_eq_true rfl⟩ (Nat.le_of_ble_eq_true rfl) rfl dX5_stick_12 rfl h (fun r2 h => ?_)
    refine g_if_ne (pc' := 18) (tgt := 20) C dX5_stick_15 (by decide) rfl h (fun c h => ?_) (fun c h => ?_)
    · refine g_iconst (pc' := 19) (v := -1) C dX5_stick_18 (by decide) rfl ?_
      obtain ⟨rfl, rfl, rfl⟩ := pj3 (Option.some.inj h)
      exact g_iret C dX5_stick_19
    · refine g_aload_n (pc' := 21) C dX5_stick_20 rfl rfl ?_
      refine gg_X5_0 (pc' := 24) (i := 0) C rfl hi_X5_stick_X5 lk_X5_stick_1 dX5_stick_21 rfl ?_
      refine g_iload_n (pc' := 25) C dX5_stick_24 rfl rfl ?_
      refine k_X0_dotsLeft (pc' := 28) C (pa 1) N B p0 [1] rfl (by decide) gX5_stick_X0_dotsLeft ⟨Nat.le_of_ble_eq_true rfl, Nat.le_of_ble_eq_true rfl⟩ (Nat.le_of_ble_eq_true rfl) rfl dX5_stick_25 rfl h (fun r3 h => ?_)
      refine g_if_ne (pc' := 31) (tgt := 34) C dX5_stick_28 (by decide) rfl h (fun c h => ?_) (fun c h => ?_)
      · refine g_bipush (pc' := 33) (v := -3) C dX5_stick_31 (by decide) rfl ?_
        obtain ⟨rfl, rfl, rfl⟩ := pj3 (Option.some.inj h)
        exact g_iret C dX5_stick_33
      · refine g_aload_n (pc' := 35) C dX5_stick_34 rfl rfl ?_
        refine gg_X5_0 (pc' := 38) (i := 0) C rfl hi_X5_stick_X5 lk_X5_stick_1 dX5_stick_35 rfl ?_
        refine g_iload_n (pc' := 39) C dX5_stick_38 rfl rfl ?_
        refine g_iload_n (pc' := 40) C dX5_stick_39 rfl rfl ?_
        refine k_X0_hasMostDots (pc' := 43) C (pa 1) N B p0 p1 [1] rfl (by decide) gX5_stick_X0_hasMostDots ⟨Nat.le_of_ble_eq_true rfl, Nat.le_of_ble_eq_true rfl⟩ (Nat.le_of_ble_eq_true rfl) rfl dX5_stick_40 rfl h (fun r4 h => ?_)
        refine g_if_eq (pc' := 46) (tgt := 49) C dX5_stick_43 (by decide) rfl h (fun c h => ?_) (fun c h => ?_)
        · refine g_aload_n (pc' := 50) C dX5_stick_49 rfl rfl ?_
          refine gg_X5_1 (pc' := 53) (i := 0) C rfl hi_X5_stick_X5 lk_X5_stick_2 dX5_stick_50 rfl ?_
          refine g_aload_n (pc' := 54) C dX5_stick_53 rfl rfl ?_
          refine gg_X5_0 (pc' := 57) (i := 0) C rfl hi_X5_stick_X5 lk_X5_stick_1 dX5_stick_54 rfl ?_
          refine k_X3_remember (pc' := 60) C (pa 2) (pa 1) (fun j => pa (10 + j)) N Hs B [2, 1] rfl (by decide) gX5_stick_X3_remember ⟨Nat.le_of_ble_eq_true rfl, Nat.le_of_ble_eq_true rfl⟩ (Nat.le_of_ble_eq_true rfl) rfl dX5_stick_57 rfl h (fun Hs5 h => ?_)
          show G X _ [ntW pa Tn, bdW (gcA X) (pa 1) B, hsW (gcA X) (pa 2) (fun j => pa (10 + j)) Hs5] _ _ _
          refine g_aload_n (pc' := 61) C dX5_stick_60 rfl rfl ?_
          refine gg_X5_0 (pc' := 64) (i := 0) C rfl hi_X5_stick_X5 lk_X5_stick_1 dX5_stick_61 rfl ?_
          refine g_iload_n (pc' := 65) C dX5_stick_64 rfl rfl ?_
          refine g_iload_n (pc' := 66) C dX5_stick_65 rfl rfl ?_
          refine g_iconst (pc' := 67) (v := 1) C dX5_stick_66 (by decide) rfl ?_
          refine k_X0_addDots (pc' := 70) C (pa 1) N B p0 p1 (1 : Int32) [1] rfl (by decide) gX5_stick_X0_addDots ⟨Nat.le_of_ble_eq_true rfl, Nat.le_of_ble_eq_true rfl⟩ (Nat.le_of_ble_eq_true rfl) rfl dX5_stick_67 rfl h (fun B6 h => ?_)
          show G X _ [ntW pa Tn, bdW (gcA X) (pa 1) B6, hsW (gcA X) (pa 2) (fun j => pa (10 + j)) Hs5] _ _ _
          refine g_aload_n (pc' := 71) C dX5_stick_70 rfl rfl ?_
          refine gg_X5_0 (pc' := 74) (i := 0) C rfl hi_X5_stick_X5 lk_X5_stick_1 dX5_stick_71 rfl ?_
          refine g_iload_n (pc' := 75) C dX5_stick_74 rfl rfl ?_
          refine k_X0_dotsOn (pc' := 78) C (pa 1) N B6 p1 [1] rfl (by decide) gX5_stick_X0_dotsOn ⟨Nat.le_of_ble_eq_true rfl, Nat.le_of_ble_eq_true rfl⟩ (Nat.le_of_ble_eq_true rfl) rfl dX5_stick_75 rfl h (fun r7 h => ?_)
          obtain ⟨rfl, rfl, rfl⟩ := pj3 (Option.some.inj h)
          exact g_iret C dX5_stick_78
        · refine g_bipush (pc' := 48) (v := -4) C dX5_stick_46 (by decide) rfl ?_
          obtain ⟨rfl, rfl, rfl⟩ := pj3 (Option.some.inj h)
          exact g_iret C dX5_stick_48
set_option maxRecDepth 100000 in
set_option maxHeartbeats 4000000 in
theorem c_X5_stick (l : Launch) (D : va_G) (cA : Nat → ClassId) (pa : Nat → Nat → Nat) (N : Nat) (Tn : tS) (B : tS) (Hs : tH) (p0 : Int32) (p1 : Int32) (r : Int32) (Bz : tS) (Hsz : tH) (h : f_X5_stick N Tn B Hs p0 p1 = some (r, Bz, Hsz)) : MI l D cA yX5_stick wsX5_stick 3 68 [.ref (pa 0 0), .int p0, .int p1] [ntW pa Tn, bdW cA (pa 1) B, hsW cA (pa 2) (fun j => pa (10 + j)) Hs] r [ntW pa Tn, bdW cA (pa 1) Bz, hsW cA (pa 2) (fun j => pa (10 + j)) Hsz] := MI_of (cc := cX5_stick) (maxL := 3) (rt := some .int) (by decide +kernel) rfl (List.forall_mem_cons.mpr ⟨rfl, List.forall_mem_cons.mpr ⟨rfl, List.forall_mem_cons.mpr ⟨rfl, List.forall_mem_nil _⟩⟩⟩) (Nat.le_of_ble_eq_true rfl) (fun X e1 e2 e3 C => by subst e1; subst e2; subst e3; exact B_X5_stick C pa N Tn B Hs p0 p1 r Bz Hsz h)
set_option maxRecDepth 100000 in
set_option maxHeartbeats 4000000 in
theorem nd_X5_stick : nd yX5_stick 2 := ⟨by decide +kernel, by decide +kernel, by decide +kernel⟩
set_option maxRecDepth 100000 in
set_option maxHeartbeats 4000000 in
theorem k_X5_stick {X : gX} {own : String} {cc : ByteArray} {nL : Nat} {ret : Option FieldType} {Ts : List Cond} {fr lm : Nat} {Q : State → Prop} {ms : List va_W} {L : List (Option Value)} {st : List Value} {pc pc' idx : Nat} {ρ : Type} {T : Int32 → tS → tH → Option ρ} {res : ρ} (C : cx X own cc nL ret Ts fr lm) (pa : Nat → Nat → Nat) (N : Nat) (Tn : tS) (B : tS) (Hs : tH) (p0 : Int32) (p1 : Int32) (is : List Nat) (hC : is.map (fun i => ms[i]?) = [some (ntW pa Tn), some (bdW (gcA X) (pa 1) B), some (hsW (gcA X) (pa 2) (fun j => pa (10 + j)) Hs)]) (hn : is.Nodup) (hG : GoodIn Ts (wsV own idx RX5 yX5_stick wsX5_stick)) (hR : 3 + 1 ≤ fr ∧ 8 + (3 + 11) + 68 ≤ lm) (hst : (st.map fun v => v.category).sum ≤ 8) (hLn : L.length = nL) (d : decode cc pc = .ok (.invokevirtual idx, 3)) (hp : pc + 3 = pc') (h : bd3 (f_X5_stick N Tn B Hs p0 p1) T = some res) (kk : ∀ (r : Int32) (Bz : tS) (Hsz : tH), T r Bz Hsz = some res → G X Q (rpl ms is [ntW pa Tn, bdW (gcA X) (pa 1) Bz, hsW (gcA X) (pa 2) (fun j => pa (10 + j)) Hsz]) L (.int r :: st) pc') : G X Q ms L (.int p1 :: .int p0 :: .ref (pa 0 0) :: st) pc := by
  obtain ⟨r, Bz, Hsz, h1, h⟩ := ob3 h
  exact G_callVI C (As := [.int p0, .int p1]) (c_X5_stick (gl X) (gD X) (gcA X) pa N Tn B Hs p0 p1 r Bz Hsz h1) hG rfl nd_X5_stick hR (q0 := 0) rfl rfl hC hn rfl rfl hst hLn d hp (kk r Bz Hsz h)
theorem hi_X5_unstick_X5 : ∀ w ∈ wsX50, w ∈ wsX5_unstick := fun w h => List.mem_cons_of_mem _ (List.mem_append_left _ (List.mem_append_left _ (List.mem_append_right _ h)))
theorem lk_X5_unstick_1 : Cond.fieldLink RX5 10 "NoteThemes" "board" "LNoteThemes$Board;" ∈ wsX5_unstick := List.mem_of_getElem? (i := 1) rfl
theorem lk_X5_unstick_2 : Cond.fieldLink RX5 19 "NoteThemes" "history" "LNoteThemes$History;" ∈ wsX5_unstick := List.mem_of_getElem? (i := 2) rfl
def f_X5_unstick (N : Nat) (Tn : tS) (B : tS) (Hs : tH) (p0 : Int32) (p1 : Int32) : Option (Int32 × tS × tH) := (bd (f_X5_isPerson N p0) (fun r1 => (if r1 = 0 then some ((-1 : Int32), B, Hs) else (bd (f_X0_hasNote N B p1) (fun r2 => (if r2 = 0 then some ((-1 : Int32), B, Hs) else (bd (f_X0_dotsOfPerson N B p0 p1) (fun r3 => (if r3 = 0 then some ((-4 : Int32), B, Hs) else (bd (f_X3_remember N Hs B) (fun Hs4 => (bd (f_X0_addDots N B p0 p1 (-1 : Int32)) (fun B5 => (bd (f_X0_dotsOn N B5 p1) (fun r6 => some (r6, B5, Hs4))))))))))))))))
set_option maxRecDepth 100000 in
set_option maxHeartbeats 4000000 in
theorem B_X5_unstick {X : gX} (C : cx X RX5 cX5_unstick 3 (some .int) wsX5_unstick 3 68) (pa : Nat → Nat → Nat) (N : Nat) (Tn : tS) (B : tS) (Hs : tH) (p0 : Int32) (p1 : Int32) (r : Int32) (Bz : tS) (Hsz : tH) (h : f_X5_unstick N Tn B Hs p0 p1 = some (r, Bz, Hsz)) : G X (QI X r [ntW pa Tn, bdW (gcA X) (pa 1) Bz, hsW (gcA X) (pa 2) (fun j => pa (10 + j)) Hsz]) [ntW pa Tn, bdW (gcA X) (pa 1) B, hsW (gcA X) (pa 2) (fun j => pa (10 + j)) Hs] [some (.ref (pa 0 0)), some (.int p0), some (.int p1)] [] 0 := by
  unfold f_X5_unstick at h
  refine g_iload_n (pc' := 1) C dX5_unstick_0 rfl rfl ?_
  refine k_X5_isPerson (pc' := 4) C N p0 [] rfl (by decide) gX5_unstick_X5_isPerson ⟨Nat.le_of_ble_eq_true rfl, Nat.le_of_ble_eq_true rfl⟩ (Nat.le_of_ble_eq_true rfl) rfl dX5_unstick_1 rfl h (fun r1 h => ?_)
  refine g_if_eq (pc' := 7) (tgt := 18) C dX5_unstick_4 (by decide) rfl h (fun c h => ?_) (fun c h => ?_)
  · refine g_iconst (pc' := 19) (v := -1) C dX5_unstick_18 (by decide) rfl ?_
    obtain ⟨rfl, rfl, rfl⟩ := pj3 (Option.some.inj h)
    exact g_iret C dX5_unstick_19
  · refine g_aload_n (pc' := 8) C dX5_unstick_7 rfl rfl ?_
    refine gg_X5_0 (pc' := 11) (i := 0) C rfl hi_X5_unstick_X5 lk_X5_unstick_1 dX5_unstick_8 rfl ?_
    refine g_iload_n (pc' := 12) C dX5_unstick_11 rfl rfl ?_
    refine k_X0_hasNote (pc' := 15) C (pa 1) N B p1 [1] rfl (by decide) gX5_unstick_X0_hasNote ⟨Nat.le_of_ble_eq_true rfl, Nat.le_of_ble_eq_true rfl⟩ (Nat.le_of_ble_eq_true rfl) rfl dX5_unstick_12 rfl h (fun r2 h => ?_)
    refine g_if_ne (pc' := 18) (tgt := 20) C dX5_unstick_15 (by decide) rfl h (fun c h => ?_) (fun c h => ?_)
    · refine g_iconst (pc' := 19) (v := -1) C dX5_unstick_18 (by decide) rfl ?_
      obtain ⟨rfl, rfl, rfl⟩ := pj3 (Option.some.inj h)
      exact g_iret C dX5_unstick_19
    · refine g_aload_n (pc' := 21) C dX5_unstick_20 rfl rfl ?_
      refine gg_X5_0 (pc' := 24) (i := 0) C rfl hi_X5_unstick_X5 lk_X5_unstick_1 dX5_unstick_21 rfl ?_
      refine g_iload_n (pc' := 25) C dX5_unstick_24 rfl rfl ?_
      refine g_iload_n (pc' := 26) C dX5_unstick_25 rfl rfl ?_
      refine k_X0_dotsOfPerson (pc' := 29) C (pa 1) N B p0 p1 [1] rfl (by decide) gX5_unstick_X0_dotsOfPerson ⟨Nat.le_of_ble_eq_true rfl, Nat.le_of_ble_eq_true rfl⟩ (Nat.le_of_ble_eq_true rfl) rfl dX5_unstick_26 rfl h (fun r3 h => ?_)
      refine g_if_ne (pc' := 32) (tgt := 35) C dX5_unstick_29 (by decide) rfl h (fun c h => ?_) (fun c h => ?_)
      · refine g_bipush (pc' := 34) (v := -4) C dX5_unstick_32 (by decide) rfl ?_
        obtain ⟨rfl, rfl, rfl⟩ := pj3 (Option.some.inj h)
        exact g_iret C dX5_unstick_34
      · refine g_aload_n (pc' := 36) C dX5_unstick_35 rfl rfl ?_
        refine gg_X5_1 (pc' := 39) (i := 0) C rfl hi_X5_unstick_X5 lk_X5_unstick_2 dX5_unstick_36 rfl ?_
        refine g_aload_n (pc' := 40) C dX5_unstick_39 rfl rfl ?_
        refine gg_X5_0 (pc' := 43) (i := 0) C rfl hi_X5_unstick_X5 lk_X5_unstick_1 dX5_unstick_40 rfl ?_
        refine k_X3_remember (pc' := 46) C (pa 2) (pa 1) (fun j => pa (10 + j)) N Hs B [2, 1] rfl (by decide) gX5_unstick_X3_remember ⟨Nat.le_of_ble_eq_true rfl, Nat.le_of_ble_eq_true rfl⟩ (Nat.le_of_ble_eq_true rfl) rfl dX5_unstick_43 rfl h (fun Hs4 h => ?_)
        show G X _ [ntW pa Tn, bdW (gcA X) (pa 1) B, hsW (gcA X) (pa 2) (fun j => pa (10 + j)) Hs4] _ _ _
        refine g_aload_n (pc' := 47) C dX5_unstick_46 rfl rfl ?_
        refine gg_X5_0 (pc' := 50) (i := 0) C rfl hi_X5_unstick_X5 lk_X5_unstick_1 dX5_unstick_47 rfl ?_
        refine g_iload_n (pc' := 51) C dX5_unstick_50 rfl rfl ?_
        refine g_iload_n (pc' := 52) C dX5_unstick_51 rfl rfl ?_
        refine g_iconst (pc' := 53) (v := -1) C dX5_unstick_52 (by decide) rfl ?_
        refine k_X0_addDots (pc' := 56) C (pa 1) N B p0 p1 (-1 : Int32) [1] rfl (by decide) gX5_unstick_X0_addDots ⟨Nat.le_of_ble_eq_true rfl, Nat.le_of_ble_eq_true rfl⟩ (Nat.le_of_ble_eq_true rfl) rfl dX5_unstick_53 rfl h (fun B5 h => ?_)
        show G X _ [ntW pa Tn, bdW (gcA X) (pa 1) B5, hsW (gcA X) (pa 2) (fun j => pa (10 + j)) Hs4] _ _ _
        refine g_aload_n (pc' := 57) C dX5_unstick_56 rfl rfl ?_
        refine gg_X5_0 (pc' := 60) (i := 0) C rfl hi_X5_unstick_X5 lk_X5_unstick_1 dX5_unstick_57 rfl ?_
        refine g_iload_n (pc' := 61) C dX5_unstick_60 rfl rfl ?_
        refine k_X0_dotsOn (pc' := 64) C (pa 1) N B5 p1 [1] rfl (by decide) gX5_unstick_X0_dotsOn ⟨Nat.le_of_ble_eq_true rfl, Nat.le_of_ble_eq_true rfl⟩ (Nat.le_of_ble_eq_true rfl) rfl dX5_unstick_61 rfl h (fun r6 h => ?_)
        obtain ⟨rfl, rfl, rfl⟩ := pj3 (Option.some.inj h)
        exact g_iret C dX5_unstick_64
set_option maxRecDepth 100000 in
set_option maxHeartbeats 4000000 in
theorem c_X5_unstick (l : Launch) (D : va_G) (cA : Nat → ClassId) (pa : Nat → Nat → Nat) (N : Nat) (Tn : tS) (B : tS) (Hs : tH) (p0 : Int32) (p1 : Int32) (r : Int32) (Bz : tS) (Hsz : tH) (h : f_X5_unstick N Tn B Hs p0 p1 = some (r, Bz, Hsz)) : MI l D cA yX5_unstick wsX5_unstick 3 68 [.ref (pa 0 0), .int p0, .int p1] [ntW pa Tn, bdW cA (pa 1) B, hsW cA (pa 2) (fun j => pa (10 + j)) Hs] r [ntW pa Tn, bdW cA (pa 1) Bz, hsW cA (pa 2) (fun j => pa (10 + j)) Hsz] := MI_of (cc := cX5_unstick) (maxL := 3) (rt := some .int) (by decide +kernel) rfl (List.forall_mem_cons.mpr ⟨rfl, List.forall_mem_cons.mpr ⟨rfl, List.forall_mem_cons.mpr ⟨rfl, List.forall_mem_nil _⟩⟩⟩) (Nat.le_of_ble_eq_true rfl) (fun X e1 e2 e3 C => by subst e1; subst e2; subst e3; exact B_X5_unstick C pa N Tn B Hs p0 p1 r Bz Hsz h)
set_option maxRecDepth 100000 in
set_option maxHeartbeats 4000000 in
theorem nd_X5_unstick : nd yX5_unstick 2 := ⟨by decide +kernel, by decide +kernel, by decide +kernel⟩
set_option maxRecDepth 100000 in
set_option maxHeartbeats 4000000 in
theorem k_X5_unstick {X : gX} {own : String} {cc : ByteArray} {nL : Nat} {ret : Option FieldType} {Ts : List Cond} {fr lm : Nat} {Q : State → Prop} {ms : List va_W} {L : List (Option Value)} {st : List Value} {pc pc' idx : Nat} {ρ : Type} {T : Int32 → tS → tH → Option ρ} {res : ρ} (C : cx X own cc nL ret Ts fr lm) (pa : Nat → Nat → Nat) (N : Nat) (Tn : tS) (B : tS) (Hs : tH) (p0 : Int32) (p1 : Int32) (is : List Nat) (hC : is.map (fun i => ms[i]?) = [some (ntW pa Tn), some (bdW (gcA X) (pa 1) B), some (hsW (gcA X) (pa 2) (fun j => pa (10 + j)) Hs)]) (hn : is.Nodup) (hG : GoodIn Ts (wsV own idx RX5 yX5_unstick wsX5_unstick)) (hR : 3 + 1 ≤ fr ∧ 8 + (3 + 11) + 68 ≤ lm) (hst : (st.map fun v => v.category).sum ≤ 8) (hLn : L.length = nL) (d : decode cc pc = .ok (.invokevirtual idx, 3)) (hp : pc + 3 = pc') (h : bd3 (f_X5_unstick N Tn B Hs p0 p1) T = some res) (kk : ∀ (r : Int32) (Bz : tS) (Hsz : tH), T r Bz Hsz = some res → G X Q (rpl ms is [ntW pa Tn, bdW (gcA X) (pa 1) Bz, hsW (gcA X) (pa 2) (fun j => pa (10 + j)) Hsz]) L (.int r :: st) pc') : G X Q ms L (.int p1 :: .int p0 :: .ref (pa 0 0) :: st) pc := by
  obtain ⟨r, Bz, Hsz, h1, h⟩ := ob3 h
  exact G_callVI C (As := [.int p0, .int p1]) (c_X5_unstick (gl X) (gD X) (gcA X) pa N Tn B Hs p0 p1 r Bz Hsz h1) hG rfl nd_X5_unstick hR (q0 := 0) rfl rfl hC hn rfl rfl hst hLn d hp (kk r Bz Hsz h)
theorem hi_X5_make_X0 : ∀ w ∈ wsX00, w ∈ wsX5_make := fun w h => List.mem_cons_of_mem _ (List.mem_append_left _ (List.mem_append_left _ (List.mem_append_right _ h)))
theorem hi_X5_make_X2 : ∀ w ∈ wsX20, w ∈ wsX5_make := fun w h => List.mem_cons_of_mem _ (List.mem_append_left _ (List.mem_append_right _ h))
theorem hi_X5_make_X5 : ∀ w ∈ wsX50, w ∈ wsX5_make := fun w h => List.mem_cons_of_mem _ (List.mem_append_left _ (List.mem_append_left _ (List.mem_append_left _ (List.mem_append_right _ h))))
theorem lk_X5_make_1 : Cond.fieldLink RX5 44 "NoteThemes" "heapsNow" "LNoteThemes$Heaps;" ∈ wsX5_make := List.mem_of_getElem? (i := 1) rfl
theorem lk_X5_make_2 : Cond.fieldLink RX5 10 "NoteThemes" "board" "LNoteThemes$Board;" ∈ wsX5_make := List.mem_of_getElem? (i := 2) rfl
theorem lk_X5_make_3 : Cond.fieldLink RX5 154 "NoteThemes$Board" "themes" "I" ∈ wsX5_make := List.mem_of_getElem? (i := 3) rfl
theorem lk_X5_make_4 : Cond.fieldLink RX5 19 "NoteThemes" "history" "LNoteThemes$History;" ∈ wsX5_make := List.mem_of_getElem? (i := 4) rfl
theorem lk_X5_make_5 : Cond.fieldLink RX5 71 "NoteThemes$Board" "notes" "I" ∈ wsX5_make := List.mem_of_getElem? (i := 5) rfl
theorem lk_X5_make_6 : Cond.fieldLink RX5 160 "NoteThemes$Heaps" "heapOf" "[I" ∈ wsX5_make := List.mem_of_getElem? (i := 6) rfl
theorem lk_X5_make_7 : Cond.fieldLink RX5 163 "NoteThemes$Board" "themeOf" "[I" ∈ wsX5_make := List.mem_of_getElem? (i := 7) rfl
def f_X5_make_120 (N : Nat) (Tn : tS) (p0 : Int32) (k72 : Int32 → Int32 → tS → tH → tS → Option (Int32 × tS × tH × tS)) (x2 : Int32) (x3 : Int32) (B : tS) (Hs : tH) (E : tS) : Option (Int32 × tS × tH × tS) := k72 x2 (x3 + 1) B Hs E
set_option maxRecDepth 100000 in
set_option maxHeartbeats 4000000 in
theorem B_X5_make_120 {X : gX} (C : cx X RX5 cX5_make 4 (some .int) wsX5_make 4 90) (pa : Nat → Nat → Nat) (N : Nat) (Tn : tS) (p0 : Int32) (r : Int32) (Bz : tS) (Hsz : tH) (Ez : tS) (k72 : Int32 → Int32 → tS → tH → tS → Option (Int32 × tS × tH × tS)) (hk72 : ∀ (x2 : Int32) (x3 : Int32) (B : tS) (Hs : tH) (E : tS), k72 x2 x3 B Hs E = some (r, Bz, Hsz, Ez) → G X (QI X r [ntW pa Tn, bdW (gcA X) (pa 1) Bz, hsW (gcA X) (pa 2) (fun j => pa (10 + j)) Hsz, heW (gcA X) (pa 6) Ez]) [ntW pa Tn, bdW (gcA X) (pa 1) B, hsW (gcA X) (pa 2) (fun j => pa (10 + j)) Hs, heW (gcA X) (pa 6) E] [some (.ref (pa 0 0)), some (.int p0), some (.int x2), some (.int x3)] [] 72) (x2 : Int32) (x3 : Int32) (B : tS) (Hs : tH) (E : tS) (h : f_X5_make_120 N Tn p0 k72 x2 x3 B Hs E = some (r, Bz, Hsz, Ez)) : G X (QI X r [ntW pa Tn, bdW (gcA X) (pa 1) Bz, hsW (gcA X) (pa 2) (fun j => pa (10 + j)) Hsz, heW (gcA X) (pa 6) Ez]) [ntW pa Tn, bdW (gcA X) (pa 1) B, hsW (gcA X) (pa 2) (fun j => pa (10 + j)) Hs, heW (gcA X) (pa 6) E] [some (.ref (pa 0 0)), some (.int p0), some (.int x2), some (.int x3)] [] 120 := by
  unfold f_X5_make_120 at h
  refine g_iinc (pc' := 123) (v := (x3 + 1)) C dX5_make_120 rfl rfl rfl (L' := [some (.ref (pa 0 0)), some (.int p0), some (.int x2), some (.int (x3 + 1))]) rfl ?_
  refine g_goto (pc' := 72) C dX5_make_123 (by decide) ?_
  exact G_loc (lle_s (lle_s (lle_s (lle_s lle_0)))) (hk72 x2 (x3 + 1) B Hs E h)
def f_X5_make_72b (N : Nat) (Tn : tS) (p0 : Int32)  (k72 : Int32 → Int32 → tS → tH → tS → Option (Int32 × tS × tH × tS)) (x2 : Int32) (x3 : Int32) (B : tS) (Hs : tH) (E : tS) : Option (Int32 × tS × tH × tS) := (if (B 0 0) ≤ x3 then some (x2, B, Hs, E) else (if x3 < 0 ∨ 20 ≤ x3.toNatClampNeg then none else (if (E 2 x3.toNatClampNeg) = p0 then (if x3 < 0 ∨ 20 ≤ x3.toNatClampNeg then none else (if (B 3 x3.toNatClampNeg) = (-5 : Int32) then (if x3 < 0 ∨ 20 ≤ x3.toNatClampNeg then none else f_X5_make_120 N Tn p0 k72 x2 x3 (va_up B 3 (upd (B 3) x3.toNatClampNeg x2)) Hs E) else f_X5_make_120 N Tn p0 k72 x2 x3 B Hs E)) else f_X5_make_120 N Tn p0 k72 x2 x3 B Hs E)))
def f_X5_make_72 (N : Nat) (Tn : tS) (p0 : Int32)  : Nat → Int32 → Int32 → tS → tH → tS → Option (Int32 × tS × tH × tS)
  | 0 => fun _ _ _ _ _ => none
  | n + 1 => f_X5_make_72b N Tn p0  (f_X5_make_72 N Tn p0  n)
set_option maxRecDepth 100000 in
set_option maxHeartbeats 4000000 in
theorem B_X5_make_72b {X : gX} (C : cx X RX5 cX5_make 4 (some .int) wsX5_make 4 90) (pa : Nat → Nat → Nat) (N : Nat) (Tn : tS) (p0 : Int32) (r : Int32) (Bz : tS) (Hsz : tH) (Ez : tS)  (k72 : Int32 → Int32 → tS → tH → tS → Option (Int32 × tS × tH × tS)) (hk72 : ∀ (x2 : Int32) (x3 : Int32) (B : tS) (Hs : tH) (E : tS), k72 x2 x3 B Hs E = some (r, Bz, Hsz, Ez) → G X (QI X r [ntW pa Tn, bdW (gcA X) (pa 1) Bz, hsW (gcA X) (pa 2) (fun j => pa (10 + j)) Hsz, heW (gcA X) (pa 6) Ez]) [ntW pa Tn, bdW (gcA X) (pa 1) B, hsW (gcA X) (pa 2) (fun j => pa (10 + j)) Hs, heW (gcA X) (pa 6) E] [some (.ref (pa 0 0)), some (.int p0), some (.int x2), some (.int x3)] [] 72) (x2 : Int32) (x3 : Int32) (B : tS) (Hs : tH) (E : tS) (h : f_X5_make_72b N Tn p0  k72 x2 x3 B Hs E = some (r, Bz, Hsz, Ez)) : G X (QI X r [ntW pa Tn, bdW (gcA X) (pa 1) Bz, hsW (gcA X) (pa 2) (fun j => pa (10 + j)) Hsz, heW (gcA X) (pa 6) Ez]) [ntW pa Tn, bdW (gcA X) (pa 1) B, hsW (gcA X) (pa 2) (fun j => pa (10 + j)) Hs, heW (gcA X) (pa 6) E] [some (.ref (pa 0 0)), some (.int p0), some (.int x2), some (.int x3)] [] 72 := by
  unfold f_X5_make_72b at h
  refine g_iload_n (pc' := 73) C dX5_make_72 rfl rfl ?_
  refine g_aload_n (pc' := 74) C dX5_make_73 rfl rfl ?_
  refine gg_X5_0 (pc' := 77) (i := 0) C rfl hi_X5_make_X5 lk_X5_make_2 dX5_make_74 rfl ?_
  refine gg_X0_0 (pc' := 80) (i := 1) C rfl hi_X5_make_X0 lk_X5_make_5 dX5_make_77 rfl ?_
  refine g_icmp_ge (pc' := 83) (tgt := 126) C dX5_make_80 (by decide) rfl h (fun c h => ?_) (fun c h => ?_)
  · refine g_iload_n (pc' := 127) C dX5_make_126 rfl rfl ?_
    obtain ⟨rfl, rfl, rfl, rfl⟩ := pj4 (Option.some.inj h)
    exact g_iret C dX5_make_127
  · refine g_aload_n (pc' := 84) C dX5_make_83 rfl rfl ?_
    refine gg_X5_7 (pc' := 87) (i := 0) C rfl hi_X5_make_X5 lk_X5_make_1 dX5_make_84 rfl ?_
    refine gg_X2_2 (pc' := 90) (i := 3) C rfl hi_X5_make_X2 lk_X5_make_6 dX5_make_87 rfl ?_
    refine g_iload_n (pc' := 91) C dX5_make_90 rfl rfl ?_
    refine g_iald (pc' := 92) (i := 3) (j := 1) C rfl rfl dX5_make_91 rfl h (fun h => ?_)
    refine g_iload_n (pc' := 93) C dX5_make_92 rfl rfl ?_
    refine g_icmp_ne (pc' := 96) (tgt := 120) C dX5_make_93 (by decide) rfl h (fun c h => ?_) (fun c h => ?_)
    · refine g_aload_n (pc' := 97) C dX5_make_96 rfl rfl ?_
      refine gg_X5_0 (pc' := 100) (i := 0) C rfl hi_X5_make_X5 lk_X5_make_2 dX5_make_97 rfl ?_
      refine gg_X0_3 (pc' := 103) (i := 1) C rfl hi_X5_make_X0 lk_X5_make_7 dX5_make_100 rfl ?_
      refine g_iload_n (pc' := 104) C dX5_make_103 rfl rfl ?_
      refine g_iald (pc' := 105) (i := 1) (j := 3) C rfl rfl dX5_make_104 rfl h (fun h => ?_)
      refine g_bipush (pc' := 107) (v := -5) C dX5_make_105 (by decide) rfl ?_
      refine g_icmp_ne (pc' := 110) (tgt := 120) C dX5_make_107 (by decide) rfl h (fun c h => ?_) (fun c h => ?_)
      · refine g_aload_n (pc' := 111) C dX5_make_110 rfl rfl ?_
        refine gg_X5_0 (pc' := 114) (i := 0) C rfl hi_X5_make_X5 lk_X5_make_2 dX5_make_111 rfl ?_
        refine gg_X0_3 (pc' := 117) (i := 1) C rfl hi_X5_make_X0 lk_X5_make_7 dX5_make_114 rfl ?_
        refine g_iload_n (pc' := 118) C dX5_make_117 rfl rfl ?_
        refine g_iload_n (pc' := 119) C dX5_make_118 rfl rfl ?_
        refine g_iast (pc' := 120) (i := 1) (j := 3) (w' := bdW (gcA X) (pa 1) (va_up B 3 (upd (B 3) x3.toNatClampNeg x2))) C rfl rfl rfl dX5_make_119 rfl h (fun h => ?_)
        show G X _ [ntW pa Tn, bdW (gcA X) (pa 1) (va_up B 3 (upd (B 3) x3.toNatClampNeg x2)), hsW (gcA X) (pa 2) (fun j => pa (10 + j)) Hs, heW (gcA X) (pa 6) E] _ _ _
        exact G_loc (lle_s (lle_s (lle_s (lle_s lle_0)))) (B_X5_make_120 C pa N Tn p0 r Bz Hsz Ez k72 hk72 x2 x3 (va_up B 3 (upd (B 3) x3.toNatClampNeg x2)) Hs E h)
      · exact G_loc (lle_s (lle_s (lle_s (lle_s lle_0)))) (B_X5_make_120 C pa N Tn p0 r Bz Hsz Ez k72 hk72 x2 x3 B Hs E h)
    · exact G_loc (lle_s (lle_s (lle_s (lle_s lle_0)))) (B_X5_make_120 C pa N Tn p0 r Bz Hsz Ez k72 hk72 x2 x3 B Hs E h)
set_option maxRecDepth 100000 in
set_option maxHeartbeats 4000000 in
theorem L_X5_make_72 {X : gX} (C : cx X RX5 cX5_make 4 (some .int) wsX5_make 4 90) (pa : Nat → Nat → Nat) (N : Nat) (Tn : tS) (p0 : Int32) (r : Int32) (Bz : tS) (Hsz : tH) (Ez : tS)  : ∀ (n : Nat) (x2 : Int32) (x3 : Int32) (B : tS) (Hs : tH) (E : tS), f_X5_make_72 N Tn p0  n x2 x3 B Hs E = some (r, Bz, Hsz, Ez) → G X (QI X r [ntW pa Tn, bdW (gcA X) (pa 1) Bz, hsW (gcA X) (pa 2) (fun j => pa (10 + j)) Hsz, heW (gcA X) (pa 6) Ez]) [ntW pa Tn, bdW (gcA X) (pa 1) B, hsW (gcA X) (pa 2) (fun j => pa (10 + j)) Hs, heW (gcA X) (pa 6) E] [some (.ref (pa 0 0)), some (.int p0), some (.int x2), some (.int x3)] [] 72 := by
  intro n
  induction n with
  | zero => intro x2 x3 B Hs E h; have h : (none : Option (Int32 × tS × tH × tS)) = some (r, Bz, Hsz, Ez) := h; cases h
  | succ n ih => intro x2 x3 B Hs E h; exact B_X5_make_72b C pa N Tn p0 r Bz Hsz Ez  (f_X5_make_72 N Tn p0  n) ih x2 x3 B Hs E h
def f_X5_make (N : Nat) (Tn : tS) (B : tS) (Hs : tH) (E : tS) (p0 : Int32) : Option (Int32 × tS × tH × tS) := (bd2 (f_X5_findHeaps N Tn B E) (fun r1 E1 => (bd (f_X2_has N E1 p0) (fun r2 => (if r2 = 0 then some ((-1 : Int32), B, Hs, E1) else (bd (f_X2_freeNotesIn N E1 B p0) (fun r3 => (if r3 = 0 then some ((-4 : Int32), B, Hs, E1) else (if (B 5 0) < (8 : Int32) then (bd (f_X3_remember N Hs B) (fun Hs4 => (bd2 (f_X0_addTheme N B) (fun r5 B5 => f_X5_make_72 N Tn p0 N r5 (0 : Int32) B5 Hs4 E1)))) else some ((-3 : Int32), B, Hs, E1))))))))))
set_option maxRecDepth 100000 in
set_option maxHeartbeats 4000000 in
theorem B_X5_make {X : gX} (C : cx X RX5 cX5_make 4 (some .int) wsX5_make 4 90) (pa : Nat → Nat → Nat) (N : Nat) (Tn : tS) (B : tS) (Hs : tH) (E : tS) (p0 : Int32) (r : Int32) (Bz : tS) (Hsz : tH) (Ez : tS) (h : f_X5_make N Tn B Hs E p0 = some (r, Bz, Hsz, Ez)) : G X (QI X r [ntW pa Tn, bdW (gcA X) (pa 1) Bz, hsW (gcA X) (pa 2) (fun j => pa (10 + j)) Hsz, heW (gcA X) (pa 6) Ez]) [ntW pa Tn, bdW (gcA X) (pa 1) B, hsW (gcA X) (pa 2) (fun j => pa (10 + j)) Hs, heW (gcA X) (pa 6) E] [some (.ref (pa 0 0)), some (.int p0), none, none] [] 0 := by
  unfold f_X5_make at h
  refine g_aload_n (pc' := 1) C dX5_make_0 rfl rfl ?_
  refine k_X5_findHeaps (pc' := 4) C pa N Tn B E [0, 1, 3] rfl (by decide) gX5_make_X5_findHeaps ⟨Nat.le_of_ble_eq_true rfl, Nat.le_of_ble_eq_true rfl⟩ (Nat.le_of_ble_eq_true rfl) rfl dX5_make_1 rfl h (fun r1 E1 h => ?_)
  show G X _ [ntW pa Tn, bdW (gcA X) (pa 1) B, hsW (gcA X) (pa 2) (fun j => pa (10 + j)) Hs, heW (gcA X) (pa 6) E1] _ _ _
  refine g_pop (pc' := 5) C dX5_make_4 rfl rfl ?_
  refine g_aload_n (pc' := 6) C dX5_make_5 rfl rfl ?_
  refine gg_X5_7 (pc' := 9) (i := 0) C rfl hi_X5_make_X5 lk_X5_make_1 dX5_make_6 rfl ?_
  refine g_iload_n (pc' := 10) C dX5_make_9 rfl rfl ?_
  refine k_X2_has (pc' := 13) C (pa 6) N E1 p0 [3] rfl (by decide) gX5_make_X2_has ⟨Nat.le_of_ble_eq_true rfl, Nat.le_of_ble_eq_true rfl⟩ (Nat.le_of_ble_eq_true rfl) rfl dX5_make_10 rfl h (fun r2 h => ?_)
  refine g_if_ne (pc' := 16) (tgt := 18) C dX5_make_13 (by decide) rfl h (fun c h => ?_) (fun c h => ?_)
  · refine g_iconst (pc' := 17) (v := -1) C dX5_make_16 (by decide) rfl ?_
    obtain ⟨rfl, rfl, rfl, rfl⟩ := pj4 (Option.some.inj h)
    exact g_iret C dX5_make_17
  · refine g_aload_n (pc' := 19) C dX5_make_18 rfl rfl ?_
    refine gg_X5_7 (pc' := 22) (i := 0) C rfl hi_X5_make_X5 lk_X5_make_1 dX5_make_19 rfl ?_
    refine g_iload_n (pc' := 23) C dX5_make_22 rfl rfl ?_
    refine g_aload_n (pc' := 24) C dX5_make_23 rfl rfl ?_
    refine gg_X5_0 (pc' := 27) (i := 0) C rfl hi_X5_make_X5 lk_X5_make_2 dX5_make_24 rfl ?_
    refine k_X2_freeNotesIn (pc' := 30) C (pa 6) (pa 1) N E1 B p0 [3, 1] rfl (by decide) gX5_make_X2_freeNotesIn ⟨Nat.le_of_ble_eq_true rfl, Nat.le_of_ble_eq_true rfl⟩ (Nat.le_of_ble_eq_true rfl) rfl dX5_make_27 rfl h (fun r3 h => ?_)
    refine g_if_ne (pc' := 33) (tgt := 36) C dX5_make_30 (by decide) rfl h (fun c h => ?_) (fun c h => ?_)
    · refine g_bipush (pc' := 35) (v := -4) C dX5_make_33 (by decide) rfl ?_
      obtain ⟨rfl, rfl, rfl, rfl⟩ := pj4 (Option.some.inj h)
      exact g_iret C dX5_make_35
    · refine g_aload_n (pc' := 37) C dX5_make_36 rfl rfl ?_
      refine gg_X5_0 (pc' := 40) (i := 0) C rfl hi_X5_make_X5 lk_X5_make_2 dX5_make_37 rfl ?_
      refine gg_X0_5 (pc' := 43) (i := 1) C rfl hi_X5_make_X0 lk_X5_make_3 dX5_make_40 rfl ?_
      refine g_bipush (pc' := 45) (v := 8) C dX5_make_43 (by decide) rfl ?_
      refine g_icmp_lt (pc' := 48) (tgt := 51) C dX5_make_45 (by decide) rfl h (fun c h => ?_) (fun c h => ?_)
      · refine g_aload_n (pc' := 52) C dX5_make_51 rfl rfl ?_
        refine gg_X5_1 (pc' := 55) (i := 0) C rfl hi_X5_make_X5 lk_X5_make_4 dX5_make_52 rfl ?_
        refine g_aload_n (pc' := 56) C dX5_make_55 rfl rfl ?_
        refine gg_X5_0 (pc' := 59) (i := 0) C rfl hi_X5_make_X5 lk_X5_make_2 dX5_make_56 rfl ?_
        refine k_X3_remember (pc' := 62) C (pa 2) (pa 1) (fun j => pa (10 + j)) N Hs B [2, 1] rfl (by decide) gX5_make_X3_remember ⟨Nat.le_of_ble_eq_true rfl, Nat.le_of_ble_eq_true rfl⟩ (Nat.le_of_ble_eq_true rfl) rfl dX5_make_59 rfl h (fun Hs4 h => ?_)
        show G X _ [ntW pa Tn, bdW (gcA X) (pa 1) B, hsW (gcA X) (pa 2) (fun j => pa (10 + j)) Hs4, heW (gcA X) (pa 6) E1] _ _ _
        refine g_aload_n (pc' := 63) C dX5_make_62 rfl rfl ?_
        refine gg_X5_0 (pc' := 66) (i := 0) C rfl hi_X5_make_X5 lk_X5_make_2 dX5_make_63 rfl ?_
        refine k_X0_addTheme (pc' := 69) C (pa 1) N B [1] rfl (by decide) gX5_make_X0_addTheme ⟨Nat.le_of_ble_eq_true rfl, Nat.le_of_ble_eq_true rfl⟩ (Nat.le_of_ble_eq_true rfl) rfl dX5_make_66 rfl h (fun r5 B5 h => ?_)
        show G X _ [ntW pa Tn, bdW (gcA X) (pa 1) B5, hsW (gcA X) (pa 2) (fun j => pa (10 + j)) Hs4, heW (gcA X) (pa 6) E1] _ _ _
        refine g_istore_n (pc' := 70) C dX5_make_69 (Nat.le_of_ble_eq_true rfl) rfl (L' := [some (.ref (pa 0 0)), some (.int p0), some (.int r5), none]) rfl ?_
        refine g_iconst (pc' := 71) (v := 0) C dX5_make_70 (by decide) rfl ?_
        refine g_istore_n (pc' := 72) C dX5_make_71 (Nat.le_of_ble_eq_true rfl) rfl (L' := [some (.ref (pa 0 0)), some (.int p0), some (.int r5), some (.int (0 : Int32))]) rfl ?_
        exact G_loc (lle_s (lle_s (lle_s (lle_s lle_0)))) (L_X5_make_72 C pa N Tn p0 r Bz Hsz Ez N r5 (0 : Int32) B5 Hs4 E1 h)
      · refine g_bipush (pc' := 50) (v := -3) C dX5_make_48 (by decide) rfl ?_
        obtain ⟨rfl, rfl, rfl, rfl⟩ := pj4 (Option.some.inj h)
        exact g_iret C dX5_make_50
set_option maxRecDepth 100000 in
set_option maxHeartbeats 4000000 in
theorem c_X5_make (l : Launch) (D : va_G) (cA : Nat → ClassId) (pa : Nat → Nat → Nat) (N : Nat) (Tn : tS) (B : tS) (Hs : tH) (E : tS) (p0 : Int32) (r : Int32) (Bz : tS) (Hsz : tH) (Ez : tS) (h : f_X5_make N Tn B Hs E p0 = some (r, Bz, Hsz, Ez)) : MI l D cA yX5_make wsX5_make 4 90 [.ref (pa 0 0), .int p0] [ntW pa Tn, bdW cA (pa 1) B, hsW cA (pa 2) (fun j => pa (10 + j)) Hs, heW cA (pa 6) E] r [ntW pa Tn, bdW cA (pa 1) Bz, hsW cA (pa 2) (fun j => pa (10 + j)) Hsz, heW cA (pa 6) Ez] := MI_of (cc := cX5_make) (maxL := 4) (rt := some .int) (by decide +kernel) rfl (List.forall_mem_cons.mpr ⟨rfl, List.forall_mem_cons.mpr ⟨rfl, List.forall_mem_nil _⟩⟩) (Nat.le_of_ble_eq_true rfl) (fun X e1 e2 e3 C => by subst e1; subst e2; subst e3; exact B_X5_make C pa N Tn B Hs E p0 r Bz Hsz Ez h)
set_option maxRecDepth 100000 in
set_option maxHeartbeats 4000000 in
theorem nd_X5_make : nd yX5_make 1 := ⟨by decide +kernel, by decide +kernel, by decide +kernel⟩
set_option maxRecDepth 100000 in
set_option maxHeartbeats 4000000 in
theorem k_X5_make {X : gX} {own : String} {cc : ByteArray} {nL : Nat} {ret : Option FieldType} {Ts : List Cond} {fr lm : Nat} {Q : State → Prop} {ms : List va_W} {L : List (Option Value)} {st : List Value} {pc pc' idx : Nat} {ρ : Type} {T : Int32 → tS → tH → tS → Option ρ} {res : ρ} (C : cx X own cc nL ret Ts fr lm) (pa : Nat → Nat → Nat) (N : Nat) (Tn : tS) (B : tS) (Hs : tH) (E : tS) (p0 : Int32) (is : List Nat) (hC : is.map (fun i => ms[i]?) = [some (ntW pa Tn), some (bdW (gcA X) (pa 1) B), some (hsW (gcA X) (pa 2) (fun j => pa (10 + j)) Hs), some (heW (gcA X) (pa 6) E)]) (hn : is.Nodup) (hG : GoodIn Ts (wsV own idx RX5 yX5_make wsX5_make)) (hR : 4 + 1 ≤ fr ∧ 8 + (4 + 11) + 90 ≤ lm) (hst : (st.map fun v => v.category).sum ≤ 8) (hLn : L.length = nL) (d : decode cc pc = .ok (.invokevirtual idx, 3)) (hp : pc + 3 = pc') (h : bd4 (f_X5_make N Tn B Hs E p0) T = some res) (kk : ∀ (r : Int32) (Bz : tS) (Hsz : tH) (Ez : tS), T r Bz Hsz Ez = some res → G X Q (rpl ms is [ntW pa Tn, bdW (gcA X) (pa 1) Bz, hsW (gcA X) (pa 2) (fun j => pa (10 + j)) Hsz, heW (gcA X) (pa 6) Ez]) L (.int r :: st) pc') : G X Q ms L (.int p0 :: .ref (pa 0 0) :: st) pc := by
  obtain ⟨r, Bz, Hsz, Ez, h1, h⟩ := ob4 h
  exact G_callVI C (As := [.int p0]) (c_X5_make (gl X) (gD X) (gcA X) pa N Tn B Hs E p0 r Bz Hsz Ez h1) hG rfl nd_X5_make hR (q0 := 0) rfl rfl hC hn rfl rfl hst hLn d hp (kk r Bz Hsz Ez h)
theorem hi_X5_merge_X5 : ∀ w ∈ wsX50, w ∈ wsX5_merge := fun w h => List.mem_cons_of_mem _ (List.mem_append_left _ (List.mem_append_left _ (List.mem_append_right _ h)))
theorem lk_X5_merge_1 : Cond.fieldLink RX5 10 "NoteThemes" "board" "LNoteThemes$Board;" ∈ wsX5_merge := List.mem_of_getElem? (i := 1) rfl
theorem lk_X5_merge_2 : Cond.fieldLink RX5 19 "NoteThemes" "history" "LNoteThemes$History;" ∈ wsX5_merge := List.mem_of_getElem? (i := 2) rfl
def f_X5_merge_68 (N : Nat) (Tn : tS) (p0 : Int32) (p1 : Int32)  (t0 : Int32) (B : tS) (Hs : tH) : Option (Int32 × tS × tH) := (bd (f_X0_notesOfTheme N B t0) (fun r1 => some (r1, B, Hs)))
set_option maxRecDepth 100000 in
set_option maxHeartbeats 4000000 in
theorem B_X5_merge_68 {X : gX} (C : cx X RX5 cX5_merge 3 (some .int) wsX5_merge 3 69) (pa : Nat → Nat → Nat) (N : Nat) (Tn : tS) (p0 : Int32) (p1 : Int32) (r : Int32) (Bz : tS) (Hsz : tH)  (t0 : Int32) (B : tS) (Hs : tH) (h : f_X5_merge_68 N Tn p0 p1  t0 B Hs = some (r, Bz, Hsz)) : G X (QI X r [ntW pa Tn, bdW (gcA X) (pa 1) Bz, hsW (gcA X) (pa 2) (fun j => pa (10 + j)) Hsz]) [ntW pa Tn, bdW (gcA X) (pa 1) B, hsW (gcA X) (pa 2) (fun j => pa (10 + j)) Hs] [some (.ref (pa 0 0)), some (.int p0), some (.int p1)] [.int t0, .ref (pa 1 0)] 68 := by
  unfold f_X5_merge_68 at h
  refine k_X0_notesOfTheme (pc' := 71) C (pa 1) N B t0 [1] rfl (by decide) gX5_merge_X0_notesOfTheme ⟨Nat.le_of_ble_eq_true rfl, Nat.le_of_ble_eq_true rfl⟩ (Nat.le_of_ble_eq_true rfl) rfl dX5_merge_68 rfl h (fun r1 h => ?_)
  obtain ⟨rfl, rfl, rfl⟩ := pj3 (Option.some.inj h)
  exact g_iret C dX5_merge_71
def f_X5_merge (N : Nat) (Tn : tS) (B : tS) (Hs : tH) (p0 : Int32) (p1 : Int32) : Option (Int32 × tS × tH) := (bd (f_X0_hasTheme N B p0) (fun r1 => (if r1 = 0 then some ((-1 : Int32), B, Hs) else (bd (f_X0_hasTheme N B p1) (fun r2 => (if r2 = 0 then some ((-1 : Int32), B, Hs) else (if p0 = p1 then some ((-2 : Int32), B, Hs) else (bd (f_X3_remember N Hs B) (fun Hs3 => (bd (f_X0_mergeThemes N B p0 p1) (fun B4 => (if p0 ≤ p1 then f_X5_merge_68 N Tn p0 p1 p0 B4 Hs3 else f_X5_merge_68 N Tn p0 p1 (p0 - (1 : Int32)) B4 Hs3))))))))))))
set_option maxRecDepth 100000 in
set_option maxHeartbeats 4000000 in
theorem B_X5_merge {X : gX} (C : cx X RX5 cX5_merge 3 (some .int) wsX5_merge 3 69) (pa : Nat → Nat → Nat) (N : Nat) (Tn : tS) (B : tS) (Hs : tH) (p0 : Int32) (p1 : Int32) (r : Int32) (Bz : tS) (Hsz : tH) (h : f_X5_merge N Tn B Hs p0 p1 = some (r, Bz, Hsz)) : G X (QI X r [ntW pa Tn, bdW (gcA X) (pa 1) Bz, hsW (gcA X) (pa 2) (fun j => pa (10 + j)) Hsz]) [ntW pa Tn, bdW (gcA X) (pa 1) B, hsW (gcA X) (pa 2) (fun j => pa (10 + j)) Hs] [some (.ref (pa 0 0)), some (.int p0), some (.int p1)] [] 0 := by
  unfold f_X5_merge at h
  refine g_aload_n (pc' := 1) C dX5_merge_0 rfl rfl ?_
  refine gg_X5_0 (pc' := 4) (i := 0) C rfl hi_X5_merge_X5 lk_X5_merge_1 dX5_merge_1 rfl ?_
  refine g_iload_n (pc' := 5) C dX5_merge_4 rfl rfl ?_
  refine k_X0_hasTheme (pc' := 8) C (pa 1) N B p0 [1] rfl (by decide) gX5_merge_X0_hasTheme ⟨Nat.le_of_ble_eq_true rfl, Nat.le_of_ble_eq_true rfl⟩ (Nat.le_of_ble_eq_true rfl) rfl dX5_merge_5 rfl h (fun r1 h => ?_)
  refine g_if_eq (pc' := 11) (tgt := 22) C dX5_merge_8 (by decide) rfl h (fun c h => ?_) (fun c h => ?_)
  · refine g_iconst (pc' := 23) (v := -1) C dX5_merge_22 (by decide) rfl ?_
    obtain ⟨rfl, rfl, rfl⟩ := pj3 (Option.some.inj h)
    exact g_iret C dX5_merge_23
  · refine g_aload_n (pc' := 12) C dX5_merge_11 rfl rfl ?_
    refine gg_X5_0 (pc' := 15) (i := 0) C rfl hi_X5_merge_X5 lk_X5_merge_1 dX5_merge_12 rfl ?_
    refine g_iload_n (pc' := 16) C dX5_merge_15 rfl rfl ?_
    refine k_X0_hasTheme (pc' := 19) C (pa 1) N B p1 [1] rfl (by decide) gX5_merge_X0_hasTheme ⟨Nat.le_of_ble_eq_true rfl, Nat.le_of_ble_eq_true rfl⟩ (Nat.le_of_ble_eq_true rfl) rfl dX5_merge_16 rfl h (fun r2 h => ?_)
    refine g_if_ne (pc' := 22) (tgt := 24) C dX5_merge_19 (by decide) rfl h (fun c h => ?_) (fun c h => ?_)
    · refine g_iconst (pc' := 23) (v := -1) C dX5_merge_22 (by decide) rfl ?_
      obtain ⟨rfl, rfl, rfl⟩ := pj3 (Option.some.inj h)
      exact g_iret C dX5_merge_23
    · refine g_iload_n (pc' := 25) C dX5_merge_24 rfl rfl ?_
      refine g_iload_n (pc' := 26) C dX5_merge_25 rfl rfl ?_
      refine g_icmp_ne (pc' := 29) (tgt := 32) C dX5_merge_26 (by decide) rfl h (fun c h => ?_) (fun c h => ?_)
      · refine g_bipush (pc' := 31) (v := -2) C dX5_merge_29 (by decide) rfl ?_
        obtain ⟨rfl, rfl, rfl⟩ := pj3 (Option.some.inj h)
        exact g_iret C dX5_merge_31
      · refine g_aload_n (pc' := 33) C dX5_merge_32 rfl rfl ?_
        refine gg_X5_1 (pc' := 36) (i := 0) C rfl hi_X5_merge_X5 lk_X5_merge_2 dX5_merge_33 rfl ?_
        refine g_aload_n (pc' := 37) C dX5_merge_36 rfl rfl ?_
        refine gg_X5_0 (pc' := 40) (i := 0) C rfl hi_X5_merge_X5 lk_X5_merge_1 dX5_merge_37 rfl ?_
        refine k_X3_remember (pc' := 43) C (pa 2) (pa 1) (fun j => pa (10 + j)) N Hs B [2, 1] rfl (by decide) gX5_merge_X3_remember ⟨Nat.le_of_ble_eq_true rfl, Nat.le_of_ble_eq_true rfl⟩ (Nat.le_of_ble_eq_true rfl) rfl dX5_merge_40 rfl h (fun Hs3 h => ?_)
        show G X _ [ntW pa Tn, bdW (gcA X) (pa 1) B, hsW (gcA X) (pa 2) (fun j => pa (10 + j)) Hs3] _ _ _
        refine g_aload_n (pc' := 44) C dX5_merge_43 rfl rfl ?_
        refine gg_X5_0 (pc' := 47) (i := 0) C rfl hi_X5_merge_X5 lk_X5_merge_1 dX5_merge_44 rfl ?_
        refine g_iload_n (pc' := 48) C dX5_merge_47 rfl rfl ?_
        refine g_iload_n (pc' := 49) C dX5_merge_48 rfl rfl ?_
        refine k_X0_mergeThemes (pc' := 52) C (pa 1) N B p0 p1 [1] rfl (by decide) gX5_merge_X0_mergeThemes ⟨Nat.le_of_ble_eq_true rfl, Nat.le_of_ble_eq_true rfl⟩ (Nat.le_of_ble_eq_true rfl) rfl dX5_merge_49 rfl h (fun B4 h => ?_)
        show G X _ [ntW pa Tn, bdW (gcA X) (pa 1) B4, hsW (gcA X) (pa 2) (fun j => pa (10 + j)) Hs3] _ _ _
        refine g_aload_n (pc' := 53) C dX5_merge_52 rfl rfl ?_
        refine gg_X5_0 (pc' := 56) (i := 0) C rfl hi_X5_merge_X5 lk_X5_merge_1 dX5_merge_53 rfl ?_
        refine g_iload_n (pc' := 57) C dX5_merge_56 rfl rfl ?_
        refine g_iload_n (pc' := 58) C dX5_merge_57 rfl rfl ?_
        refine g_icmp_ge (pc' := 61) (tgt := 67) C dX5_merge_58 (by decide) rfl h (fun c h => ?_) (fun c h => ?_)
        · refine g_iload_n (pc' := 68) C dX5_merge_67 rfl rfl ?_
          exact G_loc (lle_s (lle_s (lle_s lle_0))) (B_X5_merge_68 C pa N Tn p0 p1 r Bz Hsz p0 B4 Hs3 h)
        · refine g_iload_n (pc' := 62) C dX5_merge_61 rfl rfl ?_
          refine g_iconst (pc' := 63) (v := 1) C dX5_merge_62 (by decide) rfl ?_
          refine g_isub (pc' := 64) C dX5_merge_63 rfl ?_
          refine g_goto (pc' := 68) C dX5_merge_64 (by decide) ?_
          exact G_loc (lle_s (lle_s (lle_s lle_0))) (B_X5_merge_68 C pa N Tn p0 p1 r Bz Hsz (p0 - (1 : Int32)) B4 Hs3 h)
set_option maxRecDepth 100000 in
set_option maxHeartbeats 4000000 in
theorem c_X5_merge (l : Launch) (D : va_G) (cA : Nat → ClassId) (pa : Nat → Nat → Nat) (N : Nat) (Tn : tS) (B : tS) (Hs : tH) (p0 : Int32) (p1 : Int32) (r : Int32) (Bz : tS) (Hsz : tH) (h : f_X5_merge N Tn B Hs p0 p1 = some (r, Bz, Hsz)) : MI l D cA yX5_merge wsX5_merge 3 69 [.ref (pa 0 0), .int p0, .int p1] [ntW pa Tn, bdW cA (pa 1) B, hsW cA (pa 2) (fun j => pa (10 + j)) Hs] r [ntW pa Tn, bdW cA (pa 1) Bz, hsW cA (pa 2) (fun j => pa (10 + j)) Hsz] := MI_of (cc := cX5_merge) (maxL := 3) (rt := some .int) (by decide +kernel) rfl (List.forall_mem_cons.mpr ⟨rfl, List.forall_mem_cons.mpr ⟨rfl, List.forall_mem_cons.mpr ⟨rfl, List.forall_mem_nil _⟩⟩⟩) (Nat.le_of_ble_eq_true rfl) (fun X e1 e2 e3 C => by subst e1; subst e2; subst e3; exact B_X5_merge C pa N Tn B Hs p0 p1 r Bz Hsz h)
set_option maxRecDepth 100000 in
set_option maxHeartbeats 4000000 in
theorem nd_X5_merge : nd yX5_merge 2 := ⟨by decide +kernel, by decide +kernel, by decide +kernel⟩
set_option maxRecDepth 100000 in
set_option maxHeartbeats 4000000 in
theorem k_X5_merge {X : gX} {own : String} {cc : ByteArray} {nL : Nat} {ret : Option FieldType} {Ts : List Cond} {fr lm : Nat} {Q : State → Prop} {ms : List va_W} {L : List (Option Value)} {st : List Value} {pc pc' idx : Nat} {ρ : Type} {T : Int32 → tS → tH → Option ρ} {res : ρ} (C : cx X own cc nL ret Ts fr lm) (pa : Nat → Nat → Nat) (N : Nat) (Tn : tS) (B : tS) (Hs : tH) (p0 : Int32) (p1 : Int32) (is : List Nat) (hC : is.map (fun i => ms[i]?) = [some (ntW pa Tn), some (bdW (gcA X) (pa 1) B), some (hsW (gcA X) (pa 2) (fun j => pa (10 + j)) Hs)]) (hn : is.Nodup) (hG : GoodIn Ts (wsV own idx RX5 yX5_merge wsX5_merge)) (hR : 3 + 1 ≤ fr ∧ 8 + (3 + 11) + 69 ≤ lm) (hst : (st.map fun v => v.category).sum ≤ 8) (hLn : L.length = nL) (d : decode cc pc = .ok (.invokevirtual idx, 3)) (hp : pc + 3 = pc') (h : bd3 (f_X5_merge N Tn B Hs p0 p1) T = some res) (kk : ∀ (r : Int32) (Bz : tS) (Hsz : tH), T r Bz Hsz = some res → G X Q (rpl ms is [ntW pa Tn, bdW (gcA X) (pa 1) Bz, hsW (gcA X) (pa 2) (fun j => pa (10 + j)) Hsz]) L (.int r :: st) pc') : G X Q ms L (.int p1 :: .int p0 :: .ref (pa 0 0) :: st) pc := by
  obtain ⟨r, Bz, Hsz, h1, h⟩ := ob3 h
  exact G_callVI C (As := [.int p0, .int p1]) (c_X5_merge (gl X) (gD X) (gcA X) pa N Tn B Hs p0 p1 r Bz Hsz h1) hG rfl nd_X5_merge hR (q0 := 0) rfl rfl hC hn rfl rfl hst hLn d hp (kk r Bz Hsz h)
theorem hi_X5_belong_X0 : ∀ w ∈ wsX00, w ∈ wsX5_belong := fun w h => List.mem_cons_of_mem _ (List.mem_append_left _ (List.mem_append_right _ h))
theorem hi_X5_belong_X5 : ∀ w ∈ wsX50, w ∈ wsX5_belong := fun w h => List.mem_cons_of_mem _ (List.mem_append_left _ (List.mem_append_left _ (List.mem_append_right _ h)))
theorem lk_X5_belong_1 : Cond.fieldLink RX5 10 "NoteThemes" "board" "LNoteThemes$Board;" ∈ wsX5_belong := List.mem_of_getElem? (i := 1) rfl
theorem lk_X5_belong_2 : Cond.fieldLink RX5 163 "NoteThemes$Board" "themeOf" "[I" ∈ wsX5_belong := List.mem_of_getElem? (i := 2) rfl
theorem lk_X5_belong_3 : Cond.fieldLink RX5 19 "NoteThemes" "history" "LNoteThemes$History;" ∈ wsX5_belong := List.mem_of_getElem? (i := 3) rfl
theorem lk_X5_belong_4 : Cond.fieldLink RX5 154 "NoteThemes$Board" "themes" "I" ∈ wsX5_belong := List.mem_of_getElem? (i := 4) rfl
def f_X5_belong_30 (N : Nat) (Tn : tS) (p0 : Int32) (p1 : Int32)  (B : tS) (Hs : tH) : Option (Int32 × tS × tH) := (if p0 < 0 ∨ 20 ≤ p0.toNatClampNeg then none else (if (B 3 p0.toNatClampNeg) = p1 then some ((-5 : Int32), B, Hs) else (bd (f_X3_remember N Hs B) (fun Hs1 => (if p0 < 0 ∨ 20 ≤ p0.toNatClampNeg then none else (bd (f_X0_removeThemeIfEmpty N (va_up B 3 (upd (B 3) p0.toNatClampNeg p1)) (B 3 p0.toNatClampNeg)) (fun B2 => some ((B2 5 0), B2, Hs1))))))))
set_option maxRecDepth 100000 in
set_option maxHeartbeats 4000000 in
theorem B_X5_belong_30 {X : gX} (C : cx X RX5 cX5_belong 4 (some .int) wsX5_belong 3 68) (pa : Nat → Nat → Nat) (N : Nat) (Tn : tS) (p0 : Int32) (p1 : Int32) (r : Int32) (Bz : tS) (Hsz : tH)  (B : tS) (Hs : tH) (h : f_X5_belong_30 N Tn p0 p1  B Hs = some (r, Bz, Hsz)) : G X (QI X r [ntW pa Tn, bdW (gcA X) (pa 1) Bz, hsW (gcA X) (pa 2) (fun j => pa (10 + j)) Hsz]) [ntW pa Tn, bdW (gcA X) (pa 1) B, hsW (gcA X) (pa 2) (fun j => pa (10 + j)) Hs] [some (.ref (pa 0 0)), some (.int p0), some (.int p1), none] [] 30 := by
  unfold f_X5_belong_30 at h
  refine g_aload_n (pc' := 31) C dX5_belong_30 rfl rfl ?_
  refine gg_X5_0 (pc' := 34) (i := 0) C rfl hi_X5_belong_X5 lk_X5_belong_1 dX5_belong_31 rfl ?_
  refine gg_X0_3 (pc' := 37) (i := 1) C rfl hi_X5_belong_X0 lk_X5_belong_2 dX5_belong_34 rfl ?_
  refine g_iload_n (pc' := 38) C dX5_belong_37 rfl rfl ?_
  refine g_iald (pc' := 39) (i := 1) (j := 3) C rfl rfl dX5_belong_38 rfl h (fun h => ?_)
  refine g_istore_n (pc' := 40) C dX5_belong_39 (Nat.le_of_ble_eq_true rfl) rfl (L' := [some (.ref (pa 0 0)), some (.int p0), some (.int p1), some (.int (B 3 p0.toNatClampNeg))]) rfl ?_
  refine g_iload_n (pc' := 41) C dX5_belong_40 rfl rfl ?_
  refine g_iload_n (pc' := 42) C dX5_belong_41 rfl rfl ?_
  refine g_icmp_ne (pc' := 45) (tgt := 48) C dX5_belong_42 (by decide) rfl h (fun c h => ?_) (fun c h => ?_)
  · refine g_bipush (pc' := 47) (v := -5) C dX5_belong_45 (by decide) rfl ?_
    obtain ⟨rfl, rfl, rfl⟩ := pj3 (Option.some.inj h)
    exact g_iret C dX5_belong_47
  · refine g_aload_n (pc' := 49) C dX5_belong_48 rfl rfl ?_
    refine gg_X5_1 (pc' := 52) (i := 0) C rfl hi_X5_belong_X5 lk_X5_belong_3 dX5_belong_49 rfl ?_
    refine g_aload_n (pc' := 53) C dX5_belong_52 rfl rfl ?_
    refine gg_X5_0 (pc' := 56) (i := 0) C rfl hi_X5_belong_X5 lk_X5_belong_1 dX5_belong_53 rfl ?_
    refine k_X3_remember (pc' := 59) C (pa 2) (pa 1) (fun j => pa (10 + j)) N Hs B [2, 1] rfl (by decide) gX5_belong_X3_remember ⟨Nat.le_of_ble_eq_true rfl, Nat.le_of_ble_eq_true rfl⟩ (Nat.le_of_ble_eq_true rfl) rfl dX5_belong_56 rfl h (fun Hs1 h => ?_)
    show G X _ [ntW pa Tn, bdW (gcA X) (pa 1) B, hsW (gcA X) (pa 2) (fun j => pa (10 + j)) Hs1] _ _ _
    refine g_aload_n (pc' := 60) C dX5_belong_59 rfl rfl ?_
    refine gg_X5_0 (pc' := 63) (i := 0) C rfl hi_X5_belong_X5 lk_X5_belong_1 dX5_belong_60 rfl ?_
    refine gg_X0_3 (pc' := 66) (i := 1) C rfl hi_X5_belong_X0 lk_X5_belong_2 dX5_belong_63 rfl ?_
    refine g_iload_n (pc' := 67) C dX5_belong_66 rfl rfl ?_
    refine g_iload_n (pc' := 68) C dX5_belong_67 rfl rfl ?_
    refine g_iast (pc' := 69) (i := 1) (j := 3) (w' := bdW (gcA X) (pa 1) (va_up B 3 (upd (B 3) p0.toNatClampNeg p1))) C rfl rfl rfl dX5_belong_68 rfl h (fun h => ?_)
    show G X _ [ntW pa Tn, bdW (gcA X) (pa 1) (va_up B 3 (upd (B 3) p0.toNatClampNeg p1)), hsW (gcA X) (pa 2) (fun j => pa (10 + j)) Hs1] _ _ _
    refine g_aload_n (pc' := 70) C dX5_belong_69 rfl rfl ?_
    refine gg_X5_0 (pc' := 73) (i := 0) C rfl hi_X5_belong_X5 lk_X5_belong_1 dX5_belong_70 rfl ?_
    refine g_iload_n (pc' := 74) C dX5_belong_73 rfl rfl ?_
    refine k_X0_removeThemeIfEmpty (pc' := 77) C (pa 1) N (va_up B 3 (upd (B 3) p0.toNatClampNeg p1)) (B 3 p0.toNatClampNeg) [1] rfl (by decide) gX5_belong_X0_removeThemeIfEmpty ⟨Nat.le_of_ble_eq_true rfl, Nat.le_of_ble_eq_true rfl⟩ (Nat.le_of_ble_eq_true rfl) rfl dX5_belong_74 rfl h (fun B2 h => ?_)
    show G X _ [ntW pa Tn, bdW (gcA X) (pa 1) B2, hsW (gcA X) (pa 2) (fun j => pa (10 + j)) Hs1] _ _ _
    refine g_aload_n (pc' := 78) C dX5_belong_77 rfl rfl ?_
    refine gg_X5_0 (pc' := 81) (i := 0) C rfl hi_X5_belong_X5 lk_X5_belong_1 dX5_belong_78 rfl ?_
    refine gg_X0_5 (pc' := 84) (i := 1) C rfl hi_X5_belong_X0 lk_X5_belong_4 dX5_belong_81 rfl ?_
    obtain ⟨rfl, rfl, rfl⟩ := pj3 (Option.some.inj h)
    exact g_iret C dX5_belong_84
def f_X5_belong (N : Nat) (Tn : tS) (B : tS) (Hs : tH) (p0 : Int32) (p1 : Int32) : Option (Int32 × tS × tH) := (bd (f_X0_hasNote N B p0) (fun r1 => (if r1 = 0 then some ((-1 : Int32), B, Hs) else (if p1 = (-5 : Int32) then f_X5_belong_30 N Tn p0 p1 B Hs else (bd (f_X0_hasTheme N B p1) (fun r2 => (if r2 = 0 then some ((-1 : Int32), B, Hs) else f_X5_belong_30 N Tn p0 p1 B Hs)))))))
set_option maxRecDepth 100000 in
set_option maxHeartbeats 4000000 in
theorem B_X5_belong {X : gX} (C : cx X RX5 cX5_belong 4 (some .int) wsX5_belong 3 68) (pa : Nat → Nat → Nat) (N : Nat) (Tn : tS) (B : tS) (Hs : tH) (p0 : Int32) (p1 : Int32) (r : Int32) (Bz : tS) (Hsz : tH) (h : f_X5_belong N Tn B Hs p0 p1 = some (r, Bz, Hsz)) : G X (QI X r [ntW pa Tn, bdW (gcA X) (pa 1) Bz, hsW (gcA X) (pa 2) (fun j => pa (10 + j)) Hsz]) [ntW pa Tn, bdW (gcA X) (pa 1) B, hsW (gcA X) (pa 2) (fun j => pa (10 + j)) Hs] [some (.ref (pa 0 0)), some (.int p0), some (.int p1), none] [] 0 := by
  unfold f_X5_belong at h
  refine g_aload_n (pc' := 1) C dX5_belong_0 rfl rfl ?_
  refine gg_X5_0 (pc' := 4) (i := 0) C rfl hi_X5_belong_X5 lk_X5_belong_1 dX5_belong_1 rfl ?_
  refine g_iload_n (pc' := 5) C dX5_belong_4 rfl rfl ?_
  refine k_X0_hasNote (pc' := 8) C (pa 1) N B p0 [1] rfl (by decide) gX5_belong_X0_hasNote ⟨Nat.le_of_ble_eq_true rfl, Nat.le_of_ble_eq_true rfl⟩ (Nat.le_of_ble_eq_true rfl) rfl dX5_belong_5 rfl h (fun r1 h => ?_)
  refine g_if_eq (pc' := 11) (tgt := 28) C dX5_belong_8 (by decide) rfl h (fun c h => ?_) (fun c h => ?_)
  · refine g_iconst (pc' := 29) (v := -1) C dX5_belong_28 (by decide) rfl ?_
    obtain ⟨rfl, rfl, rfl⟩ := pj3 (Option.some.inj h)
    exact g_iret C dX5_belong_29
  · refine g_iload_n (pc' := 12) C dX5_belong_11 rfl rfl ?_
    refine g_bipush (pc' := 14) (v := -5) C dX5_belong_12 (by decide) rfl ?_
    refine g_icmp_eq (pc' := 17) (tgt := 30) C dX5_belong_14 (by decide) rfl h (fun c h => ?_) (fun c h => ?_)
    · exact G_loc (lle_s (lle_s (lle_s (lle_n lle_0)))) (B_X5_belong_30 C pa N Tn p0 p1 r Bz Hsz B Hs h)
    · refine g_aload_n (pc' := 18) C dX5_belong_17 rfl rfl ?_
      refine gg_X5_0 (pc' := 21) (i := 0) C rfl hi_X5_belong_X5 lk_X5_belong_1 dX5_belong_18 rfl ?_
      refine g_iload_n (pc' := 22) C dX5_belong_21 rfl rfl ?_
      refine k_X0_hasTheme (pc' := 25) C (pa 1) N B p1 [1] rfl (by decide) gX5_belong_X0_hasTheme ⟨Nat.le_of_ble_eq_true rfl, Nat.le_of_ble_eq_true rfl⟩ (Nat.le_of_ble_eq_true rfl) rfl dX5_belong_22 rfl h (fun r2 h => ?_)
      refine g_if_ne (pc' := 28) (tgt := 30) C dX5_belong_25 (by decide) rfl h (fun c h => ?_) (fun c h => ?_)
      · refine g_iconst (pc' := 29) (v := -1) C dX5_belong_28 (by decide) rfl ?_
        obtain ⟨rfl, rfl, rfl⟩ := pj3 (Option.some.inj h)
        exact g_iret C dX5_belong_29
      · exact G_loc (lle_s (lle_s (lle_s (lle_n lle_0)))) (B_X5_belong_30 C pa N Tn p0 p1 r Bz Hsz B Hs h)
set_option maxRecDepth 100000 in
set_option maxHeartbeats 4000000 in
theorem c_X5_belong (l : Launch) (D : va_G) (cA : Nat → ClassId) (pa : Nat → Nat → Nat) (N : Nat) (Tn : tS) (B : tS) (Hs : tH) (p0 : Int32) (p1 : Int32) (r : Int32) (Bz : tS) (Hsz : tH) (h : f_X5_belong N Tn B Hs p0 p1 = some (r, Bz, Hsz)) : MI l D cA yX5_belong wsX5_belong 3 68 [.ref (pa 0 0), .int p0, .int p1] [ntW pa Tn, bdW cA (pa 1) B, hsW cA (pa 2) (fun j => pa (10 + j)) Hs] r [ntW pa Tn, bdW cA (pa 1) Bz, hsW cA (pa 2) (fun j => pa (10 + j)) Hsz] := MI_of (cc := cX5_belong) (maxL := 4) (rt := some .int) (by decide +kernel) rfl (List.forall_mem_cons.mpr ⟨rfl, List.forall_mem_cons.mpr ⟨rfl, List.forall_mem_cons.mpr ⟨rfl, List.forall_mem_nil _⟩⟩⟩) (Nat.le_of_ble_eq_true rfl) (fun X e1 e2 e3 C => by subst e1; subst e2; subst e3; exact B_X5_belong C pa N Tn B Hs p0 p1 r Bz Hsz h)
set_option maxRecDepth 100000 in
set_option maxHeartbeats 4000000 in
theorem nd_X5_belong : nd yX5_belong 2 := ⟨by decide +kernel, by decide +kernel, by decide +kernel⟩
set_option maxRecDepth 100000 in
set_option maxHeartbeats 4000000 in
theorem k_X5_belong {X : gX} {own : String} {cc : ByteArray} {nL : Nat} {ret : Option FieldType} {Ts : List Cond} {fr lm : Nat} {Q : State → Prop} {ms : List va_W} {L : List (Option Value)} {st : List Value} {pc pc' idx : Nat} {ρ : Type} {T : Int32 → tS → tH → Option ρ} {res : ρ} (C : cx X own cc nL ret Ts fr lm) (pa : Nat → Nat → Nat) (N : Nat) (Tn : tS) (B : tS) (Hs : tH) (p0 : Int32) (p1 : Int32) (is : List Nat) (hC : is.map (fun i => ms[i]?) = [some (ntW pa Tn), some (bdW (gcA X) (pa 1) B), some (hsW (gcA X) (pa 2) (fun j => pa (10 + j)) Hs)]) (hn : is.Nodup) (hG : GoodIn Ts (wsV own idx RX5 yX5_belong wsX5_belong)) (hR : 3 + 1 ≤ fr ∧ 8 + (4 + 11) + 68 ≤ lm) (hst : (st.map fun v => v.category).sum ≤ 8) (hLn : L.length = nL) (d : decode cc pc = .ok (.invokevirtual idx, 3)) (hp : pc + 3 = pc') (h : bd3 (f_X5_belong N Tn B Hs p0 p1) T = some res) (kk : ∀ (r : Int32) (Bz : tS) (Hsz : tH), T r Bz Hsz = some res → G X Q (rpl ms is [ntW pa Tn, bdW (gcA X) (pa 1) Bz, hsW (gcA X) (pa 2) (fun j => pa (10 + j)) Hsz]) L (.int r :: st) pc') : G X Q ms L (.int p1 :: .int p0 :: .ref (pa 0 0) :: st) pc := by
  obtain ⟨r, Bz, Hsz, h1, h⟩ := ob3 h
  exact G_callVI C (As := [.int p0, .int p1]) (c_X5_belong (gl X) (gD X) (gcA X) pa N Tn B Hs p0 p1 r Bz Hsz h1) hG rfl nd_X5_belong hR (q0 := 0) rfl rfl hC hn rfl rfl hst hLn d hp (kk r Bz Hsz h)
def f_X5_isName (N : Nat)  (p0 : Int32) : Option (Int32) := (bd (f_X5_isWithin N p0 (0 : Int32) (9 : Int32)) (fun r1 => (if ¬ (r1 = 0 ∨ r1 = 1) then none else some r1)))
set_option maxRecDepth 100000 in
set_option maxHeartbeats 4000000 in
theorem B_X5_isName {X : gX} (C : cx X RX5 cX5_isName 1 (some .boolean) wsX5_isName 1 22)  (N : Nat)  (p0 : Int32) (r : Int32) (h : f_X5_isName N p0 = some r) : G X (QI X r []) [] [some (.int p0)] [] 0 := by
  unfold f_X5_isName at h
  refine g_iload_n (pc' := 1) C dX5_isName_0 rfl rfl ?_
  refine g_iconst (pc' := 2) (v := 0) C dX5_isName_1 (by decide) rfl ?_
  refine g_bipush (pc' := 4) (v := 9) C dX5_isName_2 (by decide) rfl ?_
  refine k_X5_isWithin (pc' := 7) C N p0 (0 : Int32) (9 : Int32) [] rfl (by decide) gX5_isName_X5_isWithin ⟨Nat.le_of_ble_eq_true rfl, Nat.le_of_ble_eq_true rfl⟩ (Nat.le_of_ble_eq_true rfl) rfl dX5_isName_4 rfl h (fun r1 h => ?_)
  obtain ⟨hz, h⟩ := og h
  obtain rfl := Option.some.inj h
  exact g_zret0 C (zb hz) dX5_isName_7
set_option maxRecDepth 100000 in
set_option maxHeartbeats 4000000 in
theorem c_X5_isName (l : Launch) (D : va_G) (cA : Nat → ClassId)  (N : Nat)  (p0 : Int32) (r : Int32) (h : f_X5_isName N p0 = some r) : MI l D cA yX5_isName wsX5_isName 1 22 [.int p0] [] r [] := MI_of (cc := cX5_isName) (maxL := 1) (rt := some .boolean) (by decide +kernel) rfl (List.forall_mem_cons.mpr ⟨rfl, List.forall_mem_nil _⟩) (Nat.le_of_ble_eq_true rfl) (fun X e1 e2 e3 C => by subst e1; subst e2; subst e3; exact B_X5_isName C  N p0 r h)
set_option maxRecDepth 100000 in
set_option maxHeartbeats 4000000 in
theorem nd_X5_isName : nd yX5_isName 1 := ⟨by decide +kernel, by decide +kernel, by decide +kernel⟩
set_option maxRecDepth 100000 in
set_option maxHeartbeats 4000000 in
theorem k_X5_isName {X : gX} {own : String} {cc : ByteArray} {nL : Nat} {ret : Option FieldType} {Ts : List Cond} {fr lm : Nat} {Q : State → Prop} {ms : List va_W} {L : List (Option Value)} {st : List Value} {pc pc' idx : Nat} {ρ : Type} {T : Int32 → Option ρ} {res : ρ} (C : cx X own cc nL ret Ts fr lm)  (N : Nat)  (p0 : Int32) (is : List Nat) (hC : is.map (fun i => ms[i]?) = []) (hn : is.Nodup) (hG : GoodIn Ts (va_wsS own idx yX5_isName wsX5_isName)) (hR : 1 + 1 ≤ fr ∧ 8 + (1 + 11) + 22 ≤ lm) (hst : (st.map fun v => v.category).sum ≤ 8) (hLn : L.length = nL) (d : decode cc pc = .ok (.invokestatic idx, 3)) (hp : pc + 3 = pc') (h : bd (f_X5_isName N p0) T = some res) (kk : ∀ (r : Int32), T r = some res → G X Q (ms) L (.int r :: st) pc') : G X Q ms L (.int p0 :: st) pc := by
  obtain ⟨r, h1, h⟩ := ob h
  exact G_callSI C (As := [.int p0]) (c_X5_isName (gl X) (gD X) (gcA X)  N p0 r h1) hG rfl nd_X5_isName hR hC hn rfl rfl hst hLn d hp (G_ms (rpl_same (mc := []) hC) (kk r h))
theorem hi_X5_vote_X4 : ∀ w ∈ wsX40, w ∈ wsX5_vote := fun w h => List.mem_cons_of_mem _ (List.mem_append_left _ (List.mem_append_left _ (List.mem_append_right _ h)))
theorem hi_X5_vote_X5 : ∀ w ∈ wsX50, w ∈ wsX5_vote := fun w h => List.mem_cons_of_mem _ (List.mem_append_left _ (List.mem_append_left _ (List.mem_append_left _ (List.mem_append_right _ h))))
theorem lk_X5_vote_1 : Cond.fieldLink RX5 10 "NoteThemes" "board" "LNoteThemes$Board;" ∈ wsX5_vote := List.mem_of_getElem? (i := 1) rfl
theorem lk_X5_vote_2 : Cond.fieldLink RX5 19 "NoteThemes" "history" "LNoteThemes$History;" ∈ wsX5_vote := List.mem_of_getElem? (i := 2) rfl
theorem lk_X5_vote_3 : Cond.fieldLink RX5 54 "NoteThemes" "names" "LNoteThemes$Names;" ∈ wsX5_vote := List.mem_of_getElem? (i := 3) rfl
theorem lk_X5_vote_4 : Cond.fieldLink RX5 191 "NoteThemes$Names" "nameOf" "[I" ∈ wsX5_vote := List.mem_of_getElem? (i := 4) rfl
def f_X5_vote_36 (N : Nat) (Tn : tS) (p0 : Int32) (p1 : Int32) (p2 : Int32)  (B : tS) (Hs : tH) (Nm : tS) : Option (Int32 × tS × tH × tS) := (bd (f_X0_voteOf N B p0 p1) (fun r1 => (if r1 = p2 then some ((-5 : Int32), B, Hs, Nm) else (bd (f_X3_remember N Hs B) (fun Hs2 => (bd (f_X0_setVote N B p0 p1 p2) (fun B3 => (bd2 (f_X4_choose N Nm B3) (fun r4 Nm4 => (if p1 < 0 ∨ 8 ≤ p1.toNatClampNeg then none else (if (Nm4 0 p1.toNatClampNeg) = (-5 : Int32) then some ((10 : Int32), B3, Hs2, Nm4) else (if p1 < 0 ∨ 8 ≤ p1.toNatClampNeg then none else some ((Nm4 0 p1.toNatClampNeg), B3, Hs2, Nm4)))))))))))))
set_option maxRecDepth 100000 in
set_option maxHeartbeats 4000000 in
theorem B_X5_vote_36 {X : gX} (C : cx X RX5 cX5_vote 4 (some .int) wsX5_vote 4 95) (pa : Nat → Nat → Nat) (N : Nat) (Tn : tS) (p0 : Int32) (p1 : Int32) (p2 : Int32) (r : Int32) (Bz : tS) (Hsz : tH) (Nmz : tS)  (B : tS) (Hs : tH) (Nm : tS) (h : f_X5_vote_36 N Tn p0 p1 p2  B Hs Nm = some (r, Bz, Hsz, Nmz)) : G X (QI X r [ntW pa Tn, bdW (gcA X) (pa 1) Bz, hsW (gcA X) (pa 2) (fun j => pa (10 + j)) Hsz, nmW (gcA X) (pa 8) Nmz]) [ntW pa Tn, bdW (gcA X) (pa 1) B, hsW (gcA X) (pa 2) (fun j => pa (10 + j)) Hs, nmW (gcA X) (pa 8) Nm] [some (.ref (pa 0 0)), some (.int p0), some (.int p1), some (.int p2)] [] 36 := by
  unfold f_X5_vote_36 at h
  refine g_aload_n (pc' := 37) C dX5_vote_36 rfl rfl ?_
  refine gg_X5_0 (pc' := 40) (i := 0) C rfl hi_X5_vote_X5 lk_X5_vote_1 dX5_vote_37 rfl ?_
  refine g_iload_n (pc' := 41) C dX5_vote_40 rfl rfl ?_
  refine g_iload_n (pc' := 42) C dX5_vote_41 rfl rfl ?_
  refine k_X0_voteOf (pc' := 45) C (pa 1) N B p0 p1 [1] rfl (by decide) gX5_vote_X0_voteOf ⟨Nat.le_of_ble_eq_true rfl, Nat.le_of_ble_eq_true rfl⟩ (Nat.le_of_ble_eq_true rfl) rfl dX5_vote_42 rfl h (fun r1 h => ?_)
  refine g_iload_n (pc' := 46) C dX5_vote_45 rfl rfl ?_
  refine g_icmp_ne (pc' := 49) (tgt := 52) C dX5_vote_46 (by decide) rfl h (fun c h => ?_) (fun c h => ?_)
  · refine g_bipush (pc' := 51) (v := -5) C dX5_vote_49 (by decide) rfl ?_
    obtain ⟨rfl, rfl, rfl, rfl⟩ := pj4 (Option.some.inj h)
    exact g_iret C dX5_vote_51
  · refine g_aload_n (pc' := 53) C dX5_vote_52 rfl rfl ?_
    refine gg_X5_1 (pc' := 56) (i := 0) C rfl hi_X5_vote_X5 lk_X5_vote_2 dX5_vote_53 rfl ?_
    refine g_aload_n (pc' := 57) C dX5_vote_56 rfl rfl ?_
    refine gg_X5_0 (pc' := 60) (i := 0) C rfl hi_X5_vote_X5 lk_X5_vote_1 dX5_vote_57 rfl ?_
    refine k_X3_remember (pc' := 63) C (pa 2) (pa 1) (fun j => pa (10 + j)) N Hs B [2, 1] rfl (by decide) gX5_vote_X3_remember ⟨Nat.le_of_ble_eq_true rfl, Nat.le_of_ble_eq_true rfl⟩ (Nat.le_of_ble_eq_true rfl) rfl dX5_vote_60 rfl h (fun Hs2 h => ?_)
    show G X _ [ntW pa Tn, bdW (gcA X) (pa 1) B, hsW (gcA X) (pa 2) (fun j => pa (10 + j)) Hs2, nmW (gcA X) (pa 8) Nm] _ _ _
    refine g_aload_n (pc' := 64) C dX5_vote_63 rfl rfl ?_
    refine gg_X5_0 (pc' := 67) (i := 0) C rfl hi_X5_vote_X5 lk_X5_vote_1 dX5_vote_64 rfl ?_
    refine g_iload_n (pc' := 68) C dX5_vote_67 rfl rfl ?_
    refine g_iload_n (pc' := 69) C dX5_vote_68 rfl rfl ?_
    refine g_iload_n (pc' := 70) C dX5_vote_69 rfl rfl ?_
    refine k_X0_setVote (pc' := 73) C (pa 1) N B p0 p1 p2 [1] rfl (by decide) gX5_vote_X0_setVote ⟨Nat.le_of_ble_eq_true rfl, Nat.le_of_ble_eq_true rfl⟩ (Nat.le_of_ble_eq_true rfl) rfl dX5_vote_70 rfl h (fun B3 h => ?_)
    show G X _ [ntW pa Tn, bdW (gcA X) (pa 1) B3, hsW (gcA X) (pa 2) (fun j => pa (10 + j)) Hs2, nmW (gcA X) (pa 8) Nm] _ _ _
    refine g_aload_n (pc' := 74) C dX5_vote_73 rfl rfl ?_
    refine gg_X5_9 (pc' := 77) (i := 0) C rfl hi_X5_vote_X5 lk_X5_vote_3 dX5_vote_74 rfl ?_
    refine g_aload_n (pc' := 78) C dX5_vote_77 rfl rfl ?_
    refine gg_X5_0 (pc' := 81) (i := 0) C rfl hi_X5_vote_X5 lk_X5_vote_1 dX5_vote_78 rfl ?_
    refine k_X4_choose (pc' := 84) C (pa 8) (pa 1) N Nm B3 [3, 1] rfl (by decide) gX5_vote_X4_choose ⟨Nat.le_of_ble_eq_true rfl, Nat.le_of_ble_eq_true rfl⟩ (Nat.le_of_ble_eq_true rfl) rfl dX5_vote_81 rfl h (fun r4 Nm4 h => ?_)
    show G X _ [ntW pa Tn, bdW (gcA X) (pa 1) B3, hsW (gcA X) (pa 2) (fun j => pa (10 + j)) Hs2, nmW (gcA X) (pa 8) Nm4] _ _ _
    refine g_pop (pc' := 85) C dX5_vote_84 rfl rfl ?_
    refine g_aload_n (pc' := 86) C dX5_vote_85 rfl rfl ?_
    refine gg_X5_9 (pc' := 89) (i := 0) C rfl hi_X5_vote_X5 lk_X5_vote_3 dX5_vote_86 rfl ?_
    refine gg_X4_0 (pc' := 92) (i := 3) C rfl hi_X5_vote_X4 lk_X5_vote_4 dX5_vote_89 rfl ?_
    refine g_iload_n (pc' := 93) C dX5_vote_92 rfl rfl ?_
    refine g_iald (pc' := 94) (i := 3) (j := 1) C rfl rfl dX5_vote_93 rfl h (fun h => ?_)
    refine g_bipush (pc' := 96) (v := -5) C dX5_vote_94 (by decide) rfl ?_
    refine g_icmp_ne (pc' := 99) (tgt := 104) C dX5_vote_96 (by decide) rfl h (fun c h => ?_) (fun c h => ?_)
    · refine g_bipush (pc' := 101) (v := 10) C dX5_vote_99 (by decide) rfl ?_
      refine g_goto (pc' := 113) C dX5_vote_101 (by decide) ?_
      obtain ⟨rfl, rfl, rfl, rfl⟩ := pj4 (Option.some.inj h)
      exact g_iret C dX5_vote_113
    · refine g_aload_n (pc' := 105) C dX5_vote_104 rfl rfl ?_
      refine gg_X5_9 (pc' := 108) (i := 0) C rfl hi_X5_vote_X5 lk_X5_vote_3 dX5_vote_105 rfl ?_
      refine gg_X4_0 (pc' := 111) (i := 3) C rfl hi_X5_vote_X4 lk_X5_vote_4 dX5_vote_108 rfl ?_
      refine g_iload_n (pc' := 112) C dX5_vote_111 rfl rfl ?_
      refine g_iald (pc' := 113) (i := 3) (j := 1) C rfl rfl dX5_vote_112 rfl h (fun h => ?_)
      obtain ⟨rfl, rfl, rfl, rfl⟩ := pj4 (Option.some.inj h)
      exact g_iret C dX5_vote_113
def f_X5_vote (N : Nat) (Tn : tS) (B : tS) (Hs : tH) (Nm : tS) (p0 : Int32) (p1 : Int32) (p2 : Int32) : Option (Int32 × tS × tH × tS) := (bd (f_X5_isPerson N p0) (fun r1 => (if r1 = 0 then some ((-1 : Int32), B, Hs, Nm) else (bd (f_X0_hasTheme N B p1) (fun r2 => (if r2 = 0 then some ((-1 : Int32), B, Hs, Nm) else (if p2 = (-5 : Int32) then f_X5_vote_36 N Tn p0 p1 p2 B Hs Nm else (bd (f_X5_isName N p2) (fun r3 => (if r3 = 0 then some ((-2 : Int32), B, Hs, Nm) else f_X5_vote_36 N Tn p0 p1 p2 B Hs Nm))))))))))
set_option maxRecDepth 100000 in
set_option maxHeartbeats 4000000 in
theorem B_X5_vote {X : gX} (C : cx X RX5 cX5_vote 4 (some .int) wsX5_vote 4 95) (pa : Nat → Nat → Nat) (N : Nat) (Tn : tS) (B : tS) (Hs : tH) (Nm : tS) (p0 : Int32) (p1 : Int32) (p2 : Int32) (r : Int32) (Bz : tS) (Hsz : tH) (Nmz : tS) (h : f_X5_vote N Tn B Hs Nm p0 p1 p2 = some (r, Bz, Hsz, Nmz)) : G X (QI X r [ntW pa Tn, bdW (gcA X) (pa 1) Bz, hsW (gcA X) (pa 2) (fun j => pa (10 + j)) Hsz, nmW (gcA X) (pa 8) Nmz]) [ntW pa Tn, bdW (gcA X) (pa 1) B, hsW (gcA X) (pa 2) (fun j => pa (10 + j)) Hs, nmW (gcA X) (pa 8) Nm] [some (.ref (pa 0 0)), some (.int p0), some (.int p1), some (.int p2)] [] 0 := by
  unfold f_X5_vote at h
  refine g_iload_n (pc' := 1) C dX5_vote_0 rfl rfl ?_
  refine k_X5_isPerson (pc' := 4) C N p0 [] rfl (by decide) gX5_vote_X5_isPerson ⟨Nat.le_of_ble_eq_true rfl, Nat.le_of_ble_eq_true rfl⟩ (Nat.le_of_ble_eq_true rfl) rfl dX5_vote_1 rfl h (fun r1 h => ?_)
  refine g_if_eq (pc' := 7) (tgt := 18) C dX5_vote_4 (by decide) rfl h (fun c h => ?_) (fun c h => ?_)
  · refine g_iconst (pc' := 19) (v := -1) C dX5_vote_18 (by decide) rfl ?_
    obtain ⟨rfl, rfl, rfl, rfl⟩ := pj4 (Option.some.inj h)
    exact g_iret C dX5_vote_19
  · refine g_aload_n (pc' := 8) C dX5_vote_7 rfl rfl ?_
    refine gg_X5_0 (pc' := 11) (i := 0) C rfl hi_X5_vote_X5 lk_X5_vote_1 dX5_vote_8 rfl ?_
    refine g_iload_n (pc' := 12) C dX5_vote_11 rfl rfl ?_
    refine k_X0_hasTheme (pc' := 15) C (pa 1) N B p1 [1] rfl (by decide) gX5_vote_X0_hasTheme ⟨Nat.le_of_ble_eq_true rfl, Nat.le_of_ble_eq_true rfl⟩ (Nat.le_of_ble_eq_true rfl) rfl dX5_vote_12 rfl h (fun r2 h => ?_)
    refine g_if_ne (pc' := 18) (tgt := 20) C dX5_vote_15 (by decide) rfl h (fun c h => ?_) (fun c h => ?_)
    · refine g_iconst (pc' := 19) (v := -1) C dX5_vote_18 (by decide) rfl ?_
      obtain ⟨rfl, rfl, rfl, rfl⟩ := pj4 (Option.some.inj h)
      exact g_iret C dX5_vote_19
    · refine g_iload_n (pc' := 21) C dX5_vote_20 rfl rfl ?_
      refine g_bipush (pc' := 23) (v := -5) C dX5_vote_21 (by decide) rfl ?_
      refine g_icmp_eq (pc' := 26) (tgt := 36) C dX5_vote_23 (by decide) rfl h (fun c h => ?_) (fun c h => ?_)
      · exact G_loc (lle_s (lle_s (lle_s (lle_s lle_0)))) (B_X5_vote_36 C pa N Tn p0 p1 p2 r Bz Hsz Nmz B Hs Nm h)
      · refine g_iload_n (pc' := 27) C dX5_vote_26 rfl rfl ?_
        refine k_X5_isName (pc' := 30) C N p2 [] rfl (by decide) gX5_vote_X5_isName ⟨Nat.le_of_ble_eq_true rfl, Nat.le_of_ble_eq_true rfl⟩ (Nat.le_of_ble_eq_true rfl) rfl dX5_vote_27 rfl h (fun r3 h => ?_)
        refine g_if_ne (pc' := 33) (tgt := 36) C dX5_vote_30 (by decide) rfl h (fun c h => ?_) (fun c h => ?_)
        · refine g_bipush (pc' := 35) (v := -2) C dX5_vote_33 (by decide) rfl ?_
          obtain ⟨rfl, rfl, rfl, rfl⟩ := pj4 (Option.some.inj h)
          exact g_iret C dX5_vote_35
        · exact G_loc (lle_s (lle_s (lle_s (lle_s lle_0)))) (B_X5_vote_36 C pa N Tn p0 p1 p2 r Bz Hsz Nmz B Hs Nm h)
set_option maxRecDepth 100000 in
set_option maxHeartbeats 4000000 in
theorem c_X5_vote (l : Launch) (D : va_G) (cA : Nat → ClassId) (pa : Nat → Nat → Nat) (N : Nat) (Tn : tS) (B : tS) (Hs : tH) (Nm : tS) (p0 : Int32) (p1 : Int32) (p2 : Int32) (r : Int32) (Bz : tS) (Hsz : tH) (Nmz : tS) (h : f_X5_vote N Tn B Hs Nm p0 p1 p2 = some (r, Bz, Hsz, Nmz)) : MI l D cA yX5_vote wsX5_vote 4 95 [.ref (pa 0 0), .int p0, .int p1, .int p2] [ntW pa Tn, bdW cA (pa 1) B, hsW cA (pa 2) (fun j => pa (10 + j)) Hs, nmW cA (pa 8) Nm] r [ntW pa Tn, bdW cA (pa 1) Bz, hsW cA (pa 2) (fun j => pa (10 + j)) Hsz, nmW cA (pa 8) Nmz] := MI_of (cc := cX5_vote) (maxL := 4) (rt := some .int) (by decide +kernel) rfl (List.forall_mem_cons.mpr ⟨rfl, List.forall_mem_cons.mpr ⟨rfl, List.forall_mem_cons.mpr ⟨rfl, List.forall_mem_cons.mpr ⟨rfl, List.forall_mem_nil _⟩⟩⟩⟩) (Nat.le_of_ble_eq_true rfl) (fun X e1 e2 e3 C => by subst e1; subst e2; subst e3; exact B_X5_vote C pa N Tn B Hs Nm p0 p1 p2 r Bz Hsz Nmz h)
set_option maxRecDepth 100000 in
set_option maxHeartbeats 4000000 in
theorem nd_X5_vote : nd yX5_vote 3 := ⟨by decide +kernel, by decide +kernel, by decide +kernel⟩
set_option maxRecDepth 100000 in
set_option maxHeartbeats 4000000 in
theorem k_X5_vote {X : gX} {own : String} {cc : ByteArray} {nL : Nat} {ret : Option FieldType} {Ts : List Cond} {fr lm : Nat} {Q : State → Prop} {ms : List va_W} {L : List (Option Value)} {st : List Value} {pc pc' idx : Nat} {ρ : Type} {T : Int32 → tS → tH → tS → Option ρ} {res : ρ} (C : cx X own cc nL ret Ts fr lm) (pa : Nat → Nat → Nat) (N : Nat) (Tn : tS) (B : tS) (Hs : tH) (Nm : tS) (p0 : Int32) (p1 : Int32) (p2 : Int32) (is : List Nat) (hC : is.map (fun i => ms[i]?) = [some (ntW pa Tn), some (bdW (gcA X) (pa 1) B), some (hsW (gcA X) (pa 2) (fun j => pa (10 + j)) Hs), some (nmW (gcA X) (pa 8) Nm)]) (hn : is.Nodup) (hG : GoodIn Ts (wsV own idx RX5 yX5_vote wsX5_vote)) (hR : 4 + 1 ≤ fr ∧ 8 + (4 + 11) + 95 ≤ lm) (hst : (st.map fun v => v.category).sum ≤ 8) (hLn : L.length = nL) (d : decode cc pc = .ok (.invokevirtual idx, 3)) (hp : pc + 3 = pc') (h : bd4 (f_X5_vote N Tn B Hs Nm p0 p1 p2) T = some res) (kk : ∀ (r : Int32) (Bz : tS) (Hsz : tH) (Nmz : tS), T r Bz Hsz Nmz = some res → G X Q (rpl ms is [ntW pa Tn, bdW (gcA X) (pa 1) Bz, hsW (gcA X) (pa 2) (fun j => pa (10 + j)) Hsz, nmW (gcA X) (pa 8) Nmz]) L (.int r :: st) pc') : G X Q ms L (.int p2 :: .int p1 :: .int p0 :: .ref (pa 0 0) :: st) pc := by
  obtain ⟨r, Bz, Hsz, Nmz, h1, h⟩ := ob4 h
  exact G_callVI C (As := [.int p0, .int p1, .int p2]) (c_X5_vote (gl X) (gD X) (gcA X) pa N Tn B Hs Nm p0 p1 p2 r Bz Hsz Nmz h1) hG rfl nd_X5_vote hR (q0 := 0) rfl rfl hC hn rfl rfl hst hLn d hp (kk r Bz Hsz Nmz h)
theorem hi_X5_set_X0 : ∀ w ∈ wsX00, w ∈ wsX5_set := fun w h => List.mem_cons_of_mem _ (List.mem_append_left _ (List.mem_append_right _ h))
theorem hi_X5_set_X5 : ∀ w ∈ wsX50, w ∈ wsX5_set := fun w h => List.mem_cons_of_mem _ (List.mem_append_left _ (List.mem_append_left _ (List.mem_append_right _ h)))
theorem lk_X5_set_1 : Cond.fieldLink RX5 194 "NoteThemes" "LEAST_SETTING" "[I" ∈ wsX5_set := List.mem_of_getElem? (i := 1) rfl
theorem lk_X5_set_2 : Cond.fieldLink RX5 197 "NoteThemes" "MOST_SETTING" "[I" ∈ wsX5_set := List.mem_of_getElem? (i := 2) rfl
theorem lk_X5_set_3 : Cond.fieldLink RX5 10 "NoteThemes" "board" "LNoteThemes$Board;" ∈ wsX5_set := List.mem_of_getElem? (i := 3) rfl
theorem lk_X5_set_4 : Cond.fieldLink RX5 200 "NoteThemes$Board" "settings" "[I" ∈ wsX5_set := List.mem_of_getElem? (i := 4) rfl
theorem lk_X5_set_5 : Cond.fieldLink RX5 19 "NoteThemes" "history" "LNoteThemes$History;" ∈ wsX5_set := List.mem_of_getElem? (i := 5) rfl
def f_X5_set (N : Nat) (Tn : tS) (B : tS) (Hs : tH) (p0 : Int32) (p1 : Int32) : Option (Int32 × tS × tH) := (bd (f_X5_isWithin N p0 (0 : Int32) (2 : Int32)) (fun r1 => (if r1 = 0 then some ((-1 : Int32), B, Hs) else (if p0 < 0 ∨ 3 ≤ p0.toNatClampNeg then none else (if p0 < 0 ∨ 3 ≤ p0.toNatClampNeg then none else (bd (f_X5_isWithin N p1 (LSf p0.toNatClampNeg) (MSf p0.toNatClampNeg)) (fun r4 => (if r4 = 0 then some ((-2 : Int32), B, Hs) else (if p0 < 0 ∨ 3 ≤ p0.toNatClampNeg then none else (if (B 7 p0.toNatClampNeg) = p1 then some ((-5 : Int32), B, Hs) else (bd (f_X3_remember N Hs B) (fun Hs5 => (if p0 < 0 ∨ 3 ≤ p0.toNatClampNeg then none else some ((B 7 p0.toNatClampNeg), (va_up B 7 (upd (B 7) p0.toNatClampNeg p1)), Hs5))))))))))))))
set_option maxRecDepth 100000 in
set_option maxHeartbeats 4000000 in
theorem B_X5_set {X : gX} (C : cx X RX5 cX5_set 4 (some .int) wsX5_set 3 68) (hf : cf X) (pa : Nat → Nat → Nat) (N : Nat) (Tn : tS) (B : tS) (Hs : tH) (p0 : Int32) (p1 : Int32) (r : Int32) (Bz : tS) (Hsz : tH) (h : f_X5_set N Tn B Hs p0 p1 = some (r, Bz, Hsz)) : G X (QI X r [ntW pa Tn, bdW (gcA X) (pa 1) Bz, hsW (gcA X) (pa 2) (fun j => pa (10 + j)) Hsz]) [ntW pa Tn, bdW (gcA X) (pa 1) B, hsW (gcA X) (pa 2) (fun j => pa (10 + j)) Hs] [some (.ref (pa 0 0)), some (.int p0), some (.int p1), none] [] 0 := by
  unfold f_X5_set at h
  refine g_iload_n (pc' := 1) C dX5_set_0 rfl rfl ?_
  refine g_iconst (pc' := 2) (v := 0) C dX5_set_1 (by decide) rfl ?_
  refine g_iconst (pc' := 3) (v := 2) C dX5_set_2 (by decide) rfl ?_
  refine k_X5_isWithin (pc' := 6) C N p0 (0 : Int32) (2 : Int32) [] rfl (by decide) gX5_set_X5_isWithin ⟨Nat.le_of_ble_eq_true rfl, Nat.le_of_ble_eq_true rfl⟩ (Nat.le_of_ble_eq_true rfl) rfl dX5_set_3 rfl h (fun r1 h => ?_)
  refine g_if_ne (pc' := 9) (tgt := 11) C dX5_set_6 (by decide) rfl h (fun c h => ?_) (fun c h => ?_)
  · refine g_iconst (pc' := 10) (v := -1) C dX5_set_9 (by decide) rfl ?_
    obtain ⟨rfl, rfl, rfl⟩ := pj3 (Option.some.inj h)
    exact g_iret C dX5_set_10
  · refine g_iload_n (pc' := 12) C dX5_set_11 rfl rfl ?_
    refine g_getsL (pc' := 15) C hf lk_X5_set_1 dX5_set_12 rfl (fun t2 hs2 => ?_)
    refine g_iload_n (pc' := 16) C dX5_set_15 rfl rfl ?_
    refine g_xald (pc' := 17) C hs2 dX5_set_16 rfl h (fun h => ?_)
    refine g_getsM (pc' := 20) C hf lk_X5_set_2 dX5_set_17 rfl (fun t3 hs3 => ?_)
    refine g_iload_n (pc' := 21) C dX5_set_20 rfl rfl ?_
    refine g_xald (pc' := 22) C hs3 dX5_set_21 rfl h (fun h => ?_)
    refine k_X5_isWithin (pc' := 25) C N p1 (LSf p0.toNatClampNeg) (MSf p0.toNatClampNeg) [] rfl (by decide) gX5_set_X5_isWithin ⟨Nat.le_of_ble_eq_true rfl, Nat.le_of_ble_eq_true rfl⟩ (Nat.le_of_ble_eq_true rfl) rfl dX5_set_22 rfl h (fun r4 h => ?_)
    refine g_if_ne (pc' := 28) (tgt := 31) C dX5_set_25 (by decide) rfl h (fun c h => ?_) (fun c h => ?_)
    · refine g_bipush (pc' := 30) (v := -2) C dX5_set_28 (by decide) rfl ?_
      obtain ⟨rfl, rfl, rfl⟩ := pj3 (Option.some.inj h)
      exact g_iret C dX5_set_30
    · refine g_aload_n (pc' := 32) C dX5_set_31 rfl rfl ?_
      refine gg_X5_0 (pc' := 35) (i := 0) C rfl hi_X5_set_X5 lk_X5_set_3 dX5_set_32 rfl ?_
      refine gg_X0_7 (pc' := 38) (i := 1) C rfl hi_X5_set_X0 lk_X5_set_4 dX5_set_35 rfl ?_
      refine g_iload_n (pc' := 39) C dX5_set_38 rfl rfl ?_
      refine g_iald (pc' := 40) (i := 1) (j := 6) C rfl rfl dX5_set_39 rfl h (fun h => ?_)
      refine g_istore_n (pc' := 41) C dX5_set_40 (Nat.le_of_ble_eq_true rfl) rfl (L' := [some (.ref (pa 0 0)), some (.int p0), some (.int p1), some (.int (B 7 p0.toNatClampNeg))]) rfl ?_
      refine g_iload_n (pc' := 42) C dX5_set_41 rfl rfl ?_
      refine g_iload_n (pc' := 43) C dX5_set_42 rfl rfl ?_
      refine g_icmp_ne (pc' := 46) (tgt := 49) C dX5_set_43 (by decide) rfl h (fun c h => ?_) (fun c h => ?_)
      · refine g_bipush (pc' := 48) (v := -5) C dX5_set_46 (by decide) rfl ?_
        obtain ⟨rfl, rfl, rfl⟩ := pj3 (Option.some.inj h)
        exact g_iret C dX5_set_48
      · refine g_aload_n (pc' := 50) C dX5_set_49 rfl rfl ?_
        refine gg_X5_1 (pc' := 53) (i := 0) C rfl hi_X5_set_X5 lk_X5_set_5 dX5_set_50 rfl ?_
        refine g_aload_n (pc' := 54) C dX5_set_53 rfl rfl ?_
        refine gg_X5_0 (pc' := 57) (i := 0) C rfl hi_X5_set_X5 lk_X5_set_3 dX5_set_54 rfl ?_
        refine k_X3_remember (pc' := 60) C (pa 2) (pa 1) (fun j => pa (10 + j)) N Hs B [2, 1] rfl (by decide) gX5_set_X3_remember ⟨Nat.le_of_ble_eq_true rfl, Nat.le_of_ble_eq_true rfl⟩ (Nat.le_of_ble_eq_true rfl) rfl dX5_set_57 rfl h (fun Hs5 h => ?_)
        show G X _ [ntW pa Tn, bdW (gcA X) (pa 1) B, hsW (gcA X) (pa 2) (fun j => pa (10 + j)) Hs5] _ _ _
        refine g_aload_n (pc' := 61) C dX5_set_60 rfl rfl ?_
        refine gg_X5_0 (pc' := 64) (i := 0) C rfl hi_X5_set_X5 lk_X5_set_3 dX5_set_61 rfl ?_
        refine gg_X0_7 (pc' := 67) (i := 1) C rfl hi_X5_set_X0 lk_X5_set_4 dX5_set_64 rfl ?_
        refine g_iload_n (pc' := 68) C dX5_set_67 rfl rfl ?_
        refine g_iload_n (pc' := 69) C dX5_set_68 rfl rfl ?_
        refine g_iast (pc' := 70) (i := 1) (j := 6) (w' := bdW (gcA X) (pa 1) (va_up B 7 (upd (B 7) p0.toNatClampNeg p1))) C rfl rfl rfl dX5_set_69 rfl h (fun h => ?_)
        show G X _ [ntW pa Tn, bdW (gcA X) (pa 1) (va_up B 7 (upd (B 7) p0.toNatClampNeg p1)), hsW (gcA X) (pa 2) (fun j => pa (10 + j)) Hs5] _ _ _
        refine g_iload_n (pc' := 71) C dX5_set_70 rfl rfl ?_
        obtain ⟨rfl, rfl, rfl⟩ := pj3 (Option.some.inj h)
        exact g_iret C dX5_set_71
set_option maxRecDepth 100000 in
set_option maxHeartbeats 4000000 in
theorem c_X5_set (l : Launch) (D : va_G) (cA : Nat → ClassId) (pa : Nat → Nat → Nat) (N : Nat) (Tn : tS) (B : tS) (Hs : tH) (p0 : Int32) (p1 : Int32) (r : Int32) (Bz : tS) (Hsz : tH) (h : f_X5_set N Tn B Hs p0 p1 = some (r, Bz, Hsz)) : MIs l D cA yX5_set wsX5_set 3 68 [.ref (pa 0 0), .int p0, .int p1] [ntW pa Tn, bdW cA (pa 1) B, hsW cA (pa 2) (fun j => pa (10 + j)) Hs] r [ntW pa Tn, bdW cA (pa 1) Bz, hsW cA (pa 2) (fun j => pa (10 + j)) Hsz] := MIs_of (cc := cX5_set) (maxL := 4) (rt := some .int) (by decide +kernel) rfl (List.forall_mem_cons.mpr ⟨rfl, List.forall_mem_cons.mpr ⟨rfl, List.forall_mem_cons.mpr ⟨rfl, List.forall_mem_nil _⟩⟩⟩) (Nat.le_of_ble_eq_true rfl) (fun X e1 e2 e3 hf C => by subst e1; subst e2; subst e3; exact B_X5_set C hf pa N Tn B Hs p0 p1 r Bz Hsz h)
set_option maxRecDepth 100000 in
set_option maxHeartbeats 4000000 in
theorem nd_X5_set : nd yX5_set 2 := ⟨by decide +kernel, by decide +kernel, by decide +kernel⟩
set_option maxRecDepth 100000 in
set_option maxHeartbeats 4000000 in
theorem k_X5_set {X : gX} {own : String} {cc : ByteArray} {nL : Nat} {ret : Option FieldType} {Ts : List Cond} {fr lm : Nat} {Q : State → Prop} {ms : List va_W} {L : List (Option Value)} {st : List Value} {pc pc' idx : Nat} {ρ : Type} {T : Int32 → tS → tH → Option ρ} {res : ρ} (C : cx X own cc nL ret Ts fr lm) (hf : cf X) (pa : Nat → Nat → Nat) (N : Nat) (Tn : tS) (B : tS) (Hs : tH) (p0 : Int32) (p1 : Int32) (is : List Nat) (hC : is.map (fun i => ms[i]?) = [some (ntW pa Tn), some (bdW (gcA X) (pa 1) B), some (hsW (gcA X) (pa 2) (fun j => pa (10 + j)) Hs)]) (hn : is.Nodup) (hG : GoodIn Ts (wsV own idx RX5 yX5_set wsX5_set)) (hR : 3 + 1 ≤ fr ∧ 8 + (4 + 11) + 68 ≤ lm) (hst : (st.map fun v => v.category).sum ≤ 8) (hLn : L.length = nL) (d : decode cc pc = .ok (.invokevirtual idx, 3)) (hp : pc + 3 = pc') (h : bd3 (f_X5_set N Tn B Hs p0 p1) T = some res) (kk : ∀ (r : Int32) (Bz : tS) (Hsz : tH), T r Bz Hsz = some res → G X Q (rpl ms is [ntW pa Tn, bdW (gcA X) (pa 1) Bz, hsW (gcA X) (pa 2) (fun j => pa (10 + j)) Hsz]) L (.int r :: st) pc') : G X Q ms L (.int p1 :: .int p0 :: .ref (pa 0 0) :: st) pc := by
  obtain ⟨r, Bz, Hsz, h1, h⟩ := ob3 h
  exact G_callVIs C hf (As := [.int p0, .int p1]) (c_X5_set (gl X) (gD X) (gcA X) pa N Tn B Hs p0 p1 r Bz Hsz h1) hG rfl nd_X5_set hR (q0 := 0) rfl rfl hC hn rfl rfl hst hLn d hp (kk r Bz Hsz h)
theorem hi_X5_type_X5 : ∀ w ∈ wsX50, w ∈ wsX5_type := fun w h => List.mem_cons_of_mem _ (List.mem_append_right _ h)
theorem lk_X5_type_1 : Cond.fieldLink RX5 34 "NoteThemes" "textLength" "I" ∈ wsX5_type := List.mem_of_getElem? (i := 1) rfl
theorem lk_X5_type_2 : Cond.fieldLink RX5 30 "NoteThemes" "text" "[C" ∈ wsX5_type := List.mem_of_getElem? (i := 2) rfl
def f_X5_type (N : Nat) (Tn : tS) (Tx : tS) (p0 : Int32) : Option (Int32 × tS × tS) := (if (Tn 5 0) < (80 : Int32) then (if (Tn 5 0) < 0 ∨ 80 ≤ (Tn 5 0).toNatClampNeg then none else some (((Tn 5 0) + (1 : Int32)), (va_up Tn 5 (fun _ => ((Tn 5 0) + (1 : Int32)))), (va_up Tx 0 (upd (Tx 0) (Tn 5 0).toNatClampNeg (vp_nar .char p0))))) else some ((-3 : Int32), Tn, Tx))
set_option maxRecDepth 100000 in
set_option maxHeartbeats 4000000 in
theorem B_X5_type {X : gX} (C : cx X RX5 cX5_type 2 (some .int) wsX5_type 0 0) (pa : Nat → Nat → Nat) (N : Nat) (Tn : tS) (Tx : tS) (p0 : Int32) (r : Int32) (Tnz : tS) (Txz : tS) (h : f_X5_type N Tn Tx p0 = some (r, Tnz, Txz)) : G X (QI X r [ntW pa Tnz, txW (gcA X) (pa 4) Txz]) [ntW pa Tn, txW (gcA X) (pa 4) Tx] [some (.ref (pa 0 0)), some (.int p0)] [] 0 := by
  unfold f_X5_type at h
  refine g_aload_n (pc' := 1) C dX5_type_0 rfl rfl ?_
  refine gg_X5_5 (pc' := 4) (i := 0) C rfl hi_X5_type_X5 lk_X5_type_1 dX5_type_1 rfl ?_
  refine g_bipush (pc' := 6) (v := 80) C dX5_type_4 (by decide) rfl ?_
  refine g_icmp_lt (pc' := 9) (tgt := 12) C dX5_type_6 (by decide) rfl h (fun c h => ?_) (fun c h => ?_)
  · refine g_aload_n (pc' := 13) C dX5_type_12 rfl rfl ?_
    refine gg_X5_4 (pc' := 16) (i := 0) C rfl hi_X5_type_X5 lk_X5_type_2 dX5_type_13 rfl ?_
    refine g_aload_n (pc' := 17) C dX5_type_16 rfl rfl ?_
    refine gg_X5_5 (pc' := 20) (i := 0) C rfl hi_X5_type_X5 lk_X5_type_1 dX5_type_17 rfl ?_
    refine g_iload_n (pc' := 21) C dX5_type_20 rfl rfl ?_
    refine g_cast (pc' := 22) (i := 1) (j := 0) (w' := txW (gcA X) (pa 4) (va_up Tx 0 (upd (Tx 0) (Tn 5 0).toNatClampNeg (vp_nar .char p0)))) C rfl rfl rfl dX5_type_21 rfl h (fun h => ?_)
    show G X _ [ntW pa Tn, txW (gcA X) (pa 4) (va_up Tx 0 (upd (Tx 0) (Tn 5 0).toNatClampNeg (vp_nar .char p0)))] _ _ _
    refine g_aload_n (pc' := 23) C dX5_type_22 rfl rfl ?_
    refine g_dup (pc' := 24) C dX5_type_23 rfl rfl ?_
    refine gg_X5_5 (pc' := 27) (i := 0) C rfl hi_X5_type_X5 lk_X5_type_1 dX5_type_24 rfl ?_
    refine g_iconst (pc' := 28) (v := 1) C dX5_type_27 (by decide) rfl ?_
    refine g_iadd (pc' := 29) C dX5_type_28 rfl ?_
    refine gp_X5_5 (pc' := 32) (i := 0) C rfl hi_X5_type_X5 lk_X5_type_1 dX5_type_29 rfl ?_
    show G X _ [ntW pa (va_up Tn 5 (fun _ => ((Tn 5 0) + (1 : Int32)))), txW (gcA X) (pa 4) (va_up Tx 0 (upd (Tx 0) (Tn 5 0).toNatClampNeg (vp_nar .char p0)))] _ _ _
    refine g_aload_n (pc' := 33) C dX5_type_32 rfl rfl ?_
    refine gg_X5_5 (pc' := 36) (i := 0) C rfl hi_X5_type_X5 lk_X5_type_1 dX5_type_33 rfl ?_
    refine g_vi (v := ((Tn 5 0) + (1 : Int32))) rfl ?_
    obtain ⟨rfl, rfl, rfl⟩ := pj3 (Option.some.inj h)
    exact g_iret C dX5_type_36
  · refine g_bipush (pc' := 11) (v := -3) C dX5_type_9 (by decide) rfl ?_
    obtain ⟨rfl, rfl, rfl⟩ := pj3 (Option.some.inj h)
    exact g_iret C dX5_type_11
set_option maxRecDepth 100000 in
set_option maxHeartbeats 4000000 in
theorem c_X5_type (l : Launch) (D : va_G) (cA : Nat → ClassId) (pa : Nat → Nat → Nat) (N : Nat) (Tn : tS) (Tx : tS) (p0 : Int32) (r : Int32) (Tnz : tS) (Txz : tS) (h : f_X5_type N Tn Tx p0 = some (r, Tnz, Txz)) : MI l D cA yX5_type wsX5_type 0 0 [.ref (pa 0 0), .int p0] [ntW pa Tn, txW cA (pa 4) Tx] r [ntW pa Tnz, txW cA (pa 4) Txz] := MI_of (cc := cX5_type) (maxL := 2) (rt := some .int) (by decide +kernel) rfl (List.forall_mem_cons.mpr ⟨rfl, List.forall_mem_cons.mpr ⟨rfl, List.forall_mem_nil _⟩⟩) (Nat.le_of_ble_eq_true rfl) (fun X e1 e2 e3 C => by subst e1; subst e2; subst e3; exact B_X5_type C pa N Tn Tx p0 r Tnz Txz h)
set_option maxRecDepth 100000 in
set_option maxHeartbeats 4000000 in
theorem nd_X5_type : nd yX5_type 1 := ⟨by decide +kernel, by decide +kernel, by decide +kernel⟩
set_option maxRecDepth 100000 in
set_option maxHeartbeats 4000000 in
theorem k_X5_type {X : gX} {own : String} {cc : ByteArray} {nL : Nat} {ret : Option FieldType} {Ts : List Cond} {fr lm : Nat} {Q : State → Prop} {ms : List va_W} {L : List (Option Value)} {st : List Value} {pc pc' idx : Nat} {ρ : Type} {T : Int32 → tS → tS → Option ρ} {res : ρ} (C : cx X own cc nL ret Ts fr lm) (pa : Nat → Nat → Nat) (N : Nat) (Tn : tS) (Tx : tS) (p0 : Int32) (is : List Nat) (hC : is.map (fun i => ms[i]?) = [some (ntW pa Tn), some (txW (gcA X) (pa 4) Tx)]) (hn : is.Nodup) (hG : GoodIn Ts (wsV own idx RX5 yX5_type wsX5_type)) (hR : 0 + 1 ≤ fr ∧ 8 + (2 + 11) + 0 ≤ lm) (hst : (st.map fun v => v.category).sum ≤ 8) (hLn : L.length = nL) (d : decode cc pc = .ok (.invokevirtual idx, 3)) (hp : pc + 3 = pc') (h : bd3 (f_X5_type N Tn Tx p0) T = some res) (kk : ∀ (r : Int32) (Tnz : tS) (Txz : tS), T r Tnz Txz = some res → G X Q (rpl ms is [ntW pa Tnz, txW (gcA X) (pa 4) Txz]) L (.int r :: st) pc') : G X Q ms L (.int p0 :: .ref (pa 0 0) :: st) pc := by
  obtain ⟨r, Tnz, Txz, h1, h⟩ := ob3 h
  exact G_callVI C (As := [.int p0]) (c_X5_type (gl X) (gD X) (gcA X) pa N Tn Tx p0 r Tnz Txz h1) hG rfl nd_X5_type hR (q0 := 0) rfl rfl hC hn rfl rfl hst hLn d hp (kk r Tnz Txz h)
theorem hi_X5_clearText_X5 : ∀ w ∈ wsX50, w ∈ wsX5_clearText := fun w h => List.mem_cons_of_mem _ (List.mem_append_right _ h)
theorem lk_X5_clearText_1 : Cond.fieldLink RX5 34 "NoteThemes" "textLength" "I" ∈ wsX5_clearText := List.mem_of_getElem? (i := 1) rfl
def f_X5_clearText (N : Nat) (Tn : tS)  : Option (Int32 × tS) := some ((Tn 5 0), (va_up Tn 5 (fun _ => (0 : Int32))))
set_option maxRecDepth 100000 in
set_option maxHeartbeats 4000000 in
theorem B_X5_clearText {X : gX} (C : cx X RX5 cX5_clearText 2 (some .int) wsX5_clearText 0 0) (pa : Nat → Nat → Nat) (N : Nat) (Tn : tS)  (r : Int32) (Tnz : tS) (h : f_X5_clearText N Tn = some (r, Tnz)) : G X (QI X r [ntW pa Tnz]) [ntW pa Tn] [some (.ref (pa 0 0)), none] [] 0 := by
  unfold f_X5_clearText at h
  refine g_aload_n (pc' := 1) C dX5_clearText_0 rfl rfl ?_
  refine gg_X5_5 (pc' := 4) (i := 0) C rfl hi_X5_clearText_X5 lk_X5_clearText_1 dX5_clearText_1 rfl ?_
  refine g_istore_n (pc' := 5) C dX5_clearText_4 (Nat.le_of_ble_eq_true rfl) rfl (L' := [some (.ref (pa 0 0)), some (.int (Tn 5 0))]) rfl ?_
  refine g_aload_n (pc' := 6) C dX5_clearText_5 rfl rfl ?_
  refine g_iconst (pc' := 7) (v := 0) C dX5_clearText_6 (by decide) rfl ?_
  refine gp_X5_5 (pc' := 10) (i := 0) C rfl hi_X5_clearText_X5 lk_X5_clearText_1 dX5_clearText_7 rfl ?_
  show G X _ [ntW pa (va_up Tn 5 (fun _ => (0 : Int32)))] _ _ _
  refine g_iload_n (pc' := 11) C dX5_clearText_10 rfl rfl ?_
  obtain ⟨rfl, rfl⟩ := pj2 (Option.some.inj h)
  exact g_iret C dX5_clearText_11
set_option maxRecDepth 100000 in
set_option maxHeartbeats 4000000 in
theorem c_X5_clearText (l : Launch) (D : va_G) (cA : Nat → ClassId) (pa : Nat → Nat → Nat) (N : Nat) (Tn : tS)  (r : Int32) (Tnz : tS) (h : f_X5_clearText N Tn = some (r, Tnz)) : MI l D cA yX5_clearText wsX5_clearText 0 0 [.ref (pa 0 0)] [ntW pa Tn] r [ntW pa Tnz] := MI_of (cc := cX5_clearText) (maxL := 2) (rt := some .int) (by decide +kernel) rfl (List.forall_mem_cons.mpr ⟨rfl, List.forall_mem_nil _⟩) (Nat.le_of_ble_eq_true rfl) (fun X e1 e2 e3 C => by subst e1; subst e2; subst e3; exact B_X5_clearText C pa N Tn r Tnz h)
set_option maxRecDepth 100000 in
set_option maxHeartbeats 4000000 in
theorem nd_X5_clearText : nd yX5_clearText 0 := ⟨by decide +kernel, by decide +kernel, by decide +kernel⟩
set_option maxRecDepth 100000 in
set_option maxHeartbeats 4000000 in
theorem k_X5_clearText {X : gX} {own : String} {cc : ByteArray} {nL : Nat} {ret : Option FieldType} {Ts : List Cond} {fr lm : Nat} {Q : State → Prop} {ms : List va_W} {L : List (Option Value)} {st : List Value} {pc pc' idx : Nat} {ρ : Type} {T : Int32 → tS → Option ρ} {res : ρ} (C : cx X own cc nL ret Ts fr lm) (pa : Nat → Nat → Nat) (N : Nat) (Tn : tS)  (is : List Nat) (hC : is.map (fun i => ms[i]?) = [some (ntW pa Tn)]) (hn : is.Nodup) (hG : GoodIn Ts (wsV own idx RX5 yX5_clearText wsX5_clearText)) (hR : 0 + 1 ≤ fr ∧ 8 + (2 + 11) + 0 ≤ lm) (hst : (st.map fun v => v.category).sum ≤ 8) (hLn : L.length = nL) (d : decode cc pc = .ok (.invokevirtual idx, 3)) (hp : pc + 3 = pc') (h : bd2 (f_X5_clearText N Tn) T = some res) (kk : ∀ (r : Int32) (Tnz : tS), T r Tnz = some res → G X Q (rpl ms is [ntW pa Tnz]) L (.int r :: st) pc') : G X Q ms L (.ref (pa 0 0) :: st) pc := by
  obtain ⟨r, Tnz, h1, h⟩ := ob2 h
  exact G_callVI C (As := []) (c_X5_clearText (gl X) (gD X) (gcA X) pa N Tn r Tnz h1) hG rfl nd_X5_clearText hR (q0 := 0) rfl rfl hC hn rfl rfl hst hLn d hp (kk r Tnz h)
theorem hi_X5_undo_X3 : ∀ w ∈ wsX30, w ∈ wsX5_undo := fun w h => List.mem_cons_of_mem _ (List.mem_append_left _ (List.mem_append_right _ h))
theorem hi_X5_undo_X5 : ∀ w ∈ wsX50, w ∈ wsX5_undo := fun w h => List.mem_cons_of_mem _ (List.mem_append_left _ (List.mem_append_left _ (List.mem_append_right _ h)))
theorem lk_X5_undo_1 : Cond.fieldLink RX5 19 "NoteThemes" "history" "LNoteThemes$History;" ∈ wsX5_undo := List.mem_of_getElem? (i := 1) rfl
theorem lk_X5_undo_2 : Cond.fieldLink RX5 203 "NoteThemes$History" "states" "I" ∈ wsX5_undo := List.mem_of_getElem? (i := 2) rfl
theorem lk_X5_undo_3 : Cond.fieldLink RX5 10 "NoteThemes" "board" "LNoteThemes$Board;" ∈ wsX5_undo := List.mem_of_getElem? (i := 3) rfl
def f_X5_undo (N : Nat) (Tn : tS) (B : tS) (Hs : tH)  : Option (Int32 × tS × tH) := (if (Hs.1) = 0 then some ((-5 : Int32), B, Hs) else (bd2 (f_X3_takeBack N Hs B) (fun Hs1 B1 => some ((Hs1.1), B1, Hs1))))
set_option maxRecDepth 100000 in
set_option maxHeartbeats 4000000 in
theorem B_X5_undo {X : gX} (C : cx X RX5 cX5_undo 1 (some .int) wsX5_undo 3 68) (pa : Nat → Nat → Nat) (N : Nat) (Tn : tS) (B : tS) (Hs : tH)  (r : Int32) (Bz : tS) (Hsz : tH) (h : f_X5_undo N Tn B Hs = some (r, Bz, Hsz)) : G X (QI X r [ntW pa Tn, bdW (gcA X) (pa 1) Bz, hsW (gcA X) (pa 2) (fun j => pa (10 + j)) Hsz]) [ntW pa Tn, bdW (gcA X) (pa 1) B, hsW (gcA X) (pa 2) (fun j => pa (10 + j)) Hs] [some (.ref (pa 0 0))] [] 0 := by
  unfold f_X5_undo at h
  refine g_aload_n (pc' := 1) C dX5_undo_0 rfl rfl ?_
  refine gg_X5_1 (pc' := 4) (i := 0) C rfl hi_X5_undo_X5 lk_X5_undo_1 dX5_undo_1 rfl ?_
  refine gg_X3_0 (pc' := 7) (i := 2) C rfl hi_X5_undo_X3 lk_X5_undo_2 dX5_undo_4 rfl ?_
  refine g_if_ne (pc' := 10) (tgt := 13) C dX5_undo_7 (by decide) rfl h (fun c h => ?_) (fun c h => ?_)
  · refine g_bipush (pc' := 12) (v := -5) C dX5_undo_10 (by decide) rfl ?_
    obtain ⟨rfl, rfl, rfl⟩ := pj3 (Option.some.inj h)
    exact g_iret C dX5_undo_12
  · refine g_aload_n (pc' := 14) C dX5_undo_13 rfl rfl ?_
    refine gg_X5_1 (pc' := 17) (i := 0) C rfl hi_X5_undo_X5 lk_X5_undo_1 dX5_undo_14 rfl ?_
    refine g_aload_n (pc' := 18) C dX5_undo_17 rfl rfl ?_
    refine gg_X5_0 (pc' := 21) (i := 0) C rfl hi_X5_undo_X5 lk_X5_undo_3 dX5_undo_18 rfl ?_
    refine k_X3_takeBack (pc' := 24) C (pa 2) (pa 1) (fun j => pa (10 + j)) N Hs B [2, 1] rfl (by decide) gX5_undo_X3_takeBack ⟨Nat.le_of_ble_eq_true rfl, Nat.le_of_ble_eq_true rfl⟩ (Nat.le_of_ble_eq_true rfl) rfl dX5_undo_21 rfl h (fun Hs1 B1 h => ?_)
    show G X _ [ntW pa Tn, bdW (gcA X) (pa 1) B1, hsW (gcA X) (pa 2) (fun j => pa (10 + j)) Hs1] _ _ _
    refine g_aload_n (pc' := 25) C dX5_undo_24 rfl rfl ?_
    refine gg_X5_1 (pc' := 28) (i := 0) C rfl hi_X5_undo_X5 lk_X5_undo_1 dX5_undo_25 rfl ?_
    refine gg_X3_0 (pc' := 31) (i := 2) C rfl hi_X5_undo_X3 lk_X5_undo_2 dX5_undo_28 rfl ?_
    obtain ⟨rfl, rfl, rfl⟩ := pj3 (Option.some.inj h)
    exact g_iret C dX5_undo_31
set_option maxRecDepth 100000 in
set_option maxHeartbeats 4000000 in
theorem c_X5_undo (l : Launch) (D : va_G) (cA : Nat → ClassId) (pa : Nat → Nat → Nat) (N : Nat) (Tn : tS) (B : tS) (Hs : tH)  (r : Int32) (Bz : tS) (Hsz : tH) (h : f_X5_undo N Tn B Hs = some (r, Bz, Hsz)) : MI l D cA yX5_undo wsX5_undo 3 68 [.ref (pa 0 0)] [ntW pa Tn, bdW cA (pa 1) B, hsW cA (pa 2) (fun j => pa (10 + j)) Hs] r [ntW pa Tn, bdW cA (pa 1) Bz, hsW cA (pa 2) (fun j => pa (10 + j)) Hsz] := MI_of (cc := cX5_undo) (maxL := 1) (rt := some .int) (by decide +kernel) rfl (List.forall_mem_cons.mpr ⟨rfl, List.forall_mem_nil _⟩) (Nat.le_of_ble_eq_true rfl) (fun X e1 e2 e3 C => by subst e1; subst e2; subst e3; exact B_X5_undo C pa N Tn B Hs r Bz Hsz h)
set_option maxRecDepth 100000 in
set_option maxHeartbeats 4000000 in
theorem nd_X5_undo : nd yX5_undo 0 := ⟨by decide +kernel, by decide +kernel, by decide +kernel⟩
set_option maxRecDepth 100000 in
set_option maxHeartbeats 4000000 in
theorem k_X5_undo {X : gX} {own : String} {cc : ByteArray} {nL : Nat} {ret : Option FieldType} {Ts : List Cond} {fr lm : Nat} {Q : State → Prop} {ms : List va_W} {L : List (Option Value)} {st : List Value} {pc pc' idx : Nat} {ρ : Type} {T : Int32 → tS → tH → Option ρ} {res : ρ} (C : cx X own cc nL ret Ts fr lm) (pa : Nat → Nat → Nat) (N : Nat) (Tn : tS) (B : tS) (Hs : tH)  (is : List Nat) (hC : is.map (fun i => ms[i]?) = [some (ntW pa Tn), some (bdW (gcA X) (pa 1) B), some (hsW (gcA X) (pa 2) (fun j => pa (10 + j)) Hs)]) (hn : is.Nodup) (hG : GoodIn Ts (wsV own idx RX5 yX5_undo wsX5_undo)) (hR : 3 + 1 ≤ fr ∧ 8 + (1 + 11) + 68 ≤ lm) (hst : (st.map fun v => v.category).sum ≤ 8) (hLn : L.length = nL) (d : decode cc pc = .ok (.invokevirtual idx, 3)) (hp : pc + 3 = pc') (h : bd3 (f_X5_undo N Tn B Hs) T = some res) (kk : ∀ (r : Int32) (Bz : tS) (Hsz : tH), T r Bz Hsz = some res → G X Q (rpl ms is [ntW pa Tn, bdW (gcA X) (pa 1) Bz, hsW (gcA X) (pa 2) (fun j => pa (10 + j)) Hsz]) L (.int r :: st) pc') : G X Q ms L (.ref (pa 0 0) :: st) pc := by
  obtain ⟨r, Bz, Hsz, h1, h⟩ := ob3 h
  exact G_callVI C (As := []) (c_X5_undo (gl X) (gD X) (gcA X) pa N Tn B Hs r Bz Hsz h1) hG rfl nd_X5_undo hR (q0 := 0) rfl rfl hC hn rfl rfl hst hLn d hp (kk r Bz Hsz h)
theorem hi_X5_keep_X0 : ∀ w ∈ wsX00, w ∈ wsX5_keep := fun w h => List.mem_cons_of_mem _ (List.mem_append_right _ h)
theorem hi_X5_keep_X5 : ∀ w ∈ wsX50, w ∈ wsX5_keep := fun w h => List.mem_cons_of_mem _ (List.mem_append_left _ (List.mem_append_right _ h))
theorem lk_X5_keep_1 : Cond.fieldLink RX5 23 "NoteThemes" "snapshot" "LNoteThemes$Board;" ∈ wsX5_keep := List.mem_of_getElem? (i := 1) rfl
theorem lk_X5_keep_2 : Cond.fieldLink RX5 10 "NoteThemes" "board" "LNoteThemes$Board;" ∈ wsX5_keep := List.mem_of_getElem? (i := 2) rfl
theorem lk_X5_keep_3 : Cond.fieldLink RX5 26 "NoteThemes" "hasSnapshot" "Z" ∈ wsX5_keep := List.mem_of_getElem? (i := 3) rfl
theorem lk_X5_keep_4 : Cond.fieldLink RX5 71 "NoteThemes$Board" "notes" "I" ∈ wsX5_keep := List.mem_of_getElem? (i := 4) rfl
def f_X5_keep (N : Nat) (Tn : tS) (B : tS) (Sn : tS)  : Option (Int32 × tS × tS) := (bd (f_X0_copyFrom N Sn B) (fun Sn1 => some ((B 0 0), (va_up Tn 3 (fun _ => (1 : Int32))), Sn1)))
set_option maxRecDepth 100000 in
set_option maxHeartbeats 4000000 in
theorem B_X5_keep {X : gX} (C : cx X RX5 cX5_keep 1 (some .int) wsX5_keep 2 47) (pa : Nat → Nat → Nat) (N : Nat) (Tn : tS) (B : tS) (Sn : tS)  (r : Int32) (Tnz : tS) (Snz : tS) (h : f_X5_keep N Tn B Sn = some (r, Tnz, Snz)) : G X (QI X r [ntW pa Tnz, bdW (gcA X) (pa 1) B, bdW (gcA X) (pa 3) Snz]) [ntW pa Tn, bdW (gcA X) (pa 1) B, bdW (gcA X) (pa 3) Sn] [some (.ref (pa 0 0))] [] 0 := by
  unfold f_X5_keep at h
  refine g_aload_n (pc' := 1) C dX5_keep_0 rfl rfl ?_
  refine gg_X5_2 (pc' := 4) (i := 0) C rfl hi_X5_keep_X5 lk_X5_keep_1 dX5_keep_1 rfl ?_
  refine g_aload_n (pc' := 5) C dX5_keep_4 rfl rfl ?_
  refine gg_X5_0 (pc' := 8) (i := 0) C rfl hi_X5_keep_X5 lk_X5_keep_2 dX5_keep_5 rfl ?_
  refine k_X0_copyFrom (pc' := 11) C (pa 3) (pa 1) N Sn B [2, 1] rfl (by decide) gX5_keep_X0_copyFrom ⟨Nat.le_of_ble_eq_true rfl, Nat.le_of_ble_eq_true rfl⟩ (Nat.le_of_ble_eq_true rfl) rfl dX5_keep_8 rfl h (fun Sn1 h => ?_)
  show G X _ [ntW pa Tn, bdW (gcA X) (pa 1) B, bdW (gcA X) (pa 3) Sn1] _ _ _
  refine g_aload_n (pc' := 12) C dX5_keep_11 rfl rfl ?_
  refine g_iconst (pc' := 13) (v := 1) C dX5_keep_12 (by decide) rfl ?_
  refine gp_X5_3 (pc' := 16) (i := 0) C rfl rfl rfl hi_X5_keep_X5 lk_X5_keep_3 dX5_keep_13 rfl ?_
  show G X _ [ntW pa (va_up Tn 3 (fun _ => (1 : Int32))), bdW (gcA X) (pa 1) B, bdW (gcA X) (pa 3) Sn1] _ _ _
  refine g_aload_n (pc' := 17) C dX5_keep_16 rfl rfl ?_
  refine gg_X5_0 (pc' := 20) (i := 0) C rfl hi_X5_keep_X5 lk_X5_keep_2 dX5_keep_17 rfl ?_
  refine gg_X0_0 (pc' := 23) (i := 1) C rfl hi_X5_keep_X0 lk_X5_keep_4 dX5_keep_20 rfl ?_
  obtain ⟨rfl, rfl, rfl⟩ := pj3 (Option.some.inj h)
  exact g_iret C dX5_keep_23
set_option maxRecDepth 100000 in
set_option maxHeartbeats 4000000 in
theorem c_X5_keep (l : Launch) (D : va_G) (cA : Nat → ClassId) (pa : Nat → Nat → Nat) (N : Nat) (Tn : tS) (B : tS) (Sn : tS)  (r : Int32) (Tnz : tS) (Snz : tS) (h : f_X5_keep N Tn B Sn = some (r, Tnz, Snz)) : MI l D cA yX5_keep wsX5_keep 2 47 [.ref (pa 0 0)] [ntW pa Tn, bdW cA (pa 1) B, bdW cA (pa 3) Sn] r [ntW pa Tnz, bdW cA (pa 1) B, bdW cA (pa 3) Snz] := MI_of (cc := cX5_keep) (maxL := 1) (rt := some .int) (by decide +kernel) rfl (List.forall_mem_cons.mpr ⟨rfl, List.forall_mem_nil _⟩) (Nat.le_of_ble_eq_true rfl) (fun X e1 e2 e3 C => by subst e1; subst e2; subst e3; exact B_X5_keep C pa N Tn B Sn r Tnz Snz h)
set_option maxRecDepth 100000 in
set_option maxHeartbeats 4000000 in
theorem nd_X5_keep : nd yX5_keep 0 := ⟨by decide +kernel, by decide +kernel, by decide +kernel⟩
set_option maxRecDepth 100000 in
set_option maxHeartbeats 4000000 in
theorem k_X5_keep {X : gX} {own : String} {cc : ByteArray} {nL : Nat} {ret : Option FieldType} {Ts : List Cond} {fr lm : Nat} {Q : State → Prop} {ms : List va_W} {L : List (Option Value)} {st : List Value} {pc pc' idx : Nat} {ρ : Type} {T : Int32 → tS → tS → Option ρ} {res : ρ} (C : cx X own cc nL ret Ts fr lm) (pa : Nat → Nat → Nat) (N : Nat) (Tn : tS) (B : tS) (Sn : tS)  (is : List Nat) (hC : is.map (fun i => ms[i]?) = [some (ntW pa Tn), some (bdW (gcA X) (pa 1) B), some (bdW (gcA X) (pa 3) Sn)]) (hn : is.Nodup) (hG : GoodIn Ts (wsV own idx RX5 yX5_keep wsX5_keep)) (hR : 2 + 1 ≤ fr ∧ 8 + (1 + 11) + 47 ≤ lm) (hst : (st.map fun v => v.category).sum ≤ 8) (hLn : L.length = nL) (d : decode cc pc = .ok (.invokevirtual idx, 3)) (hp : pc + 3 = pc') (h : bd3 (f_X5_keep N Tn B Sn) T = some res) (kk : ∀ (r : Int32) (Tnz : tS) (Snz : tS), T r Tnz Snz = some res → G X Q (rpl ms is [ntW pa Tnz, bdW (gcA X) (pa 1) B, bdW (gcA X) (pa 3) Snz]) L (.int r :: st) pc') : G X Q ms L (.ref (pa 0 0) :: st) pc := by
  obtain ⟨r, Tnz, Snz, h1, h⟩ := ob3 h
  exact G_callVI C (As := []) (c_X5_keep (gl X) (gD X) (gcA X) pa N Tn B Sn r Tnz Snz h1) hG rfl nd_X5_keep hR (q0 := 0) rfl rfl hC hn rfl rfl hst hLn d hp (kk r Tnz Snz h)
theorem hi_X5_restore_X0 : ∀ w ∈ wsX00, w ∈ wsX5_restore := fun w h => List.mem_cons_of_mem _ (List.mem_append_left _ (List.mem_append_right _ h))
theorem hi_X5_restore_X5 : ∀ w ∈ wsX50, w ∈ wsX5_restore := fun w h => List.mem_cons_of_mem _ (List.mem_append_left _ (List.mem_append_left _ (List.mem_append_right _ h)))
theorem lk_X5_restore_1 : Cond.fieldLink RX5 26 "NoteThemes" "hasSnapshot" "Z" ∈ wsX5_restore := List.mem_of_getElem? (i := 1) rfl
theorem lk_X5_restore_2 : Cond.fieldLink RX5 19 "NoteThemes" "history" "LNoteThemes$History;" ∈ wsX5_restore := List.mem_of_getElem? (i := 2) rfl
theorem lk_X5_restore_3 : Cond.fieldLink RX5 10 "NoteThemes" "board" "LNoteThemes$Board;" ∈ wsX5_restore := List.mem_of_getElem? (i := 3) rfl
theorem lk_X5_restore_4 : Cond.fieldLink RX5 23 "NoteThemes" "snapshot" "LNoteThemes$Board;" ∈ wsX5_restore := List.mem_of_getElem? (i := 4) rfl
theorem lk_X5_restore_5 : Cond.fieldLink RX5 71 "NoteThemes$Board" "notes" "I" ∈ wsX5_restore := List.mem_of_getElem? (i := 5) rfl
def f_X5_restore (N : Nat) (Tn : tS) (B : tS) (Hs : tH) (Sn : tS)  : Option (Int32 × tS × tH) := (if (Tn 3 0) = 0 then some ((-5 : Int32), B, Hs) else (bd (f_X3_remember N Hs B) (fun Hs1 => (bd (f_X0_copyFrom N B Sn) (fun B2 => some ((B2 0 0), B2, Hs1))))))
set_option maxRecDepth 100000 in
set_option maxHeartbeats 4000000 in
theorem B_X5_restore {X : gX} (C : cx X RX5 cX5_restore 1 (some .int) wsX5_restore 3 68) (pa : Nat → Nat → Nat) (N : Nat) (Tn : tS) (B : tS) (Hs : tH) (Sn : tS)  (r : Int32) (Bz : tS) (Hsz : tH) (h : f_X5_restore N Tn B Hs Sn = some (r, Bz, Hsz)) : G X (QI X r [ntW pa Tn, bdW (gcA X) (pa 1) Bz, hsW (gcA X) (pa 2) (fun j => pa (10 + j)) Hsz, bdW (gcA X) (pa 3) Sn]) [ntW pa Tn, bdW (gcA X) (pa 1) B, hsW (gcA X) (pa 2) (fun j => pa (10 + j)) Hs, bdW (gcA X) (pa 3) Sn] [some (.ref (pa 0 0))] [] 0 := by
  unfold f_X5_restore at h
  refine g_aload_n (pc' := 1) C dX5_restore_0 rfl rfl ?_
  refine gg_X5_3 (pc' := 4) (i := 0) C rfl hi_X5_restore_X5 lk_X5_restore_1 dX5_restore_1 rfl ?_
  refine g_if_ne (pc' := 7) (tgt := 10) C dX5_restore_4 (by decide) rfl h (fun c h => ?_) (fun c h => ?_)
  · refine g_bipush (pc' := 9) (v := -5) C dX5_restore_7 (by decide) rfl ?_
    obtain ⟨rfl, rfl, rfl⟩ := pj3 (Option.some.inj h)
    exact g_iret C dX5_restore_9
  · refine g_aload_n (pc' := 11) C dX5_restore_10 rfl rfl ?_
    refine gg_X5_1 (pc' := 14) (i := 0) C rfl hi_X5_restore_X5 lk_X5_restore_2 dX5_restore_11 rfl ?_
    refine g_aload_n (pc' := 15) C dX5_restore_14 rfl rfl ?_
    refine gg_X5_0 (pc' := 18) (i := 0) C rfl hi_X5_restore_X5 lk_X5_restore_3 dX5_restore_15 rfl ?_
    refine k_X3_remember (pc' := 21) C (pa 2) (pa 1) (fun j => pa (10 + j)) N Hs B [2, 1] rfl (by decide) gX5_restore_X3_remember ⟨Nat.le_of_ble_eq_true rfl, Nat.le_of_ble_eq_true rfl⟩ (Nat.le_of_ble_eq_true rfl) rfl dX5_restore_18 rfl h (fun Hs1 h => ?_)
    show G X _ [ntW pa Tn, bdW (gcA X) (pa 1) B, hsW (gcA X) (pa 2) (fun j => pa (10 + j)) Hs1, bdW (gcA X) (pa 3) Sn] _ _ _
    refine g_aload_n (pc' := 22) C dX5_restore_21 rfl rfl ?_
    refine gg_X5_0 (pc' := 25) (i := 0) C rfl hi_X5_restore_X5 lk_X5_restore_3 dX5_restore_22 rfl ?_
    refine g_aload_n (pc' := 26) C dX5_restore_25 rfl rfl ?_
    refine gg_X5_2 (pc' := 29) (i := 0) C rfl hi_X5_restore_X5 lk_X5_restore_4 dX5_restore_26 rfl ?_
    refine k_X0_copyFrom (pc' := 32) C (pa 1) (pa 3) N B Sn [1, 3] rfl (by decide) gX5_restore_X0_copyFrom ⟨Nat.le_of_ble_eq_true rfl, Nat.le_of_ble_eq_true rfl⟩ (Nat.le_of_ble_eq_true rfl) rfl dX5_restore_29 rfl h (fun B2 h => ?_)
    show G X _ [ntW pa Tn, bdW (gcA X) (pa 1) B2, hsW (gcA X) (pa 2) (fun j => pa (10 + j)) Hs1, bdW (gcA X) (pa 3) Sn] _ _ _
    refine g_aload_n (pc' := 33) C dX5_restore_32 rfl rfl ?_
    refine gg_X5_0 (pc' := 36) (i := 0) C rfl hi_X5_restore_X5 lk_X5_restore_3 dX5_restore_33 rfl ?_
    refine gg_X0_0 (pc' := 39) (i := 1) C rfl hi_X5_restore_X0 lk_X5_restore_5 dX5_restore_36 rfl ?_
    obtain ⟨rfl, rfl, rfl⟩ := pj3 (Option.some.inj h)
    exact g_iret C dX5_restore_39
set_option maxRecDepth 100000 in
set_option maxHeartbeats 4000000 in
theorem c_X5_restore (l : Launch) (D : va_G) (cA : Nat → ClassId) (pa : Nat → Nat → Nat) (N : Nat) (Tn : tS) (B : tS) (Hs : tH) (Sn : tS)  (r : Int32) (Bz : tS) (Hsz : tH) (h : f_X5_restore N Tn B Hs Sn = some (r, Bz, Hsz)) : MI l D cA yX5_restore wsX5_restore 3 68 [.ref (pa 0 0)] [ntW pa Tn, bdW cA (pa 1) B, hsW cA (pa 2) (fun j => pa (10 + j)) Hs, bdW cA (pa 3) Sn] r [ntW pa Tn, bdW cA (pa 1) Bz, hsW cA (pa 2) (fun j => pa (10 + j)) Hsz, bdW cA (pa 3) Sn] := MI_of (cc := cX5_restore) (maxL := 1) (rt := some .int) (by decide +kernel) rfl (List.forall_mem_cons.mpr ⟨rfl, List.forall_mem_nil _⟩) (Nat.le_of_ble_eq_true rfl) (fun X e1 e2 e3 C => by subst e1; subst e2; subst e3; exact B_X5_restore C pa N Tn B Hs Sn r Bz Hsz h)
set_option maxRecDepth 100000 in
set_option maxHeartbeats 4000000 in
theorem nd_X5_restore : nd yX5_restore 0 := ⟨by decide +kernel, by decide +kernel, by decide +kernel⟩
set_option maxRecDepth 100000 in
set_option maxHeartbeats 4000000 in
theorem k_X5_restore {X : gX} {own : String} {cc : ByteArray} {nL : Nat} {ret : Option FieldType} {Ts : List Cond} {fr lm : Nat} {Q : State → Prop} {ms : List va_W} {L : List (Option Value)} {st : List Value} {pc pc' idx : Nat} {ρ : Type} {T : Int32 → tS → tH → Option ρ} {res : ρ} (C : cx X own cc nL ret Ts fr lm) (pa : Nat → Nat → Nat) (N : Nat) (Tn : tS) (B : tS) (Hs : tH) (Sn : tS)  (is : List Nat) (hC : is.map (fun i => ms[i]?) = [some (ntW pa Tn), some (bdW (gcA X) (pa 1) B), some (hsW (gcA X) (pa 2) (fun j => pa (10 + j)) Hs), some (bdW (gcA X) (pa 3) Sn)]) (hn : is.Nodup) (hG : GoodIn Ts (wsV own idx RX5 yX5_restore wsX5_restore)) (hR : 3 + 1 ≤ fr ∧ 8 + (1 + 11) + 68 ≤ lm) (hst : (st.map fun v => v.category).sum ≤ 8) (hLn : L.length = nL) (d : decode cc pc = .ok (.invokevirtual idx, 3)) (hp : pc + 3 = pc') (h : bd3 (f_X5_restore N Tn B Hs Sn) T = some res) (kk : ∀ (r : Int32) (Bz : tS) (Hsz : tH), T r Bz Hsz = some res → G X Q (rpl ms is [ntW pa Tn, bdW (gcA X) (pa 1) Bz, hsW (gcA X) (pa 2) (fun j => pa (10 + j)) Hsz, bdW (gcA X) (pa 3) Sn]) L (.int r :: st) pc') : G X Q ms L (.ref (pa 0 0) :: st) pc := by
  obtain ⟨r, Bz, Hsz, h1, h⟩ := ob3 h
  exact G_callVI C (As := []) (c_X5_restore (gl X) (gD X) (gcA X) pa N Tn B Hs Sn r Bz Hsz h1) hG rfl nd_X5_restore hR (q0 := 0) rfl rfl hC hn rfl rfl hst hLn d hp (kk r Bz Hsz h)
theorem hi_X5_holdsItsHeap_X0 : ∀ w ∈ wsX00, w ∈ wsX5_holdsItsHeap := fun w h => List.mem_cons_of_mem _ (List.mem_append_left _ (List.mem_append_right _ h))
theorem hi_X5_holdsItsHeap_X5 : ∀ w ∈ wsX50, w ∈ wsX5_holdsItsHeap := fun w h => List.mem_cons_of_mem _ (List.mem_append_left _ (List.mem_append_left _ (List.mem_append_right _ h)))
theorem lk_X5_holdsItsHeap_1 : Cond.fieldLink RX5 38 "NoteThemes" "trial" "LNoteThemes$Board;" ∈ wsX5_holdsItsHeap := List.mem_of_getElem? (i := 1) rfl
theorem lk_X5_holdsItsHeap_2 : Cond.fieldLink RX5 10 "NoteThemes" "board" "LNoteThemes$Board;" ∈ wsX5_holdsItsHeap := List.mem_of_getElem? (i := 2) rfl
theorem lk_X5_holdsItsHeap_3 : Cond.fieldLink RX5 48 "NoteThemes" "heapsThen" "LNoteThemes$Heaps;" ∈ wsX5_holdsItsHeap := List.mem_of_getElem? (i := 3) rfl
theorem lk_X5_holdsItsHeap_4 : Cond.fieldLink RX5 200 "NoteThemes$Board" "settings" "[I" ∈ wsX5_holdsItsHeap := List.mem_of_getElem? (i := 4) rfl
def f_X5_holdsItsHeap (N : Nat) (Tn : tS) (B : tS) (Tr : tS) (E : tS) (F : tS) (p0 : Int32) : Option (Int32 × tS × tS × tS) := (bd2 (f_X5_findHeaps N Tn B E) (fun r1 E1 => (bd (f_X0_copyFrom N Tr B) (fun Tr2 => (bd (f_X0_removeNote N Tr2 p0) (fun Tr3 => (bd2 (f_X2_find N F Tr3 (Tr3 7 (0 : Int32).toNatClampNeg)) (fun r4 F4 => (if r4 ≤ r1 then some ((0 : Int32), Tr3, E1, F4) else some ((1 : Int32), Tr3, E1, F4))))))))))
set_option maxRecDepth 100000 in
set_option maxHeartbeats 4000000 in
theorem B_X5_holdsItsHeap {X : gX} (C : cx X RX5 cX5_holdsItsHeap 3 (some .boolean) wsX5_holdsItsHeap 4 90) (pa : Nat → Nat → Nat) (N : Nat) (Tn : tS) (B : tS) (Tr : tS) (E : tS) (F : tS) (p0 : Int32) (r : Int32) (Trz : tS) (Ez : tS) (Fz : tS) (h : f_X5_holdsItsHeap N Tn B Tr E F p0 = some (r, Trz, Ez, Fz)) : G X (QI X r [ntW pa Tn, bdW (gcA X) (pa 1) B, bdW (gcA X) (pa 5) Trz, heW (gcA X) (pa 6) Ez, heW (gcA X) (pa 7) Fz]) [ntW pa Tn, bdW (gcA X) (pa 1) B, bdW (gcA X) (pa 5) Tr, heW (gcA X) (pa 6) E, heW (gcA X) (pa 7) F] [some (.ref (pa 0 0)), some (.int p0), none] [] 0 := by
  unfold f_X5_holdsItsHeap at h
  refine g_aload_n (pc' := 1) C dX5_holdsItsHeap_0 rfl rfl ?_
  refine k_X5_findHeaps (pc' := 4) C pa N Tn B E [0, 1, 3] rfl (by decide) gX5_holdsItsHeap_X5_findHeaps ⟨Nat.le_of_ble_eq_true rfl, Nat.le_of_ble_eq_true rfl⟩ (Nat.le_of_ble_eq_true rfl) rfl dX5_holdsItsHeap_1 rfl h (fun r1 E1 h => ?_)
  show G X _ [ntW pa Tn, bdW (gcA X) (pa 1) B, bdW (gcA X) (pa 5) Tr, heW (gcA X) (pa 6) E1, heW (gcA X) (pa 7) F] _ _ _
  refine g_istore_n (pc' := 5) C dX5_holdsItsHeap_4 (Nat.le_of_ble_eq_true rfl) rfl (L' := [some (.ref (pa 0 0)), some (.int p0), some (.int r1)]) rfl ?_
  refine g_aload_n (pc' := 6) C dX5_holdsItsHeap_5 rfl rfl ?_
  refine gg_X5_6 (pc' := 9) (i := 0) C rfl hi_X5_holdsItsHeap_X5 lk_X5_holdsItsHeap_1 dX5_holdsItsHeap_6 rfl ?_
  refine g_aload_n (pc' := 10) C dX5_holdsItsHeap_9 rfl rfl ?_
  refine gg_X5_0 (pc' := 13) (i := 0) C rfl hi_X5_holdsItsHeap_X5 lk_X5_holdsItsHeap_2 dX5_holdsItsHeap_10 rfl ?_
  refine k_X0_copyFrom (pc' := 16) C (pa 5) (pa 1) N Tr B [2, 1] rfl (by decide) gX5_holdsItsHeap_X0_copyFrom ⟨Nat.le_of_ble_eq_true rfl, Nat.le_of_ble_eq_true rfl⟩ (Nat.le_of_ble_eq_true rfl) rfl dX5_holdsItsHeap_13 rfl h (fun Tr2 h => ?_)
  show G X _ [ntW pa Tn, bdW (gcA X) (pa 1) B, bdW (gcA X) (pa 5) Tr2, heW (gcA X) (pa 6) E1, heW (gcA X) (pa 7) F] _ _ _
  refine g_aload_n (pc' := 17) C dX5_holdsItsHeap_16 rfl rfl ?_
  refine gg_X5_6 (pc' := 20) (i := 0) C rfl hi_X5_holdsItsHeap_X5 lk_X5_holdsItsHeap_1 dX5_holdsItsHeap_17 rfl ?_
  refine g_iload_n (pc' := 21) C dX5_holdsItsHeap_20 rfl rfl ?_
  refine k_X0_removeNote (pc' := 24) C (pa 5) N Tr2 p0 [2] rfl (by decide) gX5_holdsItsHeap_X0_removeNote ⟨Nat.le_of_ble_eq_true rfl, Nat.le_of_ble_eq_true rfl⟩ (Nat.le_of_ble_eq_true rfl) rfl dX5_holdsItsHeap_21 rfl h (fun Tr3 h => ?_)
  show G X _ [ntW pa Tn, bdW (gcA X) (pa 1) B, bdW (gcA X) (pa 5) Tr3, heW (gcA X) (pa 6) E1, heW (gcA X) (pa 7) F] _ _ _
  refine g_aload_n (pc' := 25) C dX5_holdsItsHeap_24 rfl rfl ?_
  refine gg_X5_8 (pc' := 28) (i := 0) C rfl hi_X5_holdsItsHeap_X5 lk_X5_holdsItsHeap_3 dX5_holdsItsHeap_25 rfl ?_
  refine g_aload_n (pc' := 29) C dX5_holdsItsHeap_28 rfl rfl ?_
  refine gg_X5_6 (pc' := 32) (i := 0) C rfl hi_X5_holdsItsHeap_X5 lk_X5_holdsItsHeap_1 dX5_holdsItsHeap_29 rfl ?_
  refine g_aload_n (pc' := 33) C dX5_holdsItsHeap_32 rfl rfl ?_
  refine gg_X5_6 (pc' := 36) (i := 0) C rfl hi_X5_holdsItsHeap_X5 lk_X5_holdsItsHeap_1 dX5_holdsItsHeap_33 rfl ?_
  refine gg_X0_7 (pc' := 39) (i := 2) C rfl hi_X5_holdsItsHeap_X0 lk_X5_holdsItsHeap_4 dX5_holdsItsHeap_36 rfl ?_
  refine g_iconst (pc' := 40) (v := 0) C dX5_holdsItsHeap_39 (by decide) rfl ?_
  refine g_iald0 (pc' := 41) (i := 2) (j := 6) C rfl rfl dX5_holdsItsHeap_40 rfl (by unfold vp_in; decide) ?_
  refine k_X2_find (pc' := 44) C (pa 7) (pa 5) N F Tr3 (Tr3 7 (0 : Int32).toNatClampNeg) [4, 2] rfl (by decide) gX5_holdsItsHeap_X2_find ⟨Nat.le_of_ble_eq_true rfl, Nat.le_of_ble_eq_true rfl⟩ (Nat.le_of_ble_eq_true rfl) rfl dX5_holdsItsHeap_41 rfl h (fun r4 F4 h => ?_)
  show G X _ [ntW pa Tn, bdW (gcA X) (pa 1) B, bdW (gcA X) (pa 5) Tr3, heW (gcA X) (pa 6) E1, heW (gcA X) (pa 7) F4] _ _ _
  refine g_iload_n (pc' := 45) C dX5_holdsItsHeap_44 rfl rfl ?_
  refine g_icmp_le (pc' := 48) (tgt := 52) C dX5_holdsItsHeap_45 (by decide) rfl h (fun c h => ?_) (fun c h => ?_)
  · refine g_iconst (pc' := 53) (v := 0) C dX5_holdsItsHeap_52 (by decide) rfl ?_
    obtain ⟨rfl, rfl, rfl, rfl⟩ := pj4 (Option.some.inj h)
    exact g_zret0 C rfl dX5_holdsItsHeap_53
  · refine g_iconst (pc' := 49) (v := 1) C dX5_holdsItsHeap_48 (by decide) rfl ?_
    refine g_goto (pc' := 53) C dX5_holdsItsHeap_49 (by decide) ?_
    obtain ⟨rfl, rfl, rfl, rfl⟩ := pj4 (Option.some.inj h)
    exact g_zret0 C rfl dX5_holdsItsHeap_53
set_option maxRecDepth 100000 in
set_option maxHeartbeats 4000000 in
theorem c_X5_holdsItsHeap (l : Launch) (D : va_G) (cA : Nat → ClassId) (pa : Nat → Nat → Nat) (N : Nat) (Tn : tS) (B : tS) (Tr : tS) (E : tS) (F : tS) (p0 : Int32) (r : Int32) (Trz : tS) (Ez : tS) (Fz : tS) (h : f_X5_holdsItsHeap N Tn B Tr E F p0 = some (r, Trz, Ez, Fz)) : MI l D cA yX5_holdsItsHeap wsX5_holdsItsHeap 4 90 [.ref (pa 0 0), .int p0] [ntW pa Tn, bdW cA (pa 1) B, bdW cA (pa 5) Tr, heW cA (pa 6) E, heW cA (pa 7) F] r [ntW pa Tn, bdW cA (pa 1) B, bdW cA (pa 5) Trz, heW cA (pa 6) Ez, heW cA (pa 7) Fz] := MI_of (cc := cX5_holdsItsHeap) (maxL := 3) (rt := some .boolean) (by decide +kernel) rfl (List.forall_mem_cons.mpr ⟨rfl, List.forall_mem_cons.mpr ⟨rfl, List.forall_mem_nil _⟩⟩) (Nat.le_of_ble_eq_true rfl) (fun X e1 e2 e3 C => by subst e1; subst e2; subst e3; exact B_X5_holdsItsHeap C pa N Tn B Tr E F p0 r Trz Ez Fz h)
set_option maxRecDepth 100000 in
set_option maxHeartbeats 4000000 in
theorem nd_X5_holdsItsHeap : nd yX5_holdsItsHeap 1 := ⟨by decide +kernel, by decide +kernel, by decide +kernel⟩
set_option maxRecDepth 100000 in
set_option maxHeartbeats 4000000 in
theorem k_X5_holdsItsHeap {X : gX} {own : String} {cc : ByteArray} {nL : Nat} {ret : Option FieldType} {Ts : List Cond} {fr lm : Nat} {Q : State → Prop} {ms : List va_W} {L : List (Option Value)} {st : List Value} {pc pc' idx : Nat} {ρ : Type} {T : Int32 → tS → tS → tS → Option ρ} {res : ρ} (C : cx X own cc nL ret Ts fr lm) (pa : Nat → Nat → Nat) (N : Nat) (Tn : tS) (B : tS) (Tr : tS) (E : tS) (F : tS) (p0 : Int32) (is : List Nat) (hC : is.map (fun i => ms[i]?) = [some (ntW pa Tn), some (bdW (gcA X) (pa 1) B), some (bdW (gcA X) (pa 5) Tr), some (heW (gcA X) (pa 6) E), some (heW (gcA X) (pa 7) F)]) (hn : is.Nodup) (hG : GoodIn Ts (wsV own idx RX5 yX5_holdsItsHeap wsX5_holdsItsHeap)) (hR : 4 + 1 ≤ fr ∧ 8 + (3 + 11) + 90 ≤ lm) (hst : (st.map fun v => v.category).sum ≤ 8) (hLn : L.length = nL) (d : decode cc pc = .ok (.invokevirtual idx, 3)) (hp : pc + 3 = pc') (h : bd4 (f_X5_holdsItsHeap N Tn B Tr E F p0) T = some res) (kk : ∀ (r : Int32) (Trz : tS) (Ez : tS) (Fz : tS), T r Trz Ez Fz = some res → G X Q (rpl ms is [ntW pa Tn, bdW (gcA X) (pa 1) B, bdW (gcA X) (pa 5) Trz, heW (gcA X) (pa 6) Ez, heW (gcA X) (pa 7) Fz]) L (.int r :: st) pc') : G X Q ms L (.int p0 :: .ref (pa 0 0) :: st) pc := by
  obtain ⟨r, Trz, Ez, Fz, h1, h⟩ := ob4 h
  exact G_callVI C (As := [.int p0]) (c_X5_holdsItsHeap (gl X) (gD X) (gcA X) pa N Tn B Tr E F p0 r Trz Ez Fz h1) hG rfl nd_X5_holdsItsHeap hR (q0 := 0) rfl rfl hC hn rfl rfl hst hLn d hp (kk r Trz Ez Fz h)
theorem hi_X5_note_X0 : ∀ w ∈ wsX00, w ∈ wsX5_note := fun w h => List.mem_cons_of_mem _ (List.mem_append_left _ (List.mem_append_right _ h))
theorem hi_X5_note_X2 : ∀ w ∈ wsX20, w ∈ wsX5_note := fun w h => List.mem_cons_of_mem _ (List.mem_append_right _ h)
theorem hi_X5_note_X5 : ∀ w ∈ wsX50, w ∈ wsX5_note := fun w h => List.mem_cons_of_mem _ (List.mem_append_left _ (List.mem_append_left _ (List.mem_append_right _ h)))
theorem lk_X5_note_1 : Cond.fieldLink RX5 10 "NoteThemes" "board" "LNoteThemes$Board;" ∈ wsX5_note := List.mem_of_getElem? (i := 1) rfl
theorem lk_X5_note_2 : Cond.fieldLink RX5 106 "NoteThemes$Board" "columnOf" "[I" ∈ wsX5_note := List.mem_of_getElem? (i := 2) rfl
theorem lk_X5_note_3 : Cond.fieldLink RX5 110 "NoteThemes$Board" "rowOf" "[I" ∈ wsX5_note := List.mem_of_getElem? (i := 3) rfl
theorem lk_X5_note_4 : Cond.fieldLink RX5 44 "NoteThemes" "heapsNow" "LNoteThemes$Heaps;" ∈ wsX5_note := List.mem_of_getElem? (i := 4) rfl
theorem lk_X5_note_5 : Cond.fieldLink RX5 160 "NoteThemes$Heaps" "heapOf" "[I" ∈ wsX5_note := List.mem_of_getElem? (i := 5) rfl
theorem lk_X5_note_6 : Cond.fieldLink RX5 163 "NoteThemes$Board" "themeOf" "[I" ∈ wsX5_note := List.mem_of_getElem? (i := 6) rfl
def f_X5_note (N : Nat) (Tn : tS) (B : tS) (Tr : tS) (E : tS) (F : tS) (p0 : Int32) (p1 : Int32) : Option (Int32 × tS × tS × tS) := (bd (f_X0_hasNote N B p0) (fun r1 => (if r1 = 0 then some ((-1 : Int32), Tr, E, F) else (if p1 = (0 : Int32) then (if p0 < 0 ∨ 20 ≤ p0.toNatClampNeg then none else some ((B 1 p0.toNatClampNeg), Tr, E, F)) else (if p1 = (1 : Int32) then (if p0 < 0 ∨ 20 ≤ p0.toNatClampNeg then none else some ((B 2 p0.toNatClampNeg), Tr, E, F)) else (if p1 = (2 : Int32) then (bd (f_X0_dotsOn N B p0) (fun r2 => some (r2, Tr, E, F))) else (if p1 = (3 : Int32) then (bd2 (f_X5_findHeaps N Tn B E) (fun r3 E3 => (if p0 < 0 ∨ 20 ≤ p0.toNatClampNeg then none else some ((E3 2 p0.toNatClampNeg), Tr, E3, F)))) else (if p1 = (4 : Int32) then (if p0 < 0 ∨ 20 ≤ p0.toNatClampNeg then none else some ((B 3 p0.toNatClampNeg), Tr, E, F)) else (if p1 = (5 : Int32) then (bd (f_X0_notesNear N B p0) (fun r4 => some (r4, Tr, E, F))) else (if p1 = (6 : Int32) then (bd4 (f_X5_holdsItsHeap N Tn B Tr E F p0) (fun r5 Tr5 E5 F5 => (if r5 = 0 then some ((0 : Int32), Tr5, E5, F5) else some ((1 : Int32), Tr5, E5, F5)))) else some ((-2 : Int32), Tr, E, F)))))))))))
set_option maxRecDepth 100000 in
set_option maxHeartbeats 4000000 in
theorem B_X5_note {X : gX} (C : cx X RX5 cX5_note 3 (some .int) wsX5_note 5 112) (pa : Nat → Nat → Nat) (N : Nat) (Tn : tS) (B : tS) (Tr : tS) (E : tS) (F : tS) (p0 : Int32) (p1 : Int32) (r : Int32) (Trz : tS) (Ez : tS) (Fz : tS) (h : f_X5_note N Tn B Tr E F p0 p1 = some (r, Trz, Ez, Fz)) : G X (QI X r [ntW pa Tn, bdW (gcA X) (pa 1) B, bdW (gcA X) (pa 5) Trz, heW (gcA X) (pa 6) Ez, heW (gcA X) (pa 7) Fz]) [ntW pa Tn, bdW (gcA X) (pa 1) B, bdW (gcA X) (pa 5) Tr, heW (gcA X) (pa 6) E, heW (gcA X) (pa 7) F] [some (.ref (pa 0 0)), some (.int p0), some (.int p1)] [] 0 := by
  unfold f_X5_note at h
  refine g_aload_n (pc' := 1) C dX5_note_0 rfl rfl ?_
  refine gg_X5_0 (pc' := 4) (i := 0) C rfl hi_X5_note_X5 lk_X5_note_1 dX5_note_1 rfl ?_
  refine g_iload_n (pc' := 5) C dX5_note_4 rfl rfl ?_
  refine k_X0_hasNote (pc' := 8) C (pa 1) N B p0 [1] rfl (by decide) gX5_note_X0_hasNote ⟨Nat.le_of_ble_eq_true rfl, Nat.le_of_ble_eq_true rfl⟩ (Nat.le_of_ble_eq_true rfl) rfl dX5_note_5 rfl h (fun r1 h => ?_)
  refine g_if_ne (pc' := 11) (tgt := 13) C dX5_note_8 (by decide) rfl h (fun c h => ?_) (fun c h => ?_)
  · refine g_iconst (pc' := 12) (v := -1) C dX5_note_11 (by decide) rfl ?_
    obtain ⟨rfl, rfl, rfl, rfl⟩ := pj4 (Option.some.inj h)
    exact g_iret C dX5_note_12
  · refine g_iload_n (pc' := 14) C dX5_note_13 rfl rfl ?_
    refine oif h (fun c h => ?_) (fun c0 h => ?_)
    · refine g_tabIn (pc' := 56) (off := 42) C dX5_note_14 (by rw [c] <;> decide) (by rw [c] <;> decide) (by rw [c] <;> decide) (by decide) ?_
      refine g_aload_n (pc' := 57) C dX5_note_56 rfl rfl ?_
      refine gg_X5_0 (pc' := 60) (i := 0) C rfl hi_X5_note_X5 lk_X5_note_1 dX5_note_57 rfl ?_
      refine gg_X0_1 (pc' := 63) (i := 1) C rfl hi_X5_note_X0 lk_X5_note_2 dX5_note_60 rfl ?_
      refine g_iload_n (pc' := 64) C dX5_note_63 rfl rfl ?_
      refine g_iald (pc' := 65) (i := 1) (j := 1) C rfl rfl dX5_note_64 rfl h (fun h => ?_)
      obtain ⟨rfl, rfl, rfl, rfl⟩ := pj4 (Option.some.inj h)
      exact g_iret C dX5_note_65
    refine oif h (fun c h => ?_) (fun c1 h => ?_)
    · refine g_tabIn (pc' := 66) (off := 52) C dX5_note_14 (by rw [c] <;> decide) (by rw [c] <;> decide) (by rw [c] <;> decide) (by decide) ?_
      refine g_aload_n (pc' := 67) C dX5_note_66 rfl rfl ?_
      refine gg_X5_0 (pc' := 70) (i := 0) C rfl hi_X5_note_X5 lk_X5_note_1 dX5_note_67 rfl ?_
      refine gg_X0_2 (pc' := 73) (i := 1) C rfl hi_X5_note_X0 lk_X5_note_3 dX5_note_70 rfl ?_
      refine g_iload_n (pc' := 74) C dX5_note_73 rfl rfl ?_
      refine g_iald (pc' := 75) (i := 1) (j := 2) C rfl rfl dX5_note_74 rfl h (fun h => ?_)
      obtain ⟨rfl, rfl, rfl, rfl⟩ := pj4 (Option.some.inj h)
      exact g_iret C dX5_note_75
    refine oif h (fun c h => ?_) (fun c2 h => ?_)
    · refine g_tabIn (pc' := 76) (off := 62) C dX5_note_14 (by rw [c] <;> decide) (by rw [c] <;> decide) (by rw [c] <;> decide) (by decide) ?_
      refine g_aload_n (pc' := 77) C dX5_note_76 rfl rfl ?_
      refine gg_X5_0 (pc' := 80) (i := 0) C rfl hi_X5_note_X5 lk_X5_note_1 dX5_note_77 rfl ?_
      refine g_iload_n (pc' := 81) C dX5_note_80 rfl rfl ?_
      refine k_X0_dotsOn (pc' := 84) C (pa 1) N B p0 [1] rfl (by decide) gX5_note_X0_dotsOn ⟨Nat.le_of_ble_eq_true rfl, Nat.le_of_ble_eq_true rfl⟩ (Nat.le_of_ble_eq_true rfl) rfl dX5_note_81 rfl h (fun r2 h => ?_)
      obtain ⟨rfl, rfl, rfl, rfl⟩ := pj4 (Option.some.inj h)
      exact g_iret C dX5_note_84
    refine oif h (fun c h => ?_) (fun c3 h => ?_)
    · refine g_tabIn (pc' := 85) (off := 71) C dX5_note_14 (by rw [c] <;> decide) (by rw [c] <;> decide) (by rw [c] <;> decide) (by decide) ?_
      refine g_aload_n (pc' := 86) C dX5_note_85 rfl rfl ?_
      refine k_X5_findHeaps (pc' := 89) C pa N Tn B E [0, 1, 3] rfl (by decide) gX5_note_X5_findHeaps ⟨Nat.le_of_ble_eq_true rfl, Nat.le_of_ble_eq_true rfl⟩ (Nat.le_of_ble_eq_true rfl) rfl dX5_note_86 rfl h (fun r3 E3 h => ?_)
      show G X _ [ntW pa Tn, bdW (gcA X) (pa 1) B, bdW (gcA X) (pa 5) Tr, heW (gcA X) (pa 6) E3, heW (gcA X) (pa 7) F] _ _ _
      refine g_pop (pc' := 90) C dX5_note_89 rfl rfl ?_
      refine g_aload_n (pc' := 91) C dX5_note_90 rfl rfl ?_
      refine gg_X5_7 (pc' := 94) (i := 0) C rfl hi_X5_note_X5 lk_X5_note_4 dX5_note_91 rfl ?_
      refine gg_X2_2 (pc' := 97) (i := 3) C rfl hi_X5_note_X2 lk_X5_note_5 dX5_note_94 rfl ?_
      refine g_iload_n (pc' := 98) C dX5_note_97 rfl rfl ?_
      refine g_iald (pc' := 99) (i := 3) (j := 1) C rfl rfl dX5_note_98 rfl h (fun h => ?_)
      obtain ⟨rfl, rfl, rfl, rfl⟩ := pj4 (Option.some.inj h)
      exact g_iret C dX5_note_99
    refine oif h (fun c h => ?_) (fun c4 h => ?_)
    · refine g_tabIn (pc' := 100) (off := 86) C dX5_note_14 (by rw [c] <;> decide) (by rw [c] <;> decide) (by rw [c] <;> decide) (by decide) ?_
      refine g_aload_n (pc' := 101) C dX5_note_100 rfl rfl ?_
      refine gg_X5_0 (pc' := 104) (i := 0) C rfl hi_X5_note_X5 lk_X5_note_1 dX5_note_101 rfl ?_
      refine gg_X0_3 (pc' := 107) (i := 1) C rfl hi_X5_note_X0 lk_X5_note_6 dX5_note_104 rfl ?_
      refine g_iload_n (pc' := 108) C dX5_note_107 rfl rfl ?_
      refine g_iald (pc' := 109) (i := 1) (j := 3) C rfl rfl dX5_note_108 rfl h (fun h => ?_)
      obtain ⟨rfl, rfl, rfl, rfl⟩ := pj4 (Option.some.inj h)
      exact g_iret C dX5_note_109
    refine oif h (fun c h => ?_) (fun c5 h => ?_)
    · refine g_tabIn (pc' := 110) (off := 96) C dX5_note_14 (by rw [c] <;> decide) (by rw [c] <;> decide) (by rw [c] <;> decide) (by decide) ?_
      refine g_aload_n (pc' := 111) C dX5_note_110 rfl rfl ?_
      refine gg_X5_0 (pc' := 114) (i := 0) C rfl hi_X5_note_X5 lk_X5_note_1 dX5_note_111 rfl ?_
      refine g_iload_n (pc' := 115) C dX5_note_114 rfl rfl ?_
      refine k_X0_notesNear (pc' := 118) C (pa 1) N B p0 [1] rfl (by decide) gX5_note_X0_notesNear ⟨Nat.le_of_ble_eq_true rfl, Nat.le_of_ble_eq_true rfl⟩ (Nat.le_of_ble_eq_true rfl) rfl dX5_note_115 rfl h (fun r4 h => ?_)
      obtain ⟨rfl, rfl, rfl, rfl⟩ := pj4 (Option.some.inj h)
      exact g_iret C dX5_note_118
    refine oif h (fun c h => ?_) (fun c6 h => ?_)
    · refine g_tabIn (pc' := 119) (off := 105) C dX5_note_14 (by rw [c] <;> decide) (by rw [c] <;> decide) (by rw [c] <;> decide) (by decide) ?_
      refine g_aload_n (pc' := 120) C dX5_note_119 rfl rfl ?_
      refine g_iload_n (pc' := 121) C dX5_note_120 rfl rfl ?_
      refine k_X5_holdsItsHeap (pc' := 124) C pa N Tn B Tr E F p0 [0, 1, 2, 3, 4] rfl (by decide) gX5_note_X5_holdsItsHeap ⟨Nat.le_of_ble_eq_true rfl, Nat.le_of_ble_eq_true rfl⟩ (Nat.le_of_ble_eq_true rfl) rfl dX5_note_121 rfl h (fun r5 Tr5 E5 F5 h => ?_)
      show G X _ [ntW pa Tn, bdW (gcA X) (pa 1) B, bdW (gcA X) (pa 5) Tr5, heW (gcA X) (pa 6) E5, heW (gcA X) (pa 7) F5] _ _ _
      refine g_if_eq (pc' := 127) (tgt := 131) C dX5_note_124 (by decide) rfl h (fun c h => ?_) (fun c h => ?_)
      · refine g_iconst (pc' := 132) (v := 0) C dX5_note_131 (by decide) rfl ?_
        obtain ⟨rfl, rfl, rfl, rfl⟩ := pj4 (Option.some.inj h)
        exact g_iret C dX5_note_132
      · refine g_iconst (pc' := 128) (v := 1) C dX5_note_127 (by decide) rfl ?_
        refine g_goto (pc' := 132) C dX5_note_128 (by decide) ?_
        obtain ⟨rfl, rfl, rfl, rfl⟩ := pj4 (Option.some.inj h)
        exact g_iret C dX5_note_132
    have e0 := lv_neT (a := 0) c0 (by decide)
    have e1 := lv_neT (a := 1) c1 (by decide)
    have e2 := lv_neT (a := 2) c2 (by decide)
    have e3 := lv_neT (a := 3) c3 (by decide)
    have e4 := lv_neT (a := 4) c4 (by decide)
    have e5 := lv_neT (a := 5) c5 (by decide)
    have e6 := lv_neT (a := 6) c6 (by decide)
    refine g_tabOut (pc' := 133) C dX5_note_14 (by omega) (by decide) ?_
    refine g_bipush (pc' := 135) (v := -2) C dX5_note_133 (by decide) rfl ?_
    obtain ⟨rfl, rfl, rfl, rfl⟩ := pj4 (Option.some.inj h)
    exact g_iret C dX5_note_135
set_option maxRecDepth 100000 in
set_option maxHeartbeats 4000000 in
theorem c_X5_note (l : Launch) (D : va_G) (cA : Nat → ClassId) (pa : Nat → Nat → Nat) (N : Nat) (Tn : tS) (B : tS) (Tr : tS) (E : tS) (F : tS) (p0 : Int32) (p1 : Int32) (r : Int32) (Trz : tS) (Ez : tS) (Fz : tS) (h : f_X5_note N Tn B Tr E F p0 p1 = some (r, Trz, Ez, Fz)) : MI l D cA yX5_note wsX5_note 5 112 [.ref (pa 0 0), .int p0, .int p1] [ntW pa Tn, bdW cA (pa 1) B, bdW cA (pa 5) Tr, heW cA (pa 6) E, heW cA (pa 7) F] r [ntW pa Tn, bdW cA (pa 1) B, bdW cA (pa 5) Trz, heW cA (pa 6) Ez, heW cA (pa 7) Fz] := MI_of (cc := cX5_note) (maxL := 3) (rt := some .int) (by decide +kernel) rfl (List.forall_mem_cons.mpr ⟨rfl, List.forall_mem_cons.mpr ⟨rfl, List.forall_mem_cons.mpr ⟨rfl, List.forall_mem_nil _⟩⟩⟩) (Nat.le_of_ble_eq_true rfl) (fun X e1 e2 e3 C => by subst e1; subst e2; subst e3; exact B_X5_note C pa N Tn B Tr E F p0 p1 r Trz Ez Fz h)
set_option maxRecDepth 100000 in
set_option maxHeartbeats 4000000 in
theorem nd_X5_note : nd yX5_note 2 := ⟨by decide +kernel, by decide +kernel, by decide +kernel⟩
set_option maxRecDepth 100000 in
set_option maxHeartbeats 4000000 in
theorem k_X5_note {X : gX} {own : String} {cc : ByteArray} {nL : Nat} {ret : Option FieldType} {Ts : List Cond} {fr lm : Nat} {Q : State → Prop} {ms : List va_W} {L : List (Option Value)} {st : List Value} {pc pc' idx : Nat} {ρ : Type} {T : Int32 → tS → tS → tS → Option ρ} {res : ρ} (C : cx X own cc nL ret Ts fr lm) (pa : Nat → Nat → Nat) (N : Nat) (Tn : tS) (B : tS) (Tr : tS) (E : tS) (F : tS) (p0 : Int32) (p1 : Int32) (is : List Nat) (hC : is.map (fun i => ms[i]?) = [some (ntW pa Tn), some (bdW (gcA X) (pa 1) B), some (bdW (gcA X) (pa 5) Tr), some (heW (gcA X) (pa 6) E), some (heW (gcA X) (pa 7) F)]) (hn : is.Nodup) (hG : GoodIn Ts (wsV own idx RX5 yX5_note wsX5_note)) (hR : 5 + 1 ≤ fr ∧ 8 + (3 + 11) + 112 ≤ lm) (hst : (st.map fun v => v.category).sum ≤ 8) (hLn : L.length = nL) (d : decode cc pc = .ok (.invokevirtual idx, 3)) (hp : pc + 3 = pc') (h : bd4 (f_X5_note N Tn B Tr E F p0 p1) T = some res) (kk : ∀ (r : Int32) (Trz : tS) (Ez : tS) (Fz : tS), T r Trz Ez Fz = some res → G X Q (rpl ms is [ntW pa Tn, bdW (gcA X) (pa 1) B, bdW (gcA X) (pa 5) Trz, heW (gcA X) (pa 6) Ez, heW (gcA X) (pa 7) Fz]) L (.int r :: st) pc') : G X Q ms L (.int p1 :: .int p0 :: .ref (pa 0 0) :: st) pc := by
  obtain ⟨r, Trz, Ez, Fz, h1, h⟩ := ob4 h
  exact G_callVI C (As := [.int p0, .int p1]) (c_X5_note (gl X) (gD X) (gcA X) pa N Tn B Tr E F p0 p1 r Trz Ez Fz h1) hG rfl nd_X5_note hR (q0 := 0) rfl rfl hC hn rfl rfl hst hLn d hp (kk r Trz Ez Fz h)
theorem hi_X5_dots_X5 : ∀ w ∈ wsX50, w ∈ wsX5_dots := fun w h => List.mem_cons_of_mem _ (List.mem_append_left _ (List.mem_append_right _ h))
theorem lk_X5_dots_1 : Cond.fieldLink RX5 10 "NoteThemes" "board" "LNoteThemes$Board;" ∈ wsX5_dots := List.mem_of_getElem? (i := 1) rfl
def f_X5_dots (N : Nat) (Tn : tS) (B : tS) (p0 : Int32) (p1 : Int32) : Option (Int32) := (bd (f_X5_isPerson N p0) (fun r1 => (if r1 = 0 then some (-1 : Int32) else (bd (f_X0_hasNote N B p1) (fun r2 => (if r2 = 0 then some (-1 : Int32) else (bd (f_X0_dotsOfPerson N B p0 p1) (fun r3 => some r3))))))))
set_option maxRecDepth 100000 in
set_option maxHeartbeats 4000000 in
theorem B_X5_dots {X : gX} (C : cx X RX5 cX5_dots 3 (some .int) wsX5_dots 2 42) (pa : Nat → Nat → Nat) (N : Nat) (Tn : tS) (B : tS) (p0 : Int32) (p1 : Int32) (r : Int32) (h : f_X5_dots N Tn B p0 p1 = some r) : G X (QI X r [ntW pa Tn, bdW (gcA X) (pa 1) B]) [ntW pa Tn, bdW (gcA X) (pa 1) B] [some (.ref (pa 0 0)), some (.int p0), some (.int p1)] [] 0 := by
  unfold f_X5_dots at h
  refine g_iload_n (pc' := 1) C dX5_dots_0 rfl rfl ?_
  refine k_X5_isPerson (pc' := 4) C N p0 [] rfl (by decide) gX5_dots_X5_isPerson ⟨Nat.le_of_ble_eq_true rfl, Nat.le_of_ble_eq_true rfl⟩ (Nat.le_of_ble_eq_true rfl) rfl dX5_dots_1 rfl h (fun r1 h => ?_)
  refine g_if_eq (pc' := 7) (tgt := 18) C dX5_dots_4 (by decide) rfl h (fun c h => ?_) (fun c h => ?_)
  · refine g_iconst (pc' := 19) (v := -1) C dX5_dots_18 (by decide) rfl ?_
    obtain rfl := Option.some.inj h
    exact g_iret C dX5_dots_19
  · refine g_aload_n (pc' := 8) C dX5_dots_7 rfl rfl ?_
    refine gg_X5_0 (pc' := 11) (i := 0) C rfl hi_X5_dots_X5 lk_X5_dots_1 dX5_dots_8 rfl ?_
    refine g_iload_n (pc' := 12) C dX5_dots_11 rfl rfl ?_
    refine k_X0_hasNote (pc' := 15) C (pa 1) N B p1 [1] rfl (by decide) gX5_dots_X0_hasNote ⟨Nat.le_of_ble_eq_true rfl, Nat.le_of_ble_eq_true rfl⟩ (Nat.le_of_ble_eq_true rfl) rfl dX5_dots_12 rfl h (fun r2 h => ?_)
    refine g_if_ne (pc' := 18) (tgt := 20) C dX5_dots_15 (by decide) rfl h (fun c h => ?_) (fun c h => ?_)
    · refine g_iconst (pc' := 19) (v := -1) C dX5_dots_18 (by decide) rfl ?_
      obtain rfl := Option.some.inj h
      exact g_iret C dX5_dots_19
    · refine g_aload_n (pc' := 21) C dX5_dots_20 rfl rfl ?_
      refine gg_X5_0 (pc' := 24) (i := 0) C rfl hi_X5_dots_X5 lk_X5_dots_1 dX5_dots_21 rfl ?_
      refine g_iload_n (pc' := 25) C dX5_dots_24 rfl rfl ?_
      refine g_iload_n (pc' := 26) C dX5_dots_25 rfl rfl ?_
      refine k_X0_dotsOfPerson (pc' := 29) C (pa 1) N B p0 p1 [1] rfl (by decide) gX5_dots_X0_dotsOfPerson ⟨Nat.le_of_ble_eq_true rfl, Nat.le_of_ble_eq_true rfl⟩ (Nat.le_of_ble_eq_true rfl) rfl dX5_dots_26 rfl h (fun r3 h => ?_)
      obtain rfl := Option.some.inj h
      exact g_iret C dX5_dots_29
set_option maxRecDepth 100000 in
set_option maxHeartbeats 4000000 in
theorem c_X5_dots (l : Launch) (D : va_G) (cA : Nat → ClassId) (pa : Nat → Nat → Nat) (N : Nat) (Tn : tS) (B : tS) (p0 : Int32) (p1 : Int32) (r : Int32) (h : f_X5_dots N Tn B p0 p1 = some r) : MI l D cA yX5_dots wsX5_dots 2 42 [.ref (pa 0 0), .int p0, .int p1] [ntW pa Tn, bdW cA (pa 1) B] r [ntW pa Tn, bdW cA (pa 1) B] := MI_of (cc := cX5_dots) (maxL := 3) (rt := some .int) (by decide +kernel) rfl (List.forall_mem_cons.mpr ⟨rfl, List.forall_mem_cons.mpr ⟨rfl, List.forall_mem_cons.mpr ⟨rfl, List.forall_mem_nil _⟩⟩⟩) (Nat.le_of_ble_eq_true rfl) (fun X e1 e2 e3 C => by subst e1; subst e2; subst e3; exact B_X5_dots C pa N Tn B p0 p1 r h)
set_option maxRecDepth 100000 in
set_option maxHeartbeats 4000000 in
theorem nd_X5_dots : nd yX5_dots 2 := ⟨by decide +kernel, by decide +kernel, by decide +kernel⟩
set_option maxRecDepth 100000 in
set_option maxHeartbeats 4000000 in
theorem k_X5_dots {X : gX} {own : String} {cc : ByteArray} {nL : Nat} {ret : Option FieldType} {Ts : List Cond} {fr lm : Nat} {Q : State → Prop} {ms : List va_W} {L : List (Option Value)} {st : List Value} {pc pc' idx : Nat} {ρ : Type} {T : Int32 → Option ρ} {res : ρ} (C : cx X own cc nL ret Ts fr lm) (pa : Nat → Nat → Nat) (N : Nat) (Tn : tS) (B : tS) (p0 : Int32) (p1 : Int32) (is : List Nat) (hC : is.map (fun i => ms[i]?) = [some (ntW pa Tn), some (bdW (gcA X) (pa 1) B)]) (hn : is.Nodup) (hG : GoodIn Ts (wsV own idx RX5 yX5_dots wsX5_dots)) (hR : 2 + 1 ≤ fr ∧ 8 + (3 + 11) + 42 ≤ lm) (hst : (st.map fun v => v.category).sum ≤ 8) (hLn : L.length = nL) (d : decode cc pc = .ok (.invokevirtual idx, 3)) (hp : pc + 3 = pc') (h : bd (f_X5_dots N Tn B p0 p1) T = some res) (kk : ∀ (r : Int32), T r = some res → G X Q (ms) L (.int r :: st) pc') : G X Q ms L (.int p1 :: .int p0 :: .ref (pa 0 0) :: st) pc := by
  obtain ⟨r, h1, h⟩ := ob h
  exact G_callVI C (As := [.int p0, .int p1]) (c_X5_dots (gl X) (gD X) (gcA X) pa N Tn B p0 p1 r h1) hG rfl nd_X5_dots hR (q0 := 0) rfl rfl hC hn rfl rfl hst hLn d hp (G_ms (rpl_same (mc := [ntW pa Tn, bdW (gcA X) (pa 1) B]) hC) (kk r h))
theorem hi_X5_meet_X0 : ∀ w ∈ wsX00, w ∈ wsX5_meet := fun w h => List.mem_cons_of_mem _ (List.mem_append_left _ (List.mem_append_right _ h))
theorem hi_X5_meet_X2 : ∀ w ∈ wsX20, w ∈ wsX5_meet := fun w h => List.mem_cons_of_mem _ (List.mem_append_right _ h)
theorem hi_X5_meet_X5 : ∀ w ∈ wsX50, w ∈ wsX5_meet := fun w h => List.mem_cons_of_mem _ (List.mem_append_left _ (List.mem_append_left _ (List.mem_append_right _ h)))
theorem lk_X5_meet_1 : Cond.fieldLink RX5 10 "NoteThemes" "board" "LNoteThemes$Board;" ∈ wsX5_meet := List.mem_of_getElem? (i := 1) rfl
theorem lk_X5_meet_2 : Cond.fieldLink RX5 71 "NoteThemes$Board" "notes" "I" ∈ wsX5_meet := List.mem_of_getElem? (i := 2) rfl
theorem lk_X5_meet_3 : Cond.fieldLink RX5 44 "NoteThemes" "heapsNow" "LNoteThemes$Heaps;" ∈ wsX5_meet := List.mem_of_getElem? (i := 3) rfl
theorem lk_X5_meet_4 : Cond.fieldLink RX5 160 "NoteThemes$Heaps" "heapOf" "[I" ∈ wsX5_meet := List.mem_of_getElem? (i := 4) rfl
theorem lk_X5_meet_5 : Cond.fieldLink RX5 163 "NoteThemes$Board" "themeOf" "[I" ∈ wsX5_meet := List.mem_of_getElem? (i := 5) rfl
def f_X5_meet_41 (N : Nat) (Tn : tS) (B : tS) (E : tS) (p0 : Int32) (p1 : Int32) (k2 : Int32 → Option (Int32)) (x3 : Int32) : Option (Int32) := k2 (x3 + 1)
set_option maxRecDepth 100000 in
set_option maxHeartbeats 4000000 in
theorem B_X5_meet_41 {X : gX} (C : cx X RX5 cX5_meet 4 (some .boolean) wsX5_meet 0 0) (pa : Nat → Nat → Nat) (N : Nat) (Tn : tS) (B : tS) (E : tS) (p0 : Int32) (p1 : Int32) (r : Int32) (k2 : Int32 → Option (Int32)) (hk2 : ∀ (x3 : Int32), k2 x3 = some r → G X (QI X r [ntW pa Tn, bdW (gcA X) (pa 1) B, heW (gcA X) (pa 6) E]) [ntW pa Tn, bdW (gcA X) (pa 1) B, heW (gcA X) (pa 6) E] [some (.ref (pa 0 0)), some (.int p0), some (.int p1), some (.int x3)] [] 2) (x3 : Int32) (h : f_X5_meet_41 N Tn B E p0 p1 k2 x3 = some r) : G X (QI X r [ntW pa Tn, bdW (gcA X) (pa 1) B, heW (gcA X) (pa 6) E]) [ntW pa Tn, bdW (gcA X) (pa 1) B, heW (gcA X) (pa 6) E] [some (.ref (pa 0 0)), some (.int p0), some (.int p1), some (.int x3)] [] 41 := by
  unfold f_X5_meet_41 at h
  refine g_iinc (pc' := 44) (v := (x3 + 1)) C dX5_meet_41 rfl rfl rfl (L' := [some (.ref (pa 0 0)), some (.int p0), some (.int p1), some (.int (x3 + 1))]) rfl ?_
  refine g_goto (pc' := 2) C dX5_meet_44 (by decide) ?_
  exact G_loc (lle_s (lle_s (lle_s (lle_s lle_0)))) (hk2 (x3 + 1) h)
def f_X5_meet_2b (N : Nat) (Tn : tS) (B : tS) (E : tS) (p0 : Int32) (p1 : Int32)  (k2 : Int32 → Option (Int32)) (x3 : Int32) : Option (Int32) := (if (B 0 0) ≤ x3 then some (0 : Int32) else (if x3 < 0 ∨ 20 ≤ x3.toNatClampNeg then none else (if (E 2 x3.toNatClampNeg) = p0 then (if x3 < 0 ∨ 20 ≤ x3.toNatClampNeg then none else (if (B 3 x3.toNatClampNeg) = p1 then some (1 : Int32) else f_X5_meet_41 N Tn B E p0 p1 k2 x3)) else f_X5_meet_41 N Tn B E p0 p1 k2 x3)))
def f_X5_meet_2 (N : Nat) (Tn : tS) (B : tS) (E : tS) (p0 : Int32) (p1 : Int32)  : Nat → Int32 → Option (Int32)
  | 0 => fun _ => none
  | n + 1 => f_X5_meet_2b N Tn B E p0 p1  (f_X5_meet_2 N Tn B E p0 p1  n)
set_option maxRecDepth 100000 in
set_option maxHeartbeats 4000000 in
theorem B_X5_meet_2b {X : gX} (C : cx X RX5 cX5_meet 4 (some .boolean) wsX5_meet 0 0) (pa : Nat → Nat → Nat) (N : Nat) (Tn : tS) (B : tS) (E : tS) (p0 : Int32) (p1 : Int32) (r : Int32)  (k2 : Int32 → Option (Int32)) (hk2 : ∀ (x3 : Int32), k2 x3 = some r → G X (QI X r [ntW pa Tn, bdW (gcA X) (pa 1) B, heW (gcA X) (pa 6) E]) [ntW pa Tn, bdW (gcA X) (pa 1) B, heW (gcA X) (pa 6) E] [some (.ref (pa 0 0)), some (.int p0), some (.int p1), some (.int x3)] [] 2) (x3 : Int32) (h : f_X5_meet_2b N Tn B E p0 p1  k2 x3 = some r) : G X (QI X r [ntW pa Tn, bdW (gcA X) (pa 1) B, heW (gcA X) (pa 6) E]) [ntW pa Tn, bdW (gcA X) (pa 1) B, heW (gcA X) (pa 6) E] [some (.ref (pa 0 0)), some (.int p0), some (.int p1), some (.int x3)] [] 2 := by
  unfold f_X5_meet_2b at h
  refine g_iload_n (pc' := 3) C dX5_meet_2 rfl rfl ?_
  refine g_aload_n (pc' := 4) C dX5_meet_3 rfl rfl ?_
  refine gg_X5_0 (pc' := 7) (i := 0) C rfl hi_X5_meet_X5 lk_X5_meet_1 dX5_meet_4 rfl ?_
  refine gg_X0_0 (pc' := 10) (i := 1) C rfl hi_X5_meet_X0 lk_X5_meet_2 dX5_meet_7 rfl ?_
  refine g_icmp_ge (pc' := 13) (tgt := 47) C dX5_meet_10 (by decide) rfl h (fun c h => ?_) (fun c h => ?_)
  · refine g_iconst (pc' := 48) (v := 0) C dX5_meet_47 (by decide) rfl ?_
    obtain rfl := Option.some.inj h
    exact g_zret0 C rfl dX5_meet_48
  · refine g_aload_n (pc' := 14) C dX5_meet_13 rfl rfl ?_
    refine gg_X5_7 (pc' := 17) (i := 0) C rfl hi_X5_meet_X5 lk_X5_meet_3 dX5_meet_14 rfl ?_
    refine gg_X2_2 (pc' := 20) (i := 2) C rfl hi_X5_meet_X2 lk_X5_meet_4 dX5_meet_17 rfl ?_
    refine g_iload_n (pc' := 21) C dX5_meet_20 rfl rfl ?_
    refine g_iald (pc' := 22) (i := 2) (j := 1) C rfl rfl dX5_meet_21 rfl h (fun h => ?_)
    refine g_iload_n (pc' := 23) C dX5_meet_22 rfl rfl ?_
    refine g_icmp_ne (pc' := 26) (tgt := 41) C dX5_meet_23 (by decide) rfl h (fun c h => ?_) (fun c h => ?_)
    · refine g_aload_n (pc' := 27) C dX5_meet_26 rfl rfl ?_
      refine gg_X5_0 (pc' := 30) (i := 0) C rfl hi_X5_meet_X5 lk_X5_meet_1 dX5_meet_27 rfl ?_
      refine gg_X0_3 (pc' := 33) (i := 1) C rfl hi_X5_meet_X0 lk_X5_meet_5 dX5_meet_30 rfl ?_
      refine g_iload_n (pc' := 34) C dX5_meet_33 rfl rfl ?_
      refine g_iald (pc' := 35) (i := 1) (j := 3) C rfl rfl dX5_meet_34 rfl h (fun h => ?_)
      refine g_iload_n (pc' := 36) C dX5_meet_35 rfl rfl ?_
      refine g_icmp_ne (pc' := 39) (tgt := 41) C dX5_meet_36 (by decide) rfl h (fun c h => ?_) (fun c h => ?_)
      · refine g_iconst (pc' := 40) (v := 1) C dX5_meet_39 (by decide) rfl ?_
        obtain rfl := Option.some.inj h
        exact g_zret0 C rfl dX5_meet_40
      · exact G_loc (lle_s (lle_s (lle_s (lle_s lle_0)))) (B_X5_meet_41 C pa N Tn B E p0 p1 r k2 hk2 x3 h)
    · exact G_loc (lle_s (lle_s (lle_s (lle_s lle_0)))) (B_X5_meet_41 C pa N Tn B E p0 p1 r k2 hk2 x3 h)
set_option maxRecDepth 100000 in
set_option maxHeartbeats 4000000 in
theorem L_X5_meet_2 {X : gX} (C : cx X RX5 cX5_meet 4 (some .boolean) wsX5_meet 0 0) (pa : Nat → Nat → Nat) (N : Nat) (Tn : tS) (B : tS) (E : tS) (p0 : Int32) (p1 : Int32) (r : Int32)  : ∀ (n : Nat) (x3 : Int32), f_X5_meet_2 N Tn B E p0 p1  n x3 = some r → G X (QI X r [ntW pa Tn, bdW (gcA X) (pa 1) B, heW (gcA X) (pa 6) E]) [ntW pa Tn, bdW (gcA X) (pa 1) B, heW (gcA X) (pa 6) E] [some (.ref (pa 0 0)), some (.int p0), some (.int p1), some (.int x3)] [] 2 := by
  intro n
  induction n with
  | zero => intro x3 h; have h : (none : Option (Int32)) = some r := h; cases h
  | succ n ih => intro x3 h; exact B_X5_meet_2b C pa N Tn B E p0 p1 r  (f_X5_meet_2 N Tn B E p0 p1  n) ih x3 h
def f_X5_meet (N : Nat) (Tn : tS) (B : tS) (E : tS) (p0 : Int32) (p1 : Int32) : Option (Int32) := f_X5_meet_2 N Tn B E p0 p1 N (0 : Int32)
set_option maxRecDepth 100000 in
set_option maxHeartbeats 4000000 in
theorem B_X5_meet {X : gX} (C : cx X RX5 cX5_meet 4 (some .boolean) wsX5_meet 0 0) (pa : Nat → Nat → Nat) (N : Nat) (Tn : tS) (B : tS) (E : tS) (p0 : Int32) (p1 : Int32) (r : Int32) (h : f_X5_meet N Tn B E p0 p1 = some r) : G X (QI X r [ntW pa Tn, bdW (gcA X) (pa 1) B, heW (gcA X) (pa 6) E]) [ntW pa Tn, bdW (gcA X) (pa 1) B, heW (gcA X) (pa 6) E] [some (.ref (pa 0 0)), some (.int p0), some (.int p1), none] [] 0 := by
  unfold f_X5_meet at h
  refine g_iconst (pc' := 1) (v := 0) C dX5_meet_0 (by decide) rfl ?_
  refine g_istore_n (pc' := 2) C dX5_meet_1 (Nat.le_of_ble_eq_true rfl) rfl (L' := [some (.ref (pa 0 0)), some (.int p0), some (.int p1), some (.int (0 : Int32))]) rfl ?_
  exact G_loc (lle_s (lle_s (lle_s (lle_s lle_0)))) (L_X5_meet_2 C pa N Tn B E p0 p1 r N (0 : Int32) h)
set_option maxRecDepth 100000 in
set_option maxHeartbeats 4000000 in
theorem c_X5_meet (l : Launch) (D : va_G) (cA : Nat → ClassId) (pa : Nat → Nat → Nat) (N : Nat) (Tn : tS) (B : tS) (E : tS) (p0 : Int32) (p1 : Int32) (r : Int32) (h : f_X5_meet N Tn B E p0 p1 = some r) : MI l D cA yX5_meet wsX5_meet 0 0 [.ref (pa 0 0), .int p0, .int p1] [ntW pa Tn, bdW cA (pa 1) B, heW cA (pa 6) E] r [ntW pa Tn, bdW cA (pa 1) B, heW cA (pa 6) E] := MI_of (cc := cX5_meet) (maxL := 4) (rt := some .boolean) (by decide +kernel) rfl (List.forall_mem_cons.mpr ⟨rfl, List.forall_mem_cons.mpr ⟨rfl, List.forall_mem_cons.mpr ⟨rfl, List.forall_mem_nil _⟩⟩⟩) (Nat.le_of_ble_eq_true rfl) (fun X e1 e2 e3 C => by subst e1; subst e2; subst e3; exact B_X5_meet C pa N Tn B E p0 p1 r h)
set_option maxRecDepth 100000 in
set_option maxHeartbeats 4000000 in
theorem nd_X5_meet : nd yX5_meet 2 := ⟨by decide +kernel, by decide +kernel, by decide +kernel⟩
set_option maxRecDepth 100000 in
set_option maxHeartbeats 4000000 in
theorem k_X5_meet {X : gX} {own : String} {cc : ByteArray} {nL : Nat} {ret : Option FieldType} {Ts : List Cond} {fr lm : Nat} {Q : State → Prop} {ms : List va_W} {L : List (Option Value)} {st : List Value} {pc pc' idx : Nat} {ρ : Type} {T : Int32 → Option ρ} {res : ρ} (C : cx X own cc nL ret Ts fr lm) (pa : Nat → Nat → Nat) (N : Nat) (Tn : tS) (B : tS) (E : tS) (p0 : Int32) (p1 : Int32) (is : List Nat) (hC : is.map (fun i => ms[i]?) = [some (ntW pa Tn), some (bdW (gcA X) (pa 1) B), some (heW (gcA X) (pa 6) E)]) (hn : is.Nodup) (hG : GoodIn Ts (wsV own idx RX5 yX5_meet wsX5_meet)) (hR : 0 + 1 ≤ fr ∧ 8 + (4 + 11) + 0 ≤ lm) (hst : (st.map fun v => v.category).sum ≤ 8) (hLn : L.length = nL) (d : decode cc pc = .ok (.invokevirtual idx, 3)) (hp : pc + 3 = pc') (h : bd (f_X5_meet N Tn B E p0 p1) T = some res) (kk : ∀ (r : Int32), T r = some res → G X Q (ms) L (.int r :: st) pc') : G X Q ms L (.int p1 :: .int p0 :: .ref (pa 0 0) :: st) pc := by
  obtain ⟨r, h1, h⟩ := ob h
  exact G_callVI C (As := [.int p0, .int p1]) (c_X5_meet (gl X) (gD X) (gcA X) pa N Tn B E p0 p1 r h1) hG rfl nd_X5_meet hR (q0 := 0) rfl rfl hC hn rfl rfl hst hLn d hp (G_ms (rpl_same (mc := [ntW pa Tn, bdW (gcA X) (pa 1) B, heW (gcA X) (pa 6) E]) hC) (kk r h))
theorem hi_X5_themesInHeap_X0 : ∀ w ∈ wsX00, w ∈ wsX5_themesInHeap := fun w h => List.mem_cons_of_mem _ (List.mem_append_left _ (List.mem_append_right _ h))
theorem hi_X5_themesInHeap_X5 : ∀ w ∈ wsX50, w ∈ wsX5_themesInHeap := fun w h => List.mem_cons_of_mem _ (List.mem_append_left _ (List.mem_append_left _ (List.mem_append_right _ h)))
theorem lk_X5_themesInHeap_1 : Cond.fieldLink RX5 10 "NoteThemes" "board" "LNoteThemes$Board;" ∈ wsX5_themesInHeap := List.mem_of_getElem? (i := 1) rfl
theorem lk_X5_themesInHeap_2 : Cond.fieldLink RX5 154 "NoteThemes$Board" "themes" "I" ∈ wsX5_themesInHeap := List.mem_of_getElem? (i := 2) rfl
def f_X5_themesInHeap_27 (N : Nat) (Tn : tS) (B : tS) (E : tS) (p0 : Int32) (k4 : Int32 → Int32 → Option (Int32)) (x2 : Int32) (x3 : Int32) : Option (Int32) := k4 x2 (x3 + 1)
set_option maxRecDepth 100000 in
set_option maxHeartbeats 4000000 in
theorem B_X5_themesInHeap_27 {X : gX} (C : cx X RX5 cX5_themesInHeap 4 (some .int) wsX5_themesInHeap 1 23) (pa : Nat → Nat → Nat) (N : Nat) (Tn : tS) (B : tS) (E : tS) (p0 : Int32) (r : Int32) (k4 : Int32 → Int32 → Option (Int32)) (hk4 : ∀ (x2 : Int32) (x3 : Int32), k4 x2 x3 = some r → G X (QI X r [ntW pa Tn, bdW (gcA X) (pa 1) B, heW (gcA X) (pa 6) E]) [ntW pa Tn, bdW (gcA X) (pa 1) B, heW (gcA X) (pa 6) E] [some (.ref (pa 0 0)), some (.int p0), some (.int x2), some (.int x3)] [] 4) (x2 : Int32) (x3 : Int32) (h : f_X5_themesInHeap_27 N Tn B E p0 k4 x2 x3 = some r) : G X (QI X r [ntW pa Tn, bdW (gcA X) (pa 1) B, heW (gcA X) (pa 6) E]) [ntW pa Tn, bdW (gcA X) (pa 1) B, heW (gcA X) (pa 6) E] [some (.ref (pa 0 0)), some (.int p0), some (.int x2), some (.int x3)] [] 27 := by
  unfold f_X5_themesInHeap_27 at h
  refine g_iinc (pc' := 30) (v := (x3 + 1)) C dX5_themesInHeap_27 rfl rfl rfl (L' := [some (.ref (pa 0 0)), some (.int p0), some (.int x2), some (.int (x3 + 1))]) rfl ?_
  refine g_goto (pc' := 4) C dX5_themesInHeap_30 (by decide) ?_
  exact G_loc (lle_s (lle_s (lle_s (lle_s lle_0)))) (hk4 x2 (x3 + 1) h)
def f_X5_themesInHeap_4b (N : Nat) (Tn : tS) (B : tS) (E : tS) (p0 : Int32)  (k4 : Int32 → Int32 → Option (Int32)) (x2 : Int32) (x3 : Int32) : Option (Int32) := (if (B 5 0) ≤ x3 then some x2 else (bd (f_X5_meet N Tn B E p0 x3) (fun r1 => (if r1 = 0 then f_X5_themesInHeap_27 N Tn B E p0 k4 x2 x3 else f_X5_themesInHeap_27 N Tn B E p0 k4 (x2 + 1) x3))))
def f_X5_themesInHeap_4 (N : Nat) (Tn : tS) (B : tS) (E : tS) (p0 : Int32)  : Nat → Int32 → Int32 → Option (Int32)
  | 0 => fun _ _ => none
  | n + 1 => f_X5_themesInHeap_4b N Tn B E p0  (f_X5_themesInHeap_4 N Tn B E p0  n)
set_option maxRecDepth 100000 in
set_option maxHeartbeats 4000000 in
theorem B_X5_themesInHeap_4b {X : gX} (C : cx X RX5 cX5_themesInHeap 4 (some .int) wsX5_themesInHeap 1 23) (pa : Nat → Nat → Nat) (N : Nat) (Tn : tS) (B : tS) (E : tS) (p0 : Int32) (r : Int32)  (k4 : Int32 → Int32 → Option (Int32)) (hk4 : ∀ (x2 : Int32) (x3 : Int32), k4 x2 x3 = some r → G X (QI X r [ntW pa Tn, bdW (gcA X) (pa 1) B, heW (gcA X) (pa 6) E]) [ntW pa Tn, bdW (gcA X) (pa 1) B, heW (gcA X) (pa 6) E] [some (.ref (pa 0 0)), some (.int p0), some (.int x2), some (.int x3)] [] 4) (x2 : Int32) (x3 : Int32) (h : f_X5_themesInHeap_4b N Tn B E p0  k4 x2 x3 = some r) : G X (QI X r [ntW pa Tn, bdW (gcA X) (pa 1) B, heW (gcA X) (pa 6) E]) [ntW pa Tn, bdW (gcA X) (pa 1) B, heW (gcA X) (pa 6) E] [some (.ref (pa 0 0)), some (.int p0), some (.int x2), some (.int x3)] [] 4 := by
  unfold f_X5_themesInHeap_4b at h
  refine g_iload_n (pc' := 5) C dX5_themesInHeap_4 rfl rfl ?_
  refine g_aload_n (pc' := 6) C dX5_themesInHeap_5 rfl rfl ?_
  refine gg_X5_0 (pc' := 9) (i := 0) C rfl hi_X5_themesInHeap_X5 lk_X5_themesInHeap_1 dX5_themesInHeap_6 rfl ?_
  refine gg_X0_5 (pc' := 12) (i := 1) C rfl hi_X5_themesInHeap_X0 lk_X5_themesInHeap_2 dX5_themesInHeap_9 rfl ?_
  refine g_icmp_ge (pc' := 15) (tgt := 33) C dX5_themesInHeap_12 (by decide) rfl h (fun c h => ?_) (fun c h => ?_)
  · refine g_iload_n (pc' := 34) C dX5_themesInHeap_33 rfl rfl ?_
    obtain rfl := Option.some.inj h
    exact g_iret C dX5_themesInHeap_34
  · refine g_aload_n (pc' := 16) C dX5_themesInHeap_15 rfl rfl ?_
    refine g_iload_n (pc' := 17) C dX5_themesInHeap_16 rfl rfl ?_
    refine g_iload_n (pc' := 18) C dX5_themesInHeap_17 rfl rfl ?_
    refine k_X5_meet (pc' := 21) C pa N Tn B E p0 x3 [0, 1, 2] rfl (by decide) gX5_themesInHeap_X5_meet ⟨Nat.le_of_ble_eq_true rfl, Nat.le_of_ble_eq_true rfl⟩ (Nat.le_of_ble_eq_true rfl) rfl dX5_themesInHeap_18 rfl h (fun r1 h => ?_)
    refine g_if_eq (pc' := 24) (tgt := 27) C dX5_themesInHeap_21 (by decide) rfl h (fun c h => ?_) (fun c h => ?_)
    · exact G_loc (lle_s (lle_s (lle_s (lle_s lle_0)))) (B_X5_themesInHeap_27 C pa N Tn B E p0 r k4 hk4 x2 x3 h)
    · refine g_iinc (pc' := 27) (v := (x2 + 1)) C dX5_themesInHeap_24 rfl rfl rfl (L' := [some (.ref (pa 0 0)), some (.int p0), some (.int (x2 + 1)), some (.int x3)]) rfl ?_
      exact G_loc (lle_s (lle_s (lle_s (lle_s lle_0)))) (B_X5_themesInHeap_27 C pa N Tn B E p0 r k4 hk4 (x2 + 1) x3 h)
set_option maxRecDepth 100000 in
set_option maxHeartbeats 4000000 in
theorem L_X5_themesInHeap_4 {X : gX} (C : cx X RX5 cX5_themesInHeap 4 (some .int) wsX5_themesInHeap 1 23) (pa : Nat → Nat → Nat) (N : Nat) (Tn : tS) (B : tS) (E : tS) (p0 : Int32) (r : Int32)  : ∀ (n : Nat) (x2 : Int32) (x3 : Int32), f_X5_themesInHeap_4 N Tn B E p0  n x2 x3 = some r → G X (QI X r [ntW pa Tn, bdW (gcA X) (pa 1) B, heW (gcA X) (pa 6) E]) [ntW pa Tn, bdW (gcA X) (pa 1) B, heW (gcA X) (pa 6) E] [some (.ref (pa 0 0)), some (.int p0), some (.int x2), some (.int x3)] [] 4 := by
  intro n
  induction n with
  | zero => intro x2 x3 h; have h : (none : Option (Int32)) = some r := h; cases h
  | succ n ih => intro x2 x3 h; exact B_X5_themesInHeap_4b C pa N Tn B E p0 r  (f_X5_themesInHeap_4 N Tn B E p0  n) ih x2 x3 h
def f_X5_themesInHeap (N : Nat) (Tn : tS) (B : tS) (E : tS) (p0 : Int32) : Option (Int32) := f_X5_themesInHeap_4 N Tn B E p0 N (0 : Int32) (0 : Int32)
set_option maxRecDepth 100000 in
set_option maxHeartbeats 4000000 in
theorem B_X5_themesInHeap {X : gX} (C : cx X RX5 cX5_themesInHeap 4 (some .int) wsX5_themesInHeap 1 23) (pa : Nat → Nat → Nat) (N : Nat) (Tn : tS) (B : tS) (E : tS) (p0 : Int32) (r : Int32) (h : f_X5_themesInHeap N Tn B E p0 = some r) : G X (QI X r [ntW pa Tn, bdW (gcA X) (pa 1) B, heW (gcA X) (pa 6) E]) [ntW pa Tn, bdW (gcA X) (pa 1) B, heW (gcA X) (pa 6) E] [some (.ref (pa 0 0)), some (.int p0), none, none] [] 0 := by
  unfold f_X5_themesInHeap at h
  refine g_iconst (pc' := 1) (v := 0) C dX5_themesInHeap_0 (by decide) rfl ?_
  refine g_istore_n (pc' := 2) C dX5_themesInHeap_1 (Nat.le_of_ble_eq_true rfl) rfl (L' := [some (.ref (pa 0 0)), some (.int p0), some (.int (0 : Int32)), none]) rfl ?_
  refine g_iconst (pc' := 3) (v := 0) C dX5_themesInHeap_2 (by decide) rfl ?_
  refine g_istore_n (pc' := 4) C dX5_themesInHeap_3 (Nat.le_of_ble_eq_true rfl) rfl (L' := [some (.ref (pa 0 0)), some (.int p0), some (.int (0 : Int32)), some (.int (0 : Int32))]) rfl ?_
  exact G_loc (lle_s (lle_s (lle_s (lle_s lle_0)))) (L_X5_themesInHeap_4 C pa N Tn B E p0 r N (0 : Int32) (0 : Int32) h)
set_option maxRecDepth 100000 in
set_option maxHeartbeats 4000000 in
theorem c_X5_themesInHeap (l : Launch) (D : va_G) (cA : Nat → ClassId) (pa : Nat → Nat → Nat) (N : Nat) (Tn : tS) (B : tS) (E : tS) (p0 : Int32) (r : Int32) (h : f_X5_themesInHeap N Tn B E p0 = some r) : MI l D cA yX5_themesInHeap wsX5_themesInHeap 1 23 [.ref (pa 0 0), .int p0] [ntW pa Tn, bdW cA (pa 1) B, heW cA (pa 6) E] r [ntW pa Tn, bdW cA (pa 1) B, heW cA (pa 6) E] := MI_of (cc := cX5_themesInHeap) (maxL := 4) (rt := some .int) (by decide +kernel) rfl (List.forall_mem_cons.mpr ⟨rfl, List.forall_mem_cons.mpr ⟨rfl, List.forall_mem_nil _⟩⟩) (Nat.le_of_ble_eq_true rfl) (fun X e1 e2 e3 C => by subst e1; subst e2; subst e3; exact B_X5_themesInHeap C pa N Tn B E p0 r h)
set_option maxRecDepth 100000 in
set_option maxHeartbeats 4000000 in
theorem nd_X5_themesInHeap : nd yX5_themesInHeap 1 := ⟨by decide +kernel, by decide +kernel, by decide +kernel⟩
set_option maxRecDepth 100000 in
set_option maxHeartbeats 4000000 in
theorem k_X5_themesInHeap {X : gX} {own : String} {cc : ByteArray} {nL : Nat} {ret : Option FieldType} {Ts : List Cond} {fr lm : Nat} {Q : State → Prop} {ms : List va_W} {L : List (Option Value)} {st : List Value} {pc pc' idx : Nat} {ρ : Type} {T : Int32 → Option ρ} {res : ρ} (C : cx X own cc nL ret Ts fr lm) (pa : Nat → Nat → Nat) (N : Nat) (Tn : tS) (B : tS) (E : tS) (p0 : Int32) (is : List Nat) (hC : is.map (fun i => ms[i]?) = [some (ntW pa Tn), some (bdW (gcA X) (pa 1) B), some (heW (gcA X) (pa 6) E)]) (hn : is.Nodup) (hG : GoodIn Ts (wsV own idx RX5 yX5_themesInHeap wsX5_themesInHeap)) (hR : 1 + 1 ≤ fr ∧ 8 + (4 + 11) + 23 ≤ lm) (hst : (st.map fun v => v.category).sum ≤ 8) (hLn : L.length = nL) (d : decode cc pc = .ok (.invokevirtual idx, 3)) (hp : pc + 3 = pc') (h : bd (f_X5_themesInHeap N Tn B E p0) T = some res) (kk : ∀ (r : Int32), T r = some res → G X Q (ms) L (.int r :: st) pc') : G X Q ms L (.int p0 :: .ref (pa 0 0) :: st) pc := by
  obtain ⟨r, h1, h⟩ := ob h
  exact G_callVI C (As := [.int p0]) (c_X5_themesInHeap (gl X) (gD X) (gcA X) pa N Tn B E p0 r h1) hG rfl nd_X5_themesInHeap hR (q0 := 0) rfl rfl hC hn rfl rfl hst hLn d hp (G_ms (rpl_same (mc := [ntW pa Tn, bdW (gcA X) (pa 1) B, heW (gcA X) (pa 6) E]) hC) (kk r h))
theorem hi_X5_heap_X5 : ∀ w ∈ wsX50, w ∈ wsX5_heap := fun w h => List.mem_cons_of_mem _ (List.mem_append_left _ (List.mem_append_left _ (List.mem_append_right _ h)))
theorem lk_X5_heap_1 : Cond.fieldLink RX5 44 "NoteThemes" "heapsNow" "LNoteThemes$Heaps;" ∈ wsX5_heap := List.mem_of_getElem? (i := 1) rfl
theorem lk_X5_heap_2 : Cond.fieldLink RX5 10 "NoteThemes" "board" "LNoteThemes$Board;" ∈ wsX5_heap := List.mem_of_getElem? (i := 2) rfl
def f_X5_heap (N : Nat) (Tn : tS) (B : tS) (E : tS) (p0 : Int32) (p1 : Int32) : Option (Int32 × tS) := (bd2 (f_X5_findHeaps N Tn B E) (fun r1 E1 => (bd (f_X2_has N E1 p0) (fun r2 => (if r2 = 0 then some ((-1 : Int32), E1) else (if p1 = (0 : Int32) then (bd (f_X2_notesIn N E1 p0) (fun r3 => some (r3, E1))) else (if p1 = (1 : Int32) then (bd (f_X2_lowestNoteIn N E1 p0) (fun r4 => some (r4, E1))) else (if p1 = (2 : Int32) then (bd (f_X2_dotsIn N E1 B p0) (fun r5 => some (r5, E1))) else (if p1 = (3 : Int32) then (bd (f_X5_themesInHeap N Tn B E1 p0) (fun r6 => some (r6, E1))) else (if p1 = (4 : Int32) then (bd (f_X2_freeNotesIn N E1 B p0) (fun r7 => some (r7, E1))) else (if p1 = (5 : Int32) then (bd (f_X2_middleOf N E1 B p0) (fun r8 => some (r8, E1))) else (if p1 = (6 : Int32) then (bd (f_X2_widthOf N E1 B p0) (fun r9 => some (r9, E1))) else some ((-2 : Int32), E1)))))))))))))
set_option maxRecDepth 100000 in
set_option maxHeartbeats 4000000 in
theorem B_X5_heap {X : gX} (C : cx X RX5 cX5_heap 3 (some .int) wsX5_heap 4 93) (pa : Nat → Nat → Nat) (N : Nat) (Tn : tS) (B : tS) (E : tS) (p0 : Int32) (p1 : Int32) (r : Int32) (Ez : tS) (h : f_X5_heap N Tn B E p0 p1 = some (r, Ez)) : G X (QI X r [ntW pa Tn, bdW (gcA X) (pa 1) B, heW (gcA X) (pa 6) Ez]) [ntW pa Tn, bdW (gcA X) (pa 1) B, heW (gcA X) (pa 6) E] [some (.ref (pa 0 0)), some (.int p0), some (.int p1)] [] 0 := by
  unfold f_X5_heap at h
  refine g_aload_n (pc' := 1) C dX5_heap_0 rfl rfl ?_
  refine k_X5_findHeaps (pc' := 4) C pa N Tn B E [0, 1, 2] rfl (by decide) gX5_heap_X5_findHeaps ⟨Nat.le_of_ble_eq_true rfl, Nat.le_of_ble_eq_true rfl⟩ (Nat.le_of_ble_eq_true rfl) rfl dX5_heap_1 rfl h (fun r1 E1 h => ?_)
  show G X _ [ntW pa Tn, bdW (gcA X) (pa 1) B, heW (gcA X) (pa 6) E1] _ _ _
  refine g_pop (pc' := 5) C dX5_heap_4 rfl rfl ?_
  refine g_aload_n (pc' := 6) C dX5_heap_5 rfl rfl ?_
  refine gg_X5_7 (pc' := 9) (i := 0) C rfl hi_X5_heap_X5 lk_X5_heap_1 dX5_heap_6 rfl ?_
  refine g_iload_n (pc' := 10) C dX5_heap_9 rfl rfl ?_
  refine k_X2_has (pc' := 13) C (pa 6) N E1 p0 [2] rfl (by decide) gX5_heap_X2_has ⟨Nat.le_of_ble_eq_true rfl, Nat.le_of_ble_eq_true rfl⟩ (Nat.le_of_ble_eq_true rfl) rfl dX5_heap_10 rfl h (fun r2 h => ?_)
  refine g_if_ne (pc' := 16) (tgt := 18) C dX5_heap_13 (by decide) rfl h (fun c h => ?_) (fun c h => ?_)
  · refine g_iconst (pc' := 17) (v := -1) C dX5_heap_16 (by decide) rfl ?_
    obtain ⟨rfl, rfl⟩ := pj2 (Option.some.inj h)
    exact g_iret C dX5_heap_17
  · refine g_iload_n (pc' := 19) C dX5_heap_18 rfl rfl ?_
    refine oif h (fun c h => ?_) (fun c0 h => ?_)
    · refine g_tabIn (pc' := 60) (off := 41) C dX5_heap_19 (by rw [c] <;> decide) (by rw [c] <;> decide) (by rw [c] <;> decide) (by decide) ?_
      refine g_aload_n (pc' := 61) C dX5_heap_60 rfl rfl ?_
      refine gg_X5_7 (pc' := 64) (i := 0) C rfl hi_X5_heap_X5 lk_X5_heap_1 dX5_heap_61 rfl ?_
      refine g_iload_n (pc' := 65) C dX5_heap_64 rfl rfl ?_
      refine k_X2_notesIn (pc' := 68) C (pa 6) N E1 p0 [2] rfl (by decide) gX5_heap_X2_notesIn ⟨Nat.le_of_ble_eq_true rfl, Nat.le_of_ble_eq_true rfl⟩ (Nat.le_of_ble_eq_true rfl) rfl dX5_heap_65 rfl h (fun r3 h => ?_)
      obtain ⟨rfl, rfl⟩ := pj2 (Option.some.inj h)
      exact g_iret C dX5_heap_68
    refine oif h (fun c h => ?_) (fun c1 h => ?_)
    · refine g_tabIn (pc' := 69) (off := 50) C dX5_heap_19 (by rw [c] <;> decide) (by rw [c] <;> decide) (by rw [c] <;> decide) (by decide) ?_
      refine g_aload_n (pc' := 70) C dX5_heap_69 rfl rfl ?_
      refine gg_X5_7 (pc' := 73) (i := 0) C rfl hi_X5_heap_X5 lk_X5_heap_1 dX5_heap_70 rfl ?_
      refine g_iload_n (pc' := 74) C dX5_heap_73 rfl rfl ?_
      refine k_X2_lowestNoteIn (pc' := 77) C (pa 6) N E1 p0 [2] rfl (by decide) gX5_heap_X2_lowestNoteIn ⟨Nat.le_of_ble_eq_true rfl, Nat.le_of_ble_eq_true rfl⟩ (Nat.le_of_ble_eq_true rfl) rfl dX5_heap_74 rfl h (fun r4 h => ?_)
      obtain ⟨rfl, rfl⟩ := pj2 (Option.some.inj h)
      exact g_iret C dX5_heap_77
    refine oif h (fun c h => ?_) (fun c2 h => ?_)
    · refine g_tabIn (pc' := 78) (off := 59) C dX5_heap_19 (by rw [c] <;> decide) (by rw [c] <;> decide) (by rw [c] <;> decide) (by decide) ?_
      refine g_aload_n (pc' := 79) C dX5_heap_78 rfl rfl ?_
      refine gg_X5_7 (pc' := 82) (i := 0) C rfl hi_X5_heap_X5 lk_X5_heap_1 dX5_heap_79 rfl ?_
      refine g_iload_n (pc' := 83) C dX5_heap_82 rfl rfl ?_
      refine g_aload_n (pc' := 84) C dX5_heap_83 rfl rfl ?_
      refine gg_X5_0 (pc' := 87) (i := 0) C rfl hi_X5_heap_X5 lk_X5_heap_2 dX5_heap_84 rfl ?_
      refine k_X2_dotsIn (pc' := 90) C (pa 6) (pa 1) N E1 B p0 [2, 1] rfl (by decide) gX5_heap_X2_dotsIn ⟨Nat.le_of_ble_eq_true rfl, Nat.le_of_ble_eq_true rfl⟩ (Nat.le_of_ble_eq_true rfl) rfl dX5_heap_87 rfl h (fun r5 h => ?_)
      obtain ⟨rfl, rfl⟩ := pj2 (Option.some.inj h)
      exact g_iret C dX5_heap_90
    refine oif h (fun c h => ?_) (fun c3 h => ?_)
    · refine g_tabIn (pc' := 91) (off := 72) C dX5_heap_19 (by rw [c] <;> decide) (by rw [c] <;> decide) (by rw [c] <;> decide) (by decide) ?_
      refine g_aload_n (pc' := 92) C dX5_heap_91 rfl rfl ?_
      refine g_iload_n (pc' := 93) C dX5_heap_92 rfl rfl ?_
      refine k_X5_themesInHeap (pc' := 96) C pa N Tn B E1 p0 [0, 1, 2] rfl (by decide) gX5_heap_X5_themesInHeap ⟨Nat.le_of_ble_eq_true rfl, Nat.le_of_ble_eq_true rfl⟩ (Nat.le_of_ble_eq_true rfl) rfl dX5_heap_93 rfl h (fun r6 h => ?_)
      obtain ⟨rfl, rfl⟩ := pj2 (Option.some.inj h)
      exact g_iret C dX5_heap_96
    refine oif h (fun c h => ?_) (fun c4 h => ?_)
    · refine g_tabIn (pc' := 97) (off := 78) C dX5_heap_19 (by rw [c] <;> decide) (by rw [c] <;> decide) (by rw [c] <;> decide) (by decide) ?_
      refine g_aload_n (pc' := 98) C dX5_heap_97 rfl rfl ?_
      refine gg_X5_7 (pc' := 101) (i := 0) C rfl hi_X5_heap_X5 lk_X5_heap_1 dX5_heap_98 rfl ?_
      refine g_iload_n (pc' := 102) C dX5_heap_101 rfl rfl ?_
      refine g_aload_n (pc' := 103) C dX5_heap_102 rfl rfl ?_
      refine gg_X5_0 (pc' := 106) (i := 0) C rfl hi_X5_heap_X5 lk_X5_heap_2 dX5_heap_103 rfl ?_
      refine k_X2_freeNotesIn (pc' := 109) C (pa 6) (pa 1) N E1 B p0 [2, 1] rfl (by decide) gX5_heap_X2_freeNotesIn ⟨Nat.le_of_ble_eq_true rfl, Nat.le_of_ble_eq_true rfl⟩ (Nat.le_of_ble_eq_true rfl) rfl dX5_heap_106 rfl h (fun r7 h => ?_)
      obtain ⟨rfl, rfl⟩ := pj2 (Option.some.inj h)
      exact g_iret C dX5_heap_109
    refine oif h (fun c h => ?_) (fun c5 h => ?_)
    · refine g_tabIn (pc' := 110) (off := 91) C dX5_heap_19 (by rw [c] <;> decide) (by rw [c] <;> decide) (by rw [c] <;> decide) (by decide) ?_
      refine g_aload_n (pc' := 111) C dX5_heap_110 rfl rfl ?_
      refine gg_X5_7 (pc' := 114) (i := 0) C rfl hi_X5_heap_X5 lk_X5_heap_1 dX5_heap_111 rfl ?_
      refine g_iload_n (pc' := 115) C dX5_heap_114 rfl rfl ?_
      refine g_aload_n (pc' := 116) C dX5_heap_115 rfl rfl ?_
      refine gg_X5_0 (pc' := 119) (i := 0) C rfl hi_X5_heap_X5 lk_X5_heap_2 dX5_heap_116 rfl ?_
      refine k_X2_middleOf (pc' := 122) C (pa 6) (pa 1) N E1 B p0 [2, 1] rfl (by decide) gX5_heap_X2_middleOf ⟨Nat.le_of_ble_eq_true rfl, Nat.le_of_ble_eq_true rfl⟩ (Nat.le_of_ble_eq_true rfl) rfl dX5_heap_119 rfl h (fun r8 h => ?_)
      obtain ⟨rfl, rfl⟩ := pj2 (Option.some.inj h)
      exact g_iret C dX5_heap_122
    refine oif h (fun c h => ?_) (fun c6 h => ?_)
    · refine g_tabIn (pc' := 123) (off := 104) C dX5_heap_19 (by rw [c] <;> decide) (by rw [c] <;> decide) (by rw [c] <;> decide) (by decide) ?_
      refine g_aload_n (pc' := 124) C dX5_heap_123 rfl rfl ?_
      refine gg_X5_7 (pc' := 127) (i := 0) C rfl hi_X5_heap_X5 lk_X5_heap_1 dX5_heap_124 rfl ?_
      refine g_iload_n (pc' := 128) C dX5_heap_127 rfl rfl ?_
      refine g_aload_n (pc' := 129) C dX5_heap_128 rfl rfl ?_
      refine gg_X5_0 (pc' := 132) (i := 0) C rfl hi_X5_heap_X5 lk_X5_heap_2 dX5_heap_129 rfl ?_
      refine k_X2_widthOf (pc' := 135) C (pa 6) (pa 1) N E1 B p0 [2, 1] rfl (by decide) gX5_heap_X2_widthOf ⟨Nat.le_of_ble_eq_true rfl, Nat.le_of_ble_eq_true rfl⟩ (Nat.le_of_ble_eq_true rfl) rfl dX5_heap_132 rfl h (fun r9 h => ?_)
      obtain ⟨rfl, rfl⟩ := pj2 (Option.some.inj h)
      exact g_iret C dX5_heap_135
    have e0 := lv_neT (a := 0) c0 (by decide)
    have e1 := lv_neT (a := 1) c1 (by decide)
    have e2 := lv_neT (a := 2) c2 (by decide)
    have e3 := lv_neT (a := 3) c3 (by decide)
    have e4 := lv_neT (a := 4) c4 (by decide)
    have e5 := lv_neT (a := 5) c5 (by decide)
    have e6 := lv_neT (a := 6) c6 (by decide)
    refine g_tabOut (pc' := 136) C dX5_heap_19 (by omega) (by decide) ?_
    refine g_bipush (pc' := 138) (v := -2) C dX5_heap_136 (by decide) rfl ?_
    obtain ⟨rfl, rfl⟩ := pj2 (Option.some.inj h)
    exact g_iret C dX5_heap_138
set_option maxRecDepth 100000 in
set_option maxHeartbeats 4000000 in
theorem c_X5_heap (l : Launch) (D : va_G) (cA : Nat → ClassId) (pa : Nat → Nat → Nat) (N : Nat) (Tn : tS) (B : tS) (E : tS) (p0 : Int32) (p1 : Int32) (r : Int32) (Ez : tS) (h : f_X5_heap N Tn B E p0 p1 = some (r, Ez)) : MI l D cA yX5_heap wsX5_heap 4 93 [.ref (pa 0 0), .int p0, .int p1] [ntW pa Tn, bdW cA (pa 1) B, heW cA (pa 6) E] r [ntW pa Tn, bdW cA (pa 1) B, heW cA (pa 6) Ez] := MI_of (cc := cX5_heap) (maxL := 3) (rt := some .int) (by decide +kernel) rfl (List.forall_mem_cons.mpr ⟨rfl, List.forall_mem_cons.mpr ⟨rfl, List.forall_mem_cons.mpr ⟨rfl, List.forall_mem_nil _⟩⟩⟩) (Nat.le_of_ble_eq_true rfl) (fun X e1 e2 e3 C => by subst e1; subst e2; subst e3; exact B_X5_heap C pa N Tn B E p0 p1 r Ez h)
set_option maxRecDepth 100000 in
set_option maxHeartbeats 4000000 in
theorem nd_X5_heap : nd yX5_heap 2 := ⟨by decide +kernel, by decide +kernel, by decide +kernel⟩
set_option maxRecDepth 100000 in
set_option maxHeartbeats 4000000 in
theorem k_X5_heap {X : gX} {own : String} {cc : ByteArray} {nL : Nat} {ret : Option FieldType} {Ts : List Cond} {fr lm : Nat} {Q : State → Prop} {ms : List va_W} {L : List (Option Value)} {st : List Value} {pc pc' idx : Nat} {ρ : Type} {T : Int32 → tS → Option ρ} {res : ρ} (C : cx X own cc nL ret Ts fr lm) (pa : Nat → Nat → Nat) (N : Nat) (Tn : tS) (B : tS) (E : tS) (p0 : Int32) (p1 : Int32) (is : List Nat) (hC : is.map (fun i => ms[i]?) = [some (ntW pa Tn), some (bdW (gcA X) (pa 1) B), some (heW (gcA X) (pa 6) E)]) (hn : is.Nodup) (hG : GoodIn Ts (wsV own idx RX5 yX5_heap wsX5_heap)) (hR : 4 + 1 ≤ fr ∧ 8 + (3 + 11) + 93 ≤ lm) (hst : (st.map fun v => v.category).sum ≤ 8) (hLn : L.length = nL) (d : decode cc pc = .ok (.invokevirtual idx, 3)) (hp : pc + 3 = pc') (h : bd2 (f_X5_heap N Tn B E p0 p1) T = some res) (kk : ∀ (r : Int32) (Ez : tS), T r Ez = some res → G X Q (rpl ms is [ntW pa Tn, bdW (gcA X) (pa 1) B, heW (gcA X) (pa 6) Ez]) L (.int r :: st) pc') : G X Q ms L (.int p1 :: .int p0 :: .ref (pa 0 0) :: st) pc := by
  obtain ⟨r, Ez, h1, h⟩ := ob2 h
  exact G_callVI C (As := [.int p0, .int p1]) (c_X5_heap (gl X) (gD X) (gcA X) pa N Tn B E p0 p1 r Ez h1) hG rfl nd_X5_heap hR (q0 := 0) rfl rfl hC hn rfl rfl hst hLn d hp (kk r Ez h)
theorem hi_X5_rankOf_X0 : ∀ w ∈ wsX00, w ∈ wsX5_rankOf := fun w h => List.mem_cons_of_mem _ (List.mem_append_right _ h)
theorem hi_X5_rankOf_X5 : ∀ w ∈ wsX50, w ∈ wsX5_rankOf := fun w h => List.mem_cons_of_mem _ (List.mem_append_left _ (List.mem_append_right _ h))
theorem lk_X5_rankOf_1 : Cond.fieldLink RX5 10 "NoteThemes" "board" "LNoteThemes$Board;" ∈ wsX5_rankOf := List.mem_of_getElem? (i := 1) rfl
theorem lk_X5_rankOf_2 : Cond.fieldLink RX5 154 "NoteThemes$Board" "themes" "I" ∈ wsX5_rankOf := List.mem_of_getElem? (i := 2) rfl
def f_X5_rankOf_58 (N : Nat) (Tn : tS) (B : tS) (p0 : Int32) (k14 : Int32 → Int32 → Int32 → Option (Int32)) (x2 : Int32) (x3 : Int32) (x4 : Int32) : Option (Int32) := k14 x2 x3 (x4 + 1)
set_option maxRecDepth 100000 in
set_option maxHeartbeats 4000000 in
theorem B_X5_rankOf_58 {X : gX} (C : cx X RX5 cX5_rankOf 6 (some .int) wsX5_rankOf 3 68) (pa : Nat → Nat → Nat) (N : Nat) (Tn : tS) (B : tS) (p0 : Int32) (r : Int32) (k14 : Int32 → Int32 → Int32 → Option (Int32)) (hk14 : ∀ (x2 : Int32) (x3 : Int32) (x4 : Int32), k14 x2 x3 x4 = some r → G X (QI X r [ntW pa Tn, bdW (gcA X) (pa 1) B]) [ntW pa Tn, bdW (gcA X) (pa 1) B] [some (.ref (pa 0 0)), some (.int p0), some (.int x2), some (.int x3), some (.int x4), none] [] 14) (x2 : Int32) (x3 : Int32) (x4 : Int32) (h : f_X5_rankOf_58 N Tn B p0 k14 x2 x3 x4 = some r) : G X (QI X r [ntW pa Tn, bdW (gcA X) (pa 1) B]) [ntW pa Tn, bdW (gcA X) (pa 1) B] [some (.ref (pa 0 0)), some (.int p0), some (.int x2), some (.int x3), some (.int x4), none] [] 58 := by
  unfold f_X5_rankOf_58 at h
  refine g_iinc (pc' := 61) (v := (x4 + 1)) C dX5_rankOf_58 rfl rfl rfl (L' := [some (.ref (pa 0 0)), some (.int p0), some (.int x2), some (.int x3), some (.int (x4 + 1)), none]) rfl ?_
  refine g_goto (pc' := 14) C dX5_rankOf_61 (by decide) ?_
  exact G_loc (lle_s (lle_s (lle_s (lle_s (lle_s (lle_n lle_0)))))) (hk14 x2 x3 (x4 + 1) h)
def f_X5_rankOf_55 (N : Nat) (Tn : tS) (B : tS) (p0 : Int32) (k14 : Int32 → Int32 → Int32 → Option (Int32)) (x2 : Int32) (x3 : Int32) (x4 : Int32) : Option (Int32) := f_X5_rankOf_58 N Tn B p0 k14 x2 (x3 + 1) x4
set_option maxRecDepth 100000 in
set_option maxHeartbeats 4000000 in
theorem B_X5_rankOf_55 {X : gX} (C : cx X RX5 cX5_rankOf 6 (some .int) wsX5_rankOf 3 68) (pa : Nat → Nat → Nat) (N : Nat) (Tn : tS) (B : tS) (p0 : Int32) (r : Int32) (k14 : Int32 → Int32 → Int32 → Option (Int32)) (hk14 : ∀ (x2 : Int32) (x3 : Int32) (x4 : Int32), k14 x2 x3 x4 = some r → G X (QI X r [ntW pa Tn, bdW (gcA X) (pa 1) B]) [ntW pa Tn, bdW (gcA X) (pa 1) B] [some (.ref (pa 0 0)), some (.int p0), some (.int x2), some (.int x3), some (.int x4), none] [] 14) (x2 : Int32) (x3 : Int32) (x4 : Int32) (h : f_X5_rankOf_55 N Tn B p0 k14 x2 x3 x4 = some r) : G X (QI X r [ntW pa Tn, bdW (gcA X) (pa 1) B]) [ntW pa Tn, bdW (gcA X) (pa 1) B] [some (.ref (pa 0 0)), some (.int p0), some (.int x2), some (.int x3), some (.int x4), none] [] 55 := by
  unfold f_X5_rankOf_55 at h
  refine g_iinc (pc' := 58) (v := (x3 + 1)) C dX5_rankOf_55 rfl rfl rfl (L' := [some (.ref (pa 0 0)), some (.int p0), some (.int x2), some (.int (x3 + 1)), some (.int x4), none]) rfl ?_
  exact G_loc (lle_s (lle_s (lle_s (lle_s (lle_s (lle_n lle_0)))))) (B_X5_rankOf_58 C pa N Tn B p0 r k14 hk14 x2 (x3 + 1) x4 h)
def f_X5_rankOf_14b (N : Nat) (Tn : tS) (B : tS) (p0 : Int32)  (k14 : Int32 → Int32 → Int32 → Option (Int32)) (x2 : Int32) (x3 : Int32) (x4 : Int32) : Option (Int32) := (if (B 5 0) ≤ x4 then some x3 else (bd (f_X0_dotsOfTheme N B x4) (fun r1 => (if x2 < r1 then f_X5_rankOf_55 N Tn B p0 k14 x2 x3 x4 else (if r1 = x2 then (if p0 ≤ x4 then f_X5_rankOf_58 N Tn B p0 k14 x2 x3 x4 else f_X5_rankOf_55 N Tn B p0 k14 x2 x3 x4) else f_X5_rankOf_58 N Tn B p0 k14 x2 x3 x4)))))
def f_X5_rankOf_14 (N : Nat) (Tn : tS) (B : tS) (p0 : Int32)  : Nat → Int32 → Int32 → Int32 → Option (Int32)
  | 0 => fun _ _ _ => none
  | n + 1 => f_X5_rankOf_14b N Tn B p0  (f_X5_rankOf_14 N Tn B p0  n)
set_option maxRecDepth 100000 in
set_option maxHeartbeats 4000000 in
theorem B_X5_rankOf_14b {X : gX} (C : cx X RX5 cX5_rankOf 6 (some .int) wsX5_rankOf 3 68) (pa : Nat → Nat → Nat) (N : Nat) (Tn : tS) (B : tS) (p0 : Int32) (r : Int32)  (k14 : Int32 → Int32 → Int32 → Option (Int32)) (hk14 : ∀ (x2 : Int32) (x3 : Int32) (x4 : Int32), k14 x2 x3 x4 = some r → G X (QI X r [ntW pa Tn, bdW (gcA X) (pa 1) B]) [ntW pa Tn, bdW (gcA X) (pa 1) B] [some (.ref (pa 0 0)), some (.int p0), some (.int x2), some (.int x3), some (.int x4), none] [] 14) (x2 : Int32) (x3 : Int32) (x4 : Int32) (h : f_X5_rankOf_14b N Tn B p0  k14 x2 x3 x4 = some r) : G X (QI X r [ntW pa Tn, bdW (gcA X) (pa 1) B]) [ntW pa Tn, bdW (gcA X) (pa 1) B] [some (.ref (pa 0 0)), some (.int p0), some (.int x2), some (.int x3), some (.int x4), none] [] 14 := by
  unfold f_X5_rankOf_14b at h
  refine g_iload (pc' := 16) C dX5_rankOf_14 rfl rfl ?_
  refine g_aload_n (pc' := 17) C dX5_rankOf_16 rfl rfl ?_
  refine gg_X5_0 (pc' := 20) (i := 0) C rfl hi_X5_rankOf_X5 lk_X5_rankOf_1 dX5_rankOf_17 rfl ?_
  refine gg_X0_5 (pc' := 23) (i := 1) C rfl hi_X5_rankOf_X0 lk_X5_rankOf_2 dX5_rankOf_20 rfl ?_
  refine g_icmp_ge (pc' := 26) (tgt := 64) C dX5_rankOf_23 (by decide) rfl h (fun c h => ?_) (fun c h => ?_)
  · refine g_iload_n (pc' := 65) C dX5_rankOf_64 rfl rfl ?_
    obtain rfl := Option.some.inj h
    exact g_iret C dX5_rankOf_65
  · refine g_aload_n (pc' := 27) C dX5_rankOf_26 rfl rfl ?_
    refine gg_X5_0 (pc' := 30) (i := 0) C rfl hi_X5_rankOf_X5 lk_X5_rankOf_1 dX5_rankOf_27 rfl ?_
    refine g_iload (pc' := 32) C dX5_rankOf_30 rfl rfl ?_
    refine k_X0_dotsOfTheme (pc' := 35) C (pa 1) N B x4 [1] rfl (by decide) gX5_rankOf_X0_dotsOfTheme ⟨Nat.le_of_ble_eq_true rfl, Nat.le_of_ble_eq_true rfl⟩ (Nat.le_of_ble_eq_true rfl) rfl dX5_rankOf_32 rfl h (fun r1 h => ?_)
    refine g_istore (pc' := 37) C dX5_rankOf_35 (Nat.le_of_ble_eq_true rfl) rfl (L' := [some (.ref (pa 0 0)), some (.int p0), some (.int x2), some (.int x3), some (.int x4), some (.int r1)]) rfl ?_
    refine g_iload (pc' := 39) C dX5_rankOf_37 rfl rfl ?_
    refine g_iload_n (pc' := 40) C dX5_rankOf_39 rfl rfl ?_
    refine g_icmp_gt (pc' := 43) (tgt := 55) C dX5_rankOf_40 (by decide) rfl h (fun c h => ?_) (fun c h => ?_)
    · exact G_loc (lle_s (lle_s (lle_s (lle_s (lle_s (lle_n lle_0)))))) (B_X5_rankOf_55 C pa N Tn B p0 r k14 hk14 x2 x3 x4 h)
    · refine g_iload (pc' := 45) C dX5_rankOf_43 rfl rfl ?_
      refine g_iload_n (pc' := 46) C dX5_rankOf_45 rfl rfl ?_
      refine g_icmp_ne (pc' := 49) (tgt := 58) C dX5_rankOf_46 (by decide) rfl h (fun c h => ?_) (fun c h => ?_)
      · refine g_iload (pc' := 51) C dX5_rankOf_49 rfl rfl ?_
        refine g_iload_n (pc' := 52) C dX5_rankOf_51 rfl rfl ?_
        refine g_icmp_ge (pc' := 55) (tgt := 58) C dX5_rankOf_52 (by decide) rfl h (fun c h => ?_) (fun c h => ?_)
        · exact G_loc (lle_s (lle_s (lle_s (lle_s (lle_s (lle_n lle_0)))))) (B_X5_rankOf_58 C pa N Tn B p0 r k14 hk14 x2 x3 x4 h)
        · exact G_loc (lle_s (lle_s (lle_s (lle_s (lle_s (lle_n lle_0)))))) (B_X5_rankOf_55 C pa N Tn B p0 r k14 hk14 x2 x3 x4 h)
      · exact G_loc (lle_s (lle_s (lle_s (lle_s (lle_s (lle_n lle_0)))))) (B_X5_rankOf_58 C pa N Tn B p0 r k14 hk14 x2 x3 x4 h)
set_option maxRecDepth 100000 in
set_option maxHeartbeats 4000000 in
theorem L_X5_rankOf_14 {X : gX} (C : cx X RX5 cX5_rankOf 6 (some .int) wsX5_rankOf 3 68) (pa : Nat → Nat → Nat) (N : Nat) (Tn : tS) (B : tS) (p0 : Int32) (r : Int32)  : ∀ (n : Nat) (x2 : Int32) (x3 : Int32) (x4 : Int32), f_X5_rankOf_14 N Tn B p0  n x2 x3 x4 = some r → G X (QI X r [ntW pa Tn, bdW (gcA X) (pa 1) B]) [ntW pa Tn, bdW (gcA X) (pa 1) B] [some (.ref (pa 0 0)), some (.int p0), some (.int x2), some (.int x3), some (.int x4), none] [] 14 := by
  intro n
  induction n with
  | zero => intro x2 x3 x4 h; have h : (none : Option (Int32)) = some r := h; cases h
  | succ n ih => intro x2 x3 x4 h; exact B_X5_rankOf_14b C pa N Tn B p0 r  (f_X5_rankOf_14 N Tn B p0  n) ih x2 x3 x4 h
def f_X5_rankOf (N : Nat) (Tn : tS) (B : tS) (p0 : Int32) : Option (Int32) := (bd (f_X0_dotsOfTheme N B p0) (fun r1 => f_X5_rankOf_14 N Tn B p0 N r1 (0 : Int32) (0 : Int32)))
set_option maxRecDepth 100000 in
set_option maxHeartbeats 4000000 in
theorem B_X5_rankOf {X : gX} (C : cx X RX5 cX5_rankOf 6 (some .int) wsX5_rankOf 3 68) (pa : Nat → Nat → Nat) (N : Nat) (Tn : tS) (B : tS) (p0 : Int32) (r : Int32) (h : f_X5_rankOf N Tn B p0 = some r) : G X (QI X r [ntW pa Tn, bdW (gcA X) (pa 1) B]) [ntW pa Tn, bdW (gcA X) (pa 1) B] [some (.ref (pa 0 0)), some (.int p0), none, none, none, none] [] 0 := by
  unfold f_X5_rankOf at h
  refine g_aload_n (pc' := 1) C dX5_rankOf_0 rfl rfl ?_
  refine gg_X5_0 (pc' := 4) (i := 0) C rfl hi_X5_rankOf_X5 lk_X5_rankOf_1 dX5_rankOf_1 rfl ?_
  refine g_iload_n (pc' := 5) C dX5_rankOf_4 rfl rfl ?_
  refine k_X0_dotsOfTheme (pc' := 8) C (pa 1) N B p0 [1] rfl (by decide) gX5_rankOf_X0_dotsOfTheme ⟨Nat.le_of_ble_eq_true rfl, Nat.le_of_ble_eq_true rfl⟩ (Nat.le_of_ble_eq_true rfl) rfl dX5_rankOf_5 rfl h (fun r1 h => ?_)
  refine g_istore_n (pc' := 9) C dX5_rankOf_8 (Nat.le_of_ble_eq_true rfl) rfl (L' := [some (.ref (pa 0 0)), some (.int p0), some (.int r1), none, none, none]) rfl ?_
  refine g_iconst (pc' := 10) (v := 0) C dX5_rankOf_9 (by decide) rfl ?_
  refine g_istore_n (pc' := 11) C dX5_rankOf_10 (Nat.le_of_ble_eq_true rfl) rfl (L' := [some (.ref (pa 0 0)), some (.int p0), some (.int r1), some (.int (0 : Int32)), none, none]) rfl ?_
  refine g_iconst (pc' := 12) (v := 0) C dX5_rankOf_11 (by decide) rfl ?_
  refine g_istore (pc' := 14) C dX5_rankOf_12 (Nat.le_of_ble_eq_true rfl) rfl (L' := [some (.ref (pa 0 0)), some (.int p0), some (.int r1), some (.int (0 : Int32)), some (.int (0 : Int32)), none]) rfl ?_
  exact G_loc (lle_s (lle_s (lle_s (lle_s (lle_s (lle_n lle_0)))))) (L_X5_rankOf_14 C pa N Tn B p0 r N r1 (0 : Int32) (0 : Int32) h)
set_option maxRecDepth 100000 in
set_option maxHeartbeats 4000000 in
theorem c_X5_rankOf (l : Launch) (D : va_G) (cA : Nat → ClassId) (pa : Nat → Nat → Nat) (N : Nat) (Tn : tS) (B : tS) (p0 : Int32) (r : Int32) (h : f_X5_rankOf N Tn B p0 = some r) : MI l D cA yX5_rankOf wsX5_rankOf 3 68 [.ref (pa 0 0), .int p0] [ntW pa Tn, bdW cA (pa 1) B] r [ntW pa Tn, bdW cA (pa 1) B] := MI_of (cc := cX5_rankOf) (maxL := 6) (rt := some .int) (by decide +kernel) rfl (List.forall_mem_cons.mpr ⟨rfl, List.forall_mem_cons.mpr ⟨rfl, List.forall_mem_nil _⟩⟩) (Nat.le_of_ble_eq_true rfl) (fun X e1 e2 e3 C => by subst e1; subst e2; subst e3; exact B_X5_rankOf C pa N Tn B p0 r h)
set_option maxRecDepth 100000 in
set_option maxHeartbeats 4000000 in
theorem nd_X5_rankOf : nd yX5_rankOf 1 := ⟨by decide +kernel, by decide +kernel, by decide +kernel⟩
set_option maxRecDepth 100000 in
set_option maxHeartbeats 4000000 in
theorem k_X5_rankOf {X : gX} {own : String} {cc : ByteArray} {nL : Nat} {ret : Option FieldType} {Ts : List Cond} {fr lm : Nat} {Q : State → Prop} {ms : List va_W} {L : List (Option Value)} {st : List Value} {pc pc' idx : Nat} {ρ : Type} {T : Int32 → Option ρ} {res : ρ} (C : cx X own cc nL ret Ts fr lm) (pa : Nat → Nat → Nat) (N : Nat) (Tn : tS) (B : tS) (p0 : Int32) (is : List Nat) (hC : is.map (fun i => ms[i]?) = [some (ntW pa Tn), some (bdW (gcA X) (pa 1) B)]) (hn : is.Nodup) (hG : GoodIn Ts (wsV own idx RX5 yX5_rankOf wsX5_rankOf)) (hR : 3 + 1 ≤ fr ∧ 8 + (6 + 11) + 68 ≤ lm) (hst : (st.map fun v => v.category).sum ≤ 8) (hLn : L.length = nL) (d : decode cc pc = .ok (.invokevirtual idx, 3)) (hp : pc + 3 = pc') (h : bd (f_X5_rankOf N Tn B p0) T = some res) (kk : ∀ (r : Int32), T r = some res → G X Q (ms) L (.int r :: st) pc') : G X Q ms L (.int p0 :: .ref (pa 0 0) :: st) pc := by
  obtain ⟨r, h1, h⟩ := ob h
  exact G_callVI C (As := [.int p0]) (c_X5_rankOf (gl X) (gD X) (gcA X) pa N Tn B p0 r h1) hG rfl nd_X5_rankOf hR (q0 := 0) rfl rfl hC hn rfl rfl hst hLn d hp (G_ms (rpl_same (mc := [ntW pa Tn, bdW (gcA X) (pa 1) B]) hC) (kk r h))
def f_X5_heapsOfTheme_29 (N : Nat) (Tn : tS) (B : tS) (p0 : Int32) (k10 : Int32 → Int32 → Int32 → tS → Option (Int32 × tS)) (x2 : Int32) (x3 : Int32) (x4 : Int32) (E : tS) : Option (Int32 × tS) := k10 x2 x3 (x4 + 1) E
set_option maxRecDepth 100000 in
set_option maxHeartbeats 4000000 in
theorem B_X5_heapsOfTheme_29 {X : gX} (C : cx X RX5 cX5_heapsOfTheme 5 (some .int) wsX5_heapsOfTheme 4 90) (pa : Nat → Nat → Nat) (N : Nat) (Tn : tS) (B : tS) (p0 : Int32) (r : Int32) (Ez : tS) (k10 : Int32 → Int32 → Int32 → tS → Option (Int32 × tS)) (hk10 : ∀ (x2 : Int32) (x3 : Int32) (x4 : Int32) (E : tS), k10 x2 x3 x4 E = some (r, Ez) → G X (QI X r [ntW pa Tn, bdW (gcA X) (pa 1) B, heW (gcA X) (pa 6) Ez]) [ntW pa Tn, bdW (gcA X) (pa 1) B, heW (gcA X) (pa 6) E] [some (.ref (pa 0 0)), some (.int p0), some (.int x2), some (.int x3), some (.int x4)] [] 10) (x2 : Int32) (x3 : Int32) (x4 : Int32) (E : tS) (h : f_X5_heapsOfTheme_29 N Tn B p0 k10 x2 x3 x4 E = some (r, Ez)) : G X (QI X r [ntW pa Tn, bdW (gcA X) (pa 1) B, heW (gcA X) (pa 6) Ez]) [ntW pa Tn, bdW (gcA X) (pa 1) B, heW (gcA X) (pa 6) E] [some (.ref (pa 0 0)), some (.int p0), some (.int x2), some (.int x3), some (.int x4)] [] 29 := by
  unfold f_X5_heapsOfTheme_29 at h
  refine g_iinc (pc' := 32) (v := (x4 + 1)) C dX5_heapsOfTheme_29 rfl rfl rfl (L' := [some (.ref (pa 0 0)), some (.int p0), some (.int x2), some (.int x3), some (.int (x4 + 1))]) rfl ?_
  refine g_goto (pc' := 10) C dX5_heapsOfTheme_32 (by decide) ?_
  exact G_loc (lle_s (lle_s (lle_s (lle_s (lle_s lle_0))))) (hk10 x2 x3 (x4 + 1) E h)
def f_X5_heapsOfTheme_10b (N : Nat) (Tn : tS) (B : tS) (p0 : Int32)  (k10 : Int32 → Int32 → Int32 → tS → Option (Int32 × tS)) (x2 : Int32) (x3 : Int32) (x4 : Int32) (E : tS) : Option (Int32 × tS) := (if x2 ≤ x4 then some (x3, E) else (bd (f_X5_meet N Tn B E x4 p0) (fun r1 => (if r1 = 0 then f_X5_heapsOfTheme_29 N Tn B p0 k10 x2 x3 x4 E else f_X5_heapsOfTheme_29 N Tn B p0 k10 x2 (x3 + 1) x4 E))))
def f_X5_heapsOfTheme_10 (N : Nat) (Tn : tS) (B : tS) (p0 : Int32)  : Nat → Int32 → Int32 → Int32 → tS → Option (Int32 × tS)
  | 0 => fun _ _ _ _ => none
  | n + 1 => f_X5_heapsOfTheme_10b N Tn B p0  (f_X5_heapsOfTheme_10 N Tn B p0  n)
set_option maxRecDepth 100000 in
set_option maxHeartbeats 4000000 in
theorem B_X5_heapsOfTheme_10b {X : gX} (C : cx X RX5 cX5_heapsOfTheme 5 (some .int) wsX5_heapsOfTheme 4 90) (pa : Nat → Nat → Nat) (N : Nat) (Tn : tS) (B : tS) (p0 : Int32) (r : Int32) (Ez : tS)  (k10 : Int32 → Int32 → Int32 → tS → Option (Int32 × tS)) (hk10 : ∀ (x2 : Int32) (x3 : Int32) (x4 : Int32) (E : tS), k10 x2 x3 x4 E = some (r, Ez) → G X (QI X r [ntW pa Tn, bdW (gcA X) (pa 1) B, heW (gcA X) (pa 6) Ez]) [ntW pa Tn, bdW (gcA X) (pa 1) B, heW (gcA X) (pa 6) E] [some (.ref (pa 0 0)), some (.int p0), some (.int x2), some (.int x3), some (.int x4)] [] 10) (x2 : Int32) (x3 : Int32) (x4 : Int32) (E : tS) (h : f_X5_heapsOfTheme_10b N Tn B p0  k10 x2 x3 x4 E = some (r, Ez)) : G X (QI X r [ntW pa Tn, bdW (gcA X) (pa 1) B, heW (gcA X) (pa 6) Ez]) [ntW pa Tn, bdW (gcA X) (pa 1) B, heW (gcA X) (pa 6) E] [some (.ref (pa 0 0)), some (.int p0), some (.int x2), some (.int x3), some (.int x4)] [] 10 := by
  unfold f_X5_heapsOfTheme_10b at h
  refine g_iload (pc' := 12) C dX5_heapsOfTheme_10 rfl rfl ?_
  refine g_iload_n (pc' := 13) C dX5_heapsOfTheme_12 rfl rfl ?_
  refine g_icmp_ge (pc' := 16) (tgt := 35) C dX5_heapsOfTheme_13 (by decide) rfl h (fun c h => ?_) (fun c h => ?_)
  · refine g_iload_n (pc' := 36) C dX5_heapsOfTheme_35 rfl rfl ?_
    obtain ⟨rfl, rfl⟩ := pj2 (Option.some.inj h)
    exact g_iret C dX5_heapsOfTheme_36
  · refine g_aload_n (pc' := 17) C dX5_heapsOfTheme_16 rfl rfl ?_
    refine g_iload (pc' := 19) C dX5_heapsOfTheme_17 rfl rfl ?_
    refine g_iload_n (pc' := 20) C dX5_heapsOfTheme_19 rfl rfl ?_
    refine k_X5_meet (pc' := 23) C pa N Tn B E x4 p0 [0, 1, 2] rfl (by decide) gX5_heapsOfTheme_X5_meet ⟨Nat.le_of_ble_eq_true rfl, Nat.le_of_ble_eq_true rfl⟩ (Nat.le_of_ble_eq_true rfl) rfl dX5_heapsOfTheme_20 rfl h (fun r1 h => ?_)
    refine g_if_eq (pc' := 26) (tgt := 29) C dX5_heapsOfTheme_23 (by decide) rfl h (fun c h => ?_) (fun c h => ?_)
    · exact G_loc (lle_s (lle_s (lle_s (lle_s (lle_s lle_0))))) (B_X5_heapsOfTheme_29 C pa N Tn B p0 r Ez k10 hk10 x2 x3 x4 E h)
    · refine g_iinc (pc' := 29) (v := (x3 + 1)) C dX5_heapsOfTheme_26 rfl rfl rfl (L' := [some (.ref (pa 0 0)), some (.int p0), some (.int x2), some (.int (x3 + 1)), some (.int x4)]) rfl ?_
      exact G_loc (lle_s (lle_s (lle_s (lle_s (lle_s lle_0))))) (B_X5_heapsOfTheme_29 C pa N Tn B p0 r Ez k10 hk10 x2 (x3 + 1) x4 E h)
set_option maxRecDepth 100000 in
set_option maxHeartbeats 4000000 in
theorem L_X5_heapsOfTheme_10 {X : gX} (C : cx X RX5 cX5_heapsOfTheme 5 (some .int) wsX5_heapsOfTheme 4 90) (pa : Nat → Nat → Nat) (N : Nat) (Tn : tS) (B : tS) (p0 : Int32) (r : Int32) (Ez : tS)  : ∀ (n : Nat) (x2 : Int32) (x3 : Int32) (x4 : Int32) (E : tS), f_X5_heapsOfTheme_10 N Tn B p0  n x2 x3 x4 E = some (r, Ez) → G X (QI X r [ntW pa Tn, bdW (gcA X) (pa 1) B, heW (gcA X) (pa 6) Ez]) [ntW pa Tn, bdW (gcA X) (pa 1) B, heW (gcA X) (pa 6) E] [some (.ref (pa 0 0)), some (.int p0), some (.int x2), some (.int x3), some (.int x4)] [] 10 := by
  intro n
  induction n with
  | zero => intro x2 x3 x4 E h; have h : (none : Option (Int32 × tS)) = some (r, Ez) := h; cases h
  | succ n ih => intro x2 x3 x4 E h; exact B_X5_heapsOfTheme_10b C pa N Tn B p0 r Ez  (f_X5_heapsOfTheme_10 N Tn B p0  n) ih x2 x3 x4 E h
def f_X5_heapsOfTheme (N : Nat) (Tn : tS) (B : tS) (E : tS) (p0 : Int32) : Option (Int32 × tS) := (bd2 (f_X5_findHeaps N Tn B E) (fun r1 E1 => f_X5_heapsOfTheme_10 N Tn B p0 N r1 (0 : Int32) (0 : Int32) E1))
set_option maxRecDepth 100000 in
set_option maxHeartbeats 4000000 in
theorem B_X5_heapsOfTheme {X : gX} (C : cx X RX5 cX5_heapsOfTheme 5 (some .int) wsX5_heapsOfTheme 4 90) (pa : Nat → Nat → Nat) (N : Nat) (Tn : tS) (B : tS) (E : tS) (p0 : Int32) (r : Int32) (Ez : tS) (h : f_X5_heapsOfTheme N Tn B E p0 = some (r, Ez)) : G X (QI X r [ntW pa Tn, bdW (gcA X) (pa 1) B, heW (gcA X) (pa 6) Ez]) [ntW pa Tn, bdW (gcA X) (pa 1) B, heW (gcA X) (pa 6) E] [some (.ref (pa 0 0)), some (.int p0), none, none, none] [] 0 := by
  unfold f_X5_heapsOfTheme at h
  refine g_aload_n (pc' := 1) C dX5_heapsOfTheme_0 rfl rfl ?_
  refine k_X5_findHeaps (pc' := 4) C pa N Tn B E [0, 1, 2] rfl (by decide) gX5_heapsOfTheme_X5_findHeaps ⟨Nat.le_of_ble_eq_true rfl, Nat.le_of_ble_eq_true rfl⟩ (Nat.le_of_ble_eq_true rfl) rfl dX5_heapsOfTheme_1 rfl h (fun r1 E1 h => ?_)
  show G X _ [ntW pa Tn, bdW (gcA X) (pa 1) B, heW (gcA X) (pa 6) E1] _ _ _
  refine g_istore_n (pc' := 5) C dX5_heapsOfTheme_4 (Nat.le_of_ble_eq_true rfl) rfl (L' := [some (.ref (pa 0 0)), some (.int p0), some (.int r1), none, none]) rfl ?_
  refine g_iconst (pc' := 6) (v := 0) C dX5_heapsOfTheme_5 (by decide) rfl ?_
  refine g_istore_n (pc' := 7) C dX5_heapsOfTheme_6 (Nat.le_of_ble_eq_true rfl) rfl (L' := [some (.ref (pa 0 0)), some (.int p0), some (.int r1), some (.int (0 : Int32)), none]) rfl ?_
  refine g_iconst (pc' := 8) (v := 0) C dX5_heapsOfTheme_7 (by decide) rfl ?_
  refine g_istore (pc' := 10) C dX5_heapsOfTheme_8 (Nat.le_of_ble_eq_true rfl) rfl (L' := [some (.ref (pa 0 0)), some (.int p0), some (.int r1), some (.int (0 : Int32)), some (.int (0 : Int32))]) rfl ?_
  exact G_loc (lle_s (lle_s (lle_s (lle_s (lle_s lle_0))))) (L_X5_heapsOfTheme_10 C pa N Tn B p0 r Ez N r1 (0 : Int32) (0 : Int32) E1 h)
set_option maxRecDepth 100000 in
set_option maxHeartbeats 4000000 in
theorem c_X5_heapsOfTheme (l : Launch) (D : va_G) (cA : Nat → ClassId) (pa : Nat → Nat → Nat) (N : Nat) (Tn : tS) (B : tS) (E : tS) (p0 : Int32) (r : Int32) (Ez : tS) (h : f_X5_heapsOfTheme N Tn B E p0 = some (r, Ez)) : MI l D cA yX5_heapsOfTheme wsX5_heapsOfTheme 4 90 [.ref (pa 0 0), .int p0] [ntW pa Tn, bdW cA (pa 1) B, heW cA (pa 6) E] r [ntW pa Tn, bdW cA (pa 1) B, heW cA (pa 6) Ez] := MI_of (cc := cX5_heapsOfTheme) (maxL := 5) (rt := some .int) (by decide +kernel) rfl (List.forall_mem_cons.mpr ⟨rfl, List.forall_mem_cons.mpr ⟨rfl, List.forall_mem_nil _⟩⟩) (Nat.le_of_ble_eq_true rfl) (fun X e1 e2 e3 C => by subst e1; subst e2; subst e3; exact B_X5_heapsOfTheme C pa N Tn B E p0 r Ez h)
set_option maxRecDepth 100000 in
set_option maxHeartbeats 4000000 in
theorem nd_X5_heapsOfTheme : nd yX5_heapsOfTheme 1 := ⟨by decide +kernel, by decide +kernel, by decide +kernel⟩
set_option maxRecDepth 100000 in
set_option maxHeartbeats 4000000 in
theorem k_X5_heapsOfTheme {X : gX} {own : String} {cc : ByteArray} {nL : Nat} {ret : Option FieldType} {Ts : List Cond} {fr lm : Nat} {Q : State → Prop} {ms : List va_W} {L : List (Option Value)} {st : List Value} {pc pc' idx : Nat} {ρ : Type} {T : Int32 → tS → Option ρ} {res : ρ} (C : cx X own cc nL ret Ts fr lm) (pa : Nat → Nat → Nat) (N : Nat) (Tn : tS) (B : tS) (E : tS) (p0 : Int32) (is : List Nat) (hC : is.map (fun i => ms[i]?) = [some (ntW pa Tn), some (bdW (gcA X) (pa 1) B), some (heW (gcA X) (pa 6) E)]) (hn : is.Nodup) (hG : GoodIn Ts (wsV own idx RX5 yX5_heapsOfTheme wsX5_heapsOfTheme)) (hR : 4 + 1 ≤ fr ∧ 8 + (5 + 11) + 90 ≤ lm) (hst : (st.map fun v => v.category).sum ≤ 8) (hLn : L.length = nL) (d : decode cc pc = .ok (.invokevirtual idx, 3)) (hp : pc + 3 = pc') (h : bd2 (f_X5_heapsOfTheme N Tn B E p0) T = some res) (kk : ∀ (r : Int32) (Ez : tS), T r Ez = some res → G X Q (rpl ms is [ntW pa Tn, bdW (gcA X) (pa 1) B, heW (gcA X) (pa 6) Ez]) L (.int r :: st) pc') : G X Q ms L (.int p0 :: .ref (pa 0 0) :: st) pc := by
  obtain ⟨r, Ez, h1, h⟩ := ob2 h
  exact G_callVI C (As := [.int p0]) (c_X5_heapsOfTheme (gl X) (gD X) (gcA X) pa N Tn B E p0 r Ez h1) hG rfl nd_X5_heapsOfTheme hR (q0 := 0) rfl rfl hC hn rfl rfl hst hLn d hp (kk r Ez h)
theorem hi_X5_theme_X4 : ∀ w ∈ wsX40, w ∈ wsX5_theme := fun w h => List.mem_cons_of_mem _ (List.mem_append_left _ (List.mem_append_left _ (List.mem_append_right _ h)))
theorem hi_X5_theme_X5 : ∀ w ∈ wsX50, w ∈ wsX5_theme := fun w h => List.mem_cons_of_mem _ (List.mem_append_left _ (List.mem_append_left _ (List.mem_append_left _ (List.mem_append_right _ h))))
theorem lk_X5_theme_1 : Cond.fieldLink RX5 10 "NoteThemes" "board" "LNoteThemes$Board;" ∈ wsX5_theme := List.mem_of_getElem? (i := 1) rfl
theorem lk_X5_theme_2 : Cond.fieldLink RX5 54 "NoteThemes" "names" "LNoteThemes$Names;" ∈ wsX5_theme := List.mem_of_getElem? (i := 2) rfl
theorem lk_X5_theme_3 : Cond.fieldLink RX5 191 "NoteThemes$Names" "nameOf" "[I" ∈ wsX5_theme := List.mem_of_getElem? (i := 3) rfl
def f_X5_theme (N : Nat) (Tn : tS) (B : tS) (E : tS) (Nm : tS) (p0 : Int32) (p1 : Int32) : Option (Int32 × tS × tS) := (bd (f_X0_hasTheme N B p0) (fun r1 => (if r1 = 0 then some ((-1 : Int32), E, Nm) else (if p1 = (0 : Int32) then (bd (f_X0_notesOfTheme N B p0) (fun r2 => some (r2, E, Nm))) else (if p1 = (1 : Int32) then (bd (f_X0_dotsOfTheme N B p0) (fun r3 => some (r3, E, Nm))) else (if p1 = (2 : Int32) then (bd2 (f_X4_choose N Nm B) (fun r4 Nm4 => (if p0 < 0 ∨ 8 ≤ p0.toNatClampNeg then none else some ((Nm4 0 p0.toNatClampNeg), E, Nm4)))) else (if p1 = (3 : Int32) then (bd (f_X5_rankOf N Tn B p0) (fun r5 => some (r5, E, Nm))) else (if p1 = (4 : Int32) then (bd2 (f_X5_heapsOfTheme N Tn B E p0) (fun r6 E6 => some (r6, E6, Nm))) else (if p1 = (5 : Int32) then (bd (f_X0_votersOf N B p0) (fun r7 => some (r7, E, Nm))) else some ((-2 : Int32), E, Nm))))))))))
set_option maxRecDepth 100000 in
set_option maxHeartbeats 4000000 in
theorem B_X5_theme {X : gX} (C : cx X RX5 cX5_theme 3 (some .int) wsX5_theme 5 114) (pa : Nat → Nat → Nat) (N : Nat) (Tn : tS) (B : tS) (E : tS) (Nm : tS) (p0 : Int32) (p1 : Int32) (r : Int32) (Ez : tS) (Nmz : tS) (h : f_X5_theme N Tn B E Nm p0 p1 = some (r, Ez, Nmz)) : G X (QI X r [ntW pa Tn, bdW (gcA X) (pa 1) B, heW (gcA X) (pa 6) Ez, nmW (gcA X) (pa 8) Nmz]) [ntW pa Tn, bdW (gcA X) (pa 1) B, heW (gcA X) (pa 6) E, nmW (gcA X) (pa 8) Nm] [some (.ref (pa 0 0)), some (.int p0), some (.int p1)] [] 0 := by
  unfold f_X5_theme at h
  refine g_aload_n (pc' := 1) C dX5_theme_0 rfl rfl ?_
  refine gg_X5_0 (pc' := 4) (i := 0) C rfl hi_X5_theme_X5 lk_X5_theme_1 dX5_theme_1 rfl ?_
  refine g_iload_n (pc' := 5) C dX5_theme_4 rfl rfl ?_
  refine k_X0_hasTheme (pc' := 8) C (pa 1) N B p0 [1] rfl (by decide) gX5_theme_X0_hasTheme ⟨Nat.le_of_ble_eq_true rfl, Nat.le_of_ble_eq_true rfl⟩ (Nat.le_of_ble_eq_true rfl) rfl dX5_theme_5 rfl h (fun r1 h => ?_)
  refine g_if_ne (pc' := 11) (tgt := 13) C dX5_theme_8 (by decide) rfl h (fun c h => ?_) (fun c h => ?_)
  · refine g_iconst (pc' := 12) (v := -1) C dX5_theme_11 (by decide) rfl ?_
    obtain ⟨rfl, rfl, rfl⟩ := pj3 (Option.some.inj h)
    exact g_iret C dX5_theme_12
  · refine g_iload_n (pc' := 14) C dX5_theme_13 rfl rfl ?_
    refine oif h (fun c h => ?_) (fun c0 h => ?_)
    · refine g_tabIn (pc' := 52) (off := 38) C dX5_theme_14 (by rw [c] <;> decide) (by rw [c] <;> decide) (by rw [c] <;> decide) (by decide) ?_
      refine g_aload_n (pc' := 53) C dX5_theme_52 rfl rfl ?_
      refine gg_X5_0 (pc' := 56) (i := 0) C rfl hi_X5_theme_X5 lk_X5_theme_1 dX5_theme_53 rfl ?_
      refine g_iload_n (pc' := 57) C dX5_theme_56 rfl rfl ?_
      refine k_X0_notesOfTheme (pc' := 60) C (pa 1) N B p0 [1] rfl (by decide) gX5_theme_X0_notesOfTheme ⟨Nat.le_of_ble_eq_true rfl, Nat.le_of_ble_eq_true rfl⟩ (Nat.le_of_ble_eq_true rfl) rfl dX5_theme_57 rfl h (fun r2 h => ?_)
      obtain ⟨rfl, rfl, rfl⟩ := pj3 (Option.some.inj h)
      exact g_iret C dX5_theme_60
    refine oif h (fun c h => ?_) (fun c1 h => ?_)
    · refine g_tabIn (pc' := 61) (off := 47) C dX5_theme_14 (by rw [c] <;> decide) (by rw [c] <;> decide) (by rw [c] <;> decide) (by decide) ?_
      refine g_aload_n (pc' := 62) C dX5_theme_61 rfl rfl ?_
      refine gg_X5_0 (pc' := 65) (i := 0) C rfl hi_X5_theme_X5 lk_X5_theme_1 dX5_theme_62 rfl ?_
      refine g_iload_n (pc' := 66) C dX5_theme_65 rfl rfl ?_
      refine k_X0_dotsOfTheme (pc' := 69) C (pa 1) N B p0 [1] rfl (by decide) gX5_theme_X0_dotsOfTheme ⟨Nat.le_of_ble_eq_true rfl, Nat.le_of_ble_eq_true rfl⟩ (Nat.le_of_ble_eq_true rfl) rfl dX5_theme_66 rfl h (fun r3 h => ?_)
      obtain ⟨rfl, rfl, rfl⟩ := pj3 (Option.some.inj h)
      exact g_iret C dX5_theme_69
    refine oif h (fun c h => ?_) (fun c2 h => ?_)
    · refine g_tabIn (pc' := 70) (off := 56) C dX5_theme_14 (by rw [c] <;> decide) (by rw [c] <;> decide) (by rw [c] <;> decide) (by decide) ?_
      refine g_aload_n (pc' := 71) C dX5_theme_70 rfl rfl ?_
      refine gg_X5_9 (pc' := 74) (i := 0) C rfl hi_X5_theme_X5 lk_X5_theme_2 dX5_theme_71 rfl ?_
      refine g_aload_n (pc' := 75) C dX5_theme_74 rfl rfl ?_
      refine gg_X5_0 (pc' := 78) (i := 0) C rfl hi_X5_theme_X5 lk_X5_theme_1 dX5_theme_75 rfl ?_
      refine k_X4_choose (pc' := 81) C (pa 8) (pa 1) N Nm B [3, 1] rfl (by decide) gX5_theme_X4_choose ⟨Nat.le_of_ble_eq_true rfl, Nat.le_of_ble_eq_true rfl⟩ (Nat.le_of_ble_eq_true rfl) rfl dX5_theme_78 rfl h (fun r4 Nm4 h => ?_)
      show G X _ [ntW pa Tn, bdW (gcA X) (pa 1) B, heW (gcA X) (pa 6) E, nmW (gcA X) (pa 8) Nm4] _ _ _
      refine g_pop (pc' := 82) C dX5_theme_81 rfl rfl ?_
      refine g_aload_n (pc' := 83) C dX5_theme_82 rfl rfl ?_
      refine gg_X5_9 (pc' := 86) (i := 0) C rfl hi_X5_theme_X5 lk_X5_theme_2 dX5_theme_83 rfl ?_
      refine gg_X4_0 (pc' := 89) (i := 3) C rfl hi_X5_theme_X4 lk_X5_theme_3 dX5_theme_86 rfl ?_
      refine g_iload_n (pc' := 90) C dX5_theme_89 rfl rfl ?_
      refine g_iald (pc' := 91) (i := 3) (j := 1) C rfl rfl dX5_theme_90 rfl h (fun h => ?_)
      obtain ⟨rfl, rfl, rfl⟩ := pj3 (Option.some.inj h)
      exact g_iret C dX5_theme_91
    refine oif h (fun c h => ?_) (fun c3 h => ?_)
    · refine g_tabIn (pc' := 92) (off := 78) C dX5_theme_14 (by rw [c] <;> decide) (by rw [c] <;> decide) (by rw [c] <;> decide) (by decide) ?_
      refine g_aload_n (pc' := 93) C dX5_theme_92 rfl rfl ?_
      refine g_iload_n (pc' := 94) C dX5_theme_93 rfl rfl ?_
      refine k_X5_rankOf (pc' := 97) C pa N Tn B p0 [0, 1] rfl (by decide) gX5_theme_X5_rankOf ⟨Nat.le_of_ble_eq_true rfl, Nat.le_of_ble_eq_true rfl⟩ (Nat.le_of_ble_eq_true rfl) rfl dX5_theme_94 rfl h (fun r5 h => ?_)
      obtain ⟨rfl, rfl, rfl⟩ := pj3 (Option.some.inj h)
      exact g_iret C dX5_theme_97
    refine oif h (fun c h => ?_) (fun c4 h => ?_)
    · refine g_tabIn (pc' := 98) (off := 84) C dX5_theme_14 (by rw [c] <;> decide) (by rw [c] <;> decide) (by rw [c] <;> decide) (by decide) ?_
      refine g_aload_n (pc' := 99) C dX5_theme_98 rfl rfl ?_
      refine g_iload_n (pc' := 100) C dX5_theme_99 rfl rfl ?_
      refine k_X5_heapsOfTheme (pc' := 103) C pa N Tn B E p0 [0, 1, 2] rfl (by decide) gX5_theme_X5_heapsOfTheme ⟨Nat.le_of_ble_eq_true rfl, Nat.le_of_ble_eq_true rfl⟩ (Nat.le_of_ble_eq_true rfl) rfl dX5_theme_100 rfl h (fun r6 E6 h => ?_)
      show G X _ [ntW pa Tn, bdW (gcA X) (pa 1) B, heW (gcA X) (pa 6) E6, nmW (gcA X) (pa 8) Nm] _ _ _
      obtain ⟨rfl, rfl, rfl⟩ := pj3 (Option.some.inj h)
      exact g_iret C dX5_theme_103
    refine oif h (fun c h => ?_) (fun c5 h => ?_)
    · refine g_tabIn (pc' := 104) (off := 90) C dX5_theme_14 (by rw [c] <;> decide) (by rw [c] <;> decide) (by rw [c] <;> decide) (by decide) ?_
      refine g_aload_n (pc' := 105) C dX5_theme_104 rfl rfl ?_
      refine gg_X5_0 (pc' := 108) (i := 0) C rfl hi_X5_theme_X5 lk_X5_theme_1 dX5_theme_105 rfl ?_
      refine g_iload_n (pc' := 109) C dX5_theme_108 rfl rfl ?_
      refine k_X0_votersOf (pc' := 112) C (pa 1) N B p0 [1] rfl (by decide) gX5_theme_X0_votersOf ⟨Nat.le_of_ble_eq_true rfl, Nat.le_of_ble_eq_true rfl⟩ (Nat.le_of_ble_eq_true rfl) rfl dX5_theme_109 rfl h (fun r7 h => ?_)
      obtain ⟨rfl, rfl, rfl⟩ := pj3 (Option.some.inj h)
      exact g_iret C dX5_theme_112
    have e0 := lv_neT (a := 0) c0 (by decide)
    have e1 := lv_neT (a := 1) c1 (by decide)
    have e2 := lv_neT (a := 2) c2 (by decide)
    have e3 := lv_neT (a := 3) c3 (by decide)
    have e4 := lv_neT (a := 4) c4 (by decide)
    have e5 := lv_neT (a := 5) c5 (by decide)
    refine g_tabOut (pc' := 113) C dX5_theme_14 (by omega) (by decide) ?_
    refine g_bipush (pc' := 115) (v := -2) C dX5_theme_113 (by decide) rfl ?_
    obtain ⟨rfl, rfl, rfl⟩ := pj3 (Option.some.inj h)
    exact g_iret C dX5_theme_115
set_option maxRecDepth 100000 in
set_option maxHeartbeats 4000000 in
theorem c_X5_theme (l : Launch) (D : va_G) (cA : Nat → ClassId) (pa : Nat → Nat → Nat) (N : Nat) (Tn : tS) (B : tS) (E : tS) (Nm : tS) (p0 : Int32) (p1 : Int32) (r : Int32) (Ez : tS) (Nmz : tS) (h : f_X5_theme N Tn B E Nm p0 p1 = some (r, Ez, Nmz)) : MI l D cA yX5_theme wsX5_theme 5 114 [.ref (pa 0 0), .int p0, .int p1] [ntW pa Tn, bdW cA (pa 1) B, heW cA (pa 6) E, nmW cA (pa 8) Nm] r [ntW pa Tn, bdW cA (pa 1) B, heW cA (pa 6) Ez, nmW cA (pa 8) Nmz] := MI_of (cc := cX5_theme) (maxL := 3) (rt := some .int) (by decide +kernel) rfl (List.forall_mem_cons.mpr ⟨rfl, List.forall_mem_cons.mpr ⟨rfl, List.forall_mem_cons.mpr ⟨rfl, List.forall_mem_nil _⟩⟩⟩) (Nat.le_of_ble_eq_true rfl) (fun X e1 e2 e3 C => by subst e1; subst e2; subst e3; exact B_X5_theme C pa N Tn B E Nm p0 p1 r Ez Nmz h)
set_option maxRecDepth 100000 in
set_option maxHeartbeats 4000000 in
theorem nd_X5_theme : nd yX5_theme 2 := ⟨by decide +kernel, by decide +kernel, by decide +kernel⟩
set_option maxRecDepth 100000 in
set_option maxHeartbeats 4000000 in
theorem k_X5_theme {X : gX} {own : String} {cc : ByteArray} {nL : Nat} {ret : Option FieldType} {Ts : List Cond} {fr lm : Nat} {Q : State → Prop} {ms : List va_W} {L : List (Option Value)} {st : List Value} {pc pc' idx : Nat} {ρ : Type} {T : Int32 → tS → tS → Option ρ} {res : ρ} (C : cx X own cc nL ret Ts fr lm) (pa : Nat → Nat → Nat) (N : Nat) (Tn : tS) (B : tS) (E : tS) (Nm : tS) (p0 : Int32) (p1 : Int32) (is : List Nat) (hC : is.map (fun i => ms[i]?) = [some (ntW pa Tn), some (bdW (gcA X) (pa 1) B), some (heW (gcA X) (pa 6) E), some (nmW (gcA X) (pa 8) Nm)]) (hn : is.Nodup) (hG : GoodIn Ts (wsV own idx RX5 yX5_theme wsX5_theme)) (hR : 5 + 1 ≤ fr ∧ 8 + (3 + 11) + 114 ≤ lm) (hst : (st.map fun v => v.category).sum ≤ 8) (hLn : L.length = nL) (d : decode cc pc = .ok (.invokevirtual idx, 3)) (hp : pc + 3 = pc') (h : bd3 (f_X5_theme N Tn B E Nm p0 p1) T = some res) (kk : ∀ (r : Int32) (Ez : tS) (Nmz : tS), T r Ez Nmz = some res → G X Q (rpl ms is [ntW pa Tn, bdW (gcA X) (pa 1) B, heW (gcA X) (pa 6) Ez, nmW (gcA X) (pa 8) Nmz]) L (.int r :: st) pc') : G X Q ms L (.int p1 :: .int p0 :: .ref (pa 0 0) :: st) pc := by
  obtain ⟨r, Ez, Nmz, h1, h⟩ := ob3 h
  exact G_callVI C (As := [.int p0, .int p1]) (c_X5_theme (gl X) (gD X) (gcA X) pa N Tn B E Nm p0 p1 r Ez Nmz h1) hG rfl nd_X5_theme hR (q0 := 0) rfl rfl hC hn rfl rfl hst hLn d hp (kk r Ez Nmz h)
theorem hi_X5_votes_X5 : ∀ w ∈ wsX50, w ∈ wsX5_votes := fun w h => List.mem_cons_of_mem _ (List.mem_append_left _ (List.mem_append_right _ h))
theorem lk_X5_votes_1 : Cond.fieldLink RX5 10 "NoteThemes" "board" "LNoteThemes$Board;" ∈ wsX5_votes := List.mem_of_getElem? (i := 1) rfl
def f_X5_votes (N : Nat) (Tn : tS) (B : tS) (p0 : Int32) (p1 : Int32) : Option (Int32) := (bd (f_X0_hasTheme N B p0) (fun r1 => (if r1 = 0 then some (-1 : Int32) else (bd (f_X5_isName N p1) (fun r2 => (if r2 = 0 then some (-2 : Int32) else (bd (f_X0_votesFor N B p0 p1) (fun r3 => some r3))))))))
set_option maxRecDepth 100000 in
set_option maxHeartbeats 4000000 in
theorem B_X5_votes {X : gX} (C : cx X RX5 cX5_votes 3 (some .int) wsX5_votes 2 46) (pa : Nat → Nat → Nat) (N : Nat) (Tn : tS) (B : tS) (p0 : Int32) (p1 : Int32) (r : Int32) (h : f_X5_votes N Tn B p0 p1 = some r) : G X (QI X r [ntW pa Tn, bdW (gcA X) (pa 1) B]) [ntW pa Tn, bdW (gcA X) (pa 1) B] [some (.ref (pa 0 0)), some (.int p0), some (.int p1)] [] 0 := by
  unfold f_X5_votes at h
  refine g_aload_n (pc' := 1) C dX5_votes_0 rfl rfl ?_
  refine gg_X5_0 (pc' := 4) (i := 0) C rfl hi_X5_votes_X5 lk_X5_votes_1 dX5_votes_1 rfl ?_
  refine g_iload_n (pc' := 5) C dX5_votes_4 rfl rfl ?_
  refine k_X0_hasTheme (pc' := 8) C (pa 1) N B p0 [1] rfl (by decide) gX5_votes_X0_hasTheme ⟨Nat.le_of_ble_eq_true rfl, Nat.le_of_ble_eq_true rfl⟩ (Nat.le_of_ble_eq_true rfl) rfl dX5_votes_5 rfl h (fun r1 h => ?_)
  refine g_if_ne (pc' := 11) (tgt := 13) C dX5_votes_8 (by decide) rfl h (fun c h => ?_) (fun c h => ?_)
  · refine g_iconst (pc' := 12) (v := -1) C dX5_votes_11 (by decide) rfl ?_
    obtain rfl := Option.some.inj h
    exact g_iret C dX5_votes_12
  · refine g_iload_n (pc' := 14) C dX5_votes_13 rfl rfl ?_
    refine k_X5_isName (pc' := 17) C N p1 [] rfl (by decide) gX5_votes_X5_isName ⟨Nat.le_of_ble_eq_true rfl, Nat.le_of_ble_eq_true rfl⟩ (Nat.le_of_ble_eq_true rfl) rfl dX5_votes_14 rfl h (fun r2 h => ?_)
    refine g_if_ne (pc' := 20) (tgt := 23) C dX5_votes_17 (by decide) rfl h (fun c h => ?_) (fun c h => ?_)
    · refine g_bipush (pc' := 22) (v := -2) C dX5_votes_20 (by decide) rfl ?_
      obtain rfl := Option.some.inj h
      exact g_iret C dX5_votes_22
    · refine g_aload_n (pc' := 24) C dX5_votes_23 rfl rfl ?_
      refine gg_X5_0 (pc' := 27) (i := 0) C rfl hi_X5_votes_X5 lk_X5_votes_1 dX5_votes_24 rfl ?_
      refine g_iload_n (pc' := 28) C dX5_votes_27 rfl rfl ?_
      refine g_iload_n (pc' := 29) C dX5_votes_28 rfl rfl ?_
      refine k_X0_votesFor (pc' := 32) C (pa 1) N B p0 p1 [1] rfl (by decide) gX5_votes_X0_votesFor ⟨Nat.le_of_ble_eq_true rfl, Nat.le_of_ble_eq_true rfl⟩ (Nat.le_of_ble_eq_true rfl) rfl dX5_votes_29 rfl h (fun r3 h => ?_)
      obtain rfl := Option.some.inj h
      exact g_iret C dX5_votes_32
set_option maxRecDepth 100000 in
set_option maxHeartbeats 4000000 in
theorem c_X5_votes (l : Launch) (D : va_G) (cA : Nat → ClassId) (pa : Nat → Nat → Nat) (N : Nat) (Tn : tS) (B : tS) (p0 : Int32) (p1 : Int32) (r : Int32) (h : f_X5_votes N Tn B p0 p1 = some r) : MI l D cA yX5_votes wsX5_votes 2 46 [.ref (pa 0 0), .int p0, .int p1] [ntW pa Tn, bdW cA (pa 1) B] r [ntW pa Tn, bdW cA (pa 1) B] := MI_of (cc := cX5_votes) (maxL := 3) (rt := some .int) (by decide +kernel) rfl (List.forall_mem_cons.mpr ⟨rfl, List.forall_mem_cons.mpr ⟨rfl, List.forall_mem_cons.mpr ⟨rfl, List.forall_mem_nil _⟩⟩⟩) (Nat.le_of_ble_eq_true rfl) (fun X e1 e2 e3 C => by subst e1; subst e2; subst e3; exact B_X5_votes C pa N Tn B p0 p1 r h)
set_option maxRecDepth 100000 in
set_option maxHeartbeats 4000000 in
theorem nd_X5_votes : nd yX5_votes 2 := ⟨by decide +kernel, by decide +kernel, by decide +kernel⟩
set_option maxRecDepth 100000 in
set_option maxHeartbeats 4000000 in
theorem k_X5_votes {X : gX} {own : String} {cc : ByteArray} {nL : Nat} {ret : Option FieldType} {Ts : List Cond} {fr lm : Nat} {Q : State → Prop} {ms : List va_W} {L : List (Option Value)} {st : List Value} {pc pc' idx : Nat} {ρ : Type} {T : Int32 → Option ρ} {res : ρ} (C : cx X own cc nL ret Ts fr lm) (pa : Nat → Nat → Nat) (N : Nat) (Tn : tS) (B : tS) (p0 : Int32) (p1 : Int32) (is : List Nat) (hC : is.map (fun i => ms[i]?) = [some (ntW pa Tn), some (bdW (gcA X) (pa 1) B)]) (hn : is.Nodup) (hG : GoodIn Ts (wsV own idx RX5 yX5_votes wsX5_votes)) (hR : 2 + 1 ≤ fr ∧ 8 + (3 + 11) + 46 ≤ lm) (hst : (st.map fun v => v.category).sum ≤ 8) (hLn : L.length = nL) (d : decode cc pc = .ok (.invokevirtual idx, 3)) (hp : pc + 3 = pc') (h : bd (f_X5_votes N Tn B p0 p1) T = some res) (kk : ∀ (r : Int32), T r = some res → G X Q (ms) L (.int r :: st) pc') : G X Q ms L (.int p1 :: .int p0 :: .ref (pa 0 0) :: st) pc := by
  obtain ⟨r, h1, h⟩ := ob h
  exact G_callVI C (As := [.int p0, .int p1]) (c_X5_votes (gl X) (gD X) (gcA X) pa N Tn B p0 p1 r h1) hG rfl nd_X5_votes hR (q0 := 0) rfl rfl hC hn rfl rfl hst hLn d hp (G_ms (rpl_same (mc := [ntW pa Tn, bdW (gcA X) (pa 1) B]) hC) (kk r h))
theorem hi_X5_notesParted_X0 : ∀ w ∈ wsX00, w ∈ wsX5_notesParted := fun w h => List.mem_cons_of_mem _ (List.mem_append_left _ (List.mem_append_right _ h))
theorem hi_X5_notesParted_X2 : ∀ w ∈ wsX20, w ∈ wsX5_notesParted := fun w h => List.mem_cons_of_mem _ (List.mem_append_right _ h)
theorem hi_X5_notesParted_X5 : ∀ w ∈ wsX50, w ∈ wsX5_notesParted := fun w h => List.mem_cons_of_mem _ (List.mem_append_left _ (List.mem_append_left _ (List.mem_append_right _ h)))
theorem lk_X5_notesParted_1 : Cond.fieldLink RX5 10 "NoteThemes" "board" "LNoteThemes$Board;" ∈ wsX5_notesParted := List.mem_of_getElem? (i := 1) rfl
theorem lk_X5_notesParted_2 : Cond.fieldLink RX5 71 "NoteThemes$Board" "notes" "I" ∈ wsX5_notesParted := List.mem_of_getElem? (i := 2) rfl
theorem lk_X5_notesParted_3 : Cond.fieldLink RX5 44 "NoteThemes" "heapsNow" "LNoteThemes$Heaps;" ∈ wsX5_notesParted := List.mem_of_getElem? (i := 3) rfl
theorem lk_X5_notesParted_4 : Cond.fieldLink RX5 160 "NoteThemes$Heaps" "heapOf" "[I" ∈ wsX5_notesParted := List.mem_of_getElem? (i := 4) rfl
theorem lk_X5_notesParted_5 : Cond.fieldLink RX5 48 "NoteThemes" "heapsThen" "LNoteThemes$Heaps;" ∈ wsX5_notesParted := List.mem_of_getElem? (i := 5) rfl
def f_X5_notesParted_60 (N : Nat) (Tn : tS) (B : tS) (E : tS) (F : tS) (p0 : Int32) (k4 : Int32 → Int32 → Option (Int32)) (x2 : Int32) (x3 : Int32) : Option (Int32) := k4 x2 (x3 + 1)
set_option maxRecDepth 100000 in
set_option maxHeartbeats 4000000 in
theorem B_X5_notesParted_60 {X : gX} (C : cx X RX5 cX5_notesParted 4 (some .int) wsX5_notesParted 0 0) (pa : Nat → Nat → Nat) (N : Nat) (Tn : tS) (B : tS) (E : tS) (F : tS) (p0 : Int32) (r : Int32) (k4 : Int32 → Int32 → Option (Int32)) (hk4 : ∀ (x2 : Int32) (x3 : Int32), k4 x2 x3 = some r → G X (QI X r [ntW pa Tn, bdW (gcA X) (pa 1) B, heW (gcA X) (pa 6) E, heW (gcA X) (pa 7) F]) [ntW pa Tn, bdW (gcA X) (pa 1) B, heW (gcA X) (pa 6) E, heW (gcA X) (pa 7) F] [some (.ref (pa 0 0)), some (.int p0), some (.int x2), some (.int x3)] [] 4) (x2 : Int32) (x3 : Int32) (h : f_X5_notesParted_60 N Tn B E F p0 k4 x2 x3 = some r) : G X (QI X r [ntW pa Tn, bdW (gcA X) (pa 1) B, heW (gcA X) (pa 6) E, heW (gcA X) (pa 7) F]) [ntW pa Tn, bdW (gcA X) (pa 1) B, heW (gcA X) (pa 6) E, heW (gcA X) (pa 7) F] [some (.ref (pa 0 0)), some (.int p0), some (.int x2), some (.int x3)] [] 60 := by
  unfold f_X5_notesParted_60 at h
  refine g_iinc (pc' := 63) (v := (x3 + 1)) C dX5_notesParted_60 rfl rfl rfl (L' := [some (.ref (pa 0 0)), some (.int p0), some (.int x2), some (.int (x3 + 1))]) rfl ?_
  refine g_goto (pc' := 4) C dX5_notesParted_63 (by decide) ?_
  exact G_loc (lle_s (lle_s (lle_s (lle_s lle_0)))) (hk4 x2 (x3 + 1) h)
def f_X5_notesParted_4b (N : Nat) (Tn : tS) (B : tS) (E : tS) (F : tS) (p0 : Int32)  (k4 : Int32 → Int32 → Option (Int32)) (x2 : Int32) (x3 : Int32) : Option (Int32) := (if (B 0 0) ≤ x3 then some x2 else (if x3 < 0 ∨ 20 ≤ x3.toNatClampNeg then none else (if p0 < 0 ∨ 20 ≤ p0.toNatClampNeg then none else (if (E 2 x3.toNatClampNeg) = (E 2 p0.toNatClampNeg) then (if x3 < 0 ∨ 20 ≤ x3.toNatClampNeg then none else (if p0 < 0 ∨ 20 ≤ p0.toNatClampNeg then none else (if (F 2 x3.toNatClampNeg) = (F 2 p0.toNatClampNeg) then f_X5_notesParted_60 N Tn B E F p0 k4 x2 x3 else f_X5_notesParted_60 N Tn B E F p0 k4 (x2 + 1) x3))) else f_X5_notesParted_60 N Tn B E F p0 k4 x2 x3))))
def f_X5_notesParted_4 (N : Nat) (Tn : tS) (B : tS) (E : tS) (F : tS) (p0 : Int32)  : Nat → Int32 → Int32 → Option (Int32)
  | 0 => fun _ _ => none
  | n + 1 => f_X5_notesParted_4b N Tn B E F p0  (f_X5_notesParted_4 N Tn B E F p0  n)
set_option maxRecDepth 100000 in
set_option maxHeartbeats 4000000 in
theorem B_X5_notesParted_4b {X : gX} (C : cx X RX5 cX5_notesParted 4 (some .int) wsX5_notesParted 0 0) (pa : Nat → Nat → Nat) (N : Nat) (Tn : tS) (B : tS) (E : tS) (F : tS) (p0 : Int32) (r : Int32)  (k4 : Int32 → Int32 → Option (Int32)) (hk4 : ∀ (x2 : Int32) (x3 : Int32), k4 x2 x3 = some r → G X (QI X r [ntW pa Tn, bdW (gcA X) (pa 1) B, heW (gcA X) (pa 6) E, heW (gcA X) (pa 7) F]) [ntW pa Tn, bdW (gcA X) (pa 1) B, heW (gcA X) (pa 6) E, heW (gcA X) (pa 7) F] [some (.ref (pa 0 0)), some (.int p0), some (.int x2), some (.int x3)] [] 4) (x2 : Int32) (x3 : Int32) (h : f_X5_notesParted_4b N Tn B E F p0  k4 x2 x3 = some r) : G X (QI X r [ntW pa Tn, bdW (gcA X) (pa 1) B, heW (gcA X) (pa 6) E, heW (gcA X) (pa 7) F]) [ntW pa Tn, bdW (gcA X) (pa 1) B, heW (gcA X) (pa 6) E, heW (gcA X) (pa 7) F] [some (.ref (pa 0 0)), some (.int p0), some (.int x2), some (.int x3)] [] 4 := by
  unfold f_X5_notesParted_4b at h
  refine g_iload_n (pc' := 5) C dX5_notesParted_4 rfl rfl ?_
  refine g_aload_n (pc' := 6) C dX5_notesParted_5 rfl rfl ?_
  refine gg_X5_0 (pc' := 9) (i := 0) C rfl hi_X5_notesParted_X5 lk_X5_notesParted_1 dX5_notesParted_6 rfl ?_
  refine gg_X0_0 (pc' := 12) (i := 1) C rfl hi_X5_notesParted_X0 lk_X5_notesParted_2 dX5_notesParted_9 rfl ?_
  refine g_icmp_ge (pc' := 15) (tgt := 66) C dX5_notesParted_12 (by decide) rfl h (fun c h => ?_) (fun c h => ?_)
  · refine g_iload_n (pc' := 67) C dX5_notesParted_66 rfl rfl ?_
    obtain rfl := Option.some.inj h
    exact g_iret C dX5_notesParted_67
  · refine g_aload_n (pc' := 16) C dX5_notesParted_15 rfl rfl ?_
    refine gg_X5_7 (pc' := 19) (i := 0) C rfl hi_X5_notesParted_X5 lk_X5_notesParted_3 dX5_notesParted_16 rfl ?_
    refine gg_X2_2 (pc' := 22) (i := 2) C rfl hi_X5_notesParted_X2 lk_X5_notesParted_4 dX5_notesParted_19 rfl ?_
    refine g_iload_n (pc' := 23) C dX5_notesParted_22 rfl rfl ?_
    refine g_iald (pc' := 24) (i := 2) (j := 1) C rfl rfl dX5_notesParted_23 rfl h (fun h => ?_)
    refine g_aload_n (pc' := 25) C dX5_notesParted_24 rfl rfl ?_
    refine gg_X5_7 (pc' := 28) (i := 0) C rfl hi_X5_notesParted_X5 lk_X5_notesParted_3 dX5_notesParted_25 rfl ?_
    refine gg_X2_2 (pc' := 31) (i := 2) C rfl hi_X5_notesParted_X2 lk_X5_notesParted_4 dX5_notesParted_28 rfl ?_
    refine g_iload_n (pc' := 32) C dX5_notesParted_31 rfl rfl ?_
    refine g_iald (pc' := 33) (i := 2) (j := 1) C rfl rfl dX5_notesParted_32 rfl h (fun h => ?_)
    refine g_icmp_ne (pc' := 36) (tgt := 60) C dX5_notesParted_33 (by decide) rfl h (fun c h => ?_) (fun c h => ?_)
    · refine g_aload_n (pc' := 37) C dX5_notesParted_36 rfl rfl ?_
      refine gg_X5_8 (pc' := 40) (i := 0) C rfl hi_X5_notesParted_X5 lk_X5_notesParted_5 dX5_notesParted_37 rfl ?_
      refine gg_X2_2 (pc' := 43) (i := 3) C rfl hi_X5_notesParted_X2 lk_X5_notesParted_4 dX5_notesParted_40 rfl ?_
      refine g_iload_n (pc' := 44) C dX5_notesParted_43 rfl rfl ?_
      refine g_iald (pc' := 45) (i := 3) (j := 1) C rfl rfl dX5_notesParted_44 rfl h (fun h => ?_)
      refine g_aload_n (pc' := 46) C dX5_notesParted_45 rfl rfl ?_
      refine gg_X5_8 (pc' := 49) (i := 0) C rfl hi_X5_notesParted_X5 lk_X5_notesParted_5 dX5_notesParted_46 rfl ?_
      refine gg_X2_2 (pc' := 52) (i := 3) C rfl hi_X5_notesParted_X2 lk_X5_notesParted_4 dX5_notesParted_49 rfl ?_
      refine g_iload_n (pc' := 53) C dX5_notesParted_52 rfl rfl ?_
      refine g_iald (pc' := 54) (i := 3) (j := 1) C rfl rfl dX5_notesParted_53 rfl h (fun h => ?_)
      refine g_icmp_eq (pc' := 57) (tgt := 60) C dX5_notesParted_54 (by decide) rfl h (fun c h => ?_) (fun c h => ?_)
      · exact G_loc (lle_s (lle_s (lle_s (lle_s lle_0)))) (B_X5_notesParted_60 C pa N Tn B E F p0 r k4 hk4 x2 x3 h)
      · refine g_iinc (pc' := 60) (v := (x2 + 1)) C dX5_notesParted_57 rfl rfl rfl (L' := [some (.ref (pa 0 0)), some (.int p0), some (.int (x2 + 1)), some (.int x3)]) rfl ?_
        exact G_loc (lle_s (lle_s (lle_s (lle_s lle_0)))) (B_X5_notesParted_60 C pa N Tn B E F p0 r k4 hk4 (x2 + 1) x3 h)
    · exact G_loc (lle_s (lle_s (lle_s (lle_s lle_0)))) (B_X5_notesParted_60 C pa N Tn B E F p0 r k4 hk4 x2 x3 h)
set_option maxRecDepth 100000 in
set_option maxHeartbeats 4000000 in
theorem L_X5_notesParted_4 {X : gX} (C : cx X RX5 cX5_notesParted 4 (some .int) wsX5_notesParted 0 0) (pa : Nat → Nat → Nat) (N : Nat) (Tn : tS) (B : tS) (E : tS) (F : tS) (p0 : Int32) (r : Int32)  : ∀ (n : Nat) (x2 : Int32) (x3 : Int32), f_X5_notesParted_4 N Tn B E F p0  n x2 x3 = some r → G X (QI X r [ntW pa Tn, bdW (gcA X) (pa 1) B, heW (gcA X) (pa 6) E, heW (gcA X) (pa 7) F]) [ntW pa Tn, bdW (gcA X) (pa 1) B, heW (gcA X) (pa 6) E, heW (gcA X) (pa 7) F] [some (.ref (pa 0 0)), some (.int p0), some (.int x2), some (.int x3)] [] 4 := by
  intro n
  induction n with
  | zero => intro x2 x3 h; have h : (none : Option (Int32)) = some r := h; cases h
  | succ n ih => intro x2 x3 h; exact B_X5_notesParted_4b C pa N Tn B E F p0 r  (f_X5_notesParted_4 N Tn B E F p0  n) ih x2 x3 h
def f_X5_notesParted (N : Nat) (Tn : tS) (B : tS) (E : tS) (F : tS) (p0 : Int32) : Option (Int32) := f_X5_notesParted_4 N Tn B E F p0 N (0 : Int32) (0 : Int32)
set_option maxRecDepth 100000 in
set_option maxHeartbeats 4000000 in
theorem B_X5_notesParted {X : gX} (C : cx X RX5 cX5_notesParted 4 (some .int) wsX5_notesParted 0 0) (pa : Nat → Nat → Nat) (N : Nat) (Tn : tS) (B : tS) (E : tS) (F : tS) (p0 : Int32) (r : Int32) (h : f_X5_notesParted N Tn B E F p0 = some r) : G X (QI X r [ntW pa Tn, bdW (gcA X) (pa 1) B, heW (gcA X) (pa 6) E, heW (gcA X) (pa 7) F]) [ntW pa Tn, bdW (gcA X) (pa 1) B, heW (gcA X) (pa 6) E, heW (gcA X) (pa 7) F] [some (.ref (pa 0 0)), some (.int p0), none, none] [] 0 := by
  unfold f_X5_notesParted at h
  refine g_iconst (pc' := 1) (v := 0) C dX5_notesParted_0 (by decide) rfl ?_
  refine g_istore_n (pc' := 2) C dX5_notesParted_1 (Nat.le_of_ble_eq_true rfl) rfl (L' := [some (.ref (pa 0 0)), some (.int p0), some (.int (0 : Int32)), none]) rfl ?_
  refine g_iconst (pc' := 3) (v := 0) C dX5_notesParted_2 (by decide) rfl ?_
  refine g_istore_n (pc' := 4) C dX5_notesParted_3 (Nat.le_of_ble_eq_true rfl) rfl (L' := [some (.ref (pa 0 0)), some (.int p0), some (.int (0 : Int32)), some (.int (0 : Int32))]) rfl ?_
  exact G_loc (lle_s (lle_s (lle_s (lle_s lle_0)))) (L_X5_notesParted_4 C pa N Tn B E F p0 r N (0 : Int32) (0 : Int32) h)
set_option maxRecDepth 100000 in
set_option maxHeartbeats 4000000 in
theorem c_X5_notesParted (l : Launch) (D : va_G) (cA : Nat → ClassId) (pa : Nat → Nat → Nat) (N : Nat) (Tn : tS) (B : tS) (E : tS) (F : tS) (p0 : Int32) (r : Int32) (h : f_X5_notesParted N Tn B E F p0 = some r) : MI l D cA yX5_notesParted wsX5_notesParted 0 0 [.ref (pa 0 0), .int p0] [ntW pa Tn, bdW cA (pa 1) B, heW cA (pa 6) E, heW cA (pa 7) F] r [ntW pa Tn, bdW cA (pa 1) B, heW cA (pa 6) E, heW cA (pa 7) F] := MI_of (cc := cX5_notesParted) (maxL := 4) (rt := some .int) (by decide +kernel) rfl (List.forall_mem_cons.mpr ⟨rfl, List.forall_mem_cons.mpr ⟨rfl, List.forall_mem_nil _⟩⟩) (Nat.le_of_ble_eq_true rfl) (fun X e1 e2 e3 C => by subst e1; subst e2; subst e3; exact B_X5_notesParted C pa N Tn B E F p0 r h)
set_option maxRecDepth 100000 in
set_option maxHeartbeats 4000000 in
theorem nd_X5_notesParted : nd yX5_notesParted 1 := ⟨by decide +kernel, by decide +kernel, by decide +kernel⟩
set_option maxRecDepth 100000 in
set_option maxHeartbeats 4000000 in
theorem k_X5_notesParted {X : gX} {own : String} {cc : ByteArray} {nL : Nat} {ret : Option FieldType} {Ts : List Cond} {fr lm : Nat} {Q : State → Prop} {ms : List va_W} {L : List (Option Value)} {st : List Value} {pc pc' idx : Nat} {ρ : Type} {T : Int32 → Option ρ} {res : ρ} (C : cx X own cc nL ret Ts fr lm) (pa : Nat → Nat → Nat) (N : Nat) (Tn : tS) (B : tS) (E : tS) (F : tS) (p0 : Int32) (is : List Nat) (hC : is.map (fun i => ms[i]?) = [some (ntW pa Tn), some (bdW (gcA X) (pa 1) B), some (heW (gcA X) (pa 6) E), some (heW (gcA X) (pa 7) F)]) (hn : is.Nodup) (hG : GoodIn Ts (wsV own idx RX5 yX5_notesParted wsX5_notesParted)) (hR : 0 + 1 ≤ fr ∧ 8 + (4 + 11) + 0 ≤ lm) (hst : (st.map fun v => v.category).sum ≤ 8) (hLn : L.length = nL) (d : decode cc pc = .ok (.invokevirtual idx, 3)) (hp : pc + 3 = pc') (h : bd (f_X5_notesParted N Tn B E F p0) T = some res) (kk : ∀ (r : Int32), T r = some res → G X Q (ms) L (.int r :: st) pc') : G X Q ms L (.int p0 :: .ref (pa 0 0) :: st) pc := by
  obtain ⟨r, h1, h⟩ := ob h
  exact G_callVI C (As := [.int p0]) (c_X5_notesParted (gl X) (gD X) (gcA X) pa N Tn B E F p0 r h1) hG rfl nd_X5_notesParted hR (q0 := 0) rfl rfl hC hn rfl rfl hst hLn d hp (G_ms (rpl_same (mc := [ntW pa Tn, bdW (gcA X) (pa 1) B, heW (gcA X) (pa 6) E, heW (gcA X) (pa 7) F]) hC) (kk r h))
theorem hi_X5_ifDragged_X0 : ∀ w ∈ wsX00, w ∈ wsX5_ifDragged := fun w h => List.mem_cons_of_mem _ (List.mem_append_left _ (List.mem_append_right _ h))
theorem hi_X5_ifDragged_X2 : ∀ w ∈ wsX20, w ∈ wsX5_ifDragged := fun w h => List.mem_cons_of_mem _ (List.mem_append_right _ h)
theorem hi_X5_ifDragged_X5 : ∀ w ∈ wsX50, w ∈ wsX5_ifDragged := fun w h => List.mem_cons_of_mem _ (List.mem_append_left _ (List.mem_append_left _ (List.mem_append_right _ h)))
theorem lk_X5_ifDragged_1 : Cond.fieldLink RX5 10 "NoteThemes" "board" "LNoteThemes$Board;" ∈ wsX5_ifDragged := List.mem_of_getElem? (i := 1) rfl
theorem lk_X5_ifDragged_2 : Cond.fieldLink RX5 38 "NoteThemes" "trial" "LNoteThemes$Board;" ∈ wsX5_ifDragged := List.mem_of_getElem? (i := 2) rfl
theorem lk_X5_ifDragged_3 : Cond.fieldLink RX5 48 "NoteThemes" "heapsThen" "LNoteThemes$Heaps;" ∈ wsX5_ifDragged := List.mem_of_getElem? (i := 3) rfl
theorem lk_X5_ifDragged_4 : Cond.fieldLink RX5 200 "NoteThemes$Board" "settings" "[I" ∈ wsX5_ifDragged := List.mem_of_getElem? (i := 4) rfl
theorem lk_X5_ifDragged_5 : Cond.fieldLink RX5 252 "NoteThemes$Heaps" "number" "I" ∈ wsX5_ifDragged := List.mem_of_getElem? (i := 5) rfl
theorem lk_X5_ifDragged_6 : Cond.fieldLink RX5 160 "NoteThemes$Heaps" "heapOf" "[I" ∈ wsX5_ifDragged := List.mem_of_getElem? (i := 6) rfl
def f_X5_ifDragged (N : Nat) (Tn : tS) (B : tS) (Tr : tS) (E : tS) (F : tS) (p0 : Int32) (p1 : Int32) (p2 : Int32) (p3 : Int32) : Option (Int32 × tS × tS × tS) := (bd (f_X0_hasNote N B p0) (fun r1 => (if r1 = 0 then some ((-1 : Int32), Tr, E, F) else (bd (f_X5_isPlace N p1 p2) (fun r2 => (if r2 = 0 then some ((-1 : Int32), Tr, E, F) else (bd (f_X5_isWithin N p3 (0 : Int32) (2 : Int32)) (fun r3 => (if r3 = 0 then some ((-2 : Int32), Tr, E, F) else (bd2 (f_X5_findHeaps N Tn B E) (fun r4 E4 => (bd (f_X0_copyFrom N Tr B) (fun Tr5 => (bd (f_X0_moveNote N Tr5 p0 p1 p2) (fun Tr6 => (bd2 (f_X2_find N F Tr6 (Tr6 7 (0 : Int32).toNatClampNeg)) (fun r7 F7 => (if p3 = 0 then some ((F7 0 0), Tr6, E4, F7) else (if p3 = (1 : Int32) then (if p0 < 0 ∨ 20 ≤ p0.toNatClampNeg then none else (bd (f_X2_notesIn N F7 (F7 2 p0.toNatClampNeg)) (fun r9 => some (r9, Tr6, E4, F7)))) else (bd (f_X5_notesParted N Tn B E4 F7 p0) (fun r8 => some (r8, Tr6, E4, F7))))))))))))))))))))))
set_option maxRecDepth 100000 in
set_option maxHeartbeats 4000000 in
theorem B_X5_ifDragged {X : gX} (C : cx X RX5 cX5_ifDragged 5 (some .int) wsX5_ifDragged 4 90) (pa : Nat → Nat → Nat) (N : Nat) (Tn : tS) (B : tS) (Tr : tS) (E : tS) (F : tS) (p0 : Int32) (p1 : Int32) (p2 : Int32) (p3 : Int32) (r : Int32) (Trz : tS) (Ez : tS) (Fz : tS) (h : f_X5_ifDragged N Tn B Tr E F p0 p1 p2 p3 = some (r, Trz, Ez, Fz)) : G X (QI X r [ntW pa Tn, bdW (gcA X) (pa 1) B, bdW (gcA X) (pa 5) Trz, heW (gcA X) (pa 6) Ez, heW (gcA X) (pa 7) Fz]) [ntW pa Tn, bdW (gcA X) (pa 1) B, bdW (gcA X) (pa 5) Tr, heW (gcA X) (pa 6) E, heW (gcA X) (pa 7) F] [some (.ref (pa 0 0)), some (.int p0), some (.int p1), some (.int p2), some (.int p3)] [] 0 := by
  unfold f_X5_ifDragged at h
  refine g_aload_n (pc' := 1) C dX5_ifDragged_0 rfl rfl ?_
  refine gg_X5_0 (pc' := 4) (i := 0) C rfl hi_X5_ifDragged_X5 lk_X5_ifDragged_1 dX5_ifDragged_1 rfl ?_
  refine g_iload_n (pc' := 5) C dX5_ifDragged_4 rfl rfl ?_
  refine k_X0_hasNote (pc' := 8) C (pa 1) N B p0 [1] rfl (by decide) gX5_ifDragged_X0_hasNote ⟨Nat.le_of_ble_eq_true rfl, Nat.le_of_ble_eq_true rfl⟩ (Nat.le_of_ble_eq_true rfl) rfl dX5_ifDragged_5 rfl h (fun r1 h => ?_)
  refine g_if_eq (pc' := 11) (tgt := 19) C dX5_ifDragged_8 (by decide) rfl h (fun c h => ?_) (fun c h => ?_)
  · refine g_iconst (pc' := 20) (v := -1) C dX5_ifDragged_19 (by decide) rfl ?_
    obtain ⟨rfl, rfl, rfl, rfl⟩ := pj4 (Option.some.inj h)
    exact g_iret C dX5_ifDragged_20
  · refine g_iload_n (pc' := 12) C dX5_ifDragged_11 rfl rfl ?_
    refine g_iload_n (pc' := 13) C dX5_ifDragged_12 rfl rfl ?_
    refine k_X5_isPlace (pc' := 16) C N p1 p2 [] rfl (by decide) gX5_ifDragged_X5_isPlace ⟨Nat.le_of_ble_eq_true rfl, Nat.le_of_ble_eq_true rfl⟩ (Nat.le_of_ble_eq_true rfl) rfl dX5_ifDragged_13 rfl h (fun r2 h => ?_)
    refine g_if_ne (pc' := 19) (tgt := 21) C dX5_ifDragged_16 (by decide) rfl h (fun c h => ?_) (fun c h => ?_)
    · refine g_iconst (pc' := 20) (v := -1) C dX5_ifDragged_19 (by decide) rfl ?_
      obtain ⟨rfl, rfl, rfl, rfl⟩ := pj4 (Option.some.inj h)
      exact g_iret C dX5_ifDragged_20
    · refine g_iload (pc' := 23) C dX5_ifDragged_21 rfl rfl ?_
      refine g_iconst (pc' := 24) (v := 0) C dX5_ifDragged_23 (by decide) rfl ?_
      refine g_iconst (pc' := 25) (v := 2) C dX5_ifDragged_24 (by decide) rfl ?_
      refine k_X5_isWithin (pc' := 28) C N p3 (0 : Int32) (2 : Int32) [] rfl (by decide) gX5_ifDragged_X5_isWithin ⟨Nat.le_of_ble_eq_true rfl, Nat.le_of_ble_eq_true rfl⟩ (Nat.le_of_ble_eq_true rfl) rfl dX5_ifDragged_25 rfl h (fun r3 h => ?_)
      refine g_if_ne (pc' := 31) (tgt := 34) C dX5_ifDragged_28 (by decide) rfl h (fun c h => ?_) (fun c h => ?_)
      · refine g_bipush (pc' := 33) (v := -2) C dX5_ifDragged_31 (by decide) rfl ?_
        obtain ⟨rfl, rfl, rfl, rfl⟩ := pj4 (Option.some.inj h)
        exact g_iret C dX5_ifDragged_33
      · refine g_aload_n (pc' := 35) C dX5_ifDragged_34 rfl rfl ?_
        refine k_X5_findHeaps (pc' := 38) C pa N Tn B E [0, 1, 3] rfl (by decide) gX5_ifDragged_X5_findHeaps ⟨Nat.le_of_ble_eq_true rfl, Nat.le_of_ble_eq_true rfl⟩ (Nat.le_of_ble_eq_true rfl) rfl dX5_ifDragged_35 rfl h (fun r4 E4 h => ?_)
        show G X _ [ntW pa Tn, bdW (gcA X) (pa 1) B, bdW (gcA X) (pa 5) Tr, heW (gcA X) (pa 6) E4, heW (gcA X) (pa 7) F] _ _ _
        refine g_pop (pc' := 39) C dX5_ifDragged_38 rfl rfl ?_
        refine g_aload_n (pc' := 40) C dX5_ifDragged_39 rfl rfl ?_
        refine gg_X5_6 (pc' := 43) (i := 0) C rfl hi_X5_ifDragged_X5 lk_X5_ifDragged_2 dX5_ifDragged_40 rfl ?_
        refine g_aload_n (pc' := 44) C dX5_ifDragged_43 rfl rfl ?_
        refine gg_X5_0 (pc' := 47) (i := 0) C rfl hi_X5_ifDragged_X5 lk_X5_ifDragged_1 dX5_ifDragged_44 rfl ?_
        refine k_X0_copyFrom (pc' := 50) C (pa 5) (pa 1) N Tr B [2, 1] rfl (by decide) gX5_ifDragged_X0_copyFrom ⟨Nat.le_of_ble_eq_true rfl, Nat.le_of_ble_eq_true rfl⟩ (Nat.le_of_ble_eq_true rfl) rfl dX5_ifDragged_47 rfl h (fun Tr5 h => ?_)
        show G X _ [ntW pa Tn, bdW (gcA X) (pa 1) B, bdW (gcA X) (pa 5) Tr5, heW (gcA X) (pa 6) E4, heW (gcA X) (pa 7) F] _ _ _
        refine g_aload_n (pc' := 51) C dX5_ifDragged_50 rfl rfl ?_
        refine gg_X5_6 (pc' := 54) (i := 0) C rfl hi_X5_ifDragged_X5 lk_X5_ifDragged_2 dX5_ifDragged_51 rfl ?_
        refine g_iload_n (pc' := 55) C dX5_ifDragged_54 rfl rfl ?_
        refine g_iload_n (pc' := 56) C dX5_ifDragged_55 rfl rfl ?_
        refine g_iload_n (pc' := 57) C dX5_ifDragged_56 rfl rfl ?_
        refine k_X0_moveNote (pc' := 60) C (pa 5) N Tr5 p0 p1 p2 [2] rfl (by decide) gX5_ifDragged_X0_moveNote ⟨Nat.le_of_ble_eq_true rfl, Nat.le_of_ble_eq_true rfl⟩ (Nat.le_of_ble_eq_true rfl) rfl dX5_ifDragged_57 rfl h (fun Tr6 h => ?_)
        show G X _ [ntW pa Tn, bdW (gcA X) (pa 1) B, bdW (gcA X) (pa 5) Tr6, heW (gcA X) (pa 6) E4, heW (gcA X) (pa 7) F] _ _ _
        refine g_aload_n (pc' := 61) C dX5_ifDragged_60 rfl rfl ?_
        refine gg_X5_8 (pc' := 64) (i := 0) C rfl hi_X5_ifDragged_X5 lk_X5_ifDragged_3 dX5_ifDragged_61 rfl ?_
        refine g_aload_n (pc' := 65) C dX5_ifDragged_64 rfl rfl ?_
        refine gg_X5_6 (pc' := 68) (i := 0) C rfl hi_X5_ifDragged_X5 lk_X5_ifDragged_2 dX5_ifDragged_65 rfl ?_
        refine g_aload_n (pc' := 69) C dX5_ifDragged_68 rfl rfl ?_
        refine gg_X5_6 (pc' := 72) (i := 0) C rfl hi_X5_ifDragged_X5 lk_X5_ifDragged_2 dX5_ifDragged_69 rfl ?_
        refine gg_X0_7 (pc' := 75) (i := 2) C rfl hi_X5_ifDragged_X0 lk_X5_ifDragged_4 dX5_ifDragged_72 rfl ?_
        refine g_iconst (pc' := 76) (v := 0) C dX5_ifDragged_75 (by decide) rfl ?_
        refine g_iald0 (pc' := 77) (i := 2) (j := 6) C rfl rfl dX5_ifDragged_76 rfl (by unfold vp_in; decide) ?_
        refine k_X2_find (pc' := 80) C (pa 7) (pa 5) N F Tr6 (Tr6 7 (0 : Int32).toNatClampNeg) [4, 2] rfl (by decide) gX5_ifDragged_X2_find ⟨Nat.le_of_ble_eq_true rfl, Nat.le_of_ble_eq_true rfl⟩ (Nat.le_of_ble_eq_true rfl) rfl dX5_ifDragged_77 rfl h (fun r7 F7 h => ?_)
        show G X _ [ntW pa Tn, bdW (gcA X) (pa 1) B, bdW (gcA X) (pa 5) Tr6, heW (gcA X) (pa 6) E4, heW (gcA X) (pa 7) F7] _ _ _
        refine g_pop (pc' := 81) C dX5_ifDragged_80 rfl rfl ?_
        refine g_iload (pc' := 83) C dX5_ifDragged_81 rfl rfl ?_
        refine g_if_ne (pc' := 86) (tgt := 94) C dX5_ifDragged_83 (by decide) rfl h (fun c h => ?_) (fun c h => ?_)
        · refine g_aload_n (pc' := 87) C dX5_ifDragged_86 rfl rfl ?_
          refine gg_X5_8 (pc' := 90) (i := 0) C rfl hi_X5_ifDragged_X5 lk_X5_ifDragged_3 dX5_ifDragged_87 rfl ?_
          refine gg_X2_0 (pc' := 93) (i := 4) C rfl hi_X5_ifDragged_X2 lk_X5_ifDragged_5 dX5_ifDragged_90 rfl ?_
          obtain ⟨rfl, rfl, rfl, rfl⟩ := pj4 (Option.some.inj h)
          exact g_iret C dX5_ifDragged_93
        · refine g_iload (pc' := 96) C dX5_ifDragged_94 rfl rfl ?_
          refine g_iconst (pc' := 97) (v := 1) C dX5_ifDragged_96 (by decide) rfl ?_
          refine g_icmp_ne (pc' := 100) (tgt := 117) C dX5_ifDragged_97 (by decide) rfl h (fun c h => ?_) (fun c h => ?_)
          · refine g_aload_n (pc' := 101) C dX5_ifDragged_100 rfl rfl ?_
            refine gg_X5_8 (pc' := 104) (i := 0) C rfl hi_X5_ifDragged_X5 lk_X5_ifDragged_3 dX5_ifDragged_101 rfl ?_
            refine g_aload_n (pc' := 105) C dX5_ifDragged_104 rfl rfl ?_
            refine gg_X5_8 (pc' := 108) (i := 0) C rfl hi_X5_ifDragged_X5 lk_X5_ifDragged_3 dX5_ifDragged_105 rfl ?_
            refine gg_X2_2 (pc' := 111) (i := 4) C rfl hi_X5_ifDragged_X2 lk_X5_ifDragged_6 dX5_ifDragged_108 rfl ?_
            refine g_iload_n (pc' := 112) C dX5_ifDragged_111 rfl rfl ?_
            refine g_iald (pc' := 113) (i := 4) (j := 1) C rfl rfl dX5_ifDragged_112 rfl h (fun h => ?_)
            refine k_X2_notesIn (pc' := 116) C (pa 7) N F7 (F7 2 p0.toNatClampNeg) [4] rfl (by decide) gX5_ifDragged_X2_notesIn ⟨Nat.le_of_ble_eq_true rfl, Nat.le_of_ble_eq_true rfl⟩ (Nat.le_of_ble_eq_true rfl) rfl dX5_ifDragged_113 rfl h (fun r9 h => ?_)
            obtain ⟨rfl, rfl, rfl, rfl⟩ := pj4 (Option.some.inj h)
            exact g_iret C dX5_ifDragged_116
          · refine g_aload_n (pc' := 118) C dX5_ifDragged_117 rfl rfl ?_
            refine g_iload_n (pc' := 119) C dX5_ifDragged_118 rfl rfl ?_
            refine k_X5_notesParted (pc' := 122) C pa N Tn B E4 F7 p0 [0, 1, 3, 4] rfl (by decide) gX5_ifDragged_X5_notesParted ⟨Nat.le_of_ble_eq_true rfl, Nat.le_of_ble_eq_true rfl⟩ (Nat.le_of_ble_eq_true rfl) rfl dX5_ifDragged_119 rfl h (fun r8 h => ?_)
            obtain ⟨rfl, rfl, rfl, rfl⟩ := pj4 (Option.some.inj h)
            exact g_iret C dX5_ifDragged_122
set_option maxRecDepth 100000 in
set_option maxHeartbeats 4000000 in
theorem c_X5_ifDragged (l : Launch) (D : va_G) (cA : Nat → ClassId) (pa : Nat → Nat → Nat) (N : Nat) (Tn : tS) (B : tS) (Tr : tS) (E : tS) (F : tS) (p0 : Int32) (p1 : Int32) (p2 : Int32) (p3 : Int32) (r : Int32) (Trz : tS) (Ez : tS) (Fz : tS) (h : f_X5_ifDragged N Tn B Tr E F p0 p1 p2 p3 = some (r, Trz, Ez, Fz)) : MI l D cA yX5_ifDragged wsX5_ifDragged 4 90 [.ref (pa 0 0), .int p0, .int p1, .int p2, .int p3] [ntW pa Tn, bdW cA (pa 1) B, bdW cA (pa 5) Tr, heW cA (pa 6) E, heW cA (pa 7) F] r [ntW pa Tn, bdW cA (pa 1) B, bdW cA (pa 5) Trz, heW cA (pa 6) Ez, heW cA (pa 7) Fz] := MI_of (cc := cX5_ifDragged) (maxL := 5) (rt := some .int) (by decide +kernel) rfl (List.forall_mem_cons.mpr ⟨rfl, List.forall_mem_cons.mpr ⟨rfl, List.forall_mem_cons.mpr ⟨rfl, List.forall_mem_cons.mpr ⟨rfl, List.forall_mem_cons.mpr ⟨rfl, List.forall_mem_nil _⟩⟩⟩⟩⟩) (Nat.le_of_ble_eq_true rfl) (fun X e1 e2 e3 C => by subst e1; subst e2; subst e3; exact B_X5_ifDragged C pa N Tn B Tr E F p0 p1 p2 p3 r Trz Ez Fz h)
set_option maxRecDepth 100000 in
set_option maxHeartbeats 4000000 in
theorem nd_X5_ifDragged : nd yX5_ifDragged 4 := ⟨by decide +kernel, by decide +kernel, by decide +kernel⟩
set_option maxRecDepth 100000 in
set_option maxHeartbeats 4000000 in
theorem k_X5_ifDragged {X : gX} {own : String} {cc : ByteArray} {nL : Nat} {ret : Option FieldType} {Ts : List Cond} {fr lm : Nat} {Q : State → Prop} {ms : List va_W} {L : List (Option Value)} {st : List Value} {pc pc' idx : Nat} {ρ : Type} {T : Int32 → tS → tS → tS → Option ρ} {res : ρ} (C : cx X own cc nL ret Ts fr lm) (pa : Nat → Nat → Nat) (N : Nat) (Tn : tS) (B : tS) (Tr : tS) (E : tS) (F : tS) (p0 : Int32) (p1 : Int32) (p2 : Int32) (p3 : Int32) (is : List Nat) (hC : is.map (fun i => ms[i]?) = [some (ntW pa Tn), some (bdW (gcA X) (pa 1) B), some (bdW (gcA X) (pa 5) Tr), some (heW (gcA X) (pa 6) E), some (heW (gcA X) (pa 7) F)]) (hn : is.Nodup) (hG : GoodIn Ts (wsV own idx RX5 yX5_ifDragged wsX5_ifDragged)) (hR : 4 + 1 ≤ fr ∧ 8 + (5 + 11) + 90 ≤ lm) (hst : (st.map fun v => v.category).sum ≤ 8) (hLn : L.length = nL) (d : decode cc pc = .ok (.invokevirtual idx, 3)) (hp : pc + 3 = pc') (h : bd4 (f_X5_ifDragged N Tn B Tr E F p0 p1 p2 p3) T = some res) (kk : ∀ (r : Int32) (Trz : tS) (Ez : tS) (Fz : tS), T r Trz Ez Fz = some res → G X Q (rpl ms is [ntW pa Tn, bdW (gcA X) (pa 1) B, bdW (gcA X) (pa 5) Trz, heW (gcA X) (pa 6) Ez, heW (gcA X) (pa 7) Fz]) L (.int r :: st) pc') : G X Q ms L (.int p3 :: .int p2 :: .int p1 :: .int p0 :: .ref (pa 0 0) :: st) pc := by
  obtain ⟨r, Trz, Ez, Fz, h1, h⟩ := ob4 h
  exact G_callVI C (As := [.int p0, .int p1, .int p2, .int p3]) (c_X5_ifDragged (gl X) (gD X) (gcA X) pa N Tn B Tr E F p0 p1 p2 p3 r Trz Ez Fz h1) hG rfl nd_X5_ifDragged hR (q0 := 0) rfl rfl hC hn rfl rfl hst hLn d hp (kk r Trz Ez Fz h)
theorem hi_X5_reachFor_X5 : ∀ w ∈ wsX50, w ∈ wsX5_reachFor := fun w h => List.mem_cons_of_mem _ (List.mem_append_left _ (List.mem_append_left _ (List.mem_append_right _ h)))
theorem lk_X5_reachFor_1 : Cond.fieldLink RX5 48 "NoteThemes" "heapsThen" "LNoteThemes$Heaps;" ∈ wsX5_reachFor := List.mem_of_getElem? (i := 1) rfl
theorem lk_X5_reachFor_2 : Cond.fieldLink RX5 10 "NoteThemes" "board" "LNoteThemes$Board;" ∈ wsX5_reachFor := List.mem_of_getElem? (i := 2) rfl
def f_X5_reachFor_44 (N : Nat) (Tn : tS) (B : tS) (p0 : Int32) (k18 : Int32 → Int32 → tS → Option (Int32 × tS)) (x2 : Int32) (x3 : Int32) (F : tS) : Option (Int32 × tS) := (if (2 : Int32) = 0 then none else k18 x2 (x3 / (2 : Int32)) F)
set_option maxRecDepth 100000 in
set_option maxHeartbeats 4000000 in
theorem B_X5_reachFor_44 {X : gX} (C : cx X RX5 cX5_reachFor 4 (some .int) wsX5_reachFor 3 70) (pa : Nat → Nat → Nat) (N : Nat) (Tn : tS) (B : tS) (p0 : Int32) (r : Int32) (Fz : tS) (k18 : Int32 → Int32 → tS → Option (Int32 × tS)) (hk18 : ∀ (x2 : Int32) (x3 : Int32) (F : tS), k18 x2 x3 F = some (r, Fz) → G X (QI X r [ntW pa Tn, bdW (gcA X) (pa 1) B, heW (gcA X) (pa 7) Fz]) [ntW pa Tn, bdW (gcA X) (pa 1) B, heW (gcA X) (pa 7) F] [some (.ref (pa 0 0)), some (.int p0), some (.int x2), some (.int x3)] [] 18) (x2 : Int32) (x3 : Int32) (F : tS) (h : f_X5_reachFor_44 N Tn B p0 k18 x2 x3 F = some (r, Fz)) : G X (QI X r [ntW pa Tn, bdW (gcA X) (pa 1) B, heW (gcA X) (pa 7) Fz]) [ntW pa Tn, bdW (gcA X) (pa 1) B, heW (gcA X) (pa 7) F] [some (.ref (pa 0 0)), some (.int p0), some (.int x2), some (.int x3)] [] 44 := by
  unfold f_X5_reachFor_44 at h
  refine g_iload_n (pc' := 45) C dX5_reachFor_44 rfl rfl ?_
  refine g_iconst (pc' := 46) (v := 2) C dX5_reachFor_45 (by decide) rfl ?_
  refine g_idiv (pc' := 47) C dX5_reachFor_46 rfl h (fun h => ?_)
  refine g_istore_n (pc' := 48) C dX5_reachFor_47 (Nat.le_of_ble_eq_true rfl) rfl (L' := [some (.ref (pa 0 0)), some (.int p0), some (.int x2), some (.int (x3 / (2 : Int32)))]) rfl ?_
  refine g_goto (pc' := 18) C dX5_reachFor_48 (by decide) ?_
  exact G_loc (lle_s (lle_s (lle_s (lle_s lle_0)))) (hk18 x2 (x3 / (2 : Int32)) F h)
def f_X5_reachFor_18b (N : Nat) (Tn : tS) (B : tS) (p0 : Int32)  (k18 : Int32 → Int32 → tS → Option (Int32 × tS)) (x2 : Int32) (x3 : Int32) (F : tS) : Option (Int32 × tS) := (if x3 ≤ 0 then some ((x2 + (1 : Int32)), F) else (bd2 (f_X2_find N F B (x2 + x3)) (fun r1 F1 => (if r1 ≤ p0 then f_X5_reachFor_44 N Tn B p0 k18 x2 x3 F1 else f_X5_reachFor_44 N Tn B p0 k18 (x2 + x3) x3 F1))))
def f_X5_reachFor_18 (N : Nat) (Tn : tS) (B : tS) (p0 : Int32)  : Nat → Int32 → Int32 → tS → Option (Int32 × tS)
  | 0 => fun _ _ _ => none
  | n + 1 => f_X5_reachFor_18b N Tn B p0  (f_X5_reachFor_18 N Tn B p0  n)
set_option maxRecDepth 100000 in
set_option maxHeartbeats 4000000 in
theorem B_X5_reachFor_18b {X : gX} (C : cx X RX5 cX5_reachFor 4 (some .int) wsX5_reachFor 3 70) (pa : Nat → Nat → Nat) (N : Nat) (Tn : tS) (B : tS) (p0 : Int32) (r : Int32) (Fz : tS)  (k18 : Int32 → Int32 → tS → Option (Int32 × tS)) (hk18 : ∀ (x2 : Int32) (x3 : Int32) (F : tS), k18 x2 x3 F = some (r, Fz) → G X (QI X r [ntW pa Tn, bdW (gcA X) (pa 1) B, heW (gcA X) (pa 7) Fz]) [ntW pa Tn, bdW (gcA X) (pa 1) B, heW (gcA X) (pa 7) F] [some (.ref (pa 0 0)), some (.int p0), some (.int x2), some (.int x3)] [] 18) (x2 : Int32) (x3 : Int32) (F : tS) (h : f_X5_reachFor_18b N Tn B p0  k18 x2 x3 F = some (r, Fz)) : G X (QI X r [ntW pa Tn, bdW (gcA X) (pa 1) B, heW (gcA X) (pa 7) Fz]) [ntW pa Tn, bdW (gcA X) (pa 1) B, heW (gcA X) (pa 7) F] [some (.ref (pa 0 0)), some (.int p0), some (.int x2), some (.int x3)] [] 18 := by
  unfold f_X5_reachFor_18b at h
  refine g_iload_n (pc' := 19) C dX5_reachFor_18 rfl rfl ?_
  refine g_if_le (pc' := 22) (tgt := 51) C dX5_reachFor_19 (by decide) rfl h (fun c h => ?_) (fun c h => ?_)
  · refine g_iload_n (pc' := 52) C dX5_reachFor_51 rfl rfl ?_
    refine g_iconst (pc' := 53) (v := 1) C dX5_reachFor_52 (by decide) rfl ?_
    refine g_iadd (pc' := 54) C dX5_reachFor_53 rfl ?_
    obtain ⟨rfl, rfl⟩ := pj2 (Option.some.inj h)
    exact g_iret C dX5_reachFor_54
  · refine g_aload_n (pc' := 23) C dX5_reachFor_22 rfl rfl ?_
    refine gg_X5_8 (pc' := 26) (i := 0) C rfl hi_X5_reachFor_X5 lk_X5_reachFor_1 dX5_reachFor_23 rfl ?_
    refine g_aload_n (pc' := 27) C dX5_reachFor_26 rfl rfl ?_
    refine gg_X5_0 (pc' := 30) (i := 0) C rfl hi_X5_reachFor_X5 lk_X5_reachFor_2 dX5_reachFor_27 rfl ?_
    refine g_iload_n (pc' := 31) C dX5_reachFor_30 rfl rfl ?_
    refine g_iload_n (pc' := 32) C dX5_reachFor_31 rfl rfl ?_
    refine g_iadd (pc' := 33) C dX5_reachFor_32 rfl ?_
    refine k_X2_find (pc' := 36) C (pa 7) (pa 1) N F B (x2 + x3) [2, 1] rfl (by decide) gX5_reachFor_X2_find ⟨Nat.le_of_ble_eq_true rfl, Nat.le_of_ble_eq_true rfl⟩ (Nat.le_of_ble_eq_true rfl) rfl dX5_reachFor_33 rfl h (fun r1 F1 h => ?_)
    show G X _ [ntW pa Tn, bdW (gcA X) (pa 1) B, heW (gcA X) (pa 7) F1] _ _ _
    refine g_iload_n (pc' := 37) C dX5_reachFor_36 rfl rfl ?_
    refine g_icmp_le (pc' := 40) (tgt := 44) C dX5_reachFor_37 (by decide) rfl h (fun c h => ?_) (fun c h => ?_)
    · exact G_loc (lle_s (lle_s (lle_s (lle_s lle_0)))) (B_X5_reachFor_44 C pa N Tn B p0 r Fz k18 hk18 x2 x3 F1 h)
    · refine g_iload_n (pc' := 41) C dX5_reachFor_40 rfl rfl ?_
      refine g_iload_n (pc' := 42) C dX5_reachFor_41 rfl rfl ?_
      refine g_iadd (pc' := 43) C dX5_reachFor_42 rfl ?_
      refine g_istore_n (pc' := 44) C dX5_reachFor_43 (Nat.le_of_ble_eq_true rfl) rfl (L' := [some (.ref (pa 0 0)), some (.int p0), some (.int (x2 + x3)), some (.int x3)]) rfl ?_
      exact G_loc (lle_s (lle_s (lle_s (lle_s lle_0)))) (B_X5_reachFor_44 C pa N Tn B p0 r Fz k18 hk18 (x2 + x3) x3 F1 h)
set_option maxRecDepth 100000 in
set_option maxHeartbeats 4000000 in
theorem L_X5_reachFor_18 {X : gX} (C : cx X RX5 cX5_reachFor 4 (some .int) wsX5_reachFor 3 70) (pa : Nat → Nat → Nat) (N : Nat) (Tn : tS) (B : tS) (p0 : Int32) (r : Int32) (Fz : tS)  : ∀ (n : Nat) (x2 : Int32) (x3 : Int32) (F : tS), f_X5_reachFor_18 N Tn B p0  n x2 x3 F = some (r, Fz) → G X (QI X r [ntW pa Tn, bdW (gcA X) (pa 1) B, heW (gcA X) (pa 7) Fz]) [ntW pa Tn, bdW (gcA X) (pa 1) B, heW (gcA X) (pa 7) F] [some (.ref (pa 0 0)), some (.int p0), some (.int x2), some (.int x3)] [] 18 := by
  intro n
  induction n with
  | zero => intro x2 x3 F h; have h : (none : Option (Int32 × tS)) = some (r, Fz) := h; cases h
  | succ n ih => intro x2 x3 F h; exact B_X5_reachFor_18b C pa N Tn B p0 r Fz  (f_X5_reachFor_18 N Tn B p0  n) ih x2 x3 F h
def f_X5_reachFor (N : Nat) (Tn : tS) (B : tS) (F : tS) (p0 : Int32) : Option (Int32 × tS) := (bd (f_X5_isWithin N p0 (1 : Int32) (20 : Int32)) (fun r1 => (if r1 = 0 then some ((-2 : Int32), F) else f_X5_reachFor_18 N Tn B p0 N (-1 : Int32) (32 : Int32) F)))
set_option maxRecDepth 100000 in
set_option maxHeartbeats 4000000 in
theorem B_X5_reachFor {X : gX} (C : cx X RX5 cX5_reachFor 4 (some .int) wsX5_reachFor 3 70) (pa : Nat → Nat → Nat) (N : Nat) (Tn : tS) (B : tS) (F : tS) (p0 : Int32) (r : Int32) (Fz : tS) (h : f_X5_reachFor N Tn B F p0 = some (r, Fz)) : G X (QI X r [ntW pa Tn, bdW (gcA X) (pa 1) B, heW (gcA X) (pa 7) Fz]) [ntW pa Tn, bdW (gcA X) (pa 1) B, heW (gcA X) (pa 7) F] [some (.ref (pa 0 0)), some (.int p0), none, none] [] 0 := by
  unfold f_X5_reachFor at h
  refine g_iload_n (pc' := 1) C dX5_reachFor_0 rfl rfl ?_
  refine g_iconst (pc' := 2) (v := 1) C dX5_reachFor_1 (by decide) rfl ?_
  refine g_bipush (pc' := 4) (v := 20) C dX5_reachFor_2 (by decide) rfl ?_
  refine k_X5_isWithin (pc' := 7) C N p0 (1 : Int32) (20 : Int32) [] rfl (by decide) gX5_reachFor_X5_isWithin ⟨Nat.le_of_ble_eq_true rfl, Nat.le_of_ble_eq_true rfl⟩ (Nat.le_of_ble_eq_true rfl) rfl dX5_reachFor_4 rfl h (fun r1 h => ?_)
  refine g_if_ne (pc' := 10) (tgt := 13) C dX5_reachFor_7 (by decide) rfl h (fun c h => ?_) (fun c h => ?_)
  · refine g_bipush (pc' := 12) (v := -2) C dX5_reachFor_10 (by decide) rfl ?_
    obtain ⟨rfl, rfl⟩ := pj2 (Option.some.inj h)
    exact g_iret C dX5_reachFor_12
  · refine g_iconst (pc' := 14) (v := -1) C dX5_reachFor_13 (by decide) rfl ?_
    refine g_istore_n (pc' := 15) C dX5_reachFor_14 (Nat.le_of_ble_eq_true rfl) rfl (L' := [some (.ref (pa 0 0)), some (.int p0), some (.int (-1 : Int32)), none]) rfl ?_
    refine g_bipush (pc' := 17) (v := 32) C dX5_reachFor_15 (by decide) rfl ?_
    refine g_istore_n (pc' := 18) C dX5_reachFor_17 (Nat.le_of_ble_eq_true rfl) rfl (L' := [some (.ref (pa 0 0)), some (.int p0), some (.int (-1 : Int32)), some (.int (32 : Int32))]) rfl ?_
    exact G_loc (lle_s (lle_s (lle_s (lle_s lle_0)))) (L_X5_reachFor_18 C pa N Tn B p0 r Fz N (-1 : Int32) (32 : Int32) F h)
set_option maxRecDepth 100000 in
set_option maxHeartbeats 4000000 in
theorem c_X5_reachFor (l : Launch) (D : va_G) (cA : Nat → ClassId) (pa : Nat → Nat → Nat) (N : Nat) (Tn : tS) (B : tS) (F : tS) (p0 : Int32) (r : Int32) (Fz : tS) (h : f_X5_reachFor N Tn B F p0 = some (r, Fz)) : MI l D cA yX5_reachFor wsX5_reachFor 3 70 [.ref (pa 0 0), .int p0] [ntW pa Tn, bdW cA (pa 1) B, heW cA (pa 7) F] r [ntW pa Tn, bdW cA (pa 1) B, heW cA (pa 7) Fz] := MI_of (cc := cX5_reachFor) (maxL := 4) (rt := some .int) (by decide +kernel) rfl (List.forall_mem_cons.mpr ⟨rfl, List.forall_mem_cons.mpr ⟨rfl, List.forall_mem_nil _⟩⟩) (Nat.le_of_ble_eq_true rfl) (fun X e1 e2 e3 C => by subst e1; subst e2; subst e3; exact B_X5_reachFor C pa N Tn B F p0 r Fz h)
set_option maxRecDepth 100000 in
set_option maxHeartbeats 4000000 in
theorem nd_X5_reachFor : nd yX5_reachFor 1 := ⟨by decide +kernel, by decide +kernel, by decide +kernel⟩
set_option maxRecDepth 100000 in
set_option maxHeartbeats 4000000 in
theorem k_X5_reachFor {X : gX} {own : String} {cc : ByteArray} {nL : Nat} {ret : Option FieldType} {Ts : List Cond} {fr lm : Nat} {Q : State → Prop} {ms : List va_W} {L : List (Option Value)} {st : List Value} {pc pc' idx : Nat} {ρ : Type} {T : Int32 → tS → Option ρ} {res : ρ} (C : cx X own cc nL ret Ts fr lm) (pa : Nat → Nat → Nat) (N : Nat) (Tn : tS) (B : tS) (F : tS) (p0 : Int32) (is : List Nat) (hC : is.map (fun i => ms[i]?) = [some (ntW pa Tn), some (bdW (gcA X) (pa 1) B), some (heW (gcA X) (pa 7) F)]) (hn : is.Nodup) (hG : GoodIn Ts (wsV own idx RX5 yX5_reachFor wsX5_reachFor)) (hR : 3 + 1 ≤ fr ∧ 8 + (4 + 11) + 70 ≤ lm) (hst : (st.map fun v => v.category).sum ≤ 8) (hLn : L.length = nL) (d : decode cc pc = .ok (.invokevirtual idx, 3)) (hp : pc + 3 = pc') (h : bd2 (f_X5_reachFor N Tn B F p0) T = some res) (kk : ∀ (r : Int32) (Fz : tS), T r Fz = some res → G X Q (rpl ms is [ntW pa Tn, bdW (gcA X) (pa 1) B, heW (gcA X) (pa 7) Fz]) L (.int r :: st) pc') : G X Q ms L (.int p0 :: .ref (pa 0 0) :: st) pc := by
  obtain ⟨r, Fz, h1, h⟩ := ob2 h
  exact G_callVI C (As := [.int p0]) (c_X5_reachFor (gl X) (gD X) (gcA X) pa N Tn B F p0 r Fz h1) hG rfl nd_X5_reachFor hR (q0 := 0) rfl rfl hC hn rfl rfl hst hLn d hp (kk r Fz h)
theorem hi_X5_nearest_X0 : ∀ w ∈ wsX00, w ∈ wsX5_nearest := fun w h => List.mem_cons_of_mem _ (List.mem_append_right _ h)
theorem hi_X5_nearest_X5 : ∀ w ∈ wsX50, w ∈ wsX5_nearest := fun w h => List.mem_cons_of_mem _ (List.mem_append_left _ (List.mem_append_right _ h))
theorem lk_X5_nearest_1 : Cond.fieldLink RX5 10 "NoteThemes" "board" "LNoteThemes$Board;" ∈ wsX5_nearest := List.mem_of_getElem? (i := 1) rfl
theorem lk_X5_nearest_2 : Cond.fieldLink RX5 71 "NoteThemes$Board" "notes" "I" ∈ wsX5_nearest := List.mem_of_getElem? (i := 2) rfl
theorem lk_X5_nearest_3 : Cond.fieldLink RX5 163 "NoteThemes$Board" "themeOf" "[I" ∈ wsX5_nearest := List.mem_of_getElem? (i := 3) rfl
def f_X5_nearest_98 (N : Nat) (Tn : tS) (B : tS) (p0 : Int32) (k22 : Int32 → Int32 → Int32 → Option (Int32)) (x2 : Int32) (x3 : Int32) (x4 : Int32) : Option (Int32) := k22 x2 x3 (x4 + 1)
set_option maxRecDepth 100000 in
set_option maxHeartbeats 4000000 in
theorem B_X5_nearest_98 {X : gX} (C : cx X RX5 cX5_nearest 7 (some .int) wsX5_nearest 2 43) (pa : Nat → Nat → Nat) (N : Nat) (Tn : tS) (B : tS) (p0 : Int32) (r : Int32) (k22 : Int32 → Int32 → Int32 → Option (Int32)) (hk22 : ∀ (x2 : Int32) (x3 : Int32) (x4 : Int32), k22 x2 x3 x4 = some r → G X (QI X r [ntW pa Tn, bdW (gcA X) (pa 1) B]) [ntW pa Tn, bdW (gcA X) (pa 1) B] [some (.ref (pa 0 0)), some (.int p0), some (.int x2), some (.int x3), some (.int x4), none, none] [] 22) (x2 : Int32) (x3 : Int32) (x4 : Int32) (h : f_X5_nearest_98 N Tn B p0 k22 x2 x3 x4 = some r) : G X (QI X r [ntW pa Tn, bdW (gcA X) (pa 1) B]) [ntW pa Tn, bdW (gcA X) (pa 1) B] [some (.ref (pa 0 0)), some (.int p0), some (.int x2), some (.int x3), some (.int x4), none, none] [] 98 := by
  unfold f_X5_nearest_98 at h
  refine g_iinc (pc' := 101) (v := (x4 + 1)) C dX5_nearest_98 rfl rfl rfl (L' := [some (.ref (pa 0 0)), some (.int p0), some (.int x2), some (.int x3), some (.int (x4 + 1)), none, none]) rfl ?_
  refine g_goto (pc' := 22) C dX5_nearest_101 (by decide) ?_
  exact G_loc (lle_s (lle_s (lle_s (lle_s (lle_s (lle_n (lle_n lle_0))))))) (hk22 x2 x3 (x4 + 1) h)
def f_X5_nearest_92 (N : Nat) (Tn : tS) (B : tS) (p0 : Int32) (k22 : Int32 → Int32 → Int32 → Option (Int32)) (x4 : Int32) (x5 : Int32) (x6 : Int32) : Option (Int32) := f_X5_nearest_98 N Tn B p0 k22 x5 x6 x4
set_option maxRecDepth 100000 in
set_option maxHeartbeats 4000000 in
theorem B_X5_nearest_92 {X : gX} (C : cx X RX5 cX5_nearest 7 (some .int) wsX5_nearest 2 43) (pa : Nat → Nat → Nat) (N : Nat) (Tn : tS) (B : tS) (p0 : Int32) (r : Int32) (k22 : Int32 → Int32 → Int32 → Option (Int32)) (hk22 : ∀ (x2 : Int32) (x3 : Int32) (x4 : Int32), k22 x2 x3 x4 = some r → G X (QI X r [ntW pa Tn, bdW (gcA X) (pa 1) B]) [ntW pa Tn, bdW (gcA X) (pa 1) B] [some (.ref (pa 0 0)), some (.int p0), some (.int x2), some (.int x3), some (.int x4), none, none] [] 22) (x4 : Int32) (x5 : Int32) (x6 : Int32) (h : f_X5_nearest_92 N Tn B p0 k22 x4 x5 x6 = some r) : G X (QI X r [ntW pa Tn, bdW (gcA X) (pa 1) B]) [ntW pa Tn, bdW (gcA X) (pa 1) B] [some (.ref (pa 0 0)), some (.int p0), none, none, some (.int x4), some (.int x5), some (.int x6)] [] 92 := by
  unfold f_X5_nearest_92 at h
  refine g_iload (pc' := 94) C dX5_nearest_92 rfl rfl ?_
  refine g_istore_n (pc' := 95) C dX5_nearest_94 (Nat.le_of_ble_eq_true rfl) rfl (L' := [some (.ref (pa 0 0)), some (.int p0), some (.int x5), none, some (.int x4), some (.int x5), some (.int x6)]) rfl ?_
  refine g_iload (pc' := 97) C dX5_nearest_95 rfl rfl ?_
  refine g_istore_n (pc' := 98) C dX5_nearest_97 (Nat.le_of_ble_eq_true rfl) rfl (L' := [some (.ref (pa 0 0)), some (.int p0), some (.int x5), some (.int x6), some (.int x4), some (.int x5), some (.int x6)]) rfl ?_
  exact G_loc (lle_s (lle_s (lle_s (lle_s (lle_s (lle_n (lle_n lle_0))))))) (B_X5_nearest_98 C pa N Tn B p0 r k22 hk22 x5 x6 x4 h)
def f_X5_nearest_22b (N : Nat) (Tn : tS) (B : tS) (p0 : Int32)  (k22 : Int32 → Int32 → Int32 → Option (Int32)) (x2 : Int32) (x3 : Int32) (x4 : Int32) : Option (Int32) := (if (B 0 0) ≤ x4 then some x2 else (if x4 < 0 ∨ 20 ≤ x4.toNatClampNeg then none else (if x4 = p0 then f_X5_nearest_98 N Tn B p0 k22 x2 x3 x4 else (if (B 3 x4.toNatClampNeg) = (-5 : Int32) then f_X5_nearest_98 N Tn B p0 k22 x2 x3 x4 else (bd (f_X0_distance N B p0 x4) (fun r1 => (if r1 < x3 then f_X5_nearest_92 N Tn B p0 k22 x4 (B 3 x4.toNatClampNeg) r1 else (if r1 = x3 then (if x2 ≤ (B 3 x4.toNatClampNeg) then f_X5_nearest_98 N Tn B p0 k22 x2 x3 x4 else f_X5_nearest_92 N Tn B p0 k22 x4 (B 3 x4.toNatClampNeg) r1) else f_X5_nearest_98 N Tn B p0 k22 x2 x3 x4))))))))
def f_X5_nearest_22 (N : Nat) (Tn : tS) (B : tS) (p0 : Int32)  : Nat → Int32 → Int32 → Int32 → Option (Int32)
  | 0 => fun _ _ _ => none
  | n + 1 => f_X5_nearest_22b N Tn B p0  (f_X5_nearest_22 N Tn B p0  n)
set_option maxRecDepth 100000 in
set_option maxHeartbeats 4000000 in
theorem B_X5_nearest_22b {X : gX} (C : cx X RX5 cX5_nearest 7 (some .int) wsX5_nearest 2 43) (pa : Nat → Nat → Nat) (N : Nat) (Tn : tS) (B : tS) (p0 : Int32) (r : Int32)  (k22 : Int32 → Int32 → Int32 → Option (Int32)) (hk22 : ∀ (x2 : Int32) (x3 : Int32) (x4 : Int32), k22 x2 x3 x4 = some r → G X (QI X r [ntW pa Tn, bdW (gcA X) (pa 1) B]) [ntW pa Tn, bdW (gcA X) (pa 1) B] [some (.ref (pa 0 0)), some (.int p0), some (.int x2), some (.int x3), some (.int x4), none, none] [] 22) (x2 : Int32) (x3 : Int32) (x4 : Int32) (h : f_X5_nearest_22b N Tn B p0  k22 x2 x3 x4 = some r) : G X (QI X r [ntW pa Tn, bdW (gcA X) (pa 1) B]) [ntW pa Tn, bdW (gcA X) (pa 1) B] [some (.ref (pa 0 0)), some (.int p0), some (.int x2), some (.int x3), some (.int x4), none, none] [] 22 := by
  unfold f_X5_nearest_22b at h
  refine g_iload (pc' := 24) C dX5_nearest_22 rfl rfl ?_
  refine g_aload_n (pc' := 25) C dX5_nearest_24 rfl rfl ?_
  refine gg_X5_0 (pc' := 28) (i := 0) C rfl hi_X5_nearest_X5 lk_X5_nearest_1 dX5_nearest_25 rfl ?_
  refine gg_X0_0 (pc' := 31) (i := 1) C rfl hi_X5_nearest_X0 lk_X5_nearest_2 dX5_nearest_28 rfl ?_
  refine g_icmp_ge (pc' := 34) (tgt := 104) C dX5_nearest_31 (by decide) rfl h (fun c h => ?_) (fun c h => ?_)
  · refine g_iload_n (pc' := 105) C dX5_nearest_104 rfl rfl ?_
    obtain rfl := Option.some.inj h
    exact g_iret C dX5_nearest_105
  · refine g_aload_n (pc' := 35) C dX5_nearest_34 rfl rfl ?_
    refine gg_X5_0 (pc' := 38) (i := 0) C rfl hi_X5_nearest_X5 lk_X5_nearest_1 dX5_nearest_35 rfl ?_
    refine gg_X0_3 (pc' := 41) (i := 1) C rfl hi_X5_nearest_X0 lk_X5_nearest_3 dX5_nearest_38 rfl ?_
    refine g_iload (pc' := 43) C dX5_nearest_41 rfl rfl ?_
    refine g_iald (pc' := 44) (i := 1) (j := 3) C rfl rfl dX5_nearest_43 rfl h (fun h => ?_)
    refine g_istore (pc' := 46) C dX5_nearest_44 (Nat.le_of_ble_eq_true rfl) rfl (L' := [some (.ref (pa 0 0)), some (.int p0), some (.int x2), some (.int x3), some (.int x4), some (.int (B 3 x4.toNatClampNeg)), none]) rfl ?_
    refine g_iload (pc' := 48) C dX5_nearest_46 rfl rfl ?_
    refine g_iload_n (pc' := 49) C dX5_nearest_48 rfl rfl ?_
    refine g_icmp_eq (pc' := 52) (tgt := 98) C dX5_nearest_49 (by decide) rfl h (fun c h => ?_) (fun c h => ?_)
    · exact G_loc (lle_s (lle_s (lle_s (lle_s (lle_s (lle_n (lle_n lle_0))))))) (B_X5_nearest_98 C pa N Tn B p0 r k22 hk22 x2 x3 x4 h)
    · refine g_iload (pc' := 54) C dX5_nearest_52 rfl rfl ?_
      refine g_bipush (pc' := 56) (v := -5) C dX5_nearest_54 (by decide) rfl ?_
      refine g_icmp_ne (pc' := 59) (tgt := 62) C dX5_nearest_56 (by decide) rfl h (fun c h => ?_) (fun c h => ?_)
      · refine g_goto (pc' := 98) C dX5_nearest_59 (by decide) ?_
        exact G_loc (lle_s (lle_s (lle_s (lle_s (lle_s (lle_n (lle_n lle_0))))))) (B_X5_nearest_98 C pa N Tn B p0 r k22 hk22 x2 x3 x4 h)
      · refine g_aload_n (pc' := 63) C dX5_nearest_62 rfl rfl ?_
        refine gg_X5_0 (pc' := 66) (i := 0) C rfl hi_X5_nearest_X5 lk_X5_nearest_1 dX5_nearest_63 rfl ?_
        refine g_iload_n (pc' := 67) C dX5_nearest_66 rfl rfl ?_
        refine g_iload (pc' := 69) C dX5_nearest_67 rfl rfl ?_
        refine k_X0_distance (pc' := 72) C (pa 1) N B p0 x4 [1] rfl (by decide) gX5_nearest_X0_distance ⟨Nat.le_of_ble_eq_true rfl, Nat.le_of_ble_eq_true rfl⟩ (Nat.le_of_ble_eq_true rfl) rfl dX5_nearest_69 rfl h (fun r1 h => ?_)
        refine g_istore (pc' := 74) C dX5_nearest_72 (Nat.le_of_ble_eq_true rfl) rfl (L' := [some (.ref (pa 0 0)), some (.int p0), some (.int x2), some (.int x3), some (.int x4), some (.int (B 3 x4.toNatClampNeg)), some (.int r1)]) rfl ?_
        refine g_iload (pc' := 76) C dX5_nearest_74 rfl rfl ?_
        refine g_iload_n (pc' := 77) C dX5_nearest_76 rfl rfl ?_
        refine g_icmp_lt (pc' := 80) (tgt := 92) C dX5_nearest_77 (by decide) rfl h (fun c h => ?_) (fun c h => ?_)
        · exact G_loc (lle_s (lle_s (lle_n (lle_n (lle_s (lle_s (lle_s lle_0))))))) (B_X5_nearest_92 C pa N Tn B p0 r k22 hk22 x4 (B 3 x4.toNatClampNeg) r1 h)
        · refine g_iload (pc' := 82) C dX5_nearest_80 rfl rfl ?_
          refine g_iload_n (pc' := 83) C dX5_nearest_82 rfl rfl ?_
          refine g_icmp_ne (pc' := 86) (tgt := 98) C dX5_nearest_83 (by decide) rfl h (fun c h => ?_) (fun c h => ?_)
          · refine g_iload (pc' := 88) C dX5_nearest_86 rfl rfl ?_
            refine g_iload_n (pc' := 89) C dX5_nearest_88 rfl rfl ?_
            refine g_icmp_ge (pc' := 92) (tgt := 98) C dX5_nearest_89 (by decide) rfl h (fun c h => ?_) (fun c h => ?_)
            · exact G_loc (lle_s (lle_s (lle_s (lle_s (lle_s (lle_n (lle_n lle_0))))))) (B_X5_nearest_98 C pa N Tn B p0 r k22 hk22 x2 x3 x4 h)
            · exact G_loc (lle_s (lle_s (lle_n (lle_n (lle_s (lle_s (lle_s lle_0))))))) (B_X5_nearest_92 C pa N Tn B p0 r k22 hk22 x4 (B 3 x4.toNatClampNeg) r1 h)
          · exact G_loc (lle_s (lle_s (lle_s (lle_s (lle_s (lle_n (lle_n lle_0))))))) (B_X5_nearest_98 C pa N Tn B p0 r k22 hk22 x2 x3 x4 h)
set_option maxRecDepth 100000 in
set_option maxHeartbeats 4000000 in
theorem L_X5_nearest_22 {X : gX} (C : cx X RX5 cX5_nearest 7 (some .int) wsX5_nearest 2 43) (pa : Nat → Nat → Nat) (N : Nat) (Tn : tS) (B : tS) (p0 : Int32) (r : Int32)  : ∀ (n : Nat) (x2 : Int32) (x3 : Int32) (x4 : Int32), f_X5_nearest_22 N Tn B p0  n x2 x3 x4 = some r → G X (QI X r [ntW pa Tn, bdW (gcA X) (pa 1) B]) [ntW pa Tn, bdW (gcA X) (pa 1) B] [some (.ref (pa 0 0)), some (.int p0), some (.int x2), some (.int x3), some (.int x4), none, none] [] 22 := by
  intro n
  induction n with
  | zero => intro x2 x3 x4 h; have h : (none : Option (Int32)) = some r := h; cases h
  | succ n ih => intro x2 x3 x4 h; exact B_X5_nearest_22b C pa N Tn B p0 r  (f_X5_nearest_22 N Tn B p0  n) ih x2 x3 x4 h
def f_X5_nearest (N : Nat) (Tn : tS) (B : tS) (p0 : Int32) : Option (Int32) := (bd (f_X0_hasNote N B p0) (fun r1 => (if r1 = 0 then some (-1 : Int32) else f_X5_nearest_22 N Tn B p0 N (-5 : Int32) (50 : Int32) (0 : Int32))))
set_option maxRecDepth 100000 in
set_option maxHeartbeats 4000000 in
theorem B_X5_nearest {X : gX} (C : cx X RX5 cX5_nearest 7 (some .int) wsX5_nearest 2 43) (pa : Nat → Nat → Nat) (N : Nat) (Tn : tS) (B : tS) (p0 : Int32) (r : Int32) (h : f_X5_nearest N Tn B p0 = some r) : G X (QI X r [ntW pa Tn, bdW (gcA X) (pa 1) B]) [ntW pa Tn, bdW (gcA X) (pa 1) B] [some (.ref (pa 0 0)), some (.int p0), none, none, none, none, none] [] 0 := by
  unfold f_X5_nearest at h
  refine g_aload_n (pc' := 1) C dX5_nearest_0 rfl rfl ?_
  refine gg_X5_0 (pc' := 4) (i := 0) C rfl hi_X5_nearest_X5 lk_X5_nearest_1 dX5_nearest_1 rfl ?_
  refine g_iload_n (pc' := 5) C dX5_nearest_4 rfl rfl ?_
  refine k_X0_hasNote (pc' := 8) C (pa 1) N B p0 [1] rfl (by decide) gX5_nearest_X0_hasNote ⟨Nat.le_of_ble_eq_true rfl, Nat.le_of_ble_eq_true rfl⟩ (Nat.le_of_ble_eq_true rfl) rfl dX5_nearest_5 rfl h (fun r1 h => ?_)
  refine g_if_ne (pc' := 11) (tgt := 13) C dX5_nearest_8 (by decide) rfl h (fun c h => ?_) (fun c h => ?_)
  · refine g_iconst (pc' := 12) (v := -1) C dX5_nearest_11 (by decide) rfl ?_
    obtain rfl := Option.some.inj h
    exact g_iret C dX5_nearest_12
  · refine g_bipush (pc' := 15) (v := -5) C dX5_nearest_13 (by decide) rfl ?_
    refine g_istore_n (pc' := 16) C dX5_nearest_15 (Nat.le_of_ble_eq_true rfl) rfl (L' := [some (.ref (pa 0 0)), some (.int p0), some (.int (-5 : Int32)), none, none, none, none]) rfl ?_
    refine g_bipush (pc' := 18) (v := 50) C dX5_nearest_16 (by decide) rfl ?_
    refine g_istore_n (pc' := 19) C dX5_nearest_18 (Nat.le_of_ble_eq_true rfl) rfl (L' := [some (.ref (pa 0 0)), some (.int p0), some (.int (-5 : Int32)), some (.int (50 : Int32)), none, none, none]) rfl ?_
    refine g_iconst (pc' := 20) (v := 0) C dX5_nearest_19 (by decide) rfl ?_
    refine g_istore (pc' := 22) C dX5_nearest_20 (Nat.le_of_ble_eq_true rfl) rfl (L' := [some (.ref (pa 0 0)), some (.int p0), some (.int (-5 : Int32)), some (.int (50 : Int32)), some (.int (0 : Int32)), none, none]) rfl ?_
    exact G_loc (lle_s (lle_s (lle_s (lle_s (lle_s (lle_n (lle_n lle_0))))))) (L_X5_nearest_22 C pa N Tn B p0 r N (-5 : Int32) (50 : Int32) (0 : Int32) h)
set_option maxRecDepth 100000 in
set_option maxHeartbeats 4000000 in
theorem c_X5_nearest (l : Launch) (D : va_G) (cA : Nat → ClassId) (pa : Nat → Nat → Nat) (N : Nat) (Tn : tS) (B : tS) (p0 : Int32) (r : Int32) (h : f_X5_nearest N Tn B p0 = some r) : MI l D cA yX5_nearest wsX5_nearest 2 43 [.ref (pa 0 0), .int p0] [ntW pa Tn, bdW cA (pa 1) B] r [ntW pa Tn, bdW cA (pa 1) B] := MI_of (cc := cX5_nearest) (maxL := 7) (rt := some .int) (by decide +kernel) rfl (List.forall_mem_cons.mpr ⟨rfl, List.forall_mem_cons.mpr ⟨rfl, List.forall_mem_nil _⟩⟩) (Nat.le_of_ble_eq_true rfl) (fun X e1 e2 e3 C => by subst e1; subst e2; subst e3; exact B_X5_nearest C pa N Tn B p0 r h)
set_option maxRecDepth 100000 in
set_option maxHeartbeats 4000000 in
theorem nd_X5_nearest : nd yX5_nearest 1 := ⟨by decide +kernel, by decide +kernel, by decide +kernel⟩
set_option maxRecDepth 100000 in
set_option maxHeartbeats 4000000 in
theorem k_X5_nearest {X : gX} {own : String} {cc : ByteArray} {nL : Nat} {ret : Option FieldType} {Ts : List Cond} {fr lm : Nat} {Q : State → Prop} {ms : List va_W} {L : List (Option Value)} {st : List Value} {pc pc' idx : Nat} {ρ : Type} {T : Int32 → Option ρ} {res : ρ} (C : cx X own cc nL ret Ts fr lm) (pa : Nat → Nat → Nat) (N : Nat) (Tn : tS) (B : tS) (p0 : Int32) (is : List Nat) (hC : is.map (fun i => ms[i]?) = [some (ntW pa Tn), some (bdW (gcA X) (pa 1) B)]) (hn : is.Nodup) (hG : GoodIn Ts (wsV own idx RX5 yX5_nearest wsX5_nearest)) (hR : 2 + 1 ≤ fr ∧ 8 + (7 + 11) + 43 ≤ lm) (hst : (st.map fun v => v.category).sum ≤ 8) (hLn : L.length = nL) (d : decode cc pc = .ok (.invokevirtual idx, 3)) (hp : pc + 3 = pc') (h : bd (f_X5_nearest N Tn B p0) T = some res) (kk : ∀ (r : Int32), T r = some res → G X Q (ms) L (.int r :: st) pc') : G X Q ms L (.int p0 :: .ref (pa 0 0) :: st) pc := by
  obtain ⟨r, h1, h⟩ := ob h
  exact G_callVI C (As := [.int p0]) (c_X5_nearest (gl X) (gD X) (gcA X) pa N Tn B p0 r h1) hG rfl nd_X5_nearest hR (q0 := 0) rfl rfl hC hn rfl rfl hst hLn d hp (G_ms (rpl_same (mc := [ntW pa Tn, bdW (gcA X) (pa 1) B]) hC) (kk r h))
theorem hi_X5_notesAlone_X5 : ∀ w ∈ wsX50, w ∈ wsX5_notesAlone := fun w h => List.mem_cons_of_mem _ (List.mem_append_left _ (List.mem_append_left _ (List.mem_append_right _ h)))
theorem lk_X5_notesAlone_1 : Cond.fieldLink RX5 44 "NoteThemes" "heapsNow" "LNoteThemes$Heaps;" ∈ wsX5_notesAlone := List.mem_of_getElem? (i := 1) rfl
def f_X5_notesAlone_29 (N : Nat) (Tn : tS) (B : tS) (k9 : Int32 → Int32 → Int32 → tS → Option (Int32 × tS)) (x1 : Int32) (x2 : Int32) (x3 : Int32) (E : tS) : Option (Int32 × tS) := k9 x1 x2 (x3 + 1) E
set_option maxRecDepth 100000 in
set_option maxHeartbeats 4000000 in
theorem B_X5_notesAlone_29 {X : gX} (C : cx X RX5 cX5_notesAlone 4 (some .int) wsX5_notesAlone 4 90) (pa : Nat → Nat → Nat) (N : Nat) (Tn : tS) (B : tS) (r : Int32) (Ez : tS) (k9 : Int32 → Int32 → Int32 → tS → Option (Int32 × tS)) (hk9 : ∀ (x1 : Int32) (x2 : Int32) (x3 : Int32) (E : tS), k9 x1 x2 x3 E = some (r, Ez) → G X (QI X r [ntW pa Tn, bdW (gcA X) (pa 1) B, heW (gcA X) (pa 6) Ez]) [ntW pa Tn, bdW (gcA X) (pa 1) B, heW (gcA X) (pa 6) E] [some (.ref (pa 0 0)), some (.int x1), some (.int x2), some (.int x3)] [] 9) (x1 : Int32) (x2 : Int32) (x3 : Int32) (E : tS) (h : f_X5_notesAlone_29 N Tn B k9 x1 x2 x3 E = some (r, Ez)) : G X (QI X r [ntW pa Tn, bdW (gcA X) (pa 1) B, heW (gcA X) (pa 6) Ez]) [ntW pa Tn, bdW (gcA X) (pa 1) B, heW (gcA X) (pa 6) E] [some (.ref (pa 0 0)), some (.int x1), some (.int x2), some (.int x3)] [] 29 := by
  unfold f_X5_notesAlone_29 at h
  refine g_iinc (pc' := 32) (v := (x3 + 1)) C dX5_notesAlone_29 rfl rfl rfl (L' := [some (.ref (pa 0 0)), some (.int x1), some (.int x2), some (.int (x3 + 1))]) rfl ?_
  refine g_goto (pc' := 9) C dX5_notesAlone_32 (by decide) ?_
  exact G_loc (lle_s (lle_s (lle_s (lle_s lle_0)))) (hk9 x1 x2 (x3 + 1) E h)
def f_X5_notesAlone_9b (N : Nat) (Tn : tS) (B : tS)  (k9 : Int32 → Int32 → Int32 → tS → Option (Int32 × tS)) (x1 : Int32) (x2 : Int32) (x3 : Int32) (E : tS) : Option (Int32 × tS) := (if x1 ≤ x3 then some (x2, E) else (bd (f_X2_notesIn N E x3) (fun r1 => (if r1 = (1 : Int32) then f_X5_notesAlone_29 N Tn B k9 x1 (x2 + 1) x3 E else f_X5_notesAlone_29 N Tn B k9 x1 x2 x3 E))))
def f_X5_notesAlone_9 (N : Nat) (Tn : tS) (B : tS)  : Nat → Int32 → Int32 → Int32 → tS → Option (Int32 × tS)
  | 0 => fun _ _ _ _ => none
  | n + 1 => f_X5_notesAlone_9b N Tn B  (f_X5_notesAlone_9 N Tn B  n)
set_option maxRecDepth 100000 in
set_option maxHeartbeats 4000000 in
theorem B_X5_notesAlone_9b {X : gX} (C : cx X RX5 cX5_notesAlone 4 (some .int) wsX5_notesAlone 4 90) (pa : Nat → Nat → Nat) (N : Nat) (Tn : tS) (B : tS) (r : Int32) (Ez : tS)  (k9 : Int32 → Int32 → Int32 → tS → Option (Int32 × tS)) (hk9 : ∀ (x1 : Int32) (x2 : Int32) (x3 : Int32) (E : tS), k9 x1 x2 x3 E = some (r, Ez) → G X (QI X r [ntW pa Tn, bdW (gcA X) (pa 1) B, heW (gcA X) (pa 6) Ez]) [ntW pa Tn, bdW (gcA X) (pa 1) B, heW (gcA X) (pa 6) E] [some (.ref (pa 0 0)), some (.int x1), some (.int x2), some (.int x3)] [] 9) (x1 : Int32) (x2 : Int32) (x3 : Int32) (E : tS) (h : f_X5_notesAlone_9b N Tn B  k9 x1 x2 x3 E = some (r, Ez)) : G X (QI X r [ntW pa Tn, bdW (gcA X) (pa 1) B, heW (gcA X) (pa 6) Ez]) [ntW pa Tn, bdW (gcA X) (pa 1) B, heW (gcA X) (pa 6) E] [some (.ref (pa 0 0)), some (.int x1), some (.int x2), some (.int x3)] [] 9 := by
  unfold f_X5_notesAlone_9b at h
  refine g_iload_n (pc' := 10) C dX5_notesAlone_9 rfl rfl ?_
  refine g_iload_n (pc' := 11) C dX5_notesAlone_10 rfl rfl ?_
  refine g_icmp_ge (pc' := 14) (tgt := 35) C dX5_notesAlone_11 (by decide) rfl h (fun c h => ?_) (fun c h => ?_)
  · refine g_iload_n (pc' := 36) C dX5_notesAlone_35 rfl rfl ?_
    obtain ⟨rfl, rfl⟩ := pj2 (Option.some.inj h)
    exact g_iret C dX5_notesAlone_36
  · refine g_aload_n (pc' := 15) C dX5_notesAlone_14 rfl rfl ?_
    refine gg_X5_7 (pc' := 18) (i := 0) C rfl hi_X5_notesAlone_X5 lk_X5_notesAlone_1 dX5_notesAlone_15 rfl ?_
    refine g_iload_n (pc' := 19) C dX5_notesAlone_18 rfl rfl ?_
    refine k_X2_notesIn (pc' := 22) C (pa 6) N E x3 [2] rfl (by decide) gX5_notesAlone_X2_notesIn ⟨Nat.le_of_ble_eq_true rfl, Nat.le_of_ble_eq_true rfl⟩ (Nat.le_of_ble_eq_true rfl) rfl dX5_notesAlone_19 rfl h (fun r1 h => ?_)
    refine g_iconst (pc' := 23) (v := 1) C dX5_notesAlone_22 (by decide) rfl ?_
    refine g_icmp_ne (pc' := 26) (tgt := 29) C dX5_notesAlone_23 (by decide) rfl h (fun c h => ?_) (fun c h => ?_)
    · refine g_iinc (pc' := 29) (v := (x2 + 1)) C dX5_notesAlone_26 rfl rfl rfl (L' := [some (.ref (pa 0 0)), some (.int x1), some (.int (x2 + 1)), some (.int x3)]) rfl ?_
      exact G_loc (lle_s (lle_s (lle_s (lle_s lle_0)))) (B_X5_notesAlone_29 C pa N Tn B r Ez k9 hk9 x1 (x2 + 1) x3 E h)
    · exact G_loc (lle_s (lle_s (lle_s (lle_s lle_0)))) (B_X5_notesAlone_29 C pa N Tn B r Ez k9 hk9 x1 x2 x3 E h)
set_option maxRecDepth 100000 in
set_option maxHeartbeats 4000000 in
theorem L_X5_notesAlone_9 {X : gX} (C : cx X RX5 cX5_notesAlone 4 (some .int) wsX5_notesAlone 4 90) (pa : Nat → Nat → Nat) (N : Nat) (Tn : tS) (B : tS) (r : Int32) (Ez : tS)  : ∀ (n : Nat) (x1 : Int32) (x2 : Int32) (x3 : Int32) (E : tS), f_X5_notesAlone_9 N Tn B  n x1 x2 x3 E = some (r, Ez) → G X (QI X r [ntW pa Tn, bdW (gcA X) (pa 1) B, heW (gcA X) (pa 6) Ez]) [ntW pa Tn, bdW (gcA X) (pa 1) B, heW (gcA X) (pa 6) E] [some (.ref (pa 0 0)), some (.int x1), some (.int x2), some (.int x3)] [] 9 := by
  intro n
  induction n with
  | zero => intro x1 x2 x3 E h; have h : (none : Option (Int32 × tS)) = some (r, Ez) := h; cases h
  | succ n ih => intro x1 x2 x3 E h; exact B_X5_notesAlone_9b C pa N Tn B r Ez  (f_X5_notesAlone_9 N Tn B  n) ih x1 x2 x3 E h
def f_X5_notesAlone (N : Nat) (Tn : tS) (B : tS) (E : tS)  : Option (Int32 × tS) := (bd2 (f_X5_findHeaps N Tn B E) (fun r1 E1 => f_X5_notesAlone_9 N Tn B N r1 (0 : Int32) (0 : Int32) E1))
set_option maxRecDepth 100000 in
set_option maxHeartbeats 4000000 in
theorem B_X5_notesAlone {X : gX} (C : cx X RX5 cX5_notesAlone 4 (some .int) wsX5_notesAlone 4 90) (pa : Nat → Nat → Nat) (N : Nat) (Tn : tS) (B : tS) (E : tS)  (r : Int32) (Ez : tS) (h : f_X5_notesAlone N Tn B E = some (r, Ez)) : G X (QI X r [ntW pa Tn, bdW (gcA X) (pa 1) B, heW (gcA X) (pa 6) Ez]) [ntW pa Tn, bdW (gcA X) (pa 1) B, heW (gcA X) (pa 6) E] [some (.ref (pa 0 0)), none, none, none] [] 0 := by
  unfold f_X5_notesAlone at h
  refine g_aload_n (pc' := 1) C dX5_notesAlone_0 rfl rfl ?_
  refine k_X5_findHeaps (pc' := 4) C pa N Tn B E [0, 1, 2] rfl (by decide) gX5_notesAlone_X5_findHeaps ⟨Nat.le_of_ble_eq_true rfl, Nat.le_of_ble_eq_true rfl⟩ (Nat.le_of_ble_eq_true rfl) rfl dX5_notesAlone_1 rfl h (fun r1 E1 h => ?_)
  show G X _ [ntW pa Tn, bdW (gcA X) (pa 1) B, heW (gcA X) (pa 6) E1] _ _ _
  refine g_istore_n (pc' := 5) C dX5_notesAlone_4 (Nat.le_of_ble_eq_true rfl) rfl (L' := [some (.ref (pa 0 0)), some (.int r1), none, none]) rfl ?_
  refine g_iconst (pc' := 6) (v := 0) C dX5_notesAlone_5 (by decide) rfl ?_
  refine g_istore_n (pc' := 7) C dX5_notesAlone_6 (Nat.le_of_ble_eq_true rfl) rfl (L' := [some (.ref (pa 0 0)), some (.int r1), some (.int (0 : Int32)), none]) rfl ?_
  refine g_iconst (pc' := 8) (v := 0) C dX5_notesAlone_7 (by decide) rfl ?_
  refine g_istore_n (pc' := 9) C dX5_notesAlone_8 (Nat.le_of_ble_eq_true rfl) rfl (L' := [some (.ref (pa 0 0)), some (.int r1), some (.int (0 : Int32)), some (.int (0 : Int32))]) rfl ?_
  exact G_loc (lle_s (lle_s (lle_s (lle_s lle_0)))) (L_X5_notesAlone_9 C pa N Tn B r Ez N r1 (0 : Int32) (0 : Int32) E1 h)
set_option maxRecDepth 100000 in
set_option maxHeartbeats 4000000 in
theorem c_X5_notesAlone (l : Launch) (D : va_G) (cA : Nat → ClassId) (pa : Nat → Nat → Nat) (N : Nat) (Tn : tS) (B : tS) (E : tS)  (r : Int32) (Ez : tS) (h : f_X5_notesAlone N Tn B E = some (r, Ez)) : MI l D cA yX5_notesAlone wsX5_notesAlone 4 90 [.ref (pa 0 0)] [ntW pa Tn, bdW cA (pa 1) B, heW cA (pa 6) E] r [ntW pa Tn, bdW cA (pa 1) B, heW cA (pa 6) Ez] := MI_of (cc := cX5_notesAlone) (maxL := 4) (rt := some .int) (by decide +kernel) rfl (List.forall_mem_cons.mpr ⟨rfl, List.forall_mem_nil _⟩) (Nat.le_of_ble_eq_true rfl) (fun X e1 e2 e3 C => by subst e1; subst e2; subst e3; exact B_X5_notesAlone C pa N Tn B E r Ez h)
set_option maxRecDepth 100000 in
set_option maxHeartbeats 4000000 in
theorem nd_X5_notesAlone : nd yX5_notesAlone 0 := ⟨by decide +kernel, by decide +kernel, by decide +kernel⟩
set_option maxRecDepth 100000 in
set_option maxHeartbeats 4000000 in
theorem k_X5_notesAlone {X : gX} {own : String} {cc : ByteArray} {nL : Nat} {ret : Option FieldType} {Ts : List Cond} {fr lm : Nat} {Q : State → Prop} {ms : List va_W} {L : List (Option Value)} {st : List Value} {pc pc' idx : Nat} {ρ : Type} {T : Int32 → tS → Option ρ} {res : ρ} (C : cx X own cc nL ret Ts fr lm) (pa : Nat → Nat → Nat) (N : Nat) (Tn : tS) (B : tS) (E : tS)  (is : List Nat) (hC : is.map (fun i => ms[i]?) = [some (ntW pa Tn), some (bdW (gcA X) (pa 1) B), some (heW (gcA X) (pa 6) E)]) (hn : is.Nodup) (hG : GoodIn Ts (wsV own idx RX5 yX5_notesAlone wsX5_notesAlone)) (hR : 4 + 1 ≤ fr ∧ 8 + (4 + 11) + 90 ≤ lm) (hst : (st.map fun v => v.category).sum ≤ 8) (hLn : L.length = nL) (d : decode cc pc = .ok (.invokevirtual idx, 3)) (hp : pc + 3 = pc') (h : bd2 (f_X5_notesAlone N Tn B E) T = some res) (kk : ∀ (r : Int32) (Ez : tS), T r Ez = some res → G X Q (rpl ms is [ntW pa Tn, bdW (gcA X) (pa 1) B, heW (gcA X) (pa 6) Ez]) L (.int r :: st) pc') : G X Q ms L (.ref (pa 0 0) :: st) pc := by
  obtain ⟨r, Ez, h1, h⟩ := ob2 h
  exact G_callVI C (As := []) (c_X5_notesAlone (gl X) (gD X) (gcA X) pa N Tn B E r Ez h1) hG rfl nd_X5_notesAlone hR (q0 := 0) rfl rfl hC hn rfl rfl hst hLn d hp (kk r Ez h)
theorem hi_X5_count_X0 : ∀ w ∈ wsX00, w ∈ wsX5_count := fun w h => List.mem_cons_of_mem _ (List.mem_append_left _ (List.mem_append_left _ (List.mem_append_left _ (List.mem_append_right _ h))))
theorem hi_X5_count_X3 : ∀ w ∈ wsX30, w ∈ wsX5_count := fun w h => List.mem_cons_of_mem _ (List.mem_append_left _ (List.mem_append_left _ (List.mem_append_right _ h)))
theorem hi_X5_count_X5 : ∀ w ∈ wsX50, w ∈ wsX5_count := fun w h => List.mem_cons_of_mem _ (List.mem_append_left _ (List.mem_append_left _ (List.mem_append_left _ (List.mem_append_left _ (List.mem_append_right _ h)))))
theorem lk_X5_count_1 : Cond.fieldLink RX5 10 "NoteThemes" "board" "LNoteThemes$Board;" ∈ wsX5_count := List.mem_of_getElem? (i := 1) rfl
theorem lk_X5_count_2 : Cond.fieldLink RX5 71 "NoteThemes$Board" "notes" "I" ∈ wsX5_count := List.mem_of_getElem? (i := 2) rfl
theorem lk_X5_count_3 : Cond.fieldLink RX5 154 "NoteThemes$Board" "themes" "I" ∈ wsX5_count := List.mem_of_getElem? (i := 3) rfl
theorem lk_X5_count_4 : Cond.fieldLink RX5 54 "NoteThemes" "names" "LNoteThemes$Names;" ∈ wsX5_count := List.mem_of_getElem? (i := 4) rfl
theorem lk_X5_count_5 : Cond.fieldLink RX5 200 "NoteThemes$Board" "settings" "[I" ∈ wsX5_count := List.mem_of_getElem? (i := 5) rfl
theorem lk_X5_count_6 : Cond.fieldLink RX5 19 "NoteThemes" "history" "LNoteThemes$History;" ∈ wsX5_count := List.mem_of_getElem? (i := 6) rfl
theorem lk_X5_count_7 : Cond.fieldLink RX5 203 "NoteThemes$History" "states" "I" ∈ wsX5_count := List.mem_of_getElem? (i := 7) rfl
theorem lk_X5_count_8 : Cond.fieldLink RX5 34 "NoteThemes" "textLength" "I" ∈ wsX5_count := List.mem_of_getElem? (i := 8) rfl
def f_X5_count (N : Nat) (Tn : tS) (B : tS) (Hs : tH) (E : tS) (Nm : tS) (p0 : Int32) : Option (Int32 × tS × tS) := (if p0 = (0 : Int32) then some ((B 0 0), E, Nm) else (if p0 = (1 : Int32) then (bd2 (f_X5_findHeaps N Tn B E) (fun r1 E1 => some (r1, E1, Nm))) else (if p0 = (2 : Int32) then some ((B 5 0), E, Nm) else (if p0 = (3 : Int32) then (bd (f_X0_allDotsStuck N B) (fun r2 => some (r2, E, Nm))) else (if p0 = (4 : Int32) then (bd (f_X0_allDotsLeft N B) (fun r3 => some (r3, E, Nm))) else (if p0 = (5 : Int32) then (bd (f_X0_notesOfTheme N B (-5 : Int32)) (fun r4 => some (r4, E, Nm))) else (if p0 = (6 : Int32) then (bd2 (f_X4_choose N Nm B) (fun r5 Nm5 => some (r5, E, Nm5))) else (if p0 = (7 : Int32) then (bd2 (f_X5_notesAlone N Tn B E) (fun r6 E6 => some (r6, E6, Nm))) else (if p0 = (8 : Int32) then (if (p0 - (8 : Int32)) < 0 ∨ 3 ≤ (p0 - (8 : Int32)).toNatClampNeg then none else some ((B 7 (p0 - (8 : Int32)).toNatClampNeg), E, Nm)) else (if p0 = (9 : Int32) then (if (p0 - (8 : Int32)) < 0 ∨ 3 ≤ (p0 - (8 : Int32)).toNatClampNeg then none else some ((B 7 (p0 - (8 : Int32)).toNatClampNeg), E, Nm)) else (if p0 = (10 : Int32) then (if (p0 - (8 : Int32)) < 0 ∨ 3 ≤ (p0 - (8 : Int32)).toNatClampNeg then none else some ((B 7 (p0 - (8 : Int32)).toNatClampNeg), E, Nm)) else (if p0 = (11 : Int32) then some ((Hs.1), E, Nm) else (if p0 = (12 : Int32) then some ((Tn 5 0), E, Nm) else some ((-2 : Int32), E, Nm))))))))))))))
set_option maxRecDepth 100000 in
set_option maxHeartbeats 4000000 in
theorem B_X5_count {X : gX} (C : cx X RX5 cX5_count 2 (some .int) wsX5_count 5 113) (pa : Nat → Nat → Nat) (N : Nat) (Tn : tS) (B : tS) (Hs : tH) (E : tS) (Nm : tS) (p0 : Int32) (r : Int32) (Ez : tS) (Nmz : tS) (h : f_X5_count N Tn B Hs E Nm p0 = some (r, Ez, Nmz)) : G X (QI X r [ntW pa Tn, bdW (gcA X) (pa 1) B, hsW (gcA X) (pa 2) (fun j => pa (10 + j)) Hs, heW (gcA X) (pa 6) Ez, nmW (gcA X) (pa 8) Nmz]) [ntW pa Tn, bdW (gcA X) (pa 1) B, hsW (gcA X) (pa 2) (fun j => pa (10 + j)) Hs, heW (gcA X) (pa 6) E, nmW (gcA X) (pa 8) Nm] [some (.ref (pa 0 0)), some (.int p0)] [] 0 := by
  unfold f_X5_count at h
  refine g_iload_n (pc' := 1) C dX5_count_0 rfl rfl ?_
  refine oif h (fun c h => ?_) (fun c0 h => ?_)
  · refine g_tabIn (pc' := 68) (off := 67) C dX5_count_1 (by rw [c] <;> decide) (by rw [c] <;> decide) (by rw [c] <;> decide) (by decide) ?_
    refine g_aload_n (pc' := 69) C dX5_count_68 rfl rfl ?_
    refine gg_X5_0 (pc' := 72) (i := 0) C rfl hi_X5_count_X5 lk_X5_count_1 dX5_count_69 rfl ?_
    refine gg_X0_0 (pc' := 75) (i := 1) C rfl hi_X5_count_X0 lk_X5_count_2 dX5_count_72 rfl ?_
    obtain ⟨rfl, rfl, rfl⟩ := pj3 (Option.some.inj h)
    exact g_iret C dX5_count_75
  refine oif h (fun c h => ?_) (fun c1 h => ?_)
  · refine g_tabIn (pc' := 76) (off := 75) C dX5_count_1 (by rw [c] <;> decide) (by rw [c] <;> decide) (by rw [c] <;> decide) (by decide) ?_
    refine g_aload_n (pc' := 77) C dX5_count_76 rfl rfl ?_
    refine k_X5_findHeaps (pc' := 80) C pa N Tn B E [0, 1, 3] rfl (by decide) gX5_count_X5_findHeaps ⟨Nat.le_of_ble_eq_true rfl, Nat.le_of_ble_eq_true rfl⟩ (Nat.le_of_ble_eq_true rfl) rfl dX5_count_77 rfl h (fun r1 E1 h => ?_)
    show G X _ [ntW pa Tn, bdW (gcA X) (pa 1) B, hsW (gcA X) (pa 2) (fun j => pa (10 + j)) Hs, heW (gcA X) (pa 6) E1, nmW (gcA X) (pa 8) Nm] _ _ _
    obtain ⟨rfl, rfl, rfl⟩ := pj3 (Option.some.inj h)
    exact g_iret C dX5_count_80
  refine oif h (fun c h => ?_) (fun c2 h => ?_)
  · refine g_tabIn (pc' := 81) (off := 80) C dX5_count_1 (by rw [c] <;> decide) (by rw [c] <;> decide) (by rw [c] <;> decide) (by decide) ?_
    refine g_aload_n (pc' := 82) C dX5_count_81 rfl rfl ?_
    refine gg_X5_0 (pc' := 85) (i := 0) C rfl hi_X5_count_X5 lk_X5_count_1 dX5_count_82 rfl ?_
    refine gg_X0_5 (pc' := 88) (i := 1) C rfl hi_X5_count_X0 lk_X5_count_3 dX5_count_85 rfl ?_
    obtain ⟨rfl, rfl, rfl⟩ := pj3 (Option.some.inj h)
    exact g_iret C dX5_count_88
  refine oif h (fun c h => ?_) (fun c3 h => ?_)
  · refine g_tabIn (pc' := 89) (off := 88) C dX5_count_1 (by rw [c] <;> decide) (by rw [c] <;> decide) (by rw [c] <;> decide) (by decide) ?_
    refine g_aload_n (pc' := 90) C dX5_count_89 rfl rfl ?_
    refine gg_X5_0 (pc' := 93) (i := 0) C rfl hi_X5_count_X5 lk_X5_count_1 dX5_count_90 rfl ?_
    refine k_X0_allDotsStuck (pc' := 96) C (pa 1) N B [1] rfl (by decide) gX5_count_X0_allDotsStuck ⟨Nat.le_of_ble_eq_true rfl, Nat.le_of_ble_eq_true rfl⟩ (Nat.le_of_ble_eq_true rfl) rfl dX5_count_93 rfl h (fun r2 h => ?_)
    obtain ⟨rfl, rfl, rfl⟩ := pj3 (Option.some.inj h)
    exact g_iret C dX5_count_96
  refine oif h (fun c h => ?_) (fun c4 h => ?_)
  · refine g_tabIn (pc' := 97) (off := 96) C dX5_count_1 (by rw [c] <;> decide) (by rw [c] <;> decide) (by rw [c] <;> decide) (by decide) ?_
    refine g_aload_n (pc' := 98) C dX5_count_97 rfl rfl ?_
    refine gg_X5_0 (pc' := 101) (i := 0) C rfl hi_X5_count_X5 lk_X5_count_1 dX5_count_98 rfl ?_
    refine k_X0_allDotsLeft (pc' := 104) C (pa 1) N B [1] rfl (by decide) gX5_count_X0_allDotsLeft ⟨Nat.le_of_ble_eq_true rfl, Nat.le_of_ble_eq_true rfl⟩ (Nat.le_of_ble_eq_true rfl) rfl dX5_count_101 rfl h (fun r3 h => ?_)
    obtain ⟨rfl, rfl, rfl⟩ := pj3 (Option.some.inj h)
    exact g_iret C dX5_count_104
  refine oif h (fun c h => ?_) (fun c5 h => ?_)
  · refine g_tabIn (pc' := 105) (off := 104) C dX5_count_1 (by rw [c] <;> decide) (by rw [c] <;> decide) (by rw [c] <;> decide) (by decide) ?_
    refine g_aload_n (pc' := 106) C dX5_count_105 rfl rfl ?_
    refine gg_X5_0 (pc' := 109) (i := 0) C rfl hi_X5_count_X5 lk_X5_count_1 dX5_count_106 rfl ?_
    refine g_bipush (pc' := 111) (v := -5) C dX5_count_109 (by decide) rfl ?_
    refine k_X0_notesOfTheme (pc' := 114) C (pa 1) N B (-5 : Int32) [1] rfl (by decide) gX5_count_X0_notesOfTheme ⟨Nat.le_of_ble_eq_true rfl, Nat.le_of_ble_eq_true rfl⟩ (Nat.le_of_ble_eq_true rfl) rfl dX5_count_111 rfl h (fun r4 h => ?_)
    obtain ⟨rfl, rfl, rfl⟩ := pj3 (Option.some.inj h)
    exact g_iret C dX5_count_114
  refine oif h (fun c h => ?_) (fun c6 h => ?_)
  · refine g_tabIn (pc' := 115) (off := 114) C dX5_count_1 (by rw [c] <;> decide) (by rw [c] <;> decide) (by rw [c] <;> decide) (by decide) ?_
    refine g_aload_n (pc' := 116) C dX5_count_115 rfl rfl ?_
    refine gg_X5_9 (pc' := 119) (i := 0) C rfl hi_X5_count_X5 lk_X5_count_4 dX5_count_116 rfl ?_
    refine g_aload_n (pc' := 120) C dX5_count_119 rfl rfl ?_
    refine gg_X5_0 (pc' := 123) (i := 0) C rfl hi_X5_count_X5 lk_X5_count_1 dX5_count_120 rfl ?_
    refine k_X4_choose (pc' := 126) C (pa 8) (pa 1) N Nm B [4, 1] rfl (by decide) gX5_count_X4_choose ⟨Nat.le_of_ble_eq_true rfl, Nat.le_of_ble_eq_true rfl⟩ (Nat.le_of_ble_eq_true rfl) rfl dX5_count_123 rfl h (fun r5 Nm5 h => ?_)
    show G X _ [ntW pa Tn, bdW (gcA X) (pa 1) B, hsW (gcA X) (pa 2) (fun j => pa (10 + j)) Hs, heW (gcA X) (pa 6) E, nmW (gcA X) (pa 8) Nm5] _ _ _
    obtain ⟨rfl, rfl, rfl⟩ := pj3 (Option.some.inj h)
    exact g_iret C dX5_count_126
  refine oif h (fun c h => ?_) (fun c7 h => ?_)
  · refine g_tabIn (pc' := 127) (off := 126) C dX5_count_1 (by rw [c] <;> decide) (by rw [c] <;> decide) (by rw [c] <;> decide) (by decide) ?_
    refine g_aload_n (pc' := 128) C dX5_count_127 rfl rfl ?_
    refine k_X5_notesAlone (pc' := 131) C pa N Tn B E [0, 1, 3] rfl (by decide) gX5_count_X5_notesAlone ⟨Nat.le_of_ble_eq_true rfl, Nat.le_of_ble_eq_true rfl⟩ (Nat.le_of_ble_eq_true rfl) rfl dX5_count_128 rfl h (fun r6 E6 h => ?_)
    show G X _ [ntW pa Tn, bdW (gcA X) (pa 1) B, hsW (gcA X) (pa 2) (fun j => pa (10 + j)) Hs, heW (gcA X) (pa 6) E6, nmW (gcA X) (pa 8) Nm] _ _ _
    obtain ⟨rfl, rfl, rfl⟩ := pj3 (Option.some.inj h)
    exact g_iret C dX5_count_131
  refine oif h (fun c h => ?_) (fun c8 h => ?_)
  · refine g_tabIn (pc' := 132) (off := 131) C dX5_count_1 (by rw [c] <;> decide) (by rw [c] <;> decide) (by rw [c] <;> decide) (by decide) ?_
    refine g_aload_n (pc' := 133) C dX5_count_132 rfl rfl ?_
    refine gg_X5_0 (pc' := 136) (i := 0) C rfl hi_X5_count_X5 lk_X5_count_1 dX5_count_133 rfl ?_
    refine gg_X0_7 (pc' := 139) (i := 1) C rfl hi_X5_count_X0 lk_X5_count_5 dX5_count_136 rfl ?_
    refine g_iload_n (pc' := 140) C dX5_count_139 rfl rfl ?_
    refine g_bipush (pc' := 142) (v := 8) C dX5_count_140 (by decide) rfl ?_
    refine g_isub (pc' := 143) C dX5_count_142 rfl ?_
    refine g_iald (pc' := 144) (i := 1) (j := 6) C rfl rfl dX5_count_143 rfl h (fun h => ?_)
    obtain ⟨rfl, rfl, rfl⟩ := pj3 (Option.some.inj h)
    exact g_iret C dX5_count_144
  refine oif h (fun c h => ?_) (fun c9 h => ?_)
  · refine g_tabIn (pc' := 132) (off := 131) C dX5_count_1 (by rw [c] <;> decide) (by rw [c] <;> decide) (by rw [c] <;> decide) (by decide) ?_
    refine g_aload_n (pc' := 133) C dX5_count_132 rfl rfl ?_
    refine gg_X5_0 (pc' := 136) (i := 0) C rfl hi_X5_count_X5 lk_X5_count_1 dX5_count_133 rfl ?_
    refine gg_X0_7 (pc' := 139) (i := 1) C rfl hi_X5_count_X0 lk_X5_count_5 dX5_count_136 rfl ?_
    refine g_iload_n (pc' := 140) C dX5_count_139 rfl rfl ?_
    refine g_bipush (pc' := 142) (v := 8) C dX5_count_140 (by decide) rfl ?_
    refine g_isub (pc' := 143) C dX5_count_142 rfl ?_
    refine g_iald (pc' := 144) (i := 1) (j := 6) C rfl rfl dX5_count_143 rfl h (fun h => ?_)
    obtain ⟨rfl, rfl, rfl⟩ := pj3 (Option.some.inj h)
    exact g_iret C dX5_count_144
  refine oif h (fun c h => ?_) (fun c10 h => ?_)
  · refine g_tabIn (pc' := 132) (off := 131) C dX5_count_1 (by rw [c] <;> decide) (by rw [c] <;> decide) (by rw [c] <;> decide) (by decide) ?_
    refine g_aload_n (pc' := 133) C dX5_count_132 rfl rfl ?_
    refine gg_X5_0 (pc' := 136) (i := 0) C rfl hi_X5_count_X5 lk_X5_count_1 dX5_count_133 rfl ?_
    refine gg_X0_7 (pc' := 139) (i := 1) C rfl hi_X5_count_X0 lk_X5_count_5 dX5_count_136 rfl ?_
    refine g_iload_n (pc' := 140) C dX5_count_139 rfl rfl ?_
    refine g_bipush (pc' := 142) (v := 8) C dX5_count_140 (by decide) rfl ?_
    refine g_isub (pc' := 143) C dX5_count_142 rfl ?_
    refine g_iald (pc' := 144) (i := 1) (j := 6) C rfl rfl dX5_count_143 rfl h (fun h => ?_)
    obtain ⟨rfl, rfl, rfl⟩ := pj3 (Option.some.inj h)
    exact g_iret C dX5_count_144
  refine oif h (fun c h => ?_) (fun c11 h => ?_)
  · refine g_tabIn (pc' := 145) (off := 144) C dX5_count_1 (by rw [c] <;> decide) (by rw [c] <;> decide) (by rw [c] <;> decide) (by decide) ?_
    refine g_aload_n (pc' := 146) C dX5_count_145 rfl rfl ?_
    refine gg_X5_1 (pc' := 149) (i := 0) C rfl hi_X5_count_X5 lk_X5_count_6 dX5_count_146 rfl ?_
    refine gg_X3_0 (pc' := 152) (i := 2) C rfl hi_X5_count_X3 lk_X5_count_7 dX5_count_149 rfl ?_
    obtain ⟨rfl, rfl, rfl⟩ := pj3 (Option.some.inj h)
    exact g_iret C dX5_count_152
  refine oif h (fun c h => ?_) (fun c12 h => ?_)
  · refine g_tabIn (pc' := 153) (off := 152) C dX5_count_1 (by rw [c] <;> decide) (by rw [c] <;> decide) (by rw [c] <;> decide) (by decide) ?_
    refine g_aload_n (pc' := 154) C dX5_count_153 rfl rfl ?_
    refine gg_X5_5 (pc' := 157) (i := 0) C rfl hi_X5_count_X5 lk_X5_count_8 dX5_count_154 rfl ?_
    obtain ⟨rfl, rfl, rfl⟩ := pj3 (Option.some.inj h)
    exact g_iret C dX5_count_157
  have e0 := lv_neT (a := 0) c0 (by decide)
  have e1 := lv_neT (a := 1) c1 (by decide)
  have e2 := lv_neT (a := 2) c2 (by decide)
  have e3 := lv_neT (a := 3) c3 (by decide)
  have e4 := lv_neT (a := 4) c4 (by decide)
  have e5 := lv_neT (a := 5) c5 (by decide)
  have e6 := lv_neT (a := 6) c6 (by decide)
  have e7 := lv_neT (a := 7) c7 (by decide)
  have e8 := lv_neT (a := 8) c8 (by decide)
  have e9 := lv_neT (a := 9) c9 (by decide)
  have e10 := lv_neT (a := 10) c10 (by decide)
  have e11 := lv_neT (a := 11) c11 (by decide)
  have e12 := lv_neT (a := 12) c12 (by decide)
  refine g_tabOut (pc' := 158) C dX5_count_1 (by omega) (by decide) ?_
  refine g_bipush (pc' := 160) (v := -2) C dX5_count_158 (by decide) rfl ?_
  obtain ⟨rfl, rfl, rfl⟩ := pj3 (Option.some.inj h)
  exact g_iret C dX5_count_160
set_option maxRecDepth 100000 in
set_option maxHeartbeats 4000000 in
theorem c_X5_count (l : Launch) (D : va_G) (cA : Nat → ClassId) (pa : Nat → Nat → Nat) (N : Nat) (Tn : tS) (B : tS) (Hs : tH) (E : tS) (Nm : tS) (p0 : Int32) (r : Int32) (Ez : tS) (Nmz : tS) (h : f_X5_count N Tn B Hs E Nm p0 = some (r, Ez, Nmz)) : MI l D cA yX5_count wsX5_count 5 113 [.ref (pa 0 0), .int p0] [ntW pa Tn, bdW cA (pa 1) B, hsW cA (pa 2) (fun j => pa (10 + j)) Hs, heW cA (pa 6) E, nmW cA (pa 8) Nm] r [ntW pa Tn, bdW cA (pa 1) B, hsW cA (pa 2) (fun j => pa (10 + j)) Hs, heW cA (pa 6) Ez, nmW cA (pa 8) Nmz] := MI_of (cc := cX5_count) (maxL := 2) (rt := some .int) (by decide +kernel) rfl (List.forall_mem_cons.mpr ⟨rfl, List.forall_mem_cons.mpr ⟨rfl, List.forall_mem_nil _⟩⟩) (Nat.le_of_ble_eq_true rfl) (fun X e1 e2 e3 C => by subst e1; subst e2; subst e3; exact B_X5_count C pa N Tn B Hs E Nm p0 r Ez Nmz h)
set_option maxRecDepth 100000 in
set_option maxHeartbeats 4000000 in
theorem nd_X5_count : nd yX5_count 1 := ⟨by decide +kernel, by decide +kernel, by decide +kernel⟩
set_option maxRecDepth 100000 in
set_option maxHeartbeats 4000000 in
theorem k_X5_count {X : gX} {own : String} {cc : ByteArray} {nL : Nat} {ret : Option FieldType} {Ts : List Cond} {fr lm : Nat} {Q : State → Prop} {ms : List va_W} {L : List (Option Value)} {st : List Value} {pc pc' idx : Nat} {ρ : Type} {T : Int32 → tS → tS → Option ρ} {res : ρ} (C : cx X own cc nL ret Ts fr lm) (pa : Nat → Nat → Nat) (N : Nat) (Tn : tS) (B : tS) (Hs : tH) (E : tS) (Nm : tS) (p0 : Int32) (is : List Nat) (hC : is.map (fun i => ms[i]?) = [some (ntW pa Tn), some (bdW (gcA X) (pa 1) B), some (hsW (gcA X) (pa 2) (fun j => pa (10 + j)) Hs), some (heW (gcA X) (pa 6) E), some (nmW (gcA X) (pa 8) Nm)]) (hn : is.Nodup) (hG : GoodIn Ts (wsV own idx RX5 yX5_count wsX5_count)) (hR : 5 + 1 ≤ fr ∧ 8 + (2 + 11) + 113 ≤ lm) (hst : (st.map fun v => v.category).sum ≤ 8) (hLn : L.length = nL) (d : decode cc pc = .ok (.invokevirtual idx, 3)) (hp : pc + 3 = pc') (h : bd3 (f_X5_count N Tn B Hs E Nm p0) T = some res) (kk : ∀ (r : Int32) (Ez : tS) (Nmz : tS), T r Ez Nmz = some res → G X Q (rpl ms is [ntW pa Tn, bdW (gcA X) (pa 1) B, hsW (gcA X) (pa 2) (fun j => pa (10 + j)) Hs, heW (gcA X) (pa 6) Ez, nmW (gcA X) (pa 8) Nmz]) L (.int r :: st) pc') : G X Q ms L (.int p0 :: .ref (pa 0 0) :: st) pc := by
  obtain ⟨r, Ez, Nmz, h1, h⟩ := ob3 h
  exact G_callVI C (As := [.int p0]) (c_X5_count (gl X) (gD X) (gcA X) pa N Tn B Hs E Nm p0 r Ez Nmz h1) hG rfl nd_X5_count hR (q0 := 0) rfl rfl hC hn rfl rfl hst hLn d hp (kk r Ez Nmz h)
