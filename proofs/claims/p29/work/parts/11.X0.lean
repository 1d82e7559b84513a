theorem hi_X0_moveNote_X0 : ∀ w ∈ wsX00, w ∈ wsX0_moveNote := fun w h => List.mem_cons_of_mem _ (List.mem_append_right _ h)
theorem lk_X0_moveNote_1 : Cond.fieldLink RX0 15 "NoteThemes$Board" "columnOf" "[I" ∈ wsX0_moveNote := List.mem_of_getElem? (i := 1) rfl
theorem lk_X0_moveNote_2 : Cond.fieldLink RX0 19 "NoteThemes$Board" "rowOf" "[I" ∈ wsX0_moveNote := List.mem_of_getElem? (i := 2) rfl
def f_X0_moveNote (N : Nat) (B : tS) (p0 : Int32) (p1 : Int32) (p2 : Int32) : Option (tS) := (if p0 < 0 ∨ 20 ≤ p0.toNatClampNeg then none else (if p0 < 0 ∨ 20 ≤ p0.toNatClampNeg then none else some (va_up (va_up B 1 (upd (B 1) p0.toNatClampNeg p1)) 2 (upd (B 2) p0.toNatClampNeg p2))))
set_option maxRecDepth 100000 in
set_option maxHeartbeats 4000000 in
theorem B_X0_moveNote {X : gX} (C : cx X RX0 cX0_moveNote 4 none wsX0_moveNote 0 0) (a : Nat → Nat) (N : Nat) (B : tS) (p0 : Int32) (p1 : Int32) (p2 : Int32) (Bz : tS) (h : f_X0_moveNote N B p0 p1 p2 = some Bz) : G X (QV X [bdW (gcA X) a Bz]) [bdW (gcA X) a B] [some (.ref (a 0)), some (.int p0), some (.int p1), some (.int p2)] [] 0 := by
  unfold f_X0_moveNote at h
  refine g_aload_n (pc' := 1) C dX0_moveNote_0 rfl rfl ?_
  refine gg_X0_1 (pc' := 4) (i := 0) C rfl hi_X0_moveNote_X0 lk_X0_moveNote_1 dX0_moveNote_1 rfl ?_
  refine g_iload_n (pc' := 5) C dX0_moveNote_4 rfl rfl ?_
  refine g_iload_n (pc' := 6) C dX0_moveNote_5 rfl rfl ?_
  refine g_iast (pc' := 7) (i := 0) (j := 1) (w' := bdW (gcA X) a (va_up B 1 (upd (B 1) p0.toNatClampNeg p1))) C rfl rfl rfl dX0_moveNote_6 rfl h (fun h => ?_)
  show G X _ [bdW (gcA X) a (va_up B 1 (upd (B 1) p0.toNatClampNeg p1))] _ _ _
  refine g_aload_n (pc' := 8) C dX0_moveNote_7 rfl rfl ?_
  refine gg_X0_2 (pc' := 11) (i := 0) C rfl hi_X0_moveNote_X0 lk_X0_moveNote_2 dX0_moveNote_8 rfl ?_
  refine g_iload_n (pc' := 12) C dX0_moveNote_11 rfl rfl ?_
  refine g_iload_n (pc' := 13) C dX0_moveNote_12 rfl rfl ?_
  refine g_iast (pc' := 14) (i := 0) (j := 2) (w' := bdW (gcA X) a (va_up (va_up B 1 (upd (B 1) p0.toNatClampNeg p1)) 2 (upd (B 2) p0.toNatClampNeg p2))) C rfl rfl rfl dX0_moveNote_13 rfl h (fun h => ?_)
  show G X _ [bdW (gcA X) a (va_up (va_up B 1 (upd (B 1) p0.toNatClampNeg p1)) 2 (upd (B 2) p0.toNatClampNeg p2))] _ _ _
  obtain rfl := Option.some.inj h
  exact g_vret C dX0_moveNote_14
set_option maxRecDepth 100000 in
set_option maxHeartbeats 4000000 in
theorem c_X0_moveNote (l : Launch) (D : va_G) (cA : Nat → ClassId) (a : Nat → Nat) (N : Nat) (B : tS) (p0 : Int32) (p1 : Int32) (p2 : Int32) (Bz : tS) (h : f_X0_moveNote N B p0 p1 p2 = some Bz) : MV l D cA yX0_moveNote wsX0_moveNote 0 0 [.ref (a 0), .int p0, .int p1, .int p2] [bdW cA a B]  [bdW cA a Bz] := MV_of (cc := cX0_moveNote) (maxL := 4) (by decide +kernel) rfl (List.forall_mem_cons.mpr ⟨rfl, List.forall_mem_cons.mpr ⟨rfl, List.forall_mem_cons.mpr ⟨rfl, List.forall_mem_cons.mpr ⟨rfl, List.forall_mem_nil _⟩⟩⟩⟩) (Nat.le_of_ble_eq_true rfl) (fun X e1 e2 e3 C => by subst e1; subst e2; subst e3; exact B_X0_moveNote C a N B p0 p1 p2 Bz h)
set_option maxRecDepth 100000 in
set_option maxHeartbeats 4000000 in
theorem nd_X0_moveNote : nd yX0_moveNote 3 := ⟨by decide +kernel, by decide +kernel, by decide +kernel⟩
set_option maxRecDepth 100000 in
set_option maxHeartbeats 4000000 in
theorem k_X0_moveNote {X : gX} {own : String} {cc : ByteArray} {nL : Nat} {ret : Option FieldType} {Ts : List Cond} {fr lm : Nat} {Q : State → Prop} {ms : List va_W} {L : List (Option Value)} {st : List Value} {pc pc' idx : Nat} {ρ : Type} {T : tS → Option ρ} {res : ρ} (C : cx X own cc nL ret Ts fr lm) (a : Nat → Nat) (N : Nat) (B : tS) (p0 : Int32) (p1 : Int32) (p2 : Int32) (is : List Nat) (hC : is.map (fun i => ms[i]?) = [some (bdW (gcA X) a B)]) (hn : is.Nodup) (hG : GoodIn Ts (wsV own idx RX0 yX0_moveNote wsX0_moveNote)) (hR : 0 + 1 ≤ fr ∧ 8 + (4 + 11) + 0 ≤ lm) (hst : (st.map fun v => v.category).sum ≤ 8) (hLn : L.length = nL) (d : decode cc pc = .ok (.invokevirtual idx, 3)) (hp : pc + 3 = pc') (h : bd (f_X0_moveNote N B p0 p1 p2) T = some res) (kk : ∀ (Bz : tS), T Bz = some res → G X Q (rpl ms is [bdW (gcA X) a Bz]) L (st) pc') : G X Q ms L (.int p2 :: .int p1 :: .int p0 :: .ref (a 0) :: st) pc := by
  obtain ⟨Bz, h1, h⟩ := ob h
  exact G_callVV C (As := [.int p0, .int p1, .int p2]) (c_X0_moveNote (gl X) (gD X) (gcA X) a N B p0 p1 p2 Bz h1) hG rfl nd_X0_moveNote hR (q0 := 0) rfl rfl hC hn rfl rfl hst hLn d hp (kk Bz h)
theorem hi_X0_addNote_X0 : ∀ w ∈ wsX00, w ∈ wsX0_addNote := fun w h => List.mem_cons_of_mem _ (List.mem_append_right _ h)
theorem lk_X0_addNote_1 : Cond.fieldLink RX0 9 "NoteThemes$Board" "notes" "I" ∈ wsX0_addNote := List.mem_of_getElem? (i := 1) rfl
theorem lk_X0_addNote_2 : Cond.fieldLink RX0 22 "NoteThemes$Board" "themeOf" "[I" ∈ wsX0_addNote := List.mem_of_getElem? (i := 2) rfl
theorem lk_X0_addNote_3 : Cond.fieldLink RX0 25 "NoteThemes$Board" "dotsAt" "[I" ∈ wsX0_addNote := List.mem_of_getElem? (i := 3) rfl
def f_X0_addNote_33b (N : Nat) (p0 : Int32) (p1 : Int32)  (k33 : Int32 → Int32 → tS → Option (tS)) (x3 : Int32) (x4 : Int32) (B : tS) : Option (tS) := (if (6 : Int32) ≤ x4 then some B else (if ((x3 * (6 : Int32)) + x4) < 0 ∨ 120 ≤ ((x3 * (6 : Int32)) + x4).toNatClampNeg then none else k33 x3 (x4 + 1) (va_up B 4 (upd (B 4) ((x3 * (6 : Int32)) + x4).toNatClampNeg (0 : Int32)))))
def f_X0_addNote_33 (N : Nat) (p0 : Int32) (p1 : Int32)  : Nat → Int32 → Int32 → tS → Option (tS)
  | 0 => fun _ _ _ => none
  | n + 1 => f_X0_addNote_33b N p0 p1  (f_X0_addNote_33 N p0 p1  n)
set_option maxRecDepth 100000 in
set_option maxHeartbeats 4000000 in
theorem B_X0_addNote_33b {X : gX} (C : cx X RX0 cX0_addNote 5 none wsX0_addNote 1 23) (a : Nat → Nat) (N : Nat) (p0 : Int32) (p1 : Int32) (Bz : tS)  (k33 : Int32 → Int32 → tS → Option (tS)) (hk33 : ∀ (x3 : Int32) (x4 : Int32) (B : tS), k33 x3 x4 B = some Bz → G X (QV X [bdW (gcA X) a Bz]) [bdW (gcA X) a B] [some (.ref (a 0)), some (.int p0), some (.int p1), some (.int x3), some (.int x4)] [] 33) (x3 : Int32) (x4 : Int32) (B : tS) (h : f_X0_addNote_33b N p0 p1  k33 x3 x4 B = some Bz) : G X (QV X [bdW (gcA X) a Bz]) [bdW (gcA X) a B] [some (.ref (a 0)), some (.int p0), some (.int p1), some (.int x3), some (.int x4)] [] 33 := by
  unfold f_X0_addNote_33b at h
  refine g_iload (pc' := 35) C dX0_addNote_33 rfl rfl ?_
  refine g_bipush (pc' := 37) (v := 6) C dX0_addNote_35 (by decide) rfl ?_
  refine g_icmp_ge (pc' := 40) (tgt := 59) C dX0_addNote_37 (by decide) rfl h (fun c h => ?_) (fun c h => ?_)
  · obtain rfl := Option.some.inj h
    exact g_vret C dX0_addNote_59
  · refine g_aload_n (pc' := 41) C dX0_addNote_40 rfl rfl ?_
    refine gg_X0_4 (pc' := 44) (i := 0) C rfl hi_X0_addNote_X0 lk_X0_addNote_3 dX0_addNote_41 rfl ?_
    refine g_iload_n (pc' := 45) C dX0_addNote_44 rfl rfl ?_
    refine g_bipush (pc' := 47) (v := 6) C dX0_addNote_45 (by decide) rfl ?_
    refine g_imul (pc' := 48) C dX0_addNote_47 rfl ?_
    refine g_iload (pc' := 50) C dX0_addNote_48 rfl rfl ?_
    refine g_iadd (pc' := 51) C dX0_addNote_50 rfl ?_
    refine g_iconst (pc' := 52) (v := 0) C dX0_addNote_51 (by decide) rfl ?_
    refine g_iast (pc' := 53) (i := 0) (j := 4) (w' := bdW (gcA X) a (va_up B 4 (upd (B 4) ((x3 * (6 : Int32)) + x4).toNatClampNeg (0 : Int32)))) C rfl rfl rfl dX0_addNote_52 rfl h (fun h => ?_)
    show G X _ [bdW (gcA X) a (va_up B 4 (upd (B 4) ((x3 * (6 : Int32)) + x4).toNatClampNeg (0 : Int32)))] _ _ _
    refine g_iinc (pc' := 56) (v := (x4 + 1)) C dX0_addNote_53 rfl rfl rfl (L' := [some (.ref (a 0)), some (.int p0), some (.int p1), some (.int x3), some (.int (x4 + 1))]) rfl ?_
    refine g_goto (pc' := 33) C dX0_addNote_56 (by decide) ?_
    exact G_loc (lle_s (lle_s (lle_s (lle_s (lle_s lle_0))))) (hk33 x3 (x4 + 1) (va_up B 4 (upd (B 4) ((x3 * (6 : Int32)) + x4).toNatClampNeg (0 : Int32))) h)
set_option maxRecDepth 100000 in
set_option maxHeartbeats 4000000 in
theorem L_X0_addNote_33 {X : gX} (C : cx X RX0 cX0_addNote 5 none wsX0_addNote 1 23) (a : Nat → Nat) (N : Nat) (p0 : Int32) (p1 : Int32) (Bz : tS)  : ∀ (n : Nat) (x3 : Int32) (x4 : Int32) (B : tS), f_X0_addNote_33 N p0 p1  n x3 x4 B = some Bz → G X (QV X [bdW (gcA X) a Bz]) [bdW (gcA X) a B] [some (.ref (a 0)), some (.int p0), some (.int p1), some (.int x3), some (.int x4)] [] 33 := by
  intro n
  induction n with
  | zero => intro x3 x4 B h; have h : (none : Option (tS)) = some Bz := h; cases h
  | succ n ih => intro x3 x4 B h; exact B_X0_addNote_33b C a N p0 p1 Bz  (f_X0_addNote_33 N p0 p1  n) ih x3 x4 B h
def f_X0_addNote (N : Nat) (B : tS) (p0 : Int32) (p1 : Int32) : Option (tS) := (bd (f_X0_moveNote N (va_up B 0 (fun _ => ((B 0 0) + (1 : Int32)))) (B 0 0) p0 p1) (fun B1 => (if (B 0 0) < 0 ∨ 20 ≤ (B 0 0).toNatClampNeg then none else f_X0_addNote_33 N p0 p1 N (B 0 0) (0 : Int32) (va_up B1 3 (upd (B1 3) (B 0 0).toNatClampNeg (-5 : Int32))))))
set_option maxRecDepth 100000 in
set_option maxHeartbeats 4000000 in
theorem B_X0_addNote {X : gX} (C : cx X RX0 cX0_addNote 5 none wsX0_addNote 1 23) (a : Nat → Nat) (N : Nat) (B : tS) (p0 : Int32) (p1 : Int32) (Bz : tS) (h : f_X0_addNote N B p0 p1 = some Bz) : G X (QV X [bdW (gcA X) a Bz]) [bdW (gcA X) a B] [some (.ref (a 0)), some (.int p0), some (.int p1), none, none] [] 0 := by
  unfold f_X0_addNote at h
  refine g_aload_n (pc' := 1) C dX0_addNote_0 rfl rfl ?_
  refine gg_X0_0 (pc' := 4) (i := 0) C rfl hi_X0_addNote_X0 lk_X0_addNote_1 dX0_addNote_1 rfl ?_
  refine g_istore_n (pc' := 5) C dX0_addNote_4 (Nat.le_of_ble_eq_true rfl) rfl (L' := [some (.ref (a 0)), some (.int p0), some (.int p1), some (.int (B 0 0)), none]) rfl ?_
  refine g_aload_n (pc' := 6) C dX0_addNote_5 rfl rfl ?_
  refine g_dup (pc' := 7) C dX0_addNote_6 rfl rfl ?_
  refine gg_X0_0 (pc' := 10) (i := 0) C rfl hi_X0_addNote_X0 lk_X0_addNote_1 dX0_addNote_7 rfl ?_
  refine g_iconst (pc' := 11) (v := 1) C dX0_addNote_10 (by decide) rfl ?_
  refine g_iadd (pc' := 12) C dX0_addNote_11 rfl ?_
  refine gp_X0_0 (pc' := 15) (i := 0) C rfl hi_X0_addNote_X0 lk_X0_addNote_1 dX0_addNote_12 rfl ?_
  show G X _ [bdW (gcA X) a (va_up B 0 (fun _ => ((B 0 0) + (1 : Int32))))] _ _ _
  refine g_aload_n (pc' := 16) C dX0_addNote_15 rfl rfl ?_
  refine g_iload_n (pc' := 17) C dX0_addNote_16 rfl rfl ?_
  refine g_iload_n (pc' := 18) C dX0_addNote_17 rfl rfl ?_
  refine g_iload_n (pc' := 19) C dX0_addNote_18 rfl rfl ?_
  refine k_X0_moveNote (pc' := 22) C a N (va_up B 0 (fun _ => ((B 0 0) + (1 : Int32)))) (B 0 0) p0 p1 [0] rfl (by decide) gX0_addNote_X0_moveNote ⟨Nat.le_of_ble_eq_true rfl, Nat.le_of_ble_eq_true rfl⟩ (Nat.le_of_ble_eq_true rfl) rfl dX0_addNote_19 rfl h (fun B1 h => ?_)
  show G X _ [bdW (gcA X) a B1] _ _ _
  refine g_aload_n (pc' := 23) C dX0_addNote_22 rfl rfl ?_
  refine gg_X0_3 (pc' := 26) (i := 0) C rfl hi_X0_addNote_X0 lk_X0_addNote_2 dX0_addNote_23 rfl ?_
  refine g_iload_n (pc' := 27) C dX0_addNote_26 rfl rfl ?_
  refine g_bipush (pc' := 29) (v := -5) C dX0_addNote_27 (by decide) rfl ?_
  refine g_iast (pc' := 30) (i := 0) (j := 3) (w' := bdW (gcA X) a (va_up B1 3 (upd (B1 3) (B 0 0).toNatClampNeg (-5 : Int32)))) C rfl rfl rfl dX0_addNote_29 rfl h (fun h => ?_)
  show G X _ [bdW (gcA X) a (va_up B1 3 (upd (B1 3) (B 0 0).toNatClampNeg (-5 : Int32)))] _ _ _
  refine g_iconst (pc' := 31) (v := 0) C dX0_addNote_30 (by decide) rfl ?_
  refine g_istore (pc' := 33) C dX0_addNote_31 (Nat.le_of_ble_eq_true rfl) rfl (L' := [some (.ref (a 0)), some (.int p0), some (.int p1), some (.int (B 0 0)), some (.int (0 : Int32))]) rfl ?_
  exact G_loc (lle_s (lle_s (lle_s (lle_s (lle_s lle_0))))) (L_X0_addNote_33 C a N p0 p1 Bz N (B 0 0) (0 : Int32) (va_up B1 3 (upd (B1 3) (B 0 0).toNatClampNeg (-5 : Int32))) h)
set_option maxRecDepth 100000 in
set_option maxHeartbeats 4000000 in
theorem c_X0_addNote (l : Launch) (D : va_G) (cA : Nat → ClassId) (a : Nat → Nat) (N : Nat) (B : tS) (p0 : Int32) (p1 : Int32) (Bz : tS) (h : f_X0_addNote N B p0 p1 = some Bz) : MV l D cA yX0_addNote wsX0_addNote 1 23 [.ref (a 0), .int p0, .int p1] [bdW cA a B]  [bdW cA a Bz] := MV_of (cc := cX0_addNote) (maxL := 5) (by decide +kernel) rfl (List.forall_mem_cons.mpr ⟨rfl, List.forall_mem_cons.mpr ⟨rfl, List.forall_mem_cons.mpr ⟨rfl, List.forall_mem_nil _⟩⟩⟩) (Nat.le_of_ble_eq_true rfl) (fun X e1 e2 e3 C => by subst e1; subst e2; subst e3; exact B_X0_addNote C a N B p0 p1 Bz h)
set_option maxRecDepth 100000 in
set_option maxHeartbeats 4000000 in
theorem nd_X0_addNote : nd yX0_addNote 2 := ⟨by decide +kernel, by decide +kernel, by decide +kernel⟩
set_option maxRecDepth 100000 in
set_option maxHeartbeats 4000000 in
theorem k_X0_addNote {X : gX} {own : String} {cc : ByteArray} {nL : Nat} {ret : Option FieldType} {Ts : List Cond} {fr lm : Nat} {Q : State → Prop} {ms : List va_W} {L : List (Option Value)} {st : List Value} {pc pc' idx : Nat} {ρ : Type} {T : tS → Option ρ} {res : ρ} (C : cx X own cc nL ret Ts fr lm) (a : Nat → Nat) (N : Nat) (B : tS) (p0 : Int32) (p1 : Int32) (is : List Nat) (hC : is.map (fun i => ms[i]?) = [some (bdW (gcA X) a B)]) (hn : is.Nodup) (hG : GoodIn Ts (wsV own idx RX0 yX0_addNote wsX0_addNote)) (hR : 1 + 1 ≤ fr ∧ 8 + (5 + 11) + 23 ≤ lm) (hst : (st.map fun v => v.category).sum ≤ 8) (hLn : L.length = nL) (d : decode cc pc = .ok (.invokevirtual idx, 3)) (hp : pc + 3 = pc') (h : bd (f_X0_addNote N B p0 p1) T = some res) (kk : ∀ (Bz : tS), T Bz = some res → G X Q (rpl ms is [bdW (gcA X) a Bz]) L (st) pc') : G X Q ms L (.int p1 :: .int p0 :: .ref (a 0) :: st) pc := by
  obtain ⟨Bz, h1, h⟩ := ob h
  exact G_callVV C (As := [.int p0, .int p1]) (c_X0_addNote (gl X) (gD X) (gcA X) a N B p0 p1 Bz h1) hG rfl nd_X0_addNote hR (q0 := 0) rfl rfl hC hn rfl rfl hst hLn d hp (kk Bz h)
theorem hi_X0_copyFrom_X0 : ∀ w ∈ wsX00, w ∈ wsX0_copyFrom := fun w h => List.mem_cons_of_mem _ (List.mem_append_right _ h)
theorem lk_X0_copyFrom_1 : Cond.fieldLink RX0 9 "NoteThemes$Board" "notes" "I" ∈ wsX0_copyFrom := List.mem_of_getElem? (i := 1) rfl
theorem lk_X0_copyFrom_10 : Cond.fieldLink RX0 28 "NoteThemes$Board" "themes" "I" ∈ wsX0_copyFrom := List.mem_of_getElem? (i := 10) rfl
theorem lk_X0_copyFrom_11 : Cond.fieldLink RX0 31 "NoteThemes$Board" "votedAt" "[I" ∈ wsX0_copyFrom := List.mem_of_getElem? (i := 11) rfl
theorem lk_X0_copyFrom_12 : Cond.fieldLink RX0 34 "NoteThemes$Board" "settings" "[I" ∈ wsX0_copyFrom := List.mem_of_getElem? (i := 12) rfl
theorem lk_X0_copyFrom_2 : Cond.fieldLink RX0 15 "NoteThemes$Board" "columnOf" "[I" ∈ wsX0_copyFrom := List.mem_of_getElem? (i := 2) rfl
theorem lk_X0_copyFrom_3 : Cond.methodLink RX0 40 arraycopyName ∈ wsX0_copyFrom := List.mem_of_getElem? (i := 3) rfl
theorem lk_X0_copyFrom_4 : Cond.native arraycopyName ∈ wsX0_copyFrom := List.mem_of_getElem? (i := 4) rfl
theorem lk_X0_copyFrom_5 : Cond.static arraycopyName ∈ wsX0_copyFrom := List.mem_of_getElem? (i := 5) rfl
theorem lk_X0_copyFrom_6 : Cond.initialized "java/lang/System" ∈ wsX0_copyFrom := List.mem_of_getElem? (i := 6) rfl
theorem lk_X0_copyFrom_7 : Cond.fieldLink RX0 19 "NoteThemes$Board" "rowOf" "[I" ∈ wsX0_copyFrom := List.mem_of_getElem? (i := 7) rfl
theorem lk_X0_copyFrom_8 : Cond.fieldLink RX0 22 "NoteThemes$Board" "themeOf" "[I" ∈ wsX0_copyFrom := List.mem_of_getElem? (i := 8) rfl
theorem lk_X0_copyFrom_9 : Cond.fieldLink RX0 25 "NoteThemes$Board" "dotsAt" "[I" ∈ wsX0_copyFrom := List.mem_of_getElem? (i := 9) rfl
def f_X0_copyFrom (N : Nat) (B : tS) (O : tS)  : Option (tS) := some (va_up (va_up (va_up (va_up (va_up (va_up (va_up (va_up B 0 (fun _ => (O 0 0))) 1 (va_cpy (O 1) (B 1) 0 0 (20 : Int32).toNatClampNeg)) 2 (va_cpy (O 2) (B 2) 0 0 (20 : Int32).toNatClampNeg)) 3 (va_cpy (O 3) (B 3) 0 0 (20 : Int32).toNatClampNeg)) 4 (va_cpy (O 4) (B 4) 0 0 (120 : Int32).toNatClampNeg)) 5 (fun _ => (O 5 0))) 6 (va_cpy (O 6) (B 6) 0 0 (48 : Int32).toNatClampNeg)) 7 (va_cpy (O 7) (B 7) 0 0 (3 : Int32).toNatClampNeg))
set_option maxRecDepth 100000 in
set_option maxHeartbeats 4000000 in
theorem B_X0_copyFrom {X : gX} (C : cx X RX0 cX0_copyFrom 2 none wsX0_copyFrom 1 26) (a : Nat → Nat) (b : Nat → Nat) (N : Nat) (B : tS) (O : tS)  (Bz : tS) (h : f_X0_copyFrom N B O = some Bz) : G X (QV X [bdW (gcA X) a Bz, bdW (gcA X) b O]) [bdW (gcA X) a B, bdW (gcA X) b O] [some (.ref (a 0)), some (.ref (b 0))] [] 0 := by
  unfold f_X0_copyFrom at h
  refine g_aload_n (pc' := 1) C dX0_copyFrom_0 rfl rfl ?_
  refine g_aload_n (pc' := 2) C dX0_copyFrom_1 rfl rfl ?_
  refine gg_X0_0 (pc' := 5) (i := 1) C rfl hi_X0_copyFrom_X0 lk_X0_copyFrom_1 dX0_copyFrom_2 rfl ?_
  refine gp_X0_0 (pc' := 8) (i := 0) C rfl hi_X0_copyFrom_X0 lk_X0_copyFrom_1 dX0_copyFrom_5 rfl ?_
  show G X _ [bdW (gcA X) a (va_up B 0 (fun _ => (O 0 0))), bdW (gcA X) b O] _ _ _
  refine g_aload_n (pc' := 9) C dX0_copyFrom_8 rfl rfl ?_
  refine gg_X0_1 (pc' := 12) (i := 1) C rfl hi_X0_copyFrom_X0 lk_X0_copyFrom_2 dX0_copyFrom_9 rfl ?_
  refine g_iconst (pc' := 13) (v := 0) C dX0_copyFrom_12 (by decide) rfl ?_
  refine g_aload_n (pc' := 14) C dX0_copyFrom_13 rfl rfl ?_
  refine gg_X0_1 (pc' := 17) (i := 0) C rfl hi_X0_copyFrom_X0 lk_X0_copyFrom_2 dX0_copyFrom_14 rfl ?_
  refine g_iconst (pc' := 18) (v := 0) C dX0_copyFrom_17 (by decide) rfl ?_
  refine g_bipush (pc' := 20) (v := 20) C dX0_copyFrom_18 (by decide) rfl ?_
  refine g_copy (pc' := 23) (i := 1) (j := 1) (i2 := 0) (j2 := 1) (w' := bdW (gcA X) a (va_up (va_up B 0 (fun _ => (O 0 0))) 1 (va_cpy (O 1) (B 1) 0 0 (20 : Int32).toNatClampNeg))) C rfl rfl rfl rfl rfl lk_X0_copyFrom_3 lk_X0_copyFrom_4 lk_X0_copyFrom_5 lk_X0_copyFrom_6 (by decide) (by decide) (by decide) ⟨Nat.le_of_ble_eq_true rfl, Nat.le_of_ble_eq_true rfl⟩ rfl dX0_copyFrom_20 rfl ?_
  show G X _ [bdW (gcA X) a (va_up (va_up B 0 (fun _ => (O 0 0))) 1 (va_cpy (O 1) (B 1) 0 0 (20 : Int32).toNatClampNeg)), bdW (gcA X) b O] _ _ _
  refine g_aload_n (pc' := 24) C dX0_copyFrom_23 rfl rfl ?_
  refine gg_X0_2 (pc' := 27) (i := 1) C rfl hi_X0_copyFrom_X0 lk_X0_copyFrom_7 dX0_copyFrom_24 rfl ?_
  refine g_iconst (pc' := 28) (v := 0) C dX0_copyFrom_27 (by decide) rfl ?_
  refine g_aload_n (pc' := 29) C dX0_copyFrom_28 rfl rfl ?_
  refine gg_X0_2 (pc' := 32) (i := 0) C rfl hi_X0_copyFrom_X0 lk_X0_copyFrom_7 dX0_copyFrom_29 rfl ?_
  refine g_iconst (pc' := 33) (v := 0) C dX0_copyFrom_32 (by decide) rfl ?_
  refine g_bipush (pc' := 35) (v := 20) C dX0_copyFrom_33 (by decide) rfl ?_
  refine g_copy (pc' := 38) (i := 1) (j := 2) (i2 := 0) (j2 := 2) (w' := bdW (gcA X) a (va_up (va_up (va_up B 0 (fun _ => (O 0 0))) 1 (va_cpy (O 1) (B 1) 0 0 (20 : Int32).toNatClampNeg)) 2 (va_cpy (O 2) (B 2) 0 0 (20 : Int32).toNatClampNeg))) C rfl rfl rfl rfl rfl lk_X0_copyFrom_3 lk_X0_copyFrom_4 lk_X0_copyFrom_5 lk_X0_copyFrom_6 (by decide) (by decide) (by decide) ⟨Nat.le_of_ble_eq_true rfl, Nat.le_of_ble_eq_true rfl⟩ rfl dX0_copyFrom_35 rfl ?_
  show G X _ [bdW (gcA X) a (va_up (va_up (va_up B 0 (fun _ => (O 0 0))) 1 (va_cpy (O 1) (B 1) 0 0 (20 : Int32).toNatClampNeg)) 2 (va_cpy (O 2) (B 2) 0 0 (20 : Int32).toNatClampNeg)), bdW (gcA X) b O] _ _ _
  refine g_aload_n (pc' := 39) C dX0_copyFrom_38 rfl rfl ?_
  refine gg_X0_3 (pc' := 42) (i := 1) C rfl hi_X0_copyFrom_X0 lk_X0_copyFrom_8 dX0_copyFrom_39 rfl ?_
  refine g_iconst (pc' := 43) (v := 0) C dX0_copyFrom_42 (by decide) rfl ?_
  refine g_aload_n (pc' := 44) C dX0_copyFrom_43 rfl rfl ?_
  refine gg_X0_3 (pc' := 47) (i := 0) C rfl hi_X0_copyFrom_X0 lk_X0_copyFrom_8 dX0_copyFrom_44 rfl ?_
  refine g_iconst (pc' := 48) (v := 0) C dX0_copyFrom_47 (by decide) rfl ?_
  refine g_bipush (pc' := 50) (v := 20) C dX0_copyFrom_48 (by decide) rfl ?_
  refine g_copy (pc' := 53) (i := 1) (j := 3) (i2 := 0) (j2 := 3) (w' := bdW (gcA X) a (va_up (va_up (va_up (va_up B 0 (fun _ => (O 0 0))) 1 (va_cpy (O 1) (B 1) 0 0 (20 : Int32).toNatClampNeg)) 2 (va_cpy (O 2) (B 2) 0 0 (20 : Int32).toNatClampNeg)) 3 (va_cpy (O 3) (B 3) 0 0 (20 : Int32).toNatClampNeg))) C rfl rfl rfl rfl rfl lk_X0_copyFrom_3 lk_X0_copyFrom_4 lk_X0_copyFrom_5 lk_X0_copyFrom_6 (by decide) (by decide) (by decide) ⟨Nat.le_of_ble_eq_true rfl, Nat.le_of_ble_eq_true rfl⟩ rfl dX0_copyFrom_50 rfl ?_
  show G X _ [bdW (gcA X) a (va_up (va_up (va_up (va_up B 0 (fun _ => (O 0 0))) 1 (va_cpy (O 1) (B 1) 0 0 (20 : Int32).toNatClampNeg)) 2 (va_cpy (O 2) (B 2) 0 0 (20 : Int32).toNatClampNeg)) 3 (va_cpy (O 3) (B 3) 0 0 (20 : Int32).toNatClampNeg)), bdW (gcA X) b O] _ _ _
  refine g_aload_n (pc' := 54) C dX0_copyFrom_53 rfl rfl ?_
  refine gg_X0_4 (pc' := 57) (i := 1) C rfl hi_X0_copyFrom_X0 lk_X0_copyFrom_9 dX0_copyFrom_54 rfl ?_
  refine g_iconst (pc' := 58) (v := 0) C dX0_copyFrom_57 (by decide) rfl ?_
  refine g_aload_n (pc' := 59) C dX0_copyFrom_58 rfl rfl ?_
  refine gg_X0_4 (pc' := 62) (i := 0) C rfl hi_X0_copyFrom_X0 lk_X0_copyFrom_9 dX0_copyFrom_59 rfl ?_
  refine g_iconst (pc' := 63) (v := 0) C dX0_copyFrom_62 (by decide) rfl ?_
  refine g_bipush (pc' := 65) (v := 120) C dX0_copyFrom_63 (by decide) rfl ?_
  refine g_copy (pc' := 68) (i := 1) (j := 4) (i2 := 0) (j2 := 4) (w' := bdW (gcA X) a (va_up (va_up (va_up (va_up (va_up B 0 (fun _ => (O 0 0))) 1 (va_cpy (O 1) (B 1) 0 0 (20 : Int32).toNatClampNeg)) 2 (va_cpy (O 2) (B 2) 0 0 (20 : Int32).toNatClampNeg)) 3 (va_cpy (O 3) (B 3) 0 0 (20 : Int32).toNatClampNeg)) 4 (va_cpy (O 4) (B 4) 0 0 (120 : Int32).toNatClampNeg))) C rfl rfl rfl rfl rfl lk_X0_copyFrom_3 lk_X0_copyFrom_4 lk_X0_copyFrom_5 lk_X0_copyFrom_6 (by decide) (by decide) (by decide) ⟨Nat.le_of_ble_eq_true rfl, Nat.le_of_ble_eq_true rfl⟩ rfl dX0_copyFrom_65 rfl ?_
  show G X _ [bdW (gcA X) a (va_up (va_up (va_up (va_up (va_up B 0 (fun _ => (O 0 0))) 1 (va_cpy (O 1) (B 1) 0 0 (20 : Int32).toNatClampNeg)) 2 (va_cpy (O 2) (B 2) 0 0 (20 : Int32).toNatClampNeg)) 3 (va_cpy (O 3) (B 3) 0 0 (20 : Int32).toNatClampNeg)) 4 (va_cpy (O 4) (B 4) 0 0 (120 : Int32).toNatClampNeg)), bdW (gcA X) b O] _ _ _
  refine g_aload_n (pc' := 69) C dX0_copyFrom_68 rfl rfl ?_
  refine g_aload_n (pc' := 70) C dX0_copyFrom_69 rfl rfl ?_
  refine gg_X0_5 (pc' := 73) (i := 1) C rfl hi_X0_copyFrom_X0 lk_X0_copyFrom_10 dX0_copyFrom_70 rfl ?_
  refine gp_X0_5 (pc' := 76) (i := 0) C rfl hi_X0_copyFrom_X0 lk_X0_copyFrom_10 dX0_copyFrom_73 rfl ?_
  show G X _ [bdW (gcA X) a (va_up (va_up (va_up (va_up (va_up (va_up B 0 (fun _ => (O 0 0))) 1 (va_cpy (O 1) (B 1) 0 0 (20 : Int32).toNatClampNeg)) 2 (va_cpy (O 2) (B 2) 0 0 (20 : Int32).toNatClampNeg)) 3 (va_cpy (O 3) (B 3) 0 0 (20 : Int32).toNatClampNeg)) 4 (va_cpy (O 4) (B 4) 0 0 (120 : Int32).toNatClampNeg)) 5 (fun _ => (O 5 0))), bdW (gcA X) b O] _ _ _
  refine g_aload_n (pc' := 77) C dX0_copyFrom_76 rfl rfl ?_
  refine gg_X0_6 (pc' := 80) (i := 1) C rfl hi_X0_copyFrom_X0 lk_X0_copyFrom_11 dX0_copyFrom_77 rfl ?_
  refine g_iconst (pc' := 81) (v := 0) C dX0_copyFrom_80 (by decide) rfl ?_
  refine g_aload_n (pc' := 82) C dX0_copyFrom_81 rfl rfl ?_
  refine gg_X0_6 (pc' := 85) (i := 0) C rfl hi_X0_copyFrom_X0 lk_X0_copyFrom_11 dX0_copyFrom_82 rfl ?_
  refine g_iconst (pc' := 86) (v := 0) C dX0_copyFrom_85 (by decide) rfl ?_
  refine g_bipush (pc' := 88) (v := 48) C dX0_copyFrom_86 (by decide) rfl ?_
  refine g_copy (pc' := 91) (i := 1) (j := 5) (i2 := 0) (j2 := 5) (w' := bdW (gcA X) a (va_up (va_up (va_up (va_up (va_up (va_up (va_up B 0 (fun _ => (O 0 0))) 1 (va_cpy (O 1) (B 1) 0 0 (20 : Int32).toNatClampNeg)) 2 (va_cpy (O 2) (B 2) 0 0 (20 : Int32).toNatClampNeg)) 3 (va_cpy (O 3) (B 3) 0 0 (20 : Int32).toNatClampNeg)) 4 (va_cpy (O 4) (B 4) 0 0 (120 : Int32).toNatClampNeg)) 5 (fun _ => (O 5 0))) 6 (va_cpy (O 6) (B 6) 0 0 (48 : Int32).toNatClampNeg))) C rfl rfl rfl rfl rfl lk_X0_copyFrom_3 lk_X0_copyFrom_4 lk_X0_copyFrom_5 lk_X0_copyFrom_6 (by decide) (by decide) (by decide) ⟨Nat.le_of_ble_eq_true rfl, Nat.le_of_ble_eq_true rfl⟩ rfl dX0_copyFrom_88 rfl ?_
  show G X _ [bdW (gcA X) a (va_up (va_up (va_up (va_up (va_up (va_up (va_up B 0 (fun _ => (O 0 0))) 1 (va_cpy (O 1) (B 1) 0 0 (20 : Int32).toNatClampNeg)) 2 (va_cpy (O 2) (B 2) 0 0 (20 : Int32).toNatClampNeg)) 3 (va_cpy (O 3) (B 3) 0 0 (20 : Int32).toNatClampNeg)) 4 (va_cpy (O 4) (B 4) 0 0 (120 : Int32).toNatClampNeg)) 5 (fun _ => (O 5 0))) 6 (va_cpy (O 6) (B 6) 0 0 (48 : Int32).toNatClampNeg)), bdW (gcA X) b O] _ _ _
  refine g_aload_n (pc' := 92) C dX0_copyFrom_91 rfl rfl ?_
  refine gg_X0_7 (pc' := 95) (i := 1) C rfl hi_X0_copyFrom_X0 lk_X0_copyFrom_12 dX0_copyFrom_92 rfl ?_
  refine g_iconst (pc' := 96) (v := 0) C dX0_copyFrom_95 (by decide) rfl ?_
  refine g_aload_n (pc' := 97) C dX0_copyFrom_96 rfl rfl ?_
  refine gg_X0_7 (pc' := 100) (i := 0) C rfl hi_X0_copyFrom_X0 lk_X0_copyFrom_12 dX0_copyFrom_97 rfl ?_
  refine g_iconst (pc' := 101) (v := 0) C dX0_copyFrom_100 (by decide) rfl ?_
  refine g_iconst (pc' := 102) (v := 3) C dX0_copyFrom_101 (by decide) rfl ?_
  refine g_copy (pc' := 105) (i := 1) (j := 6) (i2 := 0) (j2 := 6) (w' := bdW (gcA X) a (va_up (va_up (va_up (va_up (va_up (va_up (va_up (va_up B 0 (fun _ => (O 0 0))) 1 (va_cpy (O 1) (B 1) 0 0 (20 : Int32).toNatClampNeg)) 2 (va_cpy (O 2) (B 2) 0 0 (20 : Int32).toNatClampNeg)) 3 (va_cpy (O 3) (B 3) 0 0 (20 : Int32).toNatClampNeg)) 4 (va_cpy (O 4) (B 4) 0 0 (120 : Int32).toNatClampNeg)) 5 (fun _ => (O 5 0))) 6 (va_cpy (O 6) (B 6) 0 0 (48 : Int32).toNatClampNeg)) 7 (va_cpy (O 7) (B 7) 0 0 (3 : Int32).toNatClampNeg))) C rfl rfl rfl rfl rfl lk_X0_copyFrom_3 lk_X0_copyFrom_4 lk_X0_copyFrom_5 lk_X0_copyFrom_6 (by decide) (by decide) (by decide) ⟨Nat.le_of_ble_eq_true rfl, Nat.le_of_ble_eq_true rfl⟩ rfl dX0_copyFrom_102 rfl ?_
  show G X _ [bdW (gcA X) a (va_up (va_up (va_up (va_up (va_up (va_up (va_up (va_up B 0 (fun _ => (O 0 0))) 1 (va_cpy (O 1) (B 1) 0 0 (20 : Int32).toNatClampNeg)) 2 (va_cpy (O 2) (B 2) 0 0 (20 : Int32).toNatClampNeg)) 3 (va_cpy (O 3) (B 3) 0 0 (20 : Int32).toNatClampNeg)) 4 (va_cpy (O 4) (B 4) 0 0 (120 : Int32).toNatClampNeg)) 5 (fun _ => (O 5 0))) 6 (va_cpy (O 6) (B 6) 0 0 (48 : Int32).toNatClampNeg)) 7 (va_cpy (O 7) (B 7) 0 0 (3 : Int32).toNatClampNeg)), bdW (gcA X) b O] _ _ _
  obtain rfl := Option.some.inj h
  exact g_vret C dX0_copyFrom_105
set_option maxRecDepth 100000 in
set_option maxHeartbeats 4000000 in
theorem c_X0_copyFrom (l : Launch) (D : va_G) (cA : Nat → ClassId) (a : Nat → Nat) (b : Nat → Nat) (N : Nat) (B : tS) (O : tS)  (Bz : tS) (h : f_X0_copyFrom N B O = some Bz) : MV l D cA yX0_copyFrom wsX0_copyFrom 1 26 [.ref (a 0), .ref (b 0)] [bdW cA a B, bdW cA b O]  [bdW cA a Bz, bdW cA b O] := MV_of (cc := cX0_copyFrom) (maxL := 2) (by decide +kernel) rfl (List.forall_mem_cons.mpr ⟨rfl, List.forall_mem_cons.mpr ⟨rfl, List.forall_mem_nil _⟩⟩) (Nat.le_of_ble_eq_true rfl) (fun X e1 e2 e3 C => by subst e1; subst e2; subst e3; exact B_X0_copyFrom C a b N B O Bz h)
set_option maxRecDepth 100000 in
set_option maxHeartbeats 4000000 in
theorem nd_X0_copyFrom : nd yX0_copyFrom 1 := ⟨by decide +kernel, by decide +kernel, by decide +kernel⟩
set_option maxRecDepth 100000 in
set_option maxHeartbeats 4000000 in
theorem k_X0_copyFrom {X : gX} {own : String} {cc : ByteArray} {nL : Nat} {ret : Option FieldType} {Ts : List Cond} {fr lm : Nat} {Q : State → Prop} {ms : List va_W} {L : List (Option Value)} {st : List Value} {pc pc' idx : Nat} {ρ : Type} {T : tS → Option ρ} {res : ρ} (C : cx X own cc nL ret Ts fr lm) (a : Nat → Nat) (b : Nat → Nat) (N : Nat) (B : tS) (O : tS)  (is : List Nat) (hC : is.map (fun i => ms[i]?) = [some (bdW (gcA X) a B), some (bdW (gcA X) b O)]) (hn : is.Nodup) (hG : GoodIn Ts (wsV own idx RX0 yX0_copyFrom wsX0_copyFrom)) (hR : 1 + 1 ≤ fr ∧ 8 + (2 + 11) + 26 ≤ lm) (hst : (st.map fun v => v.category).sum ≤ 8) (hLn : L.length = nL) (d : decode cc pc = .ok (.invokevirtual idx, 3)) (hp : pc + 3 = pc') (h : bd (f_X0_copyFrom N B O) T = some res) (kk : ∀ (Bz : tS), T Bz = some res → G X Q (rpl ms is [bdW (gcA X) a Bz, bdW (gcA X) b O]) L (st) pc') : G X Q ms L (.ref (b 0) :: .ref (a 0) :: st) pc := by
  obtain ⟨Bz, h1, h⟩ := ob h
  exact G_callVV C (As := [.ref (b 0)]) (c_X0_copyFrom (gl X) (gD X) (gcA X) a b N B O Bz h1) hG rfl nd_X0_copyFrom hR (q0 := 0) rfl rfl hC hn rfl rfl hst hLn d hp (kk Bz h)
theorem hi_X0_removeAll_X0 : ∀ w ∈ wsX00, w ∈ wsX0_removeAll := fun w h => List.mem_cons_of_mem _ (List.mem_append_right _ h)
theorem lk_X0_removeAll_1 : Cond.fieldLink RX0 9 "NoteThemes$Board" "notes" "I" ∈ wsX0_removeAll := List.mem_of_getElem? (i := 1) rfl
theorem lk_X0_removeAll_2 : Cond.fieldLink RX0 28 "NoteThemes$Board" "themes" "I" ∈ wsX0_removeAll := List.mem_of_getElem? (i := 2) rfl
def f_X0_removeAll (N : Nat) (B : tS)  : Option (tS) := some (va_up (va_up B 0 (fun _ => (0 : Int32))) 5 (fun _ => (0 : Int32)))
set_option maxRecDepth 100000 in
set_option maxHeartbeats 4000000 in
theorem B_X0_removeAll {X : gX} (C : cx X RX0 cX0_removeAll 1 none wsX0_removeAll 0 0) (a : Nat → Nat) (N : Nat) (B : tS)  (Bz : tS) (h : f_X0_removeAll N B = some Bz) : G X (QV X [bdW (gcA X) a Bz]) [bdW (gcA X) a B] [some (.ref (a 0))] [] 0 := by
  unfold f_X0_removeAll at h
  refine g_aload_n (pc' := 1) C dX0_removeAll_0 rfl rfl ?_
  refine g_iconst (pc' := 2) (v := 0) C dX0_removeAll_1 (by decide) rfl ?_
  refine gp_X0_0 (pc' := 5) (i := 0) C rfl hi_X0_removeAll_X0 lk_X0_removeAll_1 dX0_removeAll_2 rfl ?_
  show G X _ [bdW (gcA X) a (va_up B 0 (fun _ => (0 : Int32)))] _ _ _
  refine g_aload_n (pc' := 6) C dX0_removeAll_5 rfl rfl ?_
  refine g_iconst (pc' := 7) (v := 0) C dX0_removeAll_6 (by decide) rfl ?_
  refine gp_X0_5 (pc' := 10) (i := 0) C rfl hi_X0_removeAll_X0 lk_X0_removeAll_2 dX0_removeAll_7 rfl ?_
  show G X _ [bdW (gcA X) a (va_up (va_up B 0 (fun _ => (0 : Int32))) 5 (fun _ => (0 : Int32)))] _ _ _
  obtain rfl := Option.some.inj h
  exact g_vret C dX0_removeAll_10
set_option maxRecDepth 100000 in
set_option maxHeartbeats 4000000 in
theorem c_X0_removeAll (l : Launch) (D : va_G) (cA : Nat → ClassId) (a : Nat → Nat) (N : Nat) (B : tS)  (Bz : tS) (h : f_X0_removeAll N B = some Bz) : MV l D cA yX0_removeAll wsX0_removeAll 0 0 [.ref (a 0)] [bdW cA a B]  [bdW cA a Bz] := MV_of (cc := cX0_removeAll) (maxL := 1) (by decide +kernel) rfl (List.forall_mem_cons.mpr ⟨rfl, List.forall_mem_nil _⟩) (Nat.le_of_ble_eq_true rfl) (fun X e1 e2 e3 C => by subst e1; subst e2; subst e3; exact B_X0_removeAll C a N B Bz h)
set_option maxRecDepth 100000 in
set_option maxHeartbeats 4000000 in
theorem nd_X0_removeAll : nd yX0_removeAll 0 := ⟨by decide +kernel, by decide +kernel, by decide +kernel⟩
set_option maxRecDepth 100000 in
set_option maxHeartbeats 4000000 in
theorem k_X0_removeAll {X : gX} {own : String} {cc : ByteArray} {nL : Nat} {ret : Option FieldType} {Ts : List Cond} {fr lm : Nat} {Q : State → Prop} {ms : List va_W} {L : List (Option Value)} {st : List Value} {pc pc' idx : Nat} {ρ : Type} {T : tS → Option ρ} {res : ρ} (C : cx X own cc nL ret Ts fr lm) (a : Nat → Nat) (N : Nat) (B : tS)  (is : List Nat) (hC : is.map (fun i => ms[i]?) = [some (bdW (gcA X) a B)]) (hn : is.Nodup) (hG : GoodIn Ts (wsV own idx RX0 yX0_removeAll wsX0_removeAll)) (hR : 0 + 1 ≤ fr ∧ 8 + (1 + 11) + 0 ≤ lm) (hst : (st.map fun v => v.category).sum ≤ 8) (hLn : L.length = nL) (d : decode cc pc = .ok (.invokevirtual idx, 3)) (hp : pc + 3 = pc') (h : bd (f_X0_removeAll N B) T = some res) (kk : ∀ (Bz : tS), T Bz = some res → G X Q (rpl ms is [bdW (gcA X) a Bz]) L (st) pc') : G X Q ms L (.ref (a 0) :: st) pc := by
  obtain ⟨Bz, h1, h⟩ := ob h
  exact G_callVV C (As := []) (c_X0_removeAll (gl X) (gD X) (gcA X) a N B Bz h1) hG rfl nd_X0_removeAll hR (q0 := 0) rfl rfl hC hn rfl rfl hst hLn d hp (kk Bz h)
theorem hi_X0_dotsOfPerson_X0 : ∀ w ∈ wsX00, w ∈ wsX0_dotsOfPerson := fun w h => List.mem_cons_of_mem _ (List.mem_append_right _ h)
theorem lk_X0_dotsOfPerson_1 : Cond.fieldLink RX0 25 "NoteThemes$Board" "dotsAt" "[I" ∈ wsX0_dotsOfPerson := List.mem_of_getElem? (i := 1) rfl
def f_X0_dotsOfPerson (N : Nat) (B : tS) (p0 : Int32) (p1 : Int32) : Option (Int32) := (if ((p1 * (6 : Int32)) + p0) < 0 ∨ 120 ≤ ((p1 * (6 : Int32)) + p0).toNatClampNeg then none else some (B 4 ((p1 * (6 : Int32)) + p0).toNatClampNeg))
set_option maxRecDepth 100000 in
set_option maxHeartbeats 4000000 in
theorem B_X0_dotsOfPerson {X : gX} (C : cx X RX0 cX0_dotsOfPerson 3 (some .int) wsX0_dotsOfPerson 0 0) (a : Nat → Nat) (N : Nat) (B : tS) (p0 : Int32) (p1 : Int32) (r : Int32) (h : f_X0_dotsOfPerson N B p0 p1 = some r) : G X (QI X r [bdW (gcA X) a B]) [bdW (gcA X) a B] [some (.ref (a 0)), some (.int p0), some (.int p1)] [] 0 := by
  unfold f_X0_dotsOfPerson at h
  refine g_aload_n (pc' := 1) C dX0_dotsOfPerson_0 rfl rfl ?_
  refine gg_X0_4 (pc' := 4) (i := 0) C rfl hi_X0_dotsOfPerson_X0 lk_X0_dotsOfPerson_1 dX0_dotsOfPerson_1 rfl ?_
  refine g_iload_n (pc' := 5) C dX0_dotsOfPerson_4 rfl rfl ?_
  refine g_bipush (pc' := 7) (v := 6) C dX0_dotsOfPerson_5 (by decide) rfl ?_
  refine g_imul (pc' := 8) C dX0_dotsOfPerson_7 rfl ?_
  refine g_iload_n (pc' := 9) C dX0_dotsOfPerson_8 rfl rfl ?_
  refine g_iadd (pc' := 10) C dX0_dotsOfPerson_9 rfl ?_
  refine g_iald (pc' := 11) (i := 0) (j := 4) C rfl rfl dX0_dotsOfPerson_10 rfl h (fun h => ?_)
  obtain rfl := Option.some.inj h
  exact g_iret C dX0_dotsOfPerson_11
set_option maxRecDepth 100000 in
set_option maxHeartbeats 4000000 in
theorem c_X0_dotsOfPerson (l : Launch) (D : va_G) (cA : Nat → ClassId) (a : Nat → Nat) (N : Nat) (B : tS) (p0 : Int32) (p1 : Int32) (r : Int32) (h : f_X0_dotsOfPerson N B p0 p1 = some r) : MI l D cA yX0_dotsOfPerson wsX0_dotsOfPerson 0 0 [.ref (a 0), .int p0, .int p1] [bdW cA a B] r [bdW cA a B] := MI_of (cc := cX0_dotsOfPerson) (maxL := 3) (rt := some .int) (by decide +kernel) rfl (List.forall_mem_cons.mpr ⟨rfl, List.forall_mem_cons.mpr ⟨rfl, List.forall_mem_cons.mpr ⟨rfl, List.forall_mem_nil _⟩⟩⟩) (Nat.le_of_ble_eq_true rfl) (fun X e1 e2 e3 C => by subst e1; subst e2; subst e3; exact B_X0_dotsOfPerson C a N B p0 p1 r h)
set_option maxRecDepth 100000 in
set_option maxHeartbeats 4000000 in
theorem nd_X0_dotsOfPerson : nd yX0_dotsOfPerson 2 := ⟨by decide +kernel, by decide +kernel, by decide +kernel⟩
set_option maxRecDepth 100000 in
set_option maxHeartbeats 4000000 in
theorem k_X0_dotsOfPerson {X : gX} {own : String} {cc : ByteArray} {nL : Nat} {ret : Option FieldType} {Ts : List Cond} {fr lm : Nat} {Q : State → Prop} {ms : List va_W} {L : List (Option Value)} {st : List Value} {pc pc' idx : Nat} {ρ : Type} {T : Int32 → Option ρ} {res : ρ} (C : cx X own cc nL ret Ts fr lm) (a : Nat → Nat) (N : Nat) (B : tS) (p0 : Int32) (p1 : Int32) (is : List Nat) (hC : is.map (fun i => ms[i]?) = [some (bdW (gcA X) a B)]) (hn : is.Nodup) (hG : GoodIn Ts (wsV own idx RX0 yX0_dotsOfPerson wsX0_dotsOfPerson)) (hR : 0 + 1 ≤ fr ∧ 8 + (3 + 11) + 0 ≤ lm) (hst : (st.map fun v => v.category).sum ≤ 8) (hLn : L.length = nL) (d : decode cc pc = .ok (.invokevirtual idx, 3)) (hp : pc + 3 = pc') (h : bd (f_X0_dotsOfPerson N B p0 p1) T = some res) (kk : ∀ (r : Int32), T r = some res → G X Q (ms) L (.int r :: st) pc') : G X Q ms L (.int p1 :: .int p0 :: .ref (a 0) :: st) pc := by
  obtain ⟨r, h1, h⟩ := ob h
  exact G_callVI C (As := [.int p0, .int p1]) (c_X0_dotsOfPerson (gl X) (gD X) (gcA X) a N B p0 p1 r h1) hG rfl nd_X0_dotsOfPerson hR (q0 := 0) rfl rfl hC hn rfl rfl hst hLn d hp (G_ms (rpl_same (mc := [bdW (gcA X) a B]) hC) (kk r h))
theorem hi_X0_dotsLeft_X0 : ∀ w ∈ wsX00, w ∈ wsX0_dotsLeft := fun w h => List.mem_cons_of_mem _ (List.mem_append_right _ h)
theorem lk_X0_dotsLeft_1 : Cond.fieldLink RX0 34 "NoteThemes$Board" "settings" "[I" ∈ wsX0_dotsLeft := List.mem_of_getElem? (i := 1) rfl
theorem lk_X0_dotsLeft_2 : Cond.fieldLink RX0 9 "NoteThemes$Board" "notes" "I" ∈ wsX0_dotsLeft := List.mem_of_getElem? (i := 2) rfl
theorem lk_X0_dotsLeft_3 : Cond.methodLink RX0 71 Lib.Math.max.name ∈ wsX0_dotsLeft := List.mem_of_getElem? (i := 3) rfl
theorem lk_X0_dotsLeft_4 : Cond.static Lib.Math.max.name ∈ wsX0_dotsLeft := List.mem_of_getElem? (i := 4) rfl
theorem lk_X0_dotsLeft_5 : Cond.initialized "java/lang/Math" ∈ wsX0_dotsLeft := List.mem_of_getElem? (i := 5) rfl
theorem lk_X0_dotsLeft_6 : Cond.code Lib.Math.max.name Lib.Math.max.code 2 (some .int) ∈ wsX0_dotsLeft := List.mem_of_getElem? (i := 6) rfl
def f_X0_dotsLeft_9b (N : Nat) (B : tS) (p0 : Int32)  (k9 : Int32 → Int32 → Option (Int32)) (x2 : Int32) (x3 : Int32) : Option (Int32) := (if (B 0 0) ≤ x3 then some (if x2 < (0 : Int32) then (0 : Int32) else x2) else (bd (f_X0_dotsOfPerson N B p0 x3) (fun r1 => k9 (x2 - r1) (x3 + 1))))
def f_X0_dotsLeft_9 (N : Nat) (B : tS) (p0 : Int32)  : Nat → Int32 → Int32 → Option (Int32)
  | 0 => fun _ _ => none
  | n + 1 => f_X0_dotsLeft_9b N B p0  (f_X0_dotsLeft_9 N B p0  n)
set_option maxRecDepth 100000 in
set_option maxHeartbeats 4000000 in
theorem B_X0_dotsLeft_9b {X : gX} (C : cx X RX0 cX0_dotsLeft 4 (some .int) wsX0_dotsLeft 1 22) (a : Nat → Nat) (N : Nat) (B : tS) (p0 : Int32) (r : Int32)  (k9 : Int32 → Int32 → Option (Int32)) (hk9 : ∀ (x2 : Int32) (x3 : Int32), k9 x2 x3 = some r → G X (QI X r [bdW (gcA X) a B]) [bdW (gcA X) a B] [some (.ref (a 0)), some (.int p0), some (.int x2), some (.int x3)] [] 9) (x2 : Int32) (x3 : Int32) (h : f_X0_dotsLeft_9b N B p0  k9 x2 x3 = some r) : G X (QI X r [bdW (gcA X) a B]) [bdW (gcA X) a B] [some (.ref (a 0)), some (.int p0), some (.int x2), some (.int x3)] [] 9 := by
  unfold f_X0_dotsLeft_9b at h
  refine g_iload_n (pc' := 10) C dX0_dotsLeft_9 rfl rfl ?_
  refine g_aload_n (pc' := 11) C dX0_dotsLeft_10 rfl rfl ?_
  refine gg_X0_0 (pc' := 14) (i := 0) C rfl hi_X0_dotsLeft_X0 lk_X0_dotsLeft_2 dX0_dotsLeft_11 rfl ?_
  refine g_icmp_ge (pc' := 17) (tgt := 32) C dX0_dotsLeft_14 (by decide) rfl h (fun c h => ?_) (fun c h => ?_)
  · refine g_iload_n (pc' := 33) C dX0_dotsLeft_32 rfl rfl ?_
    refine g_iconst (pc' := 34) (v := 0) C dX0_dotsLeft_33 (by decide) rfl ?_
    refine g_mmax (pc' := 37) C lk_X0_dotsLeft_3 lk_X0_dotsLeft_4 lk_X0_dotsLeft_5 lk_X0_dotsLeft_6 ⟨Nat.le_of_ble_eq_true rfl, Nat.le_of_ble_eq_true rfl⟩ rfl dX0_dotsLeft_34 rfl ?_
    obtain rfl := Option.some.inj h
    exact g_iret C dX0_dotsLeft_37
  · refine g_iload_n (pc' := 18) C dX0_dotsLeft_17 rfl rfl ?_
    refine g_aload_n (pc' := 19) C dX0_dotsLeft_18 rfl rfl ?_
    refine g_iload_n (pc' := 20) C dX0_dotsLeft_19 rfl rfl ?_
    refine g_iload_n (pc' := 21) C dX0_dotsLeft_20 rfl rfl ?_
    refine k_X0_dotsOfPerson (pc' := 24) C a N B p0 x3 [0] rfl (by decide) gX0_dotsLeft_X0_dotsOfPerson ⟨Nat.le_of_ble_eq_true rfl, Nat.le_of_ble_eq_true rfl⟩ (Nat.le_of_ble_eq_true rfl) rfl dX0_dotsLeft_21 rfl h (fun r1 h => ?_)
    refine g_isub (pc' := 25) C dX0_dotsLeft_24 rfl ?_
    refine g_istore_n (pc' := 26) C dX0_dotsLeft_25 (Nat.le_of_ble_eq_true rfl) rfl (L' := [some (.ref (a 0)), some (.int p0), some (.int (x2 - r1)), some (.int x3)]) rfl ?_
    refine g_iinc (pc' := 29) (v := (x3 + 1)) C dX0_dotsLeft_26 rfl rfl rfl (L' := [some (.ref (a 0)), some (.int p0), some (.int (x2 - r1)), some (.int (x3 + 1))]) rfl ?_
    refine g_goto (pc' := 9) C dX0_dotsLeft_29 (by decide) ?_
    exact G_loc (lle_s (lle_s (lle_s (lle_s lle_0)))) (hk9 (x2 - r1) (x3 + 1) h)
set_option maxRecDepth 100000 in
set_option maxHeartbeats 4000000 in
theorem L_X0_dotsLeft_9 {X : gX} (C : cx X RX0 cX0_dotsLeft 4 (some .int) wsX0_dotsLeft 1 22) (a : Nat → Nat) (N : Nat) (B : tS) (p0 : Int32) (r : Int32)  : ∀ (n : Nat) (x2 : Int32) (x3 : Int32), f_X0_dotsLeft_9 N B p0  n x2 x3 = some r → G X (QI X r [bdW (gcA X) a B]) [bdW (gcA X) a B] [some (.ref (a 0)), some (.int p0), some (.int x2), some (.int x3)] [] 9 := by
  intro n
  induction n with
  | zero => intro x2 x3 h; have h : (none : Option (Int32)) = some r := h; cases h
  | succ n ih => intro x2 x3 h; exact B_X0_dotsLeft_9b C a N B p0 r  (f_X0_dotsLeft_9 N B p0  n) ih x2 x3 h
def f_X0_dotsLeft (N : Nat) (B : tS) (p0 : Int32) : Option (Int32) := f_X0_dotsLeft_9 N B p0 N (B 7 (1 : Int32).toNatClampNeg) (0 : Int32)
set_option maxRecDepth 100000 in
set_option maxHeartbeats 4000000 in
theorem B_X0_dotsLeft {X : gX} (C : cx X RX0 cX0_dotsLeft 4 (some .int) wsX0_dotsLeft 1 22) (a : Nat → Nat) (N : Nat) (B : tS) (p0 : Int32) (r : Int32) (h : f_X0_dotsLeft N B p0 = some r) : G X (QI X r [bdW (gcA X) a B]) [bdW (gcA X) a B] [some (.ref (a 0)), some (.int p0), none, none] [] 0 := by
  unfold f_X0_dotsLeft at h
  refine g_aload_n (pc' := 1) C dX0_dotsLeft_0 rfl rfl ?_
  refine gg_X0_7 (pc' := 4) (i := 0) C rfl hi_X0_dotsLeft_X0 lk_X0_dotsLeft_1 dX0_dotsLeft_1 rfl ?_
  refine g_iconst (pc' := 5) (v := 1) C dX0_dotsLeft_4 (by decide) rfl ?_
  refine g_iald0 (pc' := 6) (i := 0) (j := 6) C rfl rfl dX0_dotsLeft_5 rfl (by unfold vp_in; decide) ?_
  refine g_istore_n (pc' := 7) C dX0_dotsLeft_6 (Nat.le_of_ble_eq_true rfl) rfl (L' := [some (.ref (a 0)), some (.int p0), some (.int (B 7 (1 : Int32).toNatClampNeg)), none]) rfl ?_
  refine g_iconst (pc' := 8) (v := 0) C dX0_dotsLeft_7 (by decide) rfl ?_
  refine g_istore_n (pc' := 9) C dX0_dotsLeft_8 (Nat.le_of_ble_eq_true rfl) rfl (L' := [some (.ref (a 0)), some (.int p0), some (.int (B 7 (1 : Int32).toNatClampNeg)), some (.int (0 : Int32))]) rfl ?_
  exact G_loc (lle_s (lle_s (lle_s (lle_s lle_0)))) (L_X0_dotsLeft_9 C a N B p0 r N (B 7 (1 : Int32).toNatClampNeg) (0 : Int32) h)
set_option maxRecDepth 100000 in
set_option maxHeartbeats 4000000 in
theorem c_X0_dotsLeft (l : Launch) (D : va_G) (cA : Nat → ClassId) (a : Nat → Nat) (N : Nat) (B : tS) (p0 : Int32) (r : Int32) (h : f_X0_dotsLeft N B p0 = some r) : MI l D cA yX0_dotsLeft wsX0_dotsLeft 1 22 [.ref (a 0), .int p0] [bdW cA a B] r [bdW cA a B] := MI_of (cc := cX0_dotsLeft) (maxL := 4) (rt := some .int) (by decide +kernel) rfl (List.forall_mem_cons.mpr ⟨rfl, List.forall_mem_cons.mpr ⟨rfl, List.forall_mem_nil _⟩⟩) (Nat.le_of_ble_eq_true rfl) (fun X e1 e2 e3 C => by subst e1; subst e2; subst e3; exact B_X0_dotsLeft C a N B p0 r h)
set_option maxRecDepth 100000 in
set_option maxHeartbeats 4000000 in
theorem nd_X0_dotsLeft : nd yX0_dotsLeft 1 := ⟨by decide +kernel, by decide +kernel, by decide +kernel⟩
set_option maxRecDepth 100000 in
set_option maxHeartbeats 4000000 in
theorem k_X0_dotsLeft {X : gX} {own : String} {cc : ByteArray} {nL : Nat} {ret : Option FieldType} {Ts : List Cond} {fr lm : Nat} {Q : State → Prop} {ms : List va_W} {L : List (Option Value)} {st : List Value} {pc pc' idx : Nat} {ρ : Type} {T : Int32 → Option ρ} {res : ρ} (C : cx X own cc nL ret Ts fr lm) (a : Nat → Nat) (N : Nat) (B : tS) (p0 : Int32) (is : List Nat) (hC : is.map (fun i => ms[i]?) = [some (bdW (gcA X) a B)]) (hn : is.Nodup) (hG : GoodIn Ts (wsV own idx RX0 yX0_dotsLeft wsX0_dotsLeft)) (hR : 1 + 1 ≤ fr ∧ 8 + (4 + 11) + 22 ≤ lm) (hst : (st.map fun v => v.category).sum ≤ 8) (hLn : L.length = nL) (d : decode cc pc = .ok (.invokevirtual idx, 3)) (hp : pc + 3 = pc') (h : bd (f_X0_dotsLeft N B p0) T = some res) (kk : ∀ (r : Int32), T r = some res → G X Q (ms) L (.int r :: st) pc') : G X Q ms L (.int p0 :: .ref (a 0) :: st) pc := by
  obtain ⟨r, h1, h⟩ := ob h
  exact G_callVI C (As := [.int p0]) (c_X0_dotsLeft (gl X) (gD X) (gcA X) a N B p0 r h1) hG rfl nd_X0_dotsLeft hR (q0 := 0) rfl rfl hC hn rfl rfl hst hLn d hp (G_ms (rpl_same (mc := [bdW (gcA X) a B]) hC) (kk r h))
theorem hi_X0_hasMostDots_X0 : ∀ w ∈ wsX00, w ∈ wsX0_hasMostDots := fun w h => List.mem_cons_of_mem _ (List.mem_append_right _ h)
theorem lk_X0_hasMostDots_1 : Cond.fieldLink RX0 34 "NoteThemes$Board" "settings" "[I" ∈ wsX0_hasMostDots := List.mem_of_getElem? (i := 1) rfl
def f_X0_hasMostDots (N : Nat) (B : tS) (p0 : Int32) (p1 : Int32) : Option (Int32) := (bd (f_X0_dotsOfPerson N B p0 p1) (fun r1 => (if r1 < (B 7 (2 : Int32).toNatClampNeg) then some (0 : Int32) else some (1 : Int32))))
set_option maxRecDepth 100000 in
set_option maxHeartbeats 4000000 in
theorem B_X0_hasMostDots {X : gX} (C : cx X RX0 cX0_hasMostDots 3 (some .boolean) wsX0_hasMostDots 1 22) (a : Nat → Nat) (N : Nat) (B : tS) (p0 : Int32) (p1 : Int32) (r : Int32) (h : f_X0_hasMostDots N B p0 p1 = some r) : G X (QI X r [bdW (gcA X) a B]) [bdW (gcA X) a B] [some (.ref (a 0)), some (.int p0), some (.int p1)] [] 0 := by
  unfold f_X0_hasMostDots at h
  refine g_aload_n (pc' := 1) C dX0_hasMostDots_0 rfl rfl ?_
  refine g_iload_n (pc' := 2) C dX0_hasMostDots_1 rfl rfl ?_
  refine g_iload_n (pc' := 3) C dX0_hasMostDots_2 rfl rfl ?_
  refine k_X0_dotsOfPerson (pc' := 6) C a N B p0 p1 [0] rfl (by decide) gX0_hasMostDots_X0_dotsOfPerson ⟨Nat.le_of_ble_eq_true rfl, Nat.le_of_ble_eq_true rfl⟩ (Nat.le_of_ble_eq_true rfl) rfl dX0_hasMostDots_3 rfl h (fun r1 h => ?_)
  refine g_aload_n (pc' := 7) C dX0_hasMostDots_6 rfl rfl ?_
  refine gg_X0_7 (pc' := 10) (i := 0) C rfl hi_X0_hasMostDots_X0 lk_X0_hasMostDots_1 dX0_hasMostDots_7 rfl ?_
  refine g_iconst (pc' := 11) (v := 2) C dX0_hasMostDots_10 (by decide) rfl ?_
  refine g_iald0 (pc' := 12) (i := 0) (j := 6) C rfl rfl dX0_hasMostDots_11 rfl (by unfold vp_in; decide) ?_
  refine g_icmp_lt (pc' := 15) (tgt := 19) C dX0_hasMostDots_12 (by decide) rfl h (fun c h => ?_) (fun c h => ?_)
  · refine g_iconst (pc' := 20) (v := 0) C dX0_hasMostDots_19 (by decide) rfl ?_
    obtain rfl := Option.some.inj h
    exact g_zret0 C rfl dX0_hasMostDots_20
  · refine g_iconst (pc' := 16) (v := 1) C dX0_hasMostDots_15 (by decide) rfl ?_
    refine g_goto (pc' := 20) C dX0_hasMostDots_16 (by decide) ?_
    obtain rfl := Option.some.inj h
    exact g_zret0 C rfl dX0_hasMostDots_20
set_option maxRecDepth 100000 in
set_option maxHeartbeats 4000000 in
theorem c_X0_hasMostDots (l : Launch) (D : va_G) (cA : Nat → ClassId) (a : Nat → Nat) (N : Nat) (B : tS) (p0 : Int32) (p1 : Int32) (r : Int32) (h : f_X0_hasMostDots N B p0 p1 = some r) : MI l D cA yX0_hasMostDots wsX0_hasMostDots 1 22 [.ref (a 0), .int p0, .int p1] [bdW cA a B] r [bdW cA a B] := MI_of (cc := cX0_hasMostDots) (maxL := 3) (rt := some .boolean) (by decide +kernel) rfl (List.forall_mem_cons.mpr ⟨rfl, List.forall_mem_cons.mpr ⟨rfl, List.forall_mem_cons.mpr ⟨rfl, List.forall_mem_nil _⟩⟩⟩) (Nat.le_of_ble_eq_true rfl) (fun X e1 e2 e3 C => by subst e1; subst e2; subst e3; exact B_X0_hasMostDots C a N B p0 p1 r h)
set_option maxRecDepth 100000 in
set_option maxHeartbeats 4000000 in
theorem nd_X0_hasMostDots : nd yX0_hasMostDots 2 := ⟨by decide +kernel, by decide +kernel, by decide +kernel⟩
set_option maxRecDepth 100000 in
set_option maxHeartbeats 4000000 in
theorem k_X0_hasMostDots {X : gX} {own : String} {cc : ByteArray} {nL : Nat} {ret : Option FieldType} {Ts : List Cond} {fr lm : Nat} {Q : State → Prop} {ms : List va_W} {L : List (Option Value)} {st : List Value} {pc pc' idx : Nat} {ρ : Type} {T : Int32 → Option ρ} {res : ρ} (C : cx X own cc nL ret Ts fr lm) (a : Nat → Nat) (N : Nat) (B : tS) (p0 : Int32) (p1 : Int32) (is : List Nat) (hC : is.map (fun i => ms[i]?) = [some (bdW (gcA X) a B)]) (hn : is.Nodup) (hG : GoodIn Ts (wsV own idx RX0 yX0_hasMostDots wsX0_hasMostDots)) (hR : 1 + 1 ≤ fr ∧ 8 + (3 + 11) + 22 ≤ lm) (hst : (st.map fun v => v.category).sum ≤ 8) (hLn : L.length = nL) (d : decode cc pc = .ok (.invokevirtual idx, 3)) (hp : pc + 3 = pc') (h : bd (f_X0_hasMostDots N B p0 p1) T = some res) (kk : ∀ (r : Int32), T r = some res → G X Q (ms) L (.int r :: st) pc') : G X Q ms L (.int p1 :: .int p0 :: .ref (a 0) :: st) pc := by
  obtain ⟨r, h1, h⟩ := ob h
  exact G_callVI C (As := [.int p0, .int p1]) (c_X0_hasMostDots (gl X) (gD X) (gcA X) a N B p0 p1 r h1) hG rfl nd_X0_hasMostDots hR (q0 := 0) rfl rfl hC hn rfl rfl hst hLn d hp (G_ms (rpl_same (mc := [bdW (gcA X) a B]) hC) (kk r h))
theorem hi_X0_addDots_X0 : ∀ w ∈ wsX00, w ∈ wsX0_addDots := fun w h => List.mem_cons_of_mem _ (List.mem_append_right _ h)
theorem lk_X0_addDots_1 : Cond.fieldLink RX0 25 "NoteThemes$Board" "dotsAt" "[I" ∈ wsX0_addDots := List.mem_of_getElem? (i := 1) rfl
def f_X0_addDots (N : Nat) (B : tS) (p0 : Int32) (p1 : Int32) (p2 : Int32) : Option (tS) := (if ((p1 * (6 : Int32)) + p0) < 0 ∨ 120 ≤ ((p1 * (6 : Int32)) + p0).toNatClampNeg then none else (if ((p1 * (6 : Int32)) + p0) < 0 ∨ 120 ≤ ((p1 * (6 : Int32)) + p0).toNatClampNeg then none else some (va_up B 4 (upd (B 4) ((p1 * (6 : Int32)) + p0).toNatClampNeg ((B 4 ((p1 * (6 : Int32)) + p0).toNatClampNeg) + p2)))))
set_option maxRecDepth 100000 in
set_option maxHeartbeats 4000000 in
theorem B_X0_addDots {X : gX} (C : cx X RX0 cX0_addDots 4 none wsX0_addDots 0 0) (a : Nat → Nat) (N : Nat) (B : tS) (p0 : Int32) (p1 : Int32) (p2 : Int32) (Bz : tS) (h : f_X0_addDots N B p0 p1 p2 = some Bz) : G X (QV X [bdW (gcA X) a Bz]) [bdW (gcA X) a B] [some (.ref (a 0)), some (.int p0), some (.int p1), some (.int p2)] [] 0 := by
  unfold f_X0_addDots at h
  refine g_aload_n (pc' := 1) C dX0_addDots_0 rfl rfl ?_
  refine gg_X0_4 (pc' := 4) (i := 0) C rfl hi_X0_addDots_X0 lk_X0_addDots_1 dX0_addDots_1 rfl ?_
  refine g_iload_n (pc' := 5) C dX0_addDots_4 rfl rfl ?_
  refine g_bipush (pc' := 7) (v := 6) C dX0_addDots_5 (by decide) rfl ?_
  refine g_imul (pc' := 8) C dX0_addDots_7 rfl ?_
  refine g_iload_n (pc' := 9) C dX0_addDots_8 rfl rfl ?_
  refine g_iadd (pc' := 10) C dX0_addDots_9 rfl ?_
  refine g_dup2 (pc' := 11) C dX0_addDots_10 rfl rfl rfl ?_
  refine g_iald (pc' := 12) (i := 0) (j := 4) C rfl rfl dX0_addDots_11 rfl h (fun h => ?_)
  refine g_iload_n (pc' := 13) C dX0_addDots_12 rfl rfl ?_
  refine g_iadd (pc' := 14) C dX0_addDots_13 rfl ?_
  refine g_iast (pc' := 15) (i := 0) (j := 4) (w' := bdW (gcA X) a (va_up B 4 (upd (B 4) ((p1 * (6 : Int32)) + p0).toNatClampNeg ((B 4 ((p1 * (6 : Int32)) + p0).toNatClampNeg) + p2)))) C rfl rfl rfl dX0_addDots_14 rfl h (fun h => ?_)
  show G X _ [bdW (gcA X) a (va_up B 4 (upd (B 4) ((p1 * (6 : Int32)) + p0).toNatClampNeg ((B 4 ((p1 * (6 : Int32)) + p0).toNatClampNeg) + p2)))] _ _ _
  obtain rfl := Option.some.inj h
  exact g_vret C dX0_addDots_15
set_option maxRecDepth 100000 in
set_option maxHeartbeats 4000000 in
theorem c_X0_addDots (l : Launch) (D : va_G) (cA : Nat → ClassId) (a : Nat → Nat) (N : Nat) (B : tS) (p0 : Int32) (p1 : Int32) (p2 : Int32) (Bz : tS) (h : f_X0_addDots N B p0 p1 p2 = some Bz) : MV l D cA yX0_addDots wsX0_addDots 0 0 [.ref (a 0), .int p0, .int p1, .int p2] [bdW cA a B]  [bdW cA a Bz] := MV_of (cc := cX0_addDots) (maxL := 4) (by decide +kernel) rfl (List.forall_mem_cons.mpr ⟨rfl, List.forall_mem_cons.mpr ⟨rfl, List.forall_mem_cons.mpr ⟨rfl, List.forall_mem_cons.mpr ⟨rfl, List.forall_mem_nil _⟩⟩⟩⟩) (Nat.le_of_ble_eq_true rfl) (fun X e1 e2 e3 C => by subst e1; subst e2; subst e3; exact B_X0_addDots C a N B p0 p1 p2 Bz h)
set_option maxRecDepth 100000 in
set_option maxHeartbeats 4000000 in
theorem nd_X0_addDots : nd yX0_addDots 3 := ⟨by decide +kernel, by decide +kernel, by decide +kernel⟩
set_option maxRecDepth 100000 in
set_option maxHeartbeats 4000000 in
theorem k_X0_addDots {X : gX} {own : String} {cc : ByteArray} {nL : Nat} {ret : Option FieldType} {Ts : List Cond} {fr lm : Nat} {Q : State → Prop} {ms : List va_W} {L : List (Option Value)} {st : List Value} {pc pc' idx : Nat} {ρ : Type} {T : tS → Option ρ} {res : ρ} (C : cx X own cc nL ret Ts fr lm) (a : Nat → Nat) (N : Nat) (B : tS) (p0 : Int32) (p1 : Int32) (p2 : Int32) (is : List Nat) (hC : is.map (fun i => ms[i]?) = [some (bdW (gcA X) a B)]) (hn : is.Nodup) (hG : GoodIn Ts (wsV own idx RX0 yX0_addDots wsX0_addDots)) (hR : 0 + 1 ≤ fr ∧ 8 + (4 + 11) + 0 ≤ lm) (hst : (st.map fun v => v.category).sum ≤ 8) (hLn : L.length = nL) (d : decode cc pc = .ok (.invokevirtual idx, 3)) (hp : pc + 3 = pc') (h : bd (f_X0_addDots N B p0 p1 p2) T = some res) (kk : ∀ (Bz : tS), T Bz = some res → G X Q (rpl ms is [bdW (gcA X) a Bz]) L (st) pc') : G X Q ms L (.int p2 :: .int p1 :: .int p0 :: .ref (a 0) :: st) pc := by
  obtain ⟨Bz, h1, h⟩ := ob h
  exact G_callVV C (As := [.int p0, .int p1, .int p2]) (c_X0_addDots (gl X) (gD X) (gcA X) a N B p0 p1 p2 Bz h1) hG rfl nd_X0_addDots hR (q0 := 0) rfl rfl hC hn rfl rfl hst hLn d hp (kk Bz h)
theorem hi_X0_hasNote_X0 : ∀ w ∈ wsX00, w ∈ wsX0_hasNote := fun w h => List.mem_cons_of_mem _ (List.mem_append_right _ h)
theorem lk_X0_hasNote_1 : Cond.fieldLink RX0 9 "NoteThemes$Board" "notes" "I" ∈ wsX0_hasNote := List.mem_of_getElem? (i := 1) rfl
def f_X0_hasNote (N : Nat) (B : tS) (p0 : Int32) : Option (Int32) := (if p0 < 0 then some (0 : Int32) else (if (B 0 0) ≤ p0 then some (0 : Int32) else some (1 : Int32)))
set_option maxRecDepth 100000 in
set_option maxHeartbeats 4000000 in
theorem B_X0_hasNote {X : gX} (C : cx X RX0 cX0_hasNote 2 (some .boolean) wsX0_hasNote 0 0) (a : Nat → Nat) (N : Nat) (B : tS) (p0 : Int32) (r : Int32) (h : f_X0_hasNote N B p0 = some r) : G X (QI X r [bdW (gcA X) a B]) [bdW (gcA X) a B] [some (.ref (a 0)), some (.int p0)] [] 0 := by
  unfold f_X0_hasNote at h
  refine g_iload_n (pc' := 1) C dX0_hasNote_0 rfl rfl ?_
  refine g_if_lt (pc' := 4) (tgt := 16) C dX0_hasNote_1 (by decide) rfl h (fun c h => ?_) (fun c h => ?_)
  · refine g_iconst (pc' := 17) (v := 0) C dX0_hasNote_16 (by decide) rfl ?_
    obtain rfl := Option.some.inj h
    exact g_zret0 C rfl dX0_hasNote_17
  · refine g_iload_n (pc' := 5) C dX0_hasNote_4 rfl rfl ?_
    refine g_aload_n (pc' := 6) C dX0_hasNote_5 rfl rfl ?_
    refine gg_X0_0 (pc' := 9) (i := 0) C rfl hi_X0_hasNote_X0 lk_X0_hasNote_1 dX0_hasNote_6 rfl ?_
    refine g_icmp_ge (pc' := 12) (tgt := 16) C dX0_hasNote_9 (by decide) rfl h (fun c h => ?_) (fun c h => ?_)
    · refine g_iconst (pc' := 17) (v := 0) C dX0_hasNote_16 (by decide) rfl ?_
      obtain rfl := Option.some.inj h
      exact g_zret0 C rfl dX0_hasNote_17
    · refine g_iconst (pc' := 13) (v := 1) C dX0_hasNote_12 (by decide) rfl ?_
      refine g_goto (pc' := 17) C dX0_hasNote_13 (by decide) ?_
      obtain rfl := Option.some.inj h
      exact g_zret0 C rfl dX0_hasNote_17
set_option maxRecDepth 100000 in
set_option maxHeartbeats 4000000 in
theorem c_X0_hasNote (l : Launch) (D : va_G) (cA : Nat → ClassId) (a : Nat → Nat) (N : Nat) (B : tS) (p0 : Int32) (r : Int32) (h : f_X0_hasNote N B p0 = some r) : MI l D cA yX0_hasNote wsX0_hasNote 0 0 [.ref (a 0), .int p0] [bdW cA a B] r [bdW cA a B] := MI_of (cc := cX0_hasNote) (maxL := 2) (rt := some .boolean) (by decide +kernel) rfl (List.forall_mem_cons.mpr ⟨rfl, List.forall_mem_cons.mpr ⟨rfl, List.forall_mem_nil _⟩⟩) (Nat.le_of_ble_eq_true rfl) (fun X e1 e2 e3 C => by subst e1; subst e2; subst e3; exact B_X0_hasNote C a N B p0 r h)
set_option maxRecDepth 100000 in
set_option maxHeartbeats 4000000 in
theorem nd_X0_hasNote : nd yX0_hasNote 1 := ⟨by decide +kernel, by decide +kernel, by decide +kernel⟩
set_option maxRecDepth 100000 in
set_option maxHeartbeats 4000000 in
theorem k_X0_hasNote {X : gX} {own : String} {cc : ByteArray} {nL : Nat} {ret : Option FieldType} {Ts : List Cond} {fr lm : Nat} {Q : State → Prop} {ms : List va_W} {L : List (Option Value)} {st : List Value} {pc pc' idx : Nat} {ρ : Type} {T : Int32 → Option ρ} {res : ρ} (C : cx X own cc nL ret Ts fr lm) (a : Nat → Nat) (N : Nat) (B : tS) (p0 : Int32) (is : List Nat) (hC : is.map (fun i => ms[i]?) = [some (bdW (gcA X) a B)]) (hn : is.Nodup) (hG : GoodIn Ts (wsV own idx RX0 yX0_hasNote wsX0_hasNote)) (hR : 0 + 1 ≤ fr ∧ 8 + (2 + 11) + 0 ≤ lm) (hst : (st.map fun v => v.category).sum ≤ 8) (hLn : L.length = nL) (d : decode cc pc = .ok (.invokevirtual idx, 3)) (hp : pc + 3 = pc') (h : bd (f_X0_hasNote N B p0) T = some res) (kk : ∀ (r : Int32), T r = some res → G X Q (ms) L (.int r :: st) pc') : G X Q ms L (.int p0 :: .ref (a 0) :: st) pc := by
  obtain ⟨r, h1, h⟩ := ob h
  exact G_callVI C (As := [.int p0]) (c_X0_hasNote (gl X) (gD X) (gcA X) a N B p0 r h1) hG rfl nd_X0_hasNote hR (q0 := 0) rfl rfl hC hn rfl rfl hst hLn d hp (G_ms (rpl_same (mc := [bdW (gcA X) a B]) hC) (kk r h))
def f_X0_dotsOn_4b (N : Nat) (B : tS) (p0 : Int32)  (k4 : Int32 → Int32 → Option (Int32)) (x2 : Int32) (x3 : Int32) : Option (Int32) := (if (6 : Int32) ≤ x3 then some x2 else (bd (f_X0_dotsOfPerson N B x3 p0) (fun r1 => k4 (x2 + r1) (x3 + 1))))
def f_X0_dotsOn_4 (N : Nat) (B : tS) (p0 : Int32)  : Nat → Int32 → Int32 → Option (Int32)
  | 0 => fun _ _ => none
  | n + 1 => f_X0_dotsOn_4b N B p0  (f_X0_dotsOn_4 N B p0  n)
set_option maxRecDepth 100000 in
set_option maxHeartbeats 4000000 in
theorem B_X0_dotsOn_4b {X : gX} (C : cx X RX0 cX0_dotsOn 4 (some .int) wsX0_dotsOn 1 22) (a : Nat → Nat) (N : Nat) (B : tS) (p0 : Int32) (r : Int32)  (k4 : Int32 → Int32 → Option (Int32)) (hk4 : ∀ (x2 : Int32) (x3 : Int32), k4 x2 x3 = some r → G X (QI X r [bdW (gcA X) a B]) [bdW (gcA X) a B] [some (.ref (a 0)), some (.int p0), some (.int x2), some (.int x3)] [] 4) (x2 : Int32) (x3 : Int32) (h : f_X0_dotsOn_4b N B p0  k4 x2 x3 = some r) : G X (QI X r [bdW (gcA X) a B]) [bdW (gcA X) a B] [some (.ref (a 0)), some (.int p0), some (.int x2), some (.int x3)] [] 4 := by
  unfold f_X0_dotsOn_4b at h
  refine g_iload_n (pc' := 5) C dX0_dotsOn_4 rfl rfl ?_
  refine g_bipush (pc' := 7) (v := 6) C dX0_dotsOn_5 (by decide) rfl ?_
  refine g_icmp_ge (pc' := 10) (tgt := 25) C dX0_dotsOn_7 (by decide) rfl h (fun c h => ?_) (fun c h => ?_)
  · refine g_iload_n (pc' := 26) C dX0_dotsOn_25 rfl rfl ?_
    obtain rfl := Option.some.inj h
    exact g_iret C dX0_dotsOn_26
  · refine g_iload_n (pc' := 11) C dX0_dotsOn_10 rfl rfl ?_
    refine g_aload_n (pc' := 12) C dX0_dotsOn_11 rfl rfl ?_
    refine g_iload_n (pc' := 13) C dX0_dotsOn_12 rfl rfl ?_
    refine g_iload_n (pc' := 14) C dX0_dotsOn_13 rfl rfl ?_
    refine k_X0_dotsOfPerson (pc' := 17) C a N B x3 p0 [0] rfl (by decide) gX0_dotsOn_X0_dotsOfPerson ⟨Nat.le_of_ble_eq_true rfl, Nat.le_of_ble_eq_true rfl⟩ (Nat.le_of_ble_eq_true rfl) rfl dX0_dotsOn_14 rfl h (fun r1 h => ?_)
    refine g_iadd (pc' := 18) C dX0_dotsOn_17 rfl ?_
    refine g_istore_n (pc' := 19) C dX0_dotsOn_18 (Nat.le_of_ble_eq_true rfl) rfl (L' := [some (.ref (a 0)), some (.int p0), some (.int (x2 + r1)), some (.int x3)]) rfl ?_
    refine g_iinc (pc' := 22) (v := (x3 + 1)) C dX0_dotsOn_19 rfl rfl rfl (L' := [some (.ref (a 0)), some (.int p0), some (.int (x2 + r1)), some (.int (x3 + 1))]) rfl ?_
    refine g_goto (pc' := 4) C dX0_dotsOn_22 (by decide) ?_
    exact G_loc (lle_s (lle_s (lle_s (lle_s lle_0)))) (hk4 (x2 + r1) (x3 + 1) h)
set_option maxRecDepth 100000 in
set_option maxHeartbeats 4000000 in
theorem L_X0_dotsOn_4 {X : gX} (C : cx X RX0 cX0_dotsOn 4 (some .int) wsX0_dotsOn 1 22) (a : Nat → Nat) (N : Nat) (B : tS) (p0 : Int32) (r : Int32)  : ∀ (n : Nat) (x2 : Int32) (x3 : Int32), f_X0_dotsOn_4 N B p0  n x2 x3 = some r → G X (QI X r [bdW (gcA X) a B]) [bdW (gcA X) a B] [some (.ref (a 0)), some (.int p0), some (.int x2), some (.int x3)] [] 4 := by
  intro n
  induction n with
  | zero => intro x2 x3 h; have h : (none : Option (Int32)) = some r := h; cases h
  | succ n ih => intro x2 x3 h; exact B_X0_dotsOn_4b C a N B p0 r  (f_X0_dotsOn_4 N B p0  n) ih x2 x3 h
def f_X0_dotsOn (N : Nat) (B : tS) (p0 : Int32) : Option (Int32) := f_X0_dotsOn_4 N B p0 N (0 : Int32) (0 : Int32)
set_option maxRecDepth 100000 in
set_option maxHeartbeats 4000000 in
theorem B_X0_dotsOn {X : gX} (C : cx X RX0 cX0_dotsOn 4 (some .int) wsX0_dotsOn 1 22) (a : Nat → Nat) (N : Nat) (B : tS) (p0 : Int32) (r : Int32) (h : f_X0_dotsOn N B p0 = some r) : G X (QI X r [bdW (gcA X) a B]) [bdW (gcA X) a B] [some (.ref (a 0)), some (.int p0), none, none] [] 0 := by
  unfold f_X0_dotsOn at h
  refine g_iconst (pc' := 1) (v := 0) C dX0_dotsOn_0 (by decide) rfl ?_
  refine g_istore_n (pc' := 2) C dX0_dotsOn_1 (Nat.le_of_ble_eq_true rfl) rfl (L' := [some (.ref (a 0)), some (.int p0), some (.int (0 : Int32)), none]) rfl ?_
  refine g_iconst (pc' := 3) (v := 0) C dX0_dotsOn_2 (by decide) rfl ?_
  refine g_istore_n (pc' := 4) C dX0_dotsOn_3 (Nat.le_of_ble_eq_true rfl) rfl (L' := [some (.ref (a 0)), some (.int p0), some (.int (0 : Int32)), some (.int (0 : Int32))]) rfl ?_
  exact G_loc (lle_s (lle_s (lle_s (lle_s lle_0)))) (L_X0_dotsOn_4 C a N B p0 r N (0 : Int32) (0 : Int32) h)
set_option maxRecDepth 100000 in
set_option maxHeartbeats 4000000 in
theorem c_X0_dotsOn (l : Launch) (D : va_G) (cA : Nat → ClassId) (a : Nat → Nat) (N : Nat) (B : tS) (p0 : Int32) (r : Int32) (h : f_X0_dotsOn N B p0 = some r) : MI l D cA yX0_dotsOn wsX0_dotsOn 1 22 [.ref (a 0), .int p0] [bdW cA a B] r [bdW cA a B] := MI_of (cc := cX0_dotsOn) (maxL := 4) (rt := some .int) (by decide +kernel) rfl (List.forall_mem_cons.mpr ⟨rfl, List.forall_mem_cons.mpr ⟨rfl, List.forall_mem_nil _⟩⟩) (Nat.le_of_ble_eq_true rfl) (fun X e1 e2 e3 C => by subst e1; subst e2; subst e3; exact B_X0_dotsOn C a N B p0 r h)
set_option maxRecDepth 100000 in
set_option maxHeartbeats 4000000 in
theorem nd_X0_dotsOn : nd yX0_dotsOn 1 := ⟨by decide +kernel, by decide +kernel, by decide +kernel⟩
set_option maxRecDepth 100000 in
set_option maxHeartbeats 4000000 in
theorem k_X0_dotsOn {X : gX} {own : String} {cc : ByteArray} {nL : Nat} {ret : Option FieldType} {Ts : List Cond} {fr lm : Nat} {Q : State → Prop} {ms : List va_W} {L : List (Option Value)} {st : List Value} {pc pc' idx : Nat} {ρ : Type} {T : Int32 → Option ρ} {res : ρ} (C : cx X own cc nL ret Ts fr lm) (a : Nat → Nat) (N : Nat) (B : tS) (p0 : Int32) (is : List Nat) (hC : is.map (fun i => ms[i]?) = [some (bdW (gcA X) a B)]) (hn : is.Nodup) (hG : GoodIn Ts (wsV own idx RX0 yX0_dotsOn wsX0_dotsOn)) (hR : 1 + 1 ≤ fr ∧ 8 + (4 + 11) + 22 ≤ lm) (hst : (st.map fun v => v.category).sum ≤ 8) (hLn : L.length = nL) (d : decode cc pc = .ok (.invokevirtual idx, 3)) (hp : pc + 3 = pc') (h : bd (f_X0_dotsOn N B p0) T = some res) (kk : ∀ (r : Int32), T r = some res → G X Q (ms) L (.int r :: st) pc') : G X Q ms L (.int p0 :: .ref (a 0) :: st) pc := by
  obtain ⟨r, h1, h⟩ := ob h
  exact G_callVI C (As := [.int p0]) (c_X0_dotsOn (gl X) (gD X) (gcA X) a N B p0 r h1) hG rfl nd_X0_dotsOn hR (q0 := 0) rfl rfl hC hn rfl rfl hst hLn d hp (G_ms (rpl_same (mc := [bdW (gcA X) a B]) hC) (kk r h))
theorem hi_X0_copyNote_X0 : ∀ w ∈ wsX00, w ∈ wsX0_copyNote := fun w h => List.mem_cons_of_mem _ (List.mem_append_right _ h)
theorem lk_X0_copyNote_1 : Cond.fieldLink RX0 15 "NoteThemes$Board" "columnOf" "[I" ∈ wsX0_copyNote := List.mem_of_getElem? (i := 1) rfl
theorem lk_X0_copyNote_2 : Cond.fieldLink RX0 19 "NoteThemes$Board" "rowOf" "[I" ∈ wsX0_copyNote := List.mem_of_getElem? (i := 2) rfl
theorem lk_X0_copyNote_3 : Cond.fieldLink RX0 22 "NoteThemes$Board" "themeOf" "[I" ∈ wsX0_copyNote := List.mem_of_getElem? (i := 3) rfl
theorem lk_X0_copyNote_4 : Cond.fieldLink RX0 25 "NoteThemes$Board" "dotsAt" "[I" ∈ wsX0_copyNote := List.mem_of_getElem? (i := 4) rfl
def f_X0_copyNote_31b (N : Nat) (p0 : Int32) (p1 : Int32)  (k31 : Int32 → tS → Option (tS)) (x3 : Int32) (B : tS) : Option (tS) := (if (6 : Int32) ≤ x3 then some B else (if ((p0 * (6 : Int32)) + x3) < 0 ∨ 120 ≤ ((p0 * (6 : Int32)) + x3).toNatClampNeg then none else (if ((p1 * (6 : Int32)) + x3) < 0 ∨ 120 ≤ ((p1 * (6 : Int32)) + x3).toNatClampNeg then none else k31 (x3 + 1) (va_up B 4 (upd (B 4) ((p1 * (6 : Int32)) + x3).toNatClampNeg (B 4 ((p0 * (6 : Int32)) + x3).toNatClampNeg))))))
def f_X0_copyNote_31 (N : Nat) (p0 : Int32) (p1 : Int32)  : Nat → Int32 → tS → Option (tS)
  | 0 => fun _ _ => none
  | n + 1 => f_X0_copyNote_31b N p0 p1  (f_X0_copyNote_31 N p0 p1  n)
set_option maxRecDepth 100000 in
set_option maxHeartbeats 4000000 in
theorem B_X0_copyNote_31b {X : gX} (C : cx X RX0 cX0_copyNote 4 none wsX0_copyNote 1 23) (a : Nat → Nat) (N : Nat) (p0 : Int32) (p1 : Int32) (Bz : tS)  (k31 : Int32 → tS → Option (tS)) (hk31 : ∀ (x3 : Int32) (B : tS), k31 x3 B = some Bz → G X (QV X [bdW (gcA X) a Bz]) [bdW (gcA X) a B] [some (.ref (a 0)), some (.int p0), some (.int p1), some (.int x3)] [] 31) (x3 : Int32) (B : tS) (h : f_X0_copyNote_31b N p0 p1  k31 x3 B = some Bz) : G X (QV X [bdW (gcA X) a Bz]) [bdW (gcA X) a B] [some (.ref (a 0)), some (.int p0), some (.int p1), some (.int x3)] [] 31 := by
  unfold f_X0_copyNote_31b at h
  refine g_iload_n (pc' := 32) C dX0_copyNote_31 rfl rfl ?_
  refine g_bipush (pc' := 34) (v := 6) C dX0_copyNote_32 (by decide) rfl ?_
  refine g_icmp_ge (pc' := 37) (tgt := 65) C dX0_copyNote_34 (by decide) rfl h (fun c h => ?_) (fun c h => ?_)
  · obtain rfl := Option.some.inj h
    exact g_vret C dX0_copyNote_65
  · refine g_aload_n (pc' := 38) C dX0_copyNote_37 rfl rfl ?_
    refine gg_X0_4 (pc' := 41) (i := 0) C rfl hi_X0_copyNote_X0 lk_X0_copyNote_4 dX0_copyNote_38 rfl ?_
    refine g_iload_n (pc' := 42) C dX0_copyNote_41 rfl rfl ?_
    refine g_bipush (pc' := 44) (v := 6) C dX0_copyNote_42 (by decide) rfl ?_
    refine g_imul (pc' := 45) C dX0_copyNote_44 rfl ?_
    refine g_iload_n (pc' := 46) C dX0_copyNote_45 rfl rfl ?_
    refine g_iadd (pc' := 47) C dX0_copyNote_46 rfl ?_
    refine g_aload_n (pc' := 48) C dX0_copyNote_47 rfl rfl ?_
    refine gg_X0_4 (pc' := 51) (i := 0) C rfl hi_X0_copyNote_X0 lk_X0_copyNote_4 dX0_copyNote_48 rfl ?_
    refine g_iload_n (pc' := 52) C dX0_copyNote_51 rfl rfl ?_
    refine g_bipush (pc' := 54) (v := 6) C dX0_copyNote_52 (by decide) rfl ?_
    refine g_imul (pc' := 55) C dX0_copyNote_54 rfl ?_
    refine g_iload_n (pc' := 56) C dX0_copyNote_55 rfl rfl ?_
    refine g_iadd (pc' := 57) C dX0_copyNote_56 rfl ?_
    refine g_iald (pc' := 58) (i := 0) (j := 4) C rfl rfl dX0_copyNote_57 rfl h (fun h => ?_)
    refine g_iast (pc' := 59) (i := 0) (j := 4) (w' := bdW (gcA X) a (va_up B 4 (upd (B 4) ((p1 * (6 : Int32)) + x3).toNatClampNeg (B 4 ((p0 * (6 : Int32)) + x3).toNatClampNeg)))) C rfl rfl rfl dX0_copyNote_58 rfl h (fun h => ?_)
    show G X _ [bdW (gcA X) a (va_up B 4 (upd (B 4) ((p1 * (6 : Int32)) + x3).toNatClampNeg (B 4 ((p0 * (6 : Int32)) + x3).toNatClampNeg)))] _ _ _
    refine g_iinc (pc' := 62) (v := (x3 + 1)) C dX0_copyNote_59 rfl rfl rfl (L' := [some (.ref (a 0)), some (.int p0), some (.int p1), some (.int (x3 + 1))]) rfl ?_
    refine g_goto (pc' := 31) C dX0_copyNote_62 (by decide) ?_
    exact G_loc (lle_s (lle_s (lle_s (lle_s lle_0)))) (hk31 (x3 + 1) (va_up B 4 (upd (B 4) ((p1 * (6 : Int32)) + x3).toNatClampNeg (B 4 ((p0 * (6 : Int32)) + x3).toNatClampNeg))) h)
set_option maxRecDepth 100000 in
set_option maxHeartbeats 4000000 in
theorem L_X0_copyNote_31 {X : gX} (C : cx X RX0 cX0_copyNote 4 none wsX0_copyNote 1 23) (a : Nat → Nat) (N : Nat) (p0 : Int32) (p1 : Int32) (Bz : tS)  : ∀ (n : Nat) (x3 : Int32) (B : tS), f_X0_copyNote_31 N p0 p1  n x3 B = some Bz → G X (QV X [bdW (gcA X) a Bz]) [bdW (gcA X) a B] [some (.ref (a 0)), some (.int p0), some (.int p1), some (.int x3)] [] 31 := by
  intro n
  induction n with
  | zero => intro x3 B h; have h : (none : Option (tS)) = some Bz := h; cases h
  | succ n ih => intro x3 B h; exact B_X0_copyNote_31b C a N p0 p1 Bz  (f_X0_copyNote_31 N p0 p1  n) ih x3 B h
def f_X0_copyNote (N : Nat) (B : tS) (p0 : Int32) (p1 : Int32) : Option (tS) := (if p0 < 0 ∨ 20 ≤ p0.toNatClampNeg then none else (if p0 < 0 ∨ 20 ≤ p0.toNatClampNeg then none else (bd (f_X0_moveNote N B p1 (B 1 p0.toNatClampNeg) (B 2 p0.toNatClampNeg)) (fun B1 => (if p0 < 0 ∨ 20 ≤ p0.toNatClampNeg then none else (if p1 < 0 ∨ 20 ≤ p1.toNatClampNeg then none else f_X0_copyNote_31 N p0 p1 N (0 : Int32) (va_up B1 3 (upd (B1 3) p1.toNatClampNeg (B1 3 p0.toNatClampNeg)))))))))
set_option maxRecDepth 100000 in
set_option maxHeartbeats 4000000 in
theorem B_X0_copyNote {X : gX} (C : cx X RX0 cX0_copyNote 4 none wsX0_copyNote 1 23) (a : Nat → Nat) (N : Nat) (B : tS) (p0 : Int32) (p1 : Int32) (Bz : tS) (h : f_X0_copyNote N B p0 p1 = some Bz) : G X (QV X [bdW (gcA X) a Bz]) [bdW (gcA X) a B] [some (.ref (a 0)), some (.int p0), some (.int p1), none] [] 0 := by
  unfold f_X0_copyNote at h
  refine g_aload_n (pc' := 1) C dX0_copyNote_0 rfl rfl ?_
  refine g_iload_n (pc' := 2) C dX0_copyNote_1 rfl rfl ?_
  refine g_aload_n (pc' := 3) C dX0_copyNote_2 rfl rfl ?_
  refine gg_X0_1 (pc' := 6) (i := 0) C rfl hi_X0_copyNote_X0 lk_X0_copyNote_1 dX0_copyNote_3 rfl ?_
  refine g_iload_n (pc' := 7) C dX0_copyNote_6 rfl rfl ?_
  refine g_iald (pc' := 8) (i := 0) (j := 1) C rfl rfl dX0_copyNote_7 rfl h (fun h => ?_)
  refine g_aload_n (pc' := 9) C dX0_copyNote_8 rfl rfl ?_
  refine gg_X0_2 (pc' := 12) (i := 0) C rfl hi_X0_copyNote_X0 lk_X0_copyNote_2 dX0_copyNote_9 rfl ?_
  refine g_iload_n (pc' := 13) C dX0_copyNote_12 rfl rfl ?_
  refine g_iald (pc' := 14) (i := 0) (j := 2) C rfl rfl dX0_copyNote_13 rfl h (fun h => ?_)
  refine k_X0_moveNote (pc' := 17) C a N B p1 (B 1 p0.toNatClampNeg) (B 2 p0.toNatClampNeg) [0] rfl (by decide) gX0_copyNote_X0_moveNote ⟨Nat.le_of_ble_eq_true rfl, Nat.le_of_ble_eq_true rfl⟩ (Nat.le_of_ble_eq_true rfl) rfl dX0_copyNote_14 rfl h (fun B1 h => ?_)
  show G X _ [bdW (gcA X) a B1] _ _ _
  refine g_aload_n (pc' := 18) C dX0_copyNote_17 rfl rfl ?_
  refine gg_X0_3 (pc' := 21) (i := 0) C rfl hi_X0_copyNote_X0 lk_X0_copyNote_3 dX0_copyNote_18 rfl ?_
  refine g_iload_n (pc' := 22) C dX0_copyNote_21 rfl rfl ?_
  refine g_aload_n (pc' := 23) C dX0_copyNote_22 rfl rfl ?_
  refine gg_X0_3 (pc' := 26) (i := 0) C rfl hi_X0_copyNote_X0 lk_X0_copyNote_3 dX0_copyNote_23 rfl ?_
  refine g_iload_n (pc' := 27) C dX0_copyNote_26 rfl rfl ?_
  refine g_iald (pc' := 28) (i := 0) (j := 3) C rfl rfl dX0_copyNote_27 rfl h (fun h => ?_)
  refine g_iast (pc' := 29) (i := 0) (j := 3) (w' := bdW (gcA X) a (va_up B1 3 (upd (B1 3) p1.toNatClampNeg (B1 3 p0.toNatClampNeg)))) C rfl rfl rfl dX0_copyNote_28 rfl h (fun h => ?_)
  show G X _ [bdW (gcA X) a (va_up B1 3 (upd (B1 3) p1.toNatClampNeg (B1 3 p0.toNatClampNeg)))] _ _ _
  refine g_iconst (pc' := 30) (v := 0) C dX0_copyNote_29 (by decide) rfl ?_
  refine g_istore_n (pc' := 31) C dX0_copyNote_30 (Nat.le_of_ble_eq_true rfl) rfl (L' := [some (.ref (a 0)), some (.int p0), some (.int p1), some (.int (0 : Int32))]) rfl ?_
  exact G_loc (lle_s (lle_s (lle_s (lle_s lle_0)))) (L_X0_copyNote_31 C a N p0 p1 Bz N (0 : Int32) (va_up B1 3 (upd (B1 3) p1.toNatClampNeg (B1 3 p0.toNatClampNeg))) h)
set_option maxRecDepth 100000 in
set_option maxHeartbeats 4000000 in
theorem c_X0_copyNote (l : Launch) (D : va_G) (cA : Nat → ClassId) (a : Nat → Nat) (N : Nat) (B : tS) (p0 : Int32) (p1 : Int32) (Bz : tS) (h : f_X0_copyNote N B p0 p1 = some Bz) : MV l D cA yX0_copyNote wsX0_copyNote 1 23 [.ref (a 0), .int p0, .int p1] [bdW cA a B]  [bdW cA a Bz] := MV_of (cc := cX0_copyNote) (maxL := 4) (by decide +kernel) rfl (List.forall_mem_cons.mpr ⟨rfl, List.forall_mem_cons.mpr ⟨rfl, List.forall_mem_cons.mpr ⟨rfl, List.forall_mem_nil _⟩⟩⟩) (Nat.le_of_ble_eq_true rfl) (fun X e1 e2 e3 C => by subst e1; subst e2; subst e3; exact B_X0_copyNote C a N B p0 p1 Bz h)
set_option maxRecDepth 100000 in
set_option maxHeartbeats 4000000 in
theorem nd_X0_copyNote : nd yX0_copyNote 2 := ⟨by decide +kernel, by decide +kernel, by decide +kernel⟩
set_option maxRecDepth 100000 in
set_option maxHeartbeats 4000000 in
theorem k_X0_copyNote {X : gX} {own : String} {cc : ByteArray} {nL : Nat} {ret : Option FieldType} {Ts : List Cond} {fr lm : Nat} {Q : State → Prop} {ms : List va_W} {L : List (Option Value)} {st : List Value} {pc pc' idx : Nat} {ρ : Type} {T : tS → Option ρ} {res : ρ} (C : cx X own cc nL ret Ts fr lm) (a : Nat → Nat) (N : Nat) (B : tS) (p0 : Int32) (p1 : Int32) (is : List Nat) (hC : is.map (fun i => ms[i]?) = [some (bdW (gcA X) a B)]) (hn : is.Nodup) (hG : GoodIn Ts (wsV own idx RX0 yX0_copyNote wsX0_copyNote)) (hR : 1 + 1 ≤ fr ∧ 8 + (4 + 11) + 23 ≤ lm) (hst : (st.map fun v => v.category).sum ≤ 8) (hLn : L.length = nL) (d : decode cc pc = .ok (.invokevirtual idx, 3)) (hp : pc + 3 = pc') (h : bd (f_X0_copyNote N B p0 p1) T = some res) (kk : ∀ (Bz : tS), T Bz = some res → G X Q (rpl ms is [bdW (gcA X) a Bz]) L (st) pc') : G X Q ms L (.int p1 :: .int p0 :: .ref (a 0) :: st) pc := by
  obtain ⟨Bz, h1, h⟩ := ob h
  exact G_callVV C (As := [.int p0, .int p1]) (c_X0_copyNote (gl X) (gD X) (gcA X) a N B p0 p1 Bz h1) hG rfl nd_X0_copyNote hR (q0 := 0) rfl rfl hC hn rfl rfl hst hLn d hp (kk Bz h)
theorem hi_X0_notesOfTheme_X0 : ∀ w ∈ wsX00, w ∈ wsX0_notesOfTheme := fun w h => List.mem_cons_of_mem _ (List.mem_append_right _ h)
theorem lk_X0_notesOfTheme_1 : Cond.fieldLink RX0 9 "NoteThemes$Board" "notes" "I" ∈ wsX0_notesOfTheme := List.mem_of_getElem? (i := 1) rfl
theorem lk_X0_notesOfTheme_2 : Cond.fieldLink RX0 22 "NoteThemes$Board" "themeOf" "[I" ∈ wsX0_notesOfTheme := List.mem_of_getElem? (i := 2) rfl
def f_X0_notesOfTheme_25 (N : Nat) (B : tS) (p0 : Int32) (k4 : Int32 → Int32 → Option (Int32)) (x2 : Int32) (x3 : Int32) : Option (Int32) := k4 x2 (x3 + 1)
set_option maxRecDepth 100000 in
set_option maxHeartbeats 4000000 in
theorem B_X0_notesOfTheme_25 {X : gX} (C : cx X RX0 cX0_notesOfTheme 4 (some .int) wsX0_notesOfTheme 0 0) (a : Nat → Nat) (N : Nat) (B : tS) (p0 : Int32) (r : Int32) (k4 : Int32 → Int32 → Option (Int32)) (hk4 : ∀ (x2 : Int32) (x3 : Int32), k4 x2 x3 = some r → G X (QI X r [bdW (gcA X) a B]) [bdW (gcA X) a B] [some (.ref (a 0)), some (.int p0), some (.int x2), some (.int x3)] [] 4) (x2 : Int32) (x3 : Int32) (h : f_X0_notesOfTheme_25 N B p0 k4 x2 x3 = some r) : G X (QI X r [bdW (gcA X) a B]) [bdW (gcA X) a B] [some (.ref (a 0)), some (.int p0), some (.int x2), some (.int x3)] [] 25 := by
  unfold f_X0_notesOfTheme_25 at h
  refine g_iinc (pc' := 28) (v := (x3 + 1)) C dX0_notesOfTheme_25 rfl rfl rfl (L' := [some (.ref (a 0)), some (.int p0), some (.int x2), some (.int (x3 + 1))]) rfl ?_
  refine g_goto (pc' := 4) C dX0_notesOfTheme_28 (by decide) ?_
  exact G_loc (lle_s (lle_s (lle_s (lle_s lle_0)))) (hk4 x2 (x3 + 1) h)
def f_X0_notesOfTheme_4b (N : Nat) (B : tS) (p0 : Int32)  (k4 : Int32 → Int32 → Option (Int32)) (x2 : Int32) (x3 : Int32) : Option (Int32) := (if (B 0 0) ≤ x3 then some x2 else (if x3 < 0 ∨ 20 ≤ x3.toNatClampNeg then none else (if (B 3 x3.toNatClampNeg) = p0 then f_X0_notesOfTheme_25 N B p0 k4 (x2 + 1) x3 else f_X0_notesOfTheme_25 N B p0 k4 x2 x3)))
def f_X0_notesOfTheme_4 (N : Nat) (B : tS) (p0 : Int32)  : Nat → Int32 → Int32 → Option (Int32)
  | 0 => fun _ _ => none
  | n + 1 => f_X0_notesOfTheme_4b N B p0  (f_X0_notesOfTheme_4 N B p0  n)
set_option maxRecDepth 100000 in
set_option maxHeartbeats 4000000 in
theorem B_X0_notesOfTheme_4b {X : gX} (C : cx X RX0 cX0_notesOfTheme 4 (some .int) wsX0_notesOfTheme 0 0) (a : Nat → Nat) (N : Nat) (B : tS) (p0 : Int32) (r : Int32)  (k4 : Int32 → Int32 → Option (Int32)) (hk4 : ∀ (x2 : Int32) (x3 : Int32), k4 x2 x3 = some r → G X (QI X r [bdW (gcA X) a B]) [bdW (gcA X) a B] [some (.ref (a 0)), some (.int p0), some (.int x2), some (.int x3)] [] 4) (x2 : Int32) (x3 : Int32) (h : f_X0_notesOfTheme_4b N B p0  k4 x2 x3 = some r) : G X (QI X r [bdW (gcA X) a B]) [bdW (gcA X) a B] [some (.ref (a 0)), some (.int p0), some (.int x2), some (.int x3)] [] 4 := by
  unfold f_X0_notesOfTheme_4b at h
  refine g_iload_n (pc' := 5) C dX0_notesOfTheme_4 rfl rfl ?_
  refine g_aload_n (pc' := 6) C dX0_notesOfTheme_5 rfl rfl ?_
  refine gg_X0_0 (pc' := 9) (i := 0) C rfl hi_X0_notesOfTheme_X0 lk_X0_notesOfTheme_1 dX0_notesOfTheme_6 rfl ?_
  refine g_icmp_ge (pc' := 12) (tgt := 31) C dX0_notesOfTheme_9 (by decide) rfl h (fun c h => ?_) (fun c h => ?_)
  · refine g_iload_n (pc' := 32) C dX0_notesOfTheme_31 rfl rfl ?_
    obtain rfl := Option.some.inj h
    exact g_iret C dX0_notesOfTheme_32
  · refine g_aload_n (pc' := 13) C dX0_notesOfTheme_12 rfl rfl ?_
    refine gg_X0_3 (pc' := 16) (i := 0) C rfl hi_X0_notesOfTheme_X0 lk_X0_notesOfTheme_2 dX0_notesOfTheme_13 rfl ?_
    refine g_iload_n (pc' := 17) C dX0_notesOfTheme_16 rfl rfl ?_
    refine g_iald (pc' := 18) (i := 0) (j := 3) C rfl rfl dX0_notesOfTheme_17 rfl h (fun h => ?_)
    refine g_iload_n (pc' := 19) C dX0_notesOfTheme_18 rfl rfl ?_
    refine g_icmp_ne (pc' := 22) (tgt := 25) C dX0_notesOfTheme_19 (by decide) rfl h (fun c h => ?_) (fun c h => ?_)
    · refine g_iinc (pc' := 25) (v := (x2 + 1)) C dX0_notesOfTheme_22 rfl rfl rfl (L' := [some (.ref (a 0)), some (.int p0), some (.int (x2 + 1)), some (.int x3)]) rfl ?_
      exact G_loc (lle_s (lle_s (lle_s (lle_s lle_0)))) (B_X0_notesOfTheme_25 C a N B p0 r k4 hk4 (x2 + 1) x3 h)
    · exact G_loc (lle_s (lle_s (lle_s (lle_s lle_0)))) (B_X0_notesOfTheme_25 C a N B p0 r k4 hk4 x2 x3 h)
set_option maxRecDepth 100000 in
set_option maxHeartbeats 4000000 in
theorem L_X0_notesOfTheme_4 {X : gX} (C : cx X RX0 cX0_notesOfTheme 4 (some .int) wsX0_notesOfTheme 0 0) (a : Nat → Nat) (N : Nat) (B : tS) (p0 : Int32) (r : Int32)  : ∀ (n : Nat) (x2 : Int32) (x3 : Int32), f_X0_notesOfTheme_4 N B p0  n x2 x3 = some r → G X (QI X r [bdW (gcA X) a B]) [bdW (gcA X) a B] [some (.ref (a 0)), some (.int p0), some (.int x2), some (.int x3)] [] 4 := by
  intro n
  induction n with
  | zero => intro x2 x3 h; have h : (none : Option (Int32)) = some r := h; cases h
  | succ n ih => intro x2 x3 h; exact B_X0_notesOfTheme_4b C a N B p0 r  (f_X0_notesOfTheme_4 N B p0  n) ih x2 x3 h
def f_X0_notesOfTheme (N : Nat) (B : tS) (p0 : Int32) : Option (Int32) := f_X0_notesOfTheme_4 N B p0 N (0 : Int32) (0 : Int32)
set_option maxRecDepth 100000 in
set_option maxHeartbeats 4000000 in
theorem B_X0_notesOfTheme {X : gX} (C : cx X RX0 cX0_notesOfTheme 4 (some .int) wsX0_notesOfTheme 0 0) (a : Nat → Nat) (N : Nat) (B : tS) (p0 : Int32) (r : Int32) (h : f_X0_notesOfTheme N B p0 = some r) : G X (QI X r [bdW (gcA X) a B]) [bdW (gcA X) a B] [some (.ref (a 0)), some (.int p0), none, none] [] 0 := by
  unfold f_X0_notesOfTheme at h
  refine g_iconst (pc' := 1) (v := 0) C dX0_notesOfTheme_0 (by decide) rfl ?_
  refine g_istore_n (pc' := 2) C dX0_notesOfTheme_1 (Nat.le_of_ble_eq_true rfl) rfl (L' := [some (.ref (a 0)), some (.int p0), some (.int (0 : Int32)), none]) rfl ?_
  refine g_iconst (pc' := 3) (v := 0) C dX0_notesOfTheme_2 (by decide) rfl ?_
  refine g_istore_n (pc' := 4) C dX0_notesOfTheme_3 (Nat.le_of_ble_eq_true rfl) rfl (L' := [some (.ref (a 0)), some (.int p0), some (.int (0 : Int32)), some (.int (0 : Int32))]) rfl ?_
  exact G_loc (lle_s (lle_s (lle_s (lle_s lle_0)))) (L_X0_notesOfTheme_4 C a N B p0 r N (0 : Int32) (0 : Int32) h)
set_option maxRecDepth 100000 in
set_option maxHeartbeats 4000000 in
theorem c_X0_notesOfTheme (l : Launch) (D : va_G) (cA : Nat → ClassId) (a : Nat → Nat) (N : Nat) (B : tS) (p0 : Int32) (r : Int32) (h : f_X0_notesOfTheme N B p0 = some r) : MI l D cA yX0_notesOfTheme wsX0_notesOfTheme 0 0 [.ref (a 0), .int p0] [bdW cA a B] r [bdW cA a B] := MI_of (cc := cX0_notesOfTheme) (maxL := 4) (rt := some .int) (by decide +kernel) rfl (List.forall_mem_cons.mpr ⟨rfl, List.forall_mem_cons.mpr ⟨rfl, List.forall_mem_nil _⟩⟩) (Nat.le_of_ble_eq_true rfl) (fun X e1 e2 e3 C => by subst e1; subst e2; subst e3; exact B_X0_notesOfTheme C a N B p0 r h)
set_option maxRecDepth 100000 in
set_option maxHeartbeats 4000000 in
theorem nd_X0_notesOfTheme : nd yX0_notesOfTheme 1 := ⟨by decide +kernel, by decide +kernel, by decide +kernel⟩
set_option maxRecDepth 100000 in
set_option maxHeartbeats 4000000 in
theorem k_X0_notesOfTheme {X : gX} {own : String} {cc : ByteArray} {nL : Nat} {ret : Option FieldType} {Ts : List Cond} {fr lm : Nat} {Q : State → Prop} {ms : List va_W} {L : List (Option Value)} {st : List Value} {pc pc' idx : Nat} {ρ : Type} {T : Int32 → Option ρ} {res : ρ} (C : cx X own cc nL ret Ts fr lm) (a : Nat → Nat) (N : Nat) (B : tS) (p0 : Int32) (is : List Nat) (hC : is.map (fun i => ms[i]?) = [some (bdW (gcA X) a B)]) (hn : is.Nodup) (hG : GoodIn Ts (wsV own idx RX0 yX0_notesOfTheme wsX0_notesOfTheme)) (hR : 0 + 1 ≤ fr ∧ 8 + (4 + 11) + 0 ≤ lm) (hst : (st.map fun v => v.category).sum ≤ 8) (hLn : L.length = nL) (d : decode cc pc = .ok (.invokevirtual idx, 3)) (hp : pc + 3 = pc') (h : bd (f_X0_notesOfTheme N B p0) T = some res) (kk : ∀ (r : Int32), T r = some res → G X Q (ms) L (.int r :: st) pc') : G X Q ms L (.int p0 :: .ref (a 0) :: st) pc := by
  obtain ⟨r, h1, h⟩ := ob h
  exact G_callVI C (As := [.int p0]) (c_X0_notesOfTheme (gl X) (gD X) (gcA X) a N B p0 r h1) hG rfl nd_X0_notesOfTheme hR (q0 := 0) rfl rfl hC hn rfl rfl hst hLn d hp (G_ms (rpl_same (mc := [bdW (gcA X) a B]) hC) (kk r h))
theorem hi_X0_voteOf_X0 : ∀ w ∈ wsX00, w ∈ wsX0_voteOf := fun w h => List.mem_cons_of_mem _ (List.mem_append_right _ h)
theorem lk_X0_voteOf_1 : Cond.fieldLink RX0 31 "NoteThemes$Board" "votedAt" "[I" ∈ wsX0_voteOf := List.mem_of_getElem? (i := 1) rfl
def f_X0_voteOf (N : Nat) (B : tS) (p0 : Int32) (p1 : Int32) : Option (Int32) := (if ((p1 * (6 : Int32)) + p0) < 0 ∨ 48 ≤ ((p1 * (6 : Int32)) + p0).toNatClampNeg then none else some (B 6 ((p1 * (6 : Int32)) + p0).toNatClampNeg))
set_option maxRecDepth 100000 in
set_option maxHeartbeats 4000000 in
theorem B_X0_voteOf {X : gX} (C : cx X RX0 cX0_voteOf 3 (some .int) wsX0_voteOf 0 0) (a : Nat → Nat) (N : Nat) (B : tS) (p0 : Int32) (p1 : Int32) (r : Int32) (h : f_X0_voteOf N B p0 p1 = some r) : G X (QI X r [bdW (gcA X) a B]) [bdW (gcA X) a B] [some (.ref (a 0)), some (.int p0), some (.int p1)] [] 0 := by
  unfold f_X0_voteOf at h
  refine g_aload_n (pc' := 1) C dX0_voteOf_0 rfl rfl ?_
  refine gg_X0_6 (pc' := 4) (i := 0) C rfl hi_X0_voteOf_X0 lk_X0_voteOf_1 dX0_voteOf_1 rfl ?_
  refine g_iload_n (pc' := 5) C dX0_voteOf_4 rfl rfl ?_
  refine g_bipush (pc' := 7) (v := 6) C dX0_voteOf_5 (by decide) rfl ?_
  refine g_imul (pc' := 8) C dX0_voteOf_7 rfl ?_
  refine g_iload_n (pc' := 9) C dX0_voteOf_8 rfl rfl ?_
  refine g_iadd (pc' := 10) C dX0_voteOf_9 rfl ?_
  refine g_iald (pc' := 11) (i := 0) (j := 5) C rfl rfl dX0_voteOf_10 rfl h (fun h => ?_)
  obtain rfl := Option.some.inj h
  exact g_iret C dX0_voteOf_11
set_option maxRecDepth 100000 in
set_option maxHeartbeats 4000000 in
theorem c_X0_voteOf (l : Launch) (D : va_G) (cA : Nat → ClassId) (a : Nat → Nat) (N : Nat) (B : tS) (p0 : Int32) (p1 : Int32) (r : Int32) (h : f_X0_voteOf N B p0 p1 = some r) : MI l D cA yX0_voteOf wsX0_voteOf 0 0 [.ref (a 0), .int p0, .int p1] [bdW cA a B] r [bdW cA a B] := MI_of (cc := cX0_voteOf) (maxL := 3) (rt := some .int) (by decide +kernel) rfl (List.forall_mem_cons.mpr ⟨rfl, List.forall_mem_cons.mpr ⟨rfl, List.forall_mem_cons.mpr ⟨rfl, List.forall_mem_nil _⟩⟩⟩) (Nat.le_of_ble_eq_true rfl) (fun X e1 e2 e3 C => by subst e1; subst e2; subst e3; exact B_X0_voteOf C a N B p0 p1 r h)
set_option maxRecDepth 100000 in
set_option maxHeartbeats 4000000 in
theorem nd_X0_voteOf : nd yX0_voteOf 2 := ⟨by decide +kernel, by decide +kernel, by decide +kernel⟩
set_option maxRecDepth 100000 in
set_option maxHeartbeats 4000000 in
theorem k_X0_voteOf {X : gX} {own : String} {cc : ByteArray} {nL : Nat} {ret : Option FieldType} {Ts : List Cond} {fr lm : Nat} {Q : State → Prop} {ms : List va_W} {L : List (Option Value)} {st : List Value} {pc pc' idx : Nat} {ρ : Type} {T : Int32 → Option ρ} {res : ρ} (C : cx X own cc nL ret Ts fr lm) (a : Nat → Nat) (N : Nat) (B : tS) (p0 : Int32) (p1 : Int32) (is : List Nat) (hC : is.map (fun i => ms[i]?) = [some (bdW (gcA X) a B)]) (hn : is.Nodup) (hG : GoodIn Ts (wsV own idx RX0 yX0_voteOf wsX0_voteOf)) (hR : 0 + 1 ≤ fr ∧ 8 + (3 + 11) + 0 ≤ lm) (hst : (st.map fun v => v.category).sum ≤ 8) (hLn : L.length = nL) (d : decode cc pc = .ok (.invokevirtual idx, 3)) (hp : pc + 3 = pc') (h : bd (f_X0_voteOf N B p0 p1) T = some res) (kk : ∀ (r : Int32), T r = some res → G X Q (ms) L (.int r :: st) pc') : G X Q ms L (.int p1 :: .int p0 :: .ref (a 0) :: st) pc := by
  obtain ⟨r, h1, h⟩ := ob h
  exact G_callVI C (As := [.int p0, .int p1]) (c_X0_voteOf (gl X) (gD X) (gcA X) a N B p0 p1 r h1) hG rfl nd_X0_voteOf hR (q0 := 0) rfl rfl hC hn rfl rfl hst hLn d hp (G_ms (rpl_same (mc := [bdW (gcA X) a B]) hC) (kk r h))
theorem hi_X0_setVote_X0 : ∀ w ∈ wsX00, w ∈ wsX0_setVote := fun w h => List.mem_cons_of_mem _ (List.mem_append_right _ h)
theorem lk_X0_setVote_1 : Cond.fieldLink RX0 31 "NoteThemes$Board" "votedAt" "[I" ∈ wsX0_setVote := List.mem_of_getElem? (i := 1) rfl
def f_X0_setVote (N : Nat) (B : tS) (p0 : Int32) (p1 : Int32) (p2 : Int32) : Option (tS) := (if ((p1 * (6 : Int32)) + p0) < 0 ∨ 48 ≤ ((p1 * (6 : Int32)) + p0).toNatClampNeg then none else some (va_up B 6 (upd (B 6) ((p1 * (6 : Int32)) + p0).toNatClampNeg p2)))
set_option maxRecDepth 100000 in
set_option maxHeartbeats 4000000 in
theorem B_X0_setVote {X : gX} (C : cx X RX0 cX0_setVote 4 none wsX0_setVote 0 0) (a : Nat → Nat) (N : Nat) (B : tS) (p0 : Int32) (p1 : Int32) (p2 : Int32) (Bz : tS) (h : f_X0_setVote N B p0 p1 p2 = some Bz) : G X (QV X [bdW (gcA X) a Bz]) [bdW (gcA X) a B] [some (.ref (a 0)), some (.int p0), some (.int p1), some (.int p2)] [] 0 := by
  unfold f_X0_setVote at h
  refine g_aload_n (pc' := 1) C dX0_setVote_0 rfl rfl ?_
  refine gg_X0_6 (pc' := 4) (i := 0) C rfl hi_X0_setVote_X0 lk_X0_setVote_1 dX0_setVote_1 rfl ?_
  refine g_iload_n (pc' := 5) C dX0_setVote_4 rfl rfl ?_
  refine g_bipush (pc' := 7) (v := 6) C dX0_setVote_5 (by decide) rfl ?_
  refine g_imul (pc' := 8) C dX0_setVote_7 rfl ?_
  refine g_iload_n (pc' := 9) C dX0_setVote_8 rfl rfl ?_
  refine g_iadd (pc' := 10) C dX0_setVote_9 rfl ?_
  refine g_iload_n (pc' := 11) C dX0_setVote_10 rfl rfl ?_
  refine g_iast (pc' := 12) (i := 0) (j := 5) (w' := bdW (gcA X) a (va_up B 6 (upd (B 6) ((p1 * (6 : Int32)) + p0).toNatClampNeg p2))) C rfl rfl rfl dX0_setVote_11 rfl h (fun h => ?_)
  show G X _ [bdW (gcA X) a (va_up B 6 (upd (B 6) ((p1 * (6 : Int32)) + p0).toNatClampNeg p2))] _ _ _
  obtain rfl := Option.some.inj h
  exact g_vret C dX0_setVote_12
set_option maxRecDepth 100000 in
set_option maxHeartbeats 4000000 in
theorem c_X0_setVote (l : Launch) (D : va_G) (cA : Nat → ClassId) (a : Nat → Nat) (N : Nat) (B : tS) (p0 : Int32) (p1 : Int32) (p2 : Int32) (Bz : tS) (h : f_X0_setVote N B p0 p1 p2 = some Bz) : MV l D cA yX0_setVote wsX0_setVote 0 0 [.ref (a 0), .int p0, .int p1, .int p2] [bdW cA a B]  [bdW cA a Bz] := MV_of (cc := cX0_setVote) (maxL := 4) (by decide +kernel) rfl (List.forall_mem_cons.mpr ⟨rfl, List.forall_mem_cons.mpr ⟨rfl, List.forall_mem_cons.mpr ⟨rfl, List.forall_mem_cons.mpr ⟨rfl, List.forall_mem_nil _⟩⟩⟩⟩) (Nat.le_of_ble_eq_true rfl) (fun X e1 e2 e3 C => by subst e1; subst e2; subst e3; exact B_X0_setVote C a N B p0 p1 p2 Bz h)
set_option maxRecDepth 100000 in
set_option maxHeartbeats 4000000 in
theorem nd_X0_setVote : nd yX0_setVote 3 := ⟨by decide +kernel, by decide +kernel, by decide +kernel⟩
set_option maxRecDepth 100000 in
set_option maxHeartbeats 4000000 in
theorem k_X0_setVote {X : gX} {own : String} {cc : ByteArray} {nL : Nat} {ret : Option FieldType} {Ts : List Cond} {fr lm : Nat} {Q : State → Prop} {ms : List va_W} {L : List (Option Value)} {st : List Value} {pc pc' idx : Nat} {ρ : Type} {T : tS → Option ρ} {res : ρ} (C : cx X own cc nL ret Ts fr lm) (a : Nat → Nat) (N : Nat) (B : tS) (p0 : Int32) (p1 : Int32) (p2 : Int32) (is : List Nat) (hC : is.map (fun i => ms[i]?) = [some (bdW (gcA X) a B)]) (hn : is.Nodup) (hG : GoodIn Ts (wsV own idx RX0 yX0_setVote wsX0_setVote)) (hR : 0 + 1 ≤ fr ∧ 8 + (4 + 11) + 0 ≤ lm) (hst : (st.map fun v => v.category).sum ≤ 8) (hLn : L.length = nL) (d : decode cc pc = .ok (.invokevirtual idx, 3)) (hp : pc + 3 = pc') (h : bd (f_X0_setVote N B p0 p1 p2) T = some res) (kk : ∀ (Bz : tS), T Bz = some res → G X Q (rpl ms is [bdW (gcA X) a Bz]) L (st) pc') : G X Q ms L (.int p2 :: .int p1 :: .int p0 :: .ref (a 0) :: st) pc := by
  obtain ⟨Bz, h1, h⟩ := ob h
  exact G_callVV C (As := [.int p0, .int p1, .int p2]) (c_X0_setVote (gl X) (gD X) (gcA X) a N B p0 p1 p2 Bz h1) hG rfl nd_X0_setVote hR (q0 := 0) rfl rfl hC hn rfl rfl hst hLn d hp (kk Bz h)
theorem hi_X0_removeThemeIfEmpty_X0 : ∀ w ∈ wsX00, w ∈ wsX0_removeThemeIfEmpty := fun w h => List.mem_cons_of_mem _ (List.mem_append_right _ h)
theorem lk_X0_removeThemeIfEmpty_1 : Cond.fieldLink RX0 9 "NoteThemes$Board" "notes" "I" ∈ wsX0_removeThemeIfEmpty := List.mem_of_getElem? (i := 1) rfl
theorem lk_X0_removeThemeIfEmpty_2 : Cond.fieldLink RX0 22 "NoteThemes$Board" "themeOf" "[I" ∈ wsX0_removeThemeIfEmpty := List.mem_of_getElem? (i := 2) rfl
theorem lk_X0_removeThemeIfEmpty_3 : Cond.fieldLink RX0 28 "NoteThemes$Board" "themes" "I" ∈ wsX0_removeThemeIfEmpty := List.mem_of_getElem? (i := 3) rfl
def f_X0_removeThemeIfEmpty_65b (N : Nat) (p0 : Int32) (k53 : Int32 → tS → Option (tS)) (k65 : Int32 → Int32 → tS → Option (tS)) (x2 : Int32) (x3 : Int32) (B : tS) : Option (tS) := (if (6 : Int32) ≤ x3 then k53 (x2 + 1) B else (bd (f_X0_voteOf N B x3 (x2 + (1 : Int32))) (fun r1 => (bd (f_X0_setVote N B x3 x2 r1) (fun B2 => k65 x2 (x3 + 1) B2)))))
def f_X0_removeThemeIfEmpty_65 (N : Nat) (p0 : Int32) (k53 : Int32 → tS → Option (tS)) : Nat → Int32 → Int32 → tS → Option (tS)
  | 0 => fun _ _ _ => none
  | n + 1 => f_X0_removeThemeIfEmpty_65b N p0 k53 (f_X0_removeThemeIfEmpty_65 N p0 k53 n)
set_option maxRecDepth 100000 in
set_option maxHeartbeats 4000000 in
theorem B_X0_removeThemeIfEmpty_65b {X : gX} (C : cx X RX0 cX0_removeThemeIfEmpty 4 none wsX0_removeThemeIfEmpty 1 23) (a : Nat → Nat) (N : Nat) (p0 : Int32) (Bz : tS) (k53 : Int32 → tS → Option (tS)) (hk53 : ∀ (x2 : Int32) (B : tS), k53 x2 B = some Bz → G X (QV X [bdW (gcA X) a Bz]) [bdW (gcA X) a B] [some (.ref (a 0)), some (.int p0), some (.int x2), none] [] 53) (k65 : Int32 → Int32 → tS → Option (tS)) (hk65 : ∀ (x2 : Int32) (x3 : Int32) (B : tS), k65 x2 x3 B = some Bz → G X (QV X [bdW (gcA X) a Bz]) [bdW (gcA X) a B] [some (.ref (a 0)), some (.int p0), some (.int x2), some (.int x3)] [] 65) (x2 : Int32) (x3 : Int32) (B : tS) (h : f_X0_removeThemeIfEmpty_65b N p0 k53 k65 x2 x3 B = some Bz) : G X (QV X [bdW (gcA X) a Bz]) [bdW (gcA X) a B] [some (.ref (a 0)), some (.int p0), some (.int x2), some (.int x3)] [] 65 := by
  unfold f_X0_removeThemeIfEmpty_65b at h
  refine g_iload_n (pc' := 66) C dX0_removeThemeIfEmpty_65 rfl rfl ?_
  refine g_bipush (pc' := 68) (v := 6) C dX0_removeThemeIfEmpty_66 (by decide) rfl ?_
  refine g_icmp_ge (pc' := 71) (tgt := 91) C dX0_removeThemeIfEmpty_68 (by decide) rfl h (fun c h => ?_) (fun c h => ?_)
  · refine g_iinc (pc' := 94) (v := (x2 + 1)) C dX0_removeThemeIfEmpty_91 rfl rfl rfl (L' := [some (.ref (a 0)), some (.int p0), some (.int (x2 + 1)), some (.int x3)]) rfl ?_
    refine g_goto (pc' := 53) C dX0_removeThemeIfEmpty_94 (by decide) ?_
    exact G_loc (lle_s (lle_s (lle_s (lle_n lle_0)))) (hk53 (x2 + 1) B h)
  · refine g_aload_n (pc' := 72) C dX0_removeThemeIfEmpty_71 rfl rfl ?_
    refine g_iload_n (pc' := 73) C dX0_removeThemeIfEmpty_72 rfl rfl ?_
    refine g_iload_n (pc' := 74) C dX0_removeThemeIfEmpty_73 rfl rfl ?_
    refine g_aload_n (pc' := 75) C dX0_removeThemeIfEmpty_74 rfl rfl ?_
    refine g_iload_n (pc' := 76) C dX0_removeThemeIfEmpty_75 rfl rfl ?_
    refine g_iload_n (pc' := 77) C dX0_removeThemeIfEmpty_76 rfl rfl ?_
    refine g_iconst (pc' := 78) (v := 1) C dX0_removeThemeIfEmpty_77 (by decide) rfl ?_
    refine g_iadd (pc' := 79) C dX0_removeThemeIfEmpty_78 rfl ?_
    refine k_X0_voteOf (pc' := 82) C a N B x3 (x2 + (1 : Int32)) [0] rfl (by decide) gX0_removeThemeIfEmpty_X0_voteOf ⟨Nat.le_of_ble_eq_true rfl, Nat.le_of_ble_eq_true rfl⟩ (Nat.le_of_ble_eq_true rfl) rfl dX0_removeThemeIfEmpty_79 rfl h (fun r1 h => ?_)
    refine k_X0_setVote (pc' := 85) C a N B x3 x2 r1 [0] rfl (by decide) gX0_removeThemeIfEmpty_X0_setVote ⟨Nat.le_of_ble_eq_true rfl, Nat.le_of_ble_eq_true rfl⟩ (Nat.le_of_ble_eq_true rfl) rfl dX0_removeThemeIfEmpty_82 rfl h (fun B2 h => ?_)
    show G X _ [bdW (gcA X) a B2] _ _ _
    refine g_iinc (pc' := 88) (v := (x3 + 1)) C dX0_removeThemeIfEmpty_85 rfl rfl rfl (L' := [some (.ref (a 0)), some (.int p0), some (.int x2), some (.int (x3 + 1))]) rfl ?_
    refine g_goto (pc' := 65) C dX0_removeThemeIfEmpty_88 (by decide) ?_
    exact G_loc (lle_s (lle_s (lle_s (lle_s lle_0)))) (hk65 x2 (x3 + 1) B2 h)
set_option maxRecDepth 100000 in
set_option maxHeartbeats 4000000 in
theorem L_X0_removeThemeIfEmpty_65 {X : gX} (C : cx X RX0 cX0_removeThemeIfEmpty 4 none wsX0_removeThemeIfEmpty 1 23) (a : Nat → Nat) (N : Nat) (p0 : Int32) (Bz : tS) (k53 : Int32 → tS → Option (tS)) (hk53 : ∀ (x2 : Int32) (B : tS), k53 x2 B = some Bz → G X (QV X [bdW (gcA X) a Bz]) [bdW (gcA X) a B] [some (.ref (a 0)), some (.int p0), some (.int x2), none] [] 53) : ∀ (n : Nat) (x2 : Int32) (x3 : Int32) (B : tS), f_X0_removeThemeIfEmpty_65 N p0 k53 n x2 x3 B = some Bz → G X (QV X [bdW (gcA X) a Bz]) [bdW (gcA X) a B] [some (.ref (a 0)), some (.int p0), some (.int x2), some (.int x3)] [] 65 := by
  intro n
  induction n with
  | zero => intro x2 x3 B h; have h : (none : Option (tS)) = some Bz := h; cases h
  | succ n ih => intro x2 x3 B h; exact B_X0_removeThemeIfEmpty_65b C a N p0 Bz k53 hk53 (f_X0_removeThemeIfEmpty_65 N p0 k53 n) ih x2 x3 B h
def f_X0_removeThemeIfEmpty_53b (N : Nat) (p0 : Int32)  (k53 : Int32 → tS → Option (tS)) (x2 : Int32) (B : tS) : Option (tS) := (if ((B 5 0) - (1 : Int32)) ≤ x2 then some (va_up B 5 (fun _ => ((B 5 0) - (1 : Int32)))) else f_X0_removeThemeIfEmpty_65 N p0 k53 N x2 (0 : Int32) B)
def f_X0_removeThemeIfEmpty_53 (N : Nat) (p0 : Int32)  : Nat → Int32 → tS → Option (tS)
  | 0 => fun _ _ => none
  | n + 1 => f_X0_removeThemeIfEmpty_53b N p0  (f_X0_removeThemeIfEmpty_53 N p0  n)
set_option maxRecDepth 100000 in
set_option maxHeartbeats 4000000 in
theorem B_X0_removeThemeIfEmpty_53b {X : gX} (C : cx X RX0 cX0_removeThemeIfEmpty 4 none wsX0_removeThemeIfEmpty 1 23) (a : Nat → Nat) (N : Nat) (p0 : Int32) (Bz : tS)  (k53 : Int32 → tS → Option (tS)) (hk53 : ∀ (x2 : Int32) (B : tS), k53 x2 B = some Bz → G X (QV X [bdW (gcA X) a Bz]) [bdW (gcA X) a B] [some (.ref (a 0)), some (.int p0), some (.int x2), none] [] 53) (x2 : Int32) (B : tS) (h : f_X0_removeThemeIfEmpty_53b N p0  k53 x2 B = some Bz) : G X (QV X [bdW (gcA X) a Bz]) [bdW (gcA X) a B] [some (.ref (a 0)), some (.int p0), some (.int x2), none] [] 53 := by
  unfold f_X0_removeThemeIfEmpty_53b at h
  refine g_iload_n (pc' := 54) C dX0_removeThemeIfEmpty_53 rfl rfl ?_
  refine g_aload_n (pc' := 55) C dX0_removeThemeIfEmpty_54 rfl rfl ?_
  refine gg_X0_5 (pc' := 58) (i := 0) C rfl hi_X0_removeThemeIfEmpty_X0 lk_X0_removeThemeIfEmpty_3 dX0_removeThemeIfEmpty_55 rfl ?_
  refine g_iconst (pc' := 59) (v := 1) C dX0_removeThemeIfEmpty_58 (by decide) rfl ?_
  refine g_isub (pc' := 60) C dX0_removeThemeIfEmpty_59 rfl ?_
  refine g_icmp_ge (pc' := 63) (tgt := 97) C dX0_removeThemeIfEmpty_60 (by decide) rfl h (fun c h => ?_) (fun c h => ?_)
  · refine g_aload_n (pc' := 98) C dX0_removeThemeIfEmpty_97 rfl rfl ?_
    refine g_dup (pc' := 99) C dX0_removeThemeIfEmpty_98 rfl rfl ?_
    refine gg_X0_5 (pc' := 102) (i := 0) C rfl hi_X0_removeThemeIfEmpty_X0 lk_X0_removeThemeIfEmpty_3 dX0_removeThemeIfEmpty_99 rfl ?_
    refine g_iconst (pc' := 103) (v := 1) C dX0_removeThemeIfEmpty_102 (by decide) rfl ?_
    refine g_isub (pc' := 104) C dX0_removeThemeIfEmpty_103 rfl ?_
    refine gp_X0_5 (pc' := 107) (i := 0) C rfl hi_X0_removeThemeIfEmpty_X0 lk_X0_removeThemeIfEmpty_3 dX0_removeThemeIfEmpty_104 rfl ?_
    show G X _ [bdW (gcA X) a (va_up B 5 (fun _ => ((B 5 0) - (1 : Int32))))] _ _ _
    obtain rfl := Option.some.inj h
    exact g_vret C dX0_removeThemeIfEmpty_107
  · refine g_iconst (pc' := 64) (v := 0) C dX0_removeThemeIfEmpty_63 (by decide) rfl ?_
    refine g_istore_n (pc' := 65) C dX0_removeThemeIfEmpty_64 (Nat.le_of_ble_eq_true rfl) rfl (L' := [some (.ref (a 0)), some (.int p0), some (.int x2), some (.int (0 : Int32))]) rfl ?_
    exact G_loc (lle_s (lle_s (lle_s (lle_s lle_0)))) (L_X0_removeThemeIfEmpty_65 C a N p0 Bz k53 hk53 N x2 (0 : Int32) B h)
set_option maxRecDepth 100000 in
set_option maxHeartbeats 4000000 in
theorem L_X0_removeThemeIfEmpty_53 {X : gX} (C : cx X RX0 cX0_removeThemeIfEmpty 4 none wsX0_removeThemeIfEmpty 1 23) (a : Nat → Nat) (N : Nat) (p0 : Int32) (Bz : tS)  : ∀ (n : Nat) (x2 : Int32) (B : tS), f_X0_removeThemeIfEmpty_53 N p0  n x2 B = some Bz → G X (QV X [bdW (gcA X) a Bz]) [bdW (gcA X) a B] [some (.ref (a 0)), some (.int p0), some (.int x2), none] [] 53 := by
  intro n
  induction n with
  | zero => intro x2 B h; have h : (none : Option (tS)) = some Bz := h; cases h
  | succ n ih => intro x2 B h; exact B_X0_removeThemeIfEmpty_53b C a N p0 Bz  (f_X0_removeThemeIfEmpty_53 N p0  n) ih x2 B h
def f_X0_removeThemeIfEmpty_45 (N : Nat) (p0 : Int32) (k17 : Int32 → tS → Option (tS)) (x2 : Int32) (B : tS) : Option (tS) := k17 (x2 + 1) B
set_option maxRecDepth 100000 in
set_option maxHeartbeats 4000000 in
theorem B_X0_removeThemeIfEmpty_45 {X : gX} (C : cx X RX0 cX0_removeThemeIfEmpty 4 none wsX0_removeThemeIfEmpty 1 23) (a : Nat → Nat) (N : Nat) (p0 : Int32) (Bz : tS) (k17 : Int32 → tS → Option (tS)) (hk17 : ∀ (x2 : Int32) (B : tS), k17 x2 B = some Bz → G X (QV X [bdW (gcA X) a Bz]) [bdW (gcA X) a B] [some (.ref (a 0)), some (.int p0), some (.int x2), none] [] 17) (x2 : Int32) (B : tS) (h : f_X0_removeThemeIfEmpty_45 N p0 k17 x2 B = some Bz) : G X (QV X [bdW (gcA X) a Bz]) [bdW (gcA X) a B] [some (.ref (a 0)), some (.int p0), some (.int x2), none] [] 45 := by
  unfold f_X0_removeThemeIfEmpty_45 at h
  refine g_iinc (pc' := 48) (v := (x2 + 1)) C dX0_removeThemeIfEmpty_45 rfl rfl rfl (L' := [some (.ref (a 0)), some (.int p0), some (.int (x2 + 1)), none]) rfl ?_
  refine g_goto (pc' := 17) C dX0_removeThemeIfEmpty_48 (by decide) ?_
  exact G_loc (lle_s (lle_s (lle_s (lle_n lle_0)))) (hk17 (x2 + 1) B h)
def f_X0_removeThemeIfEmpty_17b (N : Nat) (p0 : Int32)  (k17 : Int32 → tS → Option (tS)) (x2 : Int32) (B : tS) : Option (tS) := (if (B 0 0) ≤ x2 then f_X0_removeThemeIfEmpty_53 N p0 N p0 B else (if x2 < 0 ∨ 20 ≤ x2.toNatClampNeg then none else (if (B 3 x2.toNatClampNeg) ≤ p0 then f_X0_removeThemeIfEmpty_45 N p0 k17 x2 B else (if x2 < 0 ∨ 20 ≤ x2.toNatClampNeg then none else (if x2 < 0 ∨ 20 ≤ x2.toNatClampNeg then none else f_X0_removeThemeIfEmpty_45 N p0 k17 x2 (va_up B 3 (upd (B 3) x2.toNatClampNeg ((B 3 x2.toNatClampNeg) - (1 : Int32)))))))))
def f_X0_removeThemeIfEmpty_17 (N : Nat) (p0 : Int32)  : Nat → Int32 → tS → Option (tS)
  | 0 => fun _ _ => none
  | n + 1 => f_X0_removeThemeIfEmpty_17b N p0  (f_X0_removeThemeIfEmpty_17 N p0  n)
set_option maxRecDepth 100000 in
set_option maxHeartbeats 4000000 in
theorem B_X0_removeThemeIfEmpty_17b {X : gX} (C : cx X RX0 cX0_removeThemeIfEmpty 4 none wsX0_removeThemeIfEmpty 1 23) (a : Nat → Nat) (N : Nat) (p0 : Int32) (Bz : tS)  (k17 : Int32 → tS → Option (tS)) (hk17 : ∀ (x2 : Int32) (B : tS), k17 x2 B = some Bz → G X (QV X [bdW (gcA X) a Bz]) [bdW (gcA X) a B] [some (.ref (a 0)), some (.int p0), some (.int x2), none] [] 17) (x2 : Int32) (B : tS) (h : f_X0_removeThemeIfEmpty_17b N p0  k17 x2 B = some Bz) : G X (QV X [bdW (gcA X) a Bz]) [bdW (gcA X) a B] [some (.ref (a 0)), some (.int p0), some (.int x2), none] [] 17 := by
  unfold f_X0_removeThemeIfEmpty_17b at h
  refine g_iload_n (pc' := 18) C dX0_removeThemeIfEmpty_17 rfl rfl ?_
  refine g_aload_n (pc' := 19) C dX0_removeThemeIfEmpty_18 rfl rfl ?_
  refine gg_X0_0 (pc' := 22) (i := 0) C rfl hi_X0_removeThemeIfEmpty_X0 lk_X0_removeThemeIfEmpty_1 dX0_removeThemeIfEmpty_19 rfl ?_
  refine g_icmp_ge (pc' := 25) (tgt := 51) C dX0_removeThemeIfEmpty_22 (by decide) rfl h (fun c h => ?_) (fun c h => ?_)
  · refine g_iload_n (pc' := 52) C dX0_removeThemeIfEmpty_51 rfl rfl ?_
    refine g_istore_n (pc' := 53) C dX0_removeThemeIfEmpty_52 (Nat.le_of_ble_eq_true rfl) rfl (L' := [some (.ref (a 0)), some (.int p0), some (.int p0), none]) rfl ?_
    exact G_loc (lle_s (lle_s (lle_s (lle_n lle_0)))) (L_X0_removeThemeIfEmpty_53 C a N p0 Bz N p0 B h)
  · refine g_aload_n (pc' := 26) C dX0_removeThemeIfEmpty_25 rfl rfl ?_
    refine gg_X0_3 (pc' := 29) (i := 0) C rfl hi_X0_removeThemeIfEmpty_X0 lk_X0_removeThemeIfEmpty_2 dX0_removeThemeIfEmpty_26 rfl ?_
    refine g_iload_n (pc' := 30) C dX0_removeThemeIfEmpty_29 rfl rfl ?_
    refine g_iald (pc' := 31) (i := 0) (j := 3) C rfl rfl dX0_removeThemeIfEmpty_30 rfl h (fun h => ?_)
    refine g_iload_n (pc' := 32) C dX0_removeThemeIfEmpty_31 rfl rfl ?_
    refine g_icmp_le (pc' := 35) (tgt := 45) C dX0_removeThemeIfEmpty_32 (by decide) rfl h (fun c h => ?_) (fun c h => ?_)
    · exact G_loc (lle_s (lle_s (lle_s (lle_n lle_0)))) (B_X0_removeThemeIfEmpty_45 C a N p0 Bz k17 hk17 x2 B h)
    · refine g_aload_n (pc' := 36) C dX0_removeThemeIfEmpty_35 rfl rfl ?_
      refine gg_X0_3 (pc' := 39) (i := 0) C rfl hi_X0_removeThemeIfEmpty_X0 lk_X0_removeThemeIfEmpty_2 dX0_removeThemeIfEmpty_36 rfl ?_
      refine g_iload_n (pc' := 40) C dX0_removeThemeIfEmpty_39 rfl rfl ?_
      refine g_dup2 (pc' := 41) C dX0_removeThemeIfEmpty_40 rfl rfl rfl ?_
      refine g_iald (pc' := 42) (i := 0) (j := 3) C rfl rfl dX0_removeThemeIfEmpty_41 rfl h (fun h => ?_)
      refine g_iconst (pc' := 43) (v := 1) C dX0_removeThemeIfEmpty_42 (by decide) rfl ?_
      refine g_isub (pc' := 44) C dX0_removeThemeIfEmpty_43 rfl ?_
      refine g_iast (pc' := 45) (i := 0) (j := 3) (w' := bdW (gcA X) a (va_up B 3 (upd (B 3) x2.toNatClampNeg ((B 3 x2.toNatClampNeg) - (1 : Int32))))) C rfl rfl rfl dX0_removeThemeIfEmpty_44 rfl h (fun h => ?_)
      show G X _ [bdW (gcA X) a (va_up B 3 (upd (B 3) x2.toNatClampNeg ((B 3 x2.toNatClampNeg) - (1 : Int32))))] _ _ _
      exact G_loc (lle_s (lle_s (lle_s (lle_n lle_0)))) (B_X0_removeThemeIfEmpty_45 C a N p0 Bz k17 hk17 x2 (va_up B 3 (upd (B 3) x2.toNatClampNeg ((B 3 x2.toNatClampNeg) - (1 : Int32)))) h)
set_option maxRecDepth 100000 in
set_option maxHeartbeats 4000000 in
theorem L_X0_removeThemeIfEmpty_17 {X : gX} (C : cx X RX0 cX0_removeThemeIfEmpty 4 none wsX0_removeThemeIfEmpty 1 23) (a : Nat → Nat) (N : Nat) (p0 : Int32) (Bz : tS)  : ∀ (n : Nat) (x2 : Int32) (B : tS), f_X0_removeThemeIfEmpty_17 N p0  n x2 B = some Bz → G X (QV X [bdW (gcA X) a Bz]) [bdW (gcA X) a B] [some (.ref (a 0)), some (.int p0), some (.int x2), none] [] 17 := by
  intro n
  induction n with
  | zero => intro x2 B h; have h : (none : Option (tS)) = some Bz := h; cases h
  | succ n ih => intro x2 B h; exact B_X0_removeThemeIfEmpty_17b C a N p0 Bz  (f_X0_removeThemeIfEmpty_17 N p0  n) ih x2 B h
def f_X0_removeThemeIfEmpty (N : Nat) (B : tS) (p0 : Int32) : Option (tS) := (if p0 = (-5 : Int32) then some B else (bd (f_X0_notesOfTheme N B p0) (fun r1 => (if r1 ≤ 0 then f_X0_removeThemeIfEmpty_17 N p0 N (0 : Int32) B else some B))))
set_option maxRecDepth 100000 in
set_option maxHeartbeats 4000000 in
theorem B_X0_removeThemeIfEmpty {X : gX} (C : cx X RX0 cX0_removeThemeIfEmpty 4 none wsX0_removeThemeIfEmpty 1 23) (a : Nat → Nat) (N : Nat) (B : tS) (p0 : Int32) (Bz : tS) (h : f_X0_removeThemeIfEmpty N B p0 = some Bz) : G X (QV X [bdW (gcA X) a Bz]) [bdW (gcA X) a B] [some (.ref (a 0)), some (.int p0), none, none] [] 0 := by
  unfold f_X0_removeThemeIfEmpty at h
  refine g_iload_n (pc' := 1) C dX0_removeThemeIfEmpty_0 rfl rfl ?_
  refine g_bipush (pc' := 3) (v := -5) C dX0_removeThemeIfEmpty_1 (by decide) rfl ?_
  refine g_icmp_eq (pc' := 6) (tgt := 14) C dX0_removeThemeIfEmpty_3 (by decide) rfl h (fun c h => ?_) (fun c h => ?_)
  · obtain rfl := Option.some.inj h
    exact g_vret C dX0_removeThemeIfEmpty_14
  · refine g_aload_n (pc' := 7) C dX0_removeThemeIfEmpty_6 rfl rfl ?_
    refine g_iload_n (pc' := 8) C dX0_removeThemeIfEmpty_7 rfl rfl ?_
    refine k_X0_notesOfTheme (pc' := 11) C a N B p0 [0] rfl (by decide) gX0_removeThemeIfEmpty_X0_notesOfTheme ⟨Nat.le_of_ble_eq_true rfl, Nat.le_of_ble_eq_true rfl⟩ (Nat.le_of_ble_eq_true rfl) rfl dX0_removeThemeIfEmpty_8 rfl h (fun r1 h => ?_)
    refine g_if_le (pc' := 14) (tgt := 15) C dX0_removeThemeIfEmpty_11 (by decide) rfl h (fun c h => ?_) (fun c h => ?_)
    · refine g_iconst (pc' := 16) (v := 0) C dX0_removeThemeIfEmpty_15 (by decide) rfl ?_
      refine g_istore_n (pc' := 17) C dX0_removeThemeIfEmpty_16 (Nat.le_of_ble_eq_true rfl) rfl (L' := [some (.ref (a 0)), some (.int p0), some (.int (0 : Int32)), none]) rfl ?_
      exact G_loc (lle_s (lle_s (lle_s (lle_n lle_0)))) (L_X0_removeThemeIfEmpty_17 C a N p0 Bz N (0 : Int32) B h)
    · obtain rfl := Option.some.inj h
      exact g_vret C dX0_removeThemeIfEmpty_14
set_option maxRecDepth 100000 in
set_option maxHeartbeats 4000000 in
theorem c_X0_removeThemeIfEmpty (l : Launch) (D : va_G) (cA : Nat → ClassId) (a : Nat → Nat) (N : Nat) (B : tS) (p0 : Int32) (Bz : tS) (h : f_X0_removeThemeIfEmpty N B p0 = some Bz) : MV l D cA yX0_removeThemeIfEmpty wsX0_removeThemeIfEmpty 1 23 [.ref (a 0), .int p0] [bdW cA a B]  [bdW cA a Bz] := MV_of (cc := cX0_removeThemeIfEmpty) (maxL := 4) (by decide +kernel) rfl (List.forall_mem_cons.mpr ⟨rfl, List.forall_mem_cons.mpr ⟨rfl, List.forall_mem_nil _⟩⟩) (Nat.le_of_ble_eq_true rfl) (fun X e1 e2 e3 C => by subst e1; subst e2; subst e3; exact B_X0_removeThemeIfEmpty C a N B p0 Bz h)
set_option maxRecDepth 100000 in
set_option maxHeartbeats 4000000 in
theorem nd_X0_removeThemeIfEmpty : nd yX0_removeThemeIfEmpty 1 := ⟨by decide +kernel, by decide +kernel, by decide +kernel⟩
set_option maxRecDepth 100000 in
set_option maxHeartbeats 4000000 in
theorem k_X0_removeThemeIfEmpty {X : gX} {own : String} {cc : ByteArray} {nL : Nat} {ret : Option FieldType} {Ts : List Cond} {fr lm : Nat} {Q : State → Prop} {ms : List va_W} {L : List (Option Value)} {st : List Value} {pc pc' idx : Nat} {ρ : Type} {T : tS → Option ρ} {res : ρ} (C : cx X own cc nL ret Ts fr lm) (a : Nat → Nat) (N : Nat) (B : tS) (p0 : Int32) (is : List Nat) (hC : is.map (fun i => ms[i]?) = [some (bdW (gcA X) a B)]) (hn : is.Nodup) (hG : GoodIn Ts (wsV own idx RX0 yX0_removeThemeIfEmpty wsX0_removeThemeIfEmpty)) (hR : 1 + 1 ≤ fr ∧ 8 + (4 + 11) + 23 ≤ lm) (hst : (st.map fun v => v.category).sum ≤ 8) (hLn : L.length = nL) (d : decode cc pc = .ok (.invokevirtual idx, 3)) (hp : pc + 3 = pc') (h : bd (f_X0_removeThemeIfEmpty N B p0) T = some res) (kk : ∀ (Bz : tS), T Bz = some res → G X Q (rpl ms is [bdW (gcA X) a Bz]) L (st) pc') : G X Q ms L (.int p0 :: .ref (a 0) :: st) pc := by
  obtain ⟨Bz, h1, h⟩ := ob h
  exact G_callVV C (As := [.int p0]) (c_X0_removeThemeIfEmpty (gl X) (gD X) (gcA X) a N B p0 Bz h1) hG rfl nd_X0_removeThemeIfEmpty hR (q0 := 0) rfl rfl hC hn rfl rfl hst hLn d hp (kk Bz h)
theorem hi_X0_removeNote_X0 : ∀ w ∈ wsX00, w ∈ wsX0_removeNote := fun w h => List.mem_cons_of_mem _ (List.mem_append_right _ h)
theorem lk_X0_removeNote_1 : Cond.fieldLink RX0 22 "NoteThemes$Board" "themeOf" "[I" ∈ wsX0_removeNote := List.mem_of_getElem? (i := 1) rfl
theorem lk_X0_removeNote_2 : Cond.fieldLink RX0 9 "NoteThemes$Board" "notes" "I" ∈ wsX0_removeNote := List.mem_of_getElem? (i := 2) rfl
def f_X0_removeNote_9b (N : Nat) (p0 : Int32)  (k9 : Int32 → Int32 → tS → Option (tS)) (x2 : Int32) (x3 : Int32) (B : tS) : Option (tS) := (if ((B 0 0) - (1 : Int32)) ≤ x3 then (bd (f_X0_removeThemeIfEmpty N (va_up B 0 (fun _ => ((B 0 0) - (1 : Int32)))) x2) (fun B1 => some B1)) else (bd (f_X0_copyNote N B (x3 + (1 : Int32)) x3) (fun B2 => k9 x2 (x3 + 1) B2)))
def f_X0_removeNote_9 (N : Nat) (p0 : Int32)  : Nat → Int32 → Int32 → tS → Option (tS)
  | 0 => fun _ _ _ => none
  | n + 1 => f_X0_removeNote_9b N p0  (f_X0_removeNote_9 N p0  n)
set_option maxRecDepth 100000 in
set_option maxHeartbeats 4000000 in
theorem B_X0_removeNote_9b {X : gX} (C : cx X RX0 cX0_removeNote 4 none wsX0_removeNote 2 46) (a : Nat → Nat) (N : Nat) (p0 : Int32) (Bz : tS)  (k9 : Int32 → Int32 → tS → Option (tS)) (hk9 : ∀ (x2 : Int32) (x3 : Int32) (B : tS), k9 x2 x3 B = some Bz → G X (QV X [bdW (gcA X) a Bz]) [bdW (gcA X) a B] [some (.ref (a 0)), some (.int p0), some (.int x2), some (.int x3)] [] 9) (x2 : Int32) (x3 : Int32) (B : tS) (h : f_X0_removeNote_9b N p0  k9 x2 x3 B = some Bz) : G X (QV X [bdW (gcA X) a Bz]) [bdW (gcA X) a B] [some (.ref (a 0)), some (.int p0), some (.int x2), some (.int x3)] [] 9 := by
  unfold f_X0_removeNote_9b at h
  refine g_iload_n (pc' := 10) C dX0_removeNote_9 rfl rfl ?_
  refine g_aload_n (pc' := 11) C dX0_removeNote_10 rfl rfl ?_
  refine gg_X0_0 (pc' := 14) (i := 0) C rfl hi_X0_removeNote_X0 lk_X0_removeNote_2 dX0_removeNote_11 rfl ?_
  refine g_iconst (pc' := 15) (v := 1) C dX0_removeNote_14 (by decide) rfl ?_
  refine g_isub (pc' := 16) C dX0_removeNote_15 rfl ?_
  refine g_icmp_ge (pc' := 19) (tgt := 33) C dX0_removeNote_16 (by decide) rfl h (fun c h => ?_) (fun c h => ?_)
  · refine g_aload_n (pc' := 34) C dX0_removeNote_33 rfl rfl ?_
    refine g_dup (pc' := 35) C dX0_removeNote_34 rfl rfl ?_
    refine gg_X0_0 (pc' := 38) (i := 0) C rfl hi_X0_removeNote_X0 lk_X0_removeNote_2 dX0_removeNote_35 rfl ?_
    refine g_iconst (pc' := 39) (v := 1) C dX0_removeNote_38 (by decide) rfl ?_
    refine g_isub (pc' := 40) C dX0_removeNote_39 rfl ?_
    refine gp_X0_0 (pc' := 43) (i := 0) C rfl hi_X0_removeNote_X0 lk_X0_removeNote_2 dX0_removeNote_40 rfl ?_
    show G X _ [bdW (gcA X) a (va_up B 0 (fun _ => ((B 0 0) - (1 : Int32))))] _ _ _
    refine g_aload_n (pc' := 44) C dX0_removeNote_43 rfl rfl ?_
    refine g_iload_n (pc' := 45) C dX0_removeNote_44 rfl rfl ?_
    refine k_X0_removeThemeIfEmpty (pc' := 48) C a N (va_up B 0 (fun _ => ((B 0 0) - (1 : Int32)))) x2 [0] rfl (by decide) gX0_removeNote_X0_removeThemeIfEmpty ⟨Nat.le_of_ble_eq_true rfl, Nat.le_of_ble_eq_true rfl⟩ (Nat.le_of_ble_eq_true rfl) rfl dX0_removeNote_45 rfl h (fun B1 h => ?_)
    show G X _ [bdW (gcA X) a B1] _ _ _
    obtain rfl := Option.some.inj h
    exact g_vret C dX0_removeNote_48
  · refine g_aload_n (pc' := 20) C dX0_removeNote_19 rfl rfl ?_
    refine g_iload_n (pc' := 21) C dX0_removeNote_20 rfl rfl ?_
    refine g_iconst (pc' := 22) (v := 1) C dX0_removeNote_21 (by decide) rfl ?_
    refine g_iadd (pc' := 23) C dX0_removeNote_22 rfl ?_
    refine g_iload_n (pc' := 24) C dX0_removeNote_23 rfl rfl ?_
    refine k_X0_copyNote (pc' := 27) C a N B (x3 + (1 : Int32)) x3 [0] rfl (by decide) gX0_removeNote_X0_copyNote ⟨Nat.le_of_ble_eq_true rfl, Nat.le_of_ble_eq_true rfl⟩ (Nat.le_of_ble_eq_true rfl) rfl dX0_removeNote_24 rfl h (fun B2 h => ?_)
    show G X _ [bdW (gcA X) a B2] _ _ _
    refine g_iinc (pc' := 30) (v := (x3 + 1)) C dX0_removeNote_27 rfl rfl rfl (L' := [some (.ref (a 0)), some (.int p0), some (.int x2), some (.int (x3 + 1))]) rfl ?_
    refine g_goto (pc' := 9) C dX0_removeNote_30 (by decide) ?_
    exact G_loc (lle_s (lle_s (lle_s (lle_s lle_0)))) (hk9 x2 (x3 + 1) B2 h)
set_option maxRecDepth 100000 in
set_option maxHeartbeats 4000000 in
theorem L_X0_removeNote_9 {X : gX} (C : cx X RX0 cX0_removeNote 4 none wsX0_removeNote 2 46) (a : Nat → Nat) (N : Nat) (p0 : Int32) (Bz : tS)  : ∀ (n : Nat) (x2 : Int32) (x3 : Int32) (B : tS), f_X0_removeNote_9 N p0  n x2 x3 B = some Bz → G X (QV X [bdW (gcA X) a Bz]) [bdW (gcA X) a B] [some (.ref (a 0)), some (.int p0), some (.int x2), some (.int x3)] [] 9 := by
  intro n
  induction n with
  | zero => intro x2 x3 B h; have h : (none : Option (tS)) = some Bz := h; cases h
  | succ n ih => intro x2 x3 B h; exact B_X0_removeNote_9b C a N p0 Bz  (f_X0_removeNote_9 N p0  n) ih x2 x3 B h
def f_X0_removeNote (N : Nat) (B : tS) (p0 : Int32) : Option (tS) := (if p0 < 0 ∨ 20 ≤ p0.toNatClampNeg then none else f_X0_removeNote_9 N p0 N (B 3 p0.toNatClampNeg) p0 B)
set_option maxRecDepth 100000 in
set_option maxHeartbeats 4000000 in
theorem B_X0_removeNote {X : gX} (C : cx X RX0 cX0_removeNote 4 none wsX0_removeNote 2 46) (a : Nat → Nat) (N : Nat) (B : tS) (p0 : Int32) (Bz : tS) (h : f_X0_removeNote N B p0 = some Bz) : G X (QV X [bdW (gcA X) a Bz]) [bdW (gcA X) a B] [some (.ref (a 0)), some (.int p0), none, none] [] 0 := by
  unfold f_X0_removeNote at h
  refine g_aload_n (pc' := 1) C dX0_removeNote_0 rfl rfl ?_
  refine gg_X0_3 (pc' := 4) (i := 0) C rfl hi_X0_removeNote_X0 lk_X0_removeNote_1 dX0_removeNote_1 rfl ?_
  refine g_iload_n (pc' := 5) C dX0_removeNote_4 rfl rfl ?_
  refine g_iald (pc' := 6) (i := 0) (j := 3) C rfl rfl dX0_removeNote_5 rfl h (fun h => ?_)
  refine g_istore_n (pc' := 7) C dX0_removeNote_6 (Nat.le_of_ble_eq_true rfl) rfl (L' := [some (.ref (a 0)), some (.int p0), some (.int (B 3 p0.toNatClampNeg)), none]) rfl ?_
  refine g_iload_n (pc' := 8) C dX0_removeNote_7 rfl rfl ?_
  refine g_istore_n (pc' := 9) C dX0_removeNote_8 (Nat.le_of_ble_eq_true rfl) rfl (L' := [some (.ref (a 0)), some (.int p0), some (.int (B 3 p0.toNatClampNeg)), some (.int p0)]) rfl ?_
  exact G_loc (lle_s (lle_s (lle_s (lle_s lle_0)))) (L_X0_removeNote_9 C a N p0 Bz N (B 3 p0.toNatClampNeg) p0 B h)
set_option maxRecDepth 100000 in
set_option maxHeartbeats 4000000 in
theorem c_X0_removeNote (l : Launch) (D : va_G) (cA : Nat → ClassId) (a : Nat → Nat) (N : Nat) (B : tS) (p0 : Int32) (Bz : tS) (h : f_X0_removeNote N B p0 = some Bz) : MV l D cA yX0_removeNote wsX0_removeNote 2 46 [.ref (a 0), .int p0] [bdW cA a B]  [bdW cA a Bz] := MV_of (cc := cX0_removeNote) (maxL := 4) (by decide +kernel) rfl (List.forall_mem_cons.mpr ⟨rfl, List.forall_mem_cons.mpr ⟨rfl, List.forall_mem_nil _⟩⟩) (Nat.le_of_ble_eq_true rfl) (fun X e1 e2 e3 C => by subst e1; subst e2; subst e3; exact B_X0_removeNote C a N B p0 Bz h)
set_option maxRecDepth 100000 in
set_option maxHeartbeats 4000000 in
theorem nd_X0_removeNote : nd yX0_removeNote 1 := ⟨by decide +kernel, by decide +kernel, by decide +kernel⟩
set_option maxRecDepth 100000 in
set_option maxHeartbeats 4000000 in
theorem k_X0_removeNote {X : gX} {own : String} {cc : ByteArray} {nL : Nat} {ret : Option FieldType} {Ts : List Cond} {fr lm : Nat} {Q : State → Prop} {ms : List va_W} {L : List (Option Value)} {st : List Value} {pc pc' idx : Nat} {ρ : Type} {T : tS → Option ρ} {res : ρ} (C : cx X own cc nL ret Ts fr lm) (a : Nat → Nat) (N : Nat) (B : tS) (p0 : Int32) (is : List Nat) (hC : is.map (fun i => ms[i]?) = [some (bdW (gcA X) a B)]) (hn : is.Nodup) (hG : GoodIn Ts (wsV own idx RX0 yX0_removeNote wsX0_removeNote)) (hR : 2 + 1 ≤ fr ∧ 8 + (4 + 11) + 46 ≤ lm) (hst : (st.map fun v => v.category).sum ≤ 8) (hLn : L.length = nL) (d : decode cc pc = .ok (.invokevirtual idx, 3)) (hp : pc + 3 = pc') (h : bd (f_X0_removeNote N B p0) T = some res) (kk : ∀ (Bz : tS), T Bz = some res → G X Q (rpl ms is [bdW (gcA X) a Bz]) L (st) pc') : G X Q ms L (.int p0 :: .ref (a 0) :: st) pc := by
  obtain ⟨Bz, h1, h⟩ := ob h
  exact G_callVV C (As := [.int p0]) (c_X0_removeNote (gl X) (gD X) (gcA X) a N B p0 Bz h1) hG rfl nd_X0_removeNote hR (q0 := 0) rfl rfl hC hn rfl rfl hst hLn d hp (kk Bz h)
theorem hi_X0_distance_X0 : ∀ w ∈ wsX00, w ∈ wsX0_distance := fun w h => List.mem_cons_of_mem _ (List.mem_append_right _ h)
theorem lk_X0_distance_1 : Cond.fieldLink RX0 15 "NoteThemes$Board" "columnOf" "[I" ∈ wsX0_distance := List.mem_of_getElem? (i := 1) rfl
theorem lk_X0_distance_2 : Cond.methodLink RX0 58 Lib.Math.abs.name ∈ wsX0_distance := List.mem_of_getElem? (i := 2) rfl
theorem lk_X0_distance_3 : Cond.static Lib.Math.abs.name ∈ wsX0_distance := List.mem_of_getElem? (i := 3) rfl
theorem lk_X0_distance_4 : Cond.initialized "java/lang/Math" ∈ wsX0_distance := List.mem_of_getElem? (i := 4) rfl
theorem lk_X0_distance_5 : Cond.code Lib.Math.abs.name Lib.Math.abs.code 1 (some .int) ∈ wsX0_distance := List.mem_of_getElem? (i := 5) rfl
theorem lk_X0_distance_6 : Cond.fieldLink RX0 19 "NoteThemes$Board" "rowOf" "[I" ∈ wsX0_distance := List.mem_of_getElem? (i := 6) rfl
def f_X0_distance (N : Nat) (B : tS) (p0 : Int32) (p1 : Int32) : Option (Int32) := (if p0 < 0 ∨ 20 ≤ p0.toNatClampNeg then none else (if p1 < 0 ∨ 20 ≤ p1.toNatClampNeg then none else (if p0 < 0 ∨ 20 ≤ p0.toNatClampNeg then none else (if p1 < 0 ∨ 20 ≤ p1.toNatClampNeg then none else some ((if 0 ≤ ((B 1 p0.toNatClampNeg) - (B 1 p1.toNatClampNeg)) then ((B 1 p0.toNatClampNeg) - (B 1 p1.toNatClampNeg)) else 0 - ((B 1 p0.toNatClampNeg) - (B 1 p1.toNatClampNeg))) + (if 0 ≤ ((B 2 p0.toNatClampNeg) - (B 2 p1.toNatClampNeg)) then ((B 2 p0.toNatClampNeg) - (B 2 p1.toNatClampNeg)) else 0 - ((B 2 p0.toNatClampNeg) - (B 2 p1.toNatClampNeg))))))))
set_option maxRecDepth 100000 in
set_option maxHeartbeats 4000000 in
theorem B_X0_distance {X : gX} (C : cx X RX0 cX0_distance 3 (some .int) wsX0_distance 1 21) (a : Nat → Nat) (N : Nat) (B : tS) (p0 : Int32) (p1 : Int32) (r : Int32) (h : f_X0_distance N B p0 p1 = some r) : G X (QI X r [bdW (gcA X) a B]) [bdW (gcA X) a B] [some (.ref (a 0)), some (.int p0), some (.int p1)] [] 0 := by
  unfold f_X0_distance at h
  refine g_aload_n (pc' := 1) C dX0_distance_0 rfl rfl ?_
  refine gg_X0_1 (pc' := 4) (i := 0) C rfl hi_X0_distance_X0 lk_X0_distance_1 dX0_distance_1 rfl ?_
  refine g_iload_n (pc' := 5) C dX0_distance_4 rfl rfl ?_
  refine g_iald (pc' := 6) (i := 0) (j := 1) C rfl rfl dX0_distance_5 rfl h (fun h => ?_)
  refine g_aload_n (pc' := 7) C dX0_distance_6 rfl rfl ?_
  refine gg_X0_1 (pc' := 10) (i := 0) C rfl hi_X0_distance_X0 lk_X0_distance_1 dX0_distance_7 rfl ?_
  refine g_iload_n (pc' := 11) C dX0_distance_10 rfl rfl ?_
  refine g_iald (pc' := 12) (i := 0) (j := 1) C rfl rfl dX0_distance_11 rfl h (fun h => ?_)
  refine g_isub (pc' := 13) C dX0_distance_12 rfl ?_
  refine g_mabs (pc' := 16) C lk_X0_distance_2 lk_X0_distance_3 lk_X0_distance_4 lk_X0_distance_5 ⟨Nat.le_of_ble_eq_true rfl, Nat.le_of_ble_eq_true rfl⟩ rfl dX0_distance_13 rfl ?_
  refine g_aload_n (pc' := 17) C dX0_distance_16 rfl rfl ?_
  refine gg_X0_2 (pc' := 20) (i := 0) C rfl hi_X0_distance_X0 lk_X0_distance_6 dX0_distance_17 rfl ?_
  refine g_iload_n (pc' := 21) C dX0_distance_20 rfl rfl ?_
  refine g_iald (pc' := 22) (i := 0) (j := 2) C rfl rfl dX0_distance_21 rfl h (fun h => ?_)
  refine g_aload_n (pc' := 23) C dX0_distance_22 rfl rfl ?_
  refine gg_X0_2 (pc' := 26) (i := 0) C rfl hi_X0_distance_X0 lk_X0_distance_6 dX0_distance_23 rfl ?_
  refine g_iload_n (pc' := 27) C dX0_distance_26 rfl rfl ?_
  refine g_iald (pc' := 28) (i := 0) (j := 2) C rfl rfl dX0_distance_27 rfl h (fun h => ?_)
  refine g_isub (pc' := 29) C dX0_distance_28 rfl ?_
  refine g_mabs (pc' := 32) C lk_X0_distance_2 lk_X0_distance_3 lk_X0_distance_4 lk_X0_distance_5 ⟨Nat.le_of_ble_eq_true rfl, Nat.le_of_ble_eq_true rfl⟩ rfl dX0_distance_29 rfl ?_
  refine g_iadd (pc' := 33) C dX0_distance_32 rfl ?_
  obtain rfl := Option.some.inj h
  exact g_iret C dX0_distance_33
set_option maxRecDepth 100000 in
set_option maxHeartbeats 4000000 in
theorem c_X0_distance (l : Launch) (D : va_G) (cA : Nat → ClassId) (a : Nat → Nat) (N : Nat) (B : tS) (p0 : Int32) (p1 : Int32) (r : Int32) (h : f_X0_distance N B p0 p1 = some r) : MI l D cA yX0_distance wsX0_distance 1 21 [.ref (a 0), .int p0, .int p1] [bdW cA a B] r [bdW cA a B] := MI_of (cc := cX0_distance) (maxL := 3) (rt := some .int) (by decide +kernel) rfl (List.forall_mem_cons.mpr ⟨rfl, List.forall_mem_cons.mpr ⟨rfl, List.forall_mem_cons.mpr ⟨rfl, List.forall_mem_nil _⟩⟩⟩) (Nat.le_of_ble_eq_true rfl) (fun X e1 e2 e3 C => by subst e1; subst e2; subst e3; exact B_X0_distance C a N B p0 p1 r h)
set_option maxRecDepth 100000 in
set_option maxHeartbeats 4000000 in
theorem nd_X0_distance : nd yX0_distance 2 := ⟨by decide +kernel, by decide +kernel, by decide +kernel⟩
set_option maxRecDepth 100000 in
set_option maxHeartbeats 4000000 in
theorem k_X0_distance {X : gX} {own : String} {cc : ByteArray} {nL : Nat} {ret : Option FieldType} {Ts : List Cond} {fr lm : Nat} {Q : State → Prop} {ms : List va_W} {L : List (Option Value)} {st : List Value} {pc pc' idx : Nat} {ρ : Type} {T : Int32 → Option ρ} {res : ρ} (C : cx X own cc nL ret Ts fr lm) (a : Nat → Nat) (N : Nat) (B : tS) (p0 : Int32) (p1 : Int32) (is : List Nat) (hC : is.map (fun i => ms[i]?) = [some (bdW (gcA X) a B)]) (hn : is.Nodup) (hG : GoodIn Ts (wsV own idx RX0 yX0_distance wsX0_distance)) (hR : 1 + 1 ≤ fr ∧ 8 + (3 + 11) + 21 ≤ lm) (hst : (st.map fun v => v.category).sum ≤ 8) (hLn : L.length = nL) (d : decode cc pc = .ok (.invokevirtual idx, 3)) (hp : pc + 3 = pc') (h : bd (f_X0_distance N B p0 p1) T = some res) (kk : ∀ (r : Int32), T r = some res → G X Q (ms) L (.int r :: st) pc') : G X Q ms L (.int p1 :: .int p0 :: .ref (a 0) :: st) pc := by
  obtain ⟨r, h1, h⟩ := ob h
  exact G_callVI C (As := [.int p0, .int p1]) (c_X0_distance (gl X) (gD X) (gcA X) a N B p0 p1 r h1) hG rfl nd_X0_distance hR (q0 := 0) rfl rfl hC hn rfl rfl hst hLn d hp (G_ms (rpl_same (mc := [bdW (gcA X) a B]) hC) (kk r h))
theorem hi_X0_addTheme_X0 : ∀ w ∈ wsX00, w ∈ wsX0_addTheme := fun w h => List.mem_cons_of_mem _ (List.mem_append_right _ h)
theorem lk_X0_addTheme_1 : Cond.fieldLink RX0 28 "NoteThemes$Board" "themes" "I" ∈ wsX0_addTheme := List.mem_of_getElem? (i := 1) rfl
def f_X0_addTheme_17b (N : Nat)   (k17 : Int32 → Int32 → tS → Option (Int32 × tS)) (x1 : Int32) (x2 : Int32) (B : tS) : Option (Int32 × tS) := (if (6 : Int32) ≤ x2 then some (x1, B) else (bd (f_X0_setVote N B x2 x1 (-5 : Int32)) (fun B1 => k17 x1 (x2 + 1) B1)))
def f_X0_addTheme_17 (N : Nat)   : Nat → Int32 → Int32 → tS → Option (Int32 × tS)
  | 0 => fun _ _ _ => none
  | n + 1 => f_X0_addTheme_17b N  (f_X0_addTheme_17 N  n)
set_option maxRecDepth 100000 in
set_option maxHeartbeats 4000000 in
theorem B_X0_addTheme_17b {X : gX} (C : cx X RX0 cX0_addTheme 3 (some .int) wsX0_addTheme 1 23) (a : Nat → Nat) (N : Nat)  (r : Int32) (Bz : tS)  (k17 : Int32 → Int32 → tS → Option (Int32 × tS)) (hk17 : ∀ (x1 : Int32) (x2 : Int32) (B : tS), k17 x1 x2 B = some (r, Bz) → G X (QI X r [bdW (gcA X) a Bz]) [bdW (gcA X) a B] [some (.ref (a 0)), some (.int x1), some (.int x2)] [] 17) (x1 : Int32) (x2 : Int32) (B : tS) (h : f_X0_addTheme_17b N  k17 x1 x2 B = some (r, Bz)) : G X (QI X r [bdW (gcA X) a Bz]) [bdW (gcA X) a B] [some (.ref (a 0)), some (.int x1), some (.int x2)] [] 17 := by
  unfold f_X0_addTheme_17b at h
  refine g_iload_n (pc' := 18) C dX0_addTheme_17 rfl rfl ?_
  refine g_bipush (pc' := 20) (v := 6) C dX0_addTheme_18 (by decide) rfl ?_
  refine g_icmp_ge (pc' := 23) (tgt := 37) C dX0_addTheme_20 (by decide) rfl h (fun c h => ?_) (fun c h => ?_)
  · refine g_iload_n (pc' := 38) C dX0_addTheme_37 rfl rfl ?_
    obtain ⟨rfl, rfl⟩ := pj2 (Option.some.inj h)
    exact g_iret C dX0_addTheme_38
  · refine g_aload_n (pc' := 24) C dX0_addTheme_23 rfl rfl ?_
    refine g_iload_n (pc' := 25) C dX0_addTheme_24 rfl rfl ?_
    refine g_iload_n (pc' := 26) C dX0_addTheme_25 rfl rfl ?_
    refine g_bipush (pc' := 28) (v := -5) C dX0_addTheme_26 (by decide) rfl ?_
    refine k_X0_setVote (pc' := 31) C a N B x2 x1 (-5 : Int32) [0] rfl (by decide) gX0_addTheme_X0_setVote ⟨Nat.le_of_ble_eq_true rfl, Nat.le_of_ble_eq_true rfl⟩ (Nat.le_of_ble_eq_true rfl) rfl dX0_addTheme_28 rfl h (fun B1 h => ?_)
    show G X _ [bdW (gcA X) a B1] _ _ _
    refine g_iinc (pc' := 34) (v := (x2 + 1)) C dX0_addTheme_31 rfl rfl rfl (L' := [some (.ref (a 0)), some (.int x1), some (.int (x2 + 1))]) rfl ?_
    refine g_goto (pc' := 17) C dX0_addTheme_34 (by decide) ?_
    exact G_loc (lle_s (lle_s (lle_s lle_0))) (hk17 x1 (x2 + 1) B1 h)
set_option maxRecDepth 100000 in
set_option maxHeartbeats 4000000 in
theorem L_X0_addTheme_17 {X : gX} (C : cx X RX0 cX0_addTheme 3 (some .int) wsX0_addTheme 1 23) (a : Nat → Nat) (N : Nat)  (r : Int32) (Bz : tS)  : ∀ (n : Nat) (x1 : Int32) (x2 : Int32) (B : tS), f_X0_addTheme_17 N  n x1 x2 B = some (r, Bz) → G X (QI X r [bdW (gcA X) a Bz]) [bdW (gcA X) a B] [some (.ref (a 0)), some (.int x1), some (.int x2)] [] 17 := by
  intro n
  induction n with
  | zero => intro x1 x2 B h; have h : (none : Option (Int32 × tS)) = some (r, Bz) := h; cases h
  | succ n ih => intro x1 x2 B h; exact B_X0_addTheme_17b C a N r Bz  (f_X0_addTheme_17 N  n) ih x1 x2 B h
def f_X0_addTheme (N : Nat) (B : tS)  : Option (Int32 × tS) := f_X0_addTheme_17 N N (B 5 0) (0 : Int32) (va_up B 5 (fun _ => ((B 5 0) + (1 : Int32))))
set_option maxRecDepth 100000 in
set_option maxHeartbeats 4000000 in
theorem B_X0_addTheme {X : gX} (C : cx X RX0 cX0_addTheme 3 (some .int) wsX0_addTheme 1 23) (a : Nat → Nat) (N : Nat) (B : tS)  (r : Int32) (Bz : tS) (h : f_X0_addTheme N B = some (r, Bz)) : G X (QI X r [bdW (gcA X) a Bz]) [bdW (gcA X) a B] [some (.ref (a 0)), none, none] [] 0 := by
  unfold f_X0_addTheme at h
  refine g_aload_n (pc' := 1) C dX0_addTheme_0 rfl rfl ?_
  refine gg_X0_5 (pc' := 4) (i := 0) C rfl hi_X0_addTheme_X0 lk_X0_addTheme_1 dX0_addTheme_1 rfl ?_
  refine g_istore_n (pc' := 5) C dX0_addTheme_4 (Nat.le_of_ble_eq_true rfl) rfl (L' := [some (.ref (a 0)), some (.int (B 5 0)), none]) rfl ?_
  refine g_aload_n (pc' := 6) C dX0_addTheme_5 rfl rfl ?_
  refine g_dup (pc' := 7) C dX0_addTheme_6 rfl rfl ?_
  refine gg_X0_5 (pc' := 10) (i := 0) C rfl hi_X0_addTheme_X0 lk_X0_addTheme_1 dX0_addTheme_7 rfl ?_
  refine g_iconst (pc' := 11) (v := 1) C dX0_addTheme_10 (by decide) rfl ?_
  refine g_iadd (pc' := 12) C dX0_addTheme_11 rfl ?_
  refine gp_X0_5 (pc' := 15) (i := 0) C rfl hi_X0_addTheme_X0 lk_X0_addTheme_1 dX0_addTheme_12 rfl ?_
  show G X _ [bdW (gcA X) a (va_up B 5 (fun _ => ((B 5 0) + (1 : Int32))))] _ _ _
  refine g_iconst (pc' := 16) (v := 0) C dX0_addTheme_15 (by decide) rfl ?_
  refine g_istore_n (pc' := 17) C dX0_addTheme_16 (Nat.le_of_ble_eq_true rfl) rfl (L' := [some (.ref (a 0)), some (.int (B 5 0)), some (.int (0 : Int32))]) rfl ?_
  exact G_loc (lle_s (lle_s (lle_s lle_0))) (L_X0_addTheme_17 C a N r Bz N (B 5 0) (0 : Int32) (va_up B 5 (fun _ => ((B 5 0) + (1 : Int32)))) h)
set_option maxRecDepth 100000 in
set_option maxHeartbeats 4000000 in
theorem c_X0_addTheme (l : Launch) (D : va_G) (cA : Nat → ClassId) (a : Nat → Nat) (N : Nat) (B : tS)  (r : Int32) (Bz : tS) (h : f_X0_addTheme N B = some (r, Bz)) : MI l D cA yX0_addTheme wsX0_addTheme 1 23 [.ref (a 0)] [bdW cA a B] r [bdW cA a Bz] := MI_of (cc := cX0_addTheme) (maxL := 3) (rt := some .int) (by decide +kernel) rfl (List.forall_mem_cons.mpr ⟨rfl, List.forall_mem_nil _⟩) (Nat.le_of_ble_eq_true rfl) (fun X e1 e2 e3 C => by subst e1; subst e2; subst e3; exact B_X0_addTheme C a N B r Bz h)
set_option maxRecDepth 100000 in
set_option maxHeartbeats 4000000 in
theorem nd_X0_addTheme : nd yX0_addTheme 0 := ⟨by decide +kernel, by decide +kernel, by decide +kernel⟩
set_option maxRecDepth 100000 in
set_option maxHeartbeats 4000000 in
theorem k_X0_addTheme {X : gX} {own : String} {cc : ByteArray} {nL : Nat} {ret : Option FieldType} {Ts : List Cond} {fr lm : Nat} {Q : State → Prop} {ms : List va_W} {L : List (Option Value)} {st : List Value} {pc pc' idx : Nat} {ρ : Type} {T : Int32 → tS → Option ρ} {res : ρ} (C : cx X own cc nL ret Ts fr lm) (a : Nat → Nat) (N : Nat) (B : tS)  (is : List Nat) (hC : is.map (fun i => ms[i]?) = [some (bdW (gcA X) a B)]) (hn : is.Nodup) (hG : GoodIn Ts (wsV own idx RX0 yX0_addTheme wsX0_addTheme)) (hR : 1 + 1 ≤ fr ∧ 8 + (3 + 11) + 23 ≤ lm) (hst : (st.map fun v => v.category).sum ≤ 8) (hLn : L.length = nL) (d : decode cc pc = .ok (.invokevirtual idx, 3)) (hp : pc + 3 = pc') (h : bd2 (f_X0_addTheme N B) T = some res) (kk : ∀ (r : Int32) (Bz : tS), T r Bz = some res → G X Q (rpl ms is [bdW (gcA X) a Bz]) L (.int r :: st) pc') : G X Q ms L (.ref (a 0) :: st) pc := by
  obtain ⟨r, Bz, h1, h⟩ := ob2 h
  exact G_callVI C (As := []) (c_X0_addTheme (gl X) (gD X) (gcA X) a N B r Bz h1) hG rfl nd_X0_addTheme hR (q0 := 0) rfl rfl hC hn rfl rfl hst hLn d hp (kk r Bz h)
theorem hi_X0_hasTheme_X0 : ∀ w ∈ wsX00, w ∈ wsX0_hasTheme := fun w h => List.mem_cons_of_mem _ (List.mem_append_right _ h)
theorem lk_X0_hasTheme_1 : Cond.fieldLink RX0 28 "NoteThemes$Board" "themes" "I" ∈ wsX0_hasTheme := List.mem_of_getElem? (i := 1) rfl
def f_X0_hasTheme (N : Nat) (B : tS) (p0 : Int32) : Option (Int32) := (if p0 < 0 then some (0 : Int32) else (if (B 5 0) ≤ p0 then some (0 : Int32) else some (1 : Int32)))
set_option maxRecDepth 100000 in
set_option maxHeartbeats 4000000 in
theorem B_X0_hasTheme {X : gX} (C : cx X RX0 cX0_hasTheme 2 (some .boolean) wsX0_hasTheme 0 0) (a : Nat → Nat) (N : Nat) (B : tS) (p0 : Int32) (r : Int32) (h : f_X0_hasTheme N B p0 = some r) : G X (QI X r [bdW (gcA X) a B]) [bdW (gcA X) a B] [some (.ref (a 0)), some (.int p0)] [] 0 := by
  unfold f_X0_hasTheme at h
  refine g_iload_n (pc' := 1) C dX0_hasTheme_0 rfl rfl ?_
  refine g_if_lt (pc' := 4) (tgt := 16) C dX0_hasTheme_1 (by decide) rfl h (fun c h => ?_) (fun c h => ?_)
  · refine g_iconst (pc' := 17) (v := 0) C dX0_hasTheme_16 (by decide) rfl ?_
    obtain rfl := Option.some.inj h
    exact g_zret0 C rfl dX0_hasTheme_17
  · refine g_iload_n (pc' := 5) C dX0_hasTheme_4 rfl rfl ?_
    refine g_aload_n (pc' := 6) C dX0_hasTheme_5 rfl rfl ?_
    refine gg_X0_5 (pc' := 9) (i := 0) C rfl hi_X0_hasTheme_X0 lk_X0_hasTheme_1 dX0_hasTheme_6 rfl ?_
    refine g_icmp_ge (pc' := 12) (tgt := 16) C dX0_hasTheme_9 (by decide) rfl h (fun c h => ?_) (fun c h => ?_)
    · refine g_iconst (pc' := 17) (v := 0) C dX0_hasTheme_16 (by decide) rfl ?_
      obtain rfl := Option.some.inj h
      exact g_zret0 C rfl dX0_hasTheme_17
    · refine g_iconst (pc' := 13) (v := 1) C dX0_hasTheme_12 (by decide) rfl ?_
      refine g_goto (pc' := 17) C dX0_hasTheme_13 (by decide) ?_
      obtain rfl := Option.some.inj h
      exact g_zret0 C rfl dX0_hasTheme_17
set_option maxRecDepth 100000 in
set_option maxHeartbeats 4000000 in
theorem c_X0_hasTheme (l : Launch) (D : va_G) (cA : Nat → ClassId) (a : Nat → Nat) (N : Nat) (B : tS) (p0 : Int32) (r : Int32) (h : f_X0_hasTheme N B p0 = some r) : MI l D cA yX0_hasTheme wsX0_hasTheme 0 0 [.ref (a 0), .int p0] [bdW cA a B] r [bdW cA a B] := MI_of (cc := cX0_hasTheme) (maxL := 2) (rt := some .boolean) (by decide +kernel) rfl (List.forall_mem_cons.mpr ⟨rfl, List.forall_mem_cons.mpr ⟨rfl, List.forall_mem_nil _⟩⟩) (Nat.le_of_ble_eq_true rfl) (fun X e1 e2 e3 C => by subst e1; subst e2; subst e3; exact B_X0_hasTheme C a N B p0 r h)
set_option maxRecDepth 100000 in
set_option maxHeartbeats 4000000 in
theorem nd_X0_hasTheme : nd yX0_hasTheme 1 := ⟨by decide +kernel, by decide +kernel, by decide +kernel⟩
set_option maxRecDepth 100000 in
set_option maxHeartbeats 4000000 in
theorem k_X0_hasTheme {X : gX} {own : String} {cc : ByteArray} {nL : Nat} {ret : Option FieldType} {Ts : List Cond} {fr lm : Nat} {Q : State → Prop} {ms : List va_W} {L : List (Option Value)} {st : List Value} {pc pc' idx : Nat} {ρ : Type} {T : Int32 → Option ρ} {res : ρ} (C : cx X own cc nL ret Ts fr lm) (a : Nat → Nat) (N : Nat) (B : tS) (p0 : Int32) (is : List Nat) (hC : is.map (fun i => ms[i]?) = [some (bdW (gcA X) a B)]) (hn : is.Nodup) (hG : GoodIn Ts (wsV own idx RX0 yX0_hasTheme wsX0_hasTheme)) (hR : 0 + 1 ≤ fr ∧ 8 + (2 + 11) + 0 ≤ lm) (hst : (st.map fun v => v.category).sum ≤ 8) (hLn : L.length = nL) (d : decode cc pc = .ok (.invokevirtual idx, 3)) (hp : pc + 3 = pc') (h : bd (f_X0_hasTheme N B p0) T = some res) (kk : ∀ (r : Int32), T r = some res → G X Q (ms) L (.int r :: st) pc') : G X Q ms L (.int p0 :: .ref (a 0) :: st) pc := by
  obtain ⟨r, h1, h⟩ := ob h
  exact G_callVI C (As := [.int p0]) (c_X0_hasTheme (gl X) (gD X) (gcA X) a N B p0 r h1) hG rfl nd_X0_hasTheme hR (q0 := 0) rfl rfl hC hn rfl rfl hst hLn d hp (G_ms (rpl_same (mc := [bdW (gcA X) a B]) hC) (kk r h))
theorem hi_X0_mergeThemes_X0 : ∀ w ∈ wsX00, w ∈ wsX0_mergeThemes := fun w h => List.mem_cons_of_mem _ (List.mem_append_right _ h)
theorem lk_X0_mergeThemes_1 : Cond.fieldLink RX0 9 "NoteThemes$Board" "notes" "I" ∈ wsX0_mergeThemes := List.mem_of_getElem? (i := 1) rfl
theorem lk_X0_mergeThemes_2 : Cond.fieldLink RX0 22 "NoteThemes$Board" "themeOf" "[I" ∈ wsX0_mergeThemes := List.mem_of_getElem? (i := 2) rfl
def f_X0_mergeThemes_64 (N : Nat) (p0 : Int32) (p1 : Int32) (k35 : Int32 → tS → Option (tS)) (x3 : Int32) (B : tS) : Option (tS) := k35 (x3 + 1) B
set_option maxRecDepth 100000 in
set_option maxHeartbeats 4000000 in
theorem B_X0_mergeThemes_64 {X : gX} (C : cx X RX0 cX0_mergeThemes 4 none wsX0_mergeThemes 2 46) (a : Nat → Nat) (N : Nat) (p0 : Int32) (p1 : Int32) (Bz : tS) (k35 : Int32 → tS → Option (tS)) (hk35 : ∀ (x3 : Int32) (B : tS), k35 x3 B = some Bz → G X (QV X [bdW (gcA X) a Bz]) [bdW (gcA X) a B] [some (.ref (a 0)), some (.int p0), some (.int p1), some (.int x3)] [] 35) (x3 : Int32) (B : tS) (h : f_X0_mergeThemes_64 N p0 p1 k35 x3 B = some Bz) : G X (QV X [bdW (gcA X) a Bz]) [bdW (gcA X) a B] [some (.ref (a 0)), some (.int p0), some (.int p1), some (.int x3)] [] 64 := by
  unfold f_X0_mergeThemes_64 at h
  refine g_iinc (pc' := 67) (v := (x3 + 1)) C dX0_mergeThemes_64 rfl rfl rfl (L' := [some (.ref (a 0)), some (.int p0), some (.int p1), some (.int (x3 + 1))]) rfl ?_
  refine g_goto (pc' := 35) C dX0_mergeThemes_67 (by decide) ?_
  exact G_loc (lle_s (lle_s (lle_s (lle_s lle_0)))) (hk35 (x3 + 1) B h)
def f_X0_mergeThemes_35b (N : Nat) (p0 : Int32) (p1 : Int32)  (k35 : Int32 → tS → Option (tS)) (x3 : Int32) (B : tS) : Option (tS) := (if (6 : Int32) ≤ x3 then (bd (f_X0_removeThemeIfEmpty N B p1) (fun B1 => some B1)) else (bd (f_X0_voteOf N B x3 p0) (fun r2 => (if r2 = (-5 : Int32) then (bd (f_X0_voteOf N B x3 p1) (fun r3 => (bd (f_X0_setVote N B x3 p0 r3) (fun B4 => f_X0_mergeThemes_64 N p0 p1 k35 x3 B4)))) else f_X0_mergeThemes_64 N p0 p1 k35 x3 B))))
def f_X0_mergeThemes_35 (N : Nat) (p0 : Int32) (p1 : Int32)  : Nat → Int32 → tS → Option (tS)
  | 0 => fun _ _ => none
  | n + 1 => f_X0_mergeThemes_35b N p0 p1  (f_X0_mergeThemes_35 N p0 p1  n)
set_option maxRecDepth 100000 in
set_option maxHeartbeats 4000000 in
theorem B_X0_mergeThemes_35b {X : gX} (C : cx X RX0 cX0_mergeThemes 4 none wsX0_mergeThemes 2 46) (a : Nat → Nat) (N : Nat) (p0 : Int32) (p1 : Int32) (Bz : tS)  (k35 : Int32 → tS → Option (tS)) (hk35 : ∀ (x3 : Int32) (B : tS), k35 x3 B = some Bz → G X (QV X [bdW (gcA X) a Bz]) [bdW (gcA X) a B] [some (.ref (a 0)), some (.int p0), some (.int p1), some (.int x3)] [] 35) (x3 : Int32) (B : tS) (h : f_X0_mergeThemes_35b N p0 p1  k35 x3 B = some Bz) : G X (QV X [bdW (gcA X) a Bz]) [bdW (gcA X) a B] [some (.ref (a 0)), some (.int p0), some (.int p1), some (.int x3)] [] 35 := by
  unfold f_X0_mergeThemes_35b at h
  refine g_iload_n (pc' := 36) C dX0_mergeThemes_35 rfl rfl ?_
  refine g_bipush (pc' := 38) (v := 6) C dX0_mergeThemes_36 (by decide) rfl ?_
  refine g_icmp_ge (pc' := 41) (tgt := 70) C dX0_mergeThemes_38 (by decide) rfl h (fun c h => ?_) (fun c h => ?_)
  · refine g_aload_n (pc' := 71) C dX0_mergeThemes_70 rfl rfl ?_
    refine g_iload_n (pc' := 72) C dX0_mergeThemes_71 rfl rfl ?_
    refine k_X0_removeThemeIfEmpty (pc' := 75) C a N B p1 [0] rfl (by decide) gX0_mergeThemes_X0_removeThemeIfEmpty ⟨Nat.le_of_ble_eq_true rfl, Nat.le_of_ble_eq_true rfl⟩ (Nat.le_of_ble_eq_true rfl) rfl dX0_mergeThemes_72 rfl h (fun B1 h => ?_)
    show G X _ [bdW (gcA X) a B1] _ _ _
    obtain rfl := Option.some.inj h
    exact g_vret C dX0_mergeThemes_75
  · refine g_aload_n (pc' := 42) C dX0_mergeThemes_41 rfl rfl ?_
    refine g_iload_n (pc' := 43) C dX0_mergeThemes_42 rfl rfl ?_
    refine g_iload_n (pc' := 44) C dX0_mergeThemes_43 rfl rfl ?_
    refine k_X0_voteOf (pc' := 47) C a N B x3 p0 [0] rfl (by decide) gX0_mergeThemes_X0_voteOf ⟨Nat.le_of_ble_eq_true rfl, Nat.le_of_ble_eq_true rfl⟩ (Nat.le_of_ble_eq_true rfl) rfl dX0_mergeThemes_44 rfl h (fun r2 h => ?_)
    refine g_bipush (pc' := 49) (v := -5) C dX0_mergeThemes_47 (by decide) rfl ?_
    refine g_icmp_ne (pc' := 52) (tgt := 64) C dX0_mergeThemes_49 (by decide) rfl h (fun c h => ?_) (fun c h => ?_)
    · refine g_aload_n (pc' := 53) C dX0_mergeThemes_52 rfl rfl ?_
      refine g_iload_n (pc' := 54) C dX0_mergeThemes_53 rfl rfl ?_
      refine g_iload_n (pc' := 55) C dX0_mergeThemes_54 rfl rfl ?_
      refine g_aload_n (pc' := 56) C dX0_mergeThemes_55 rfl rfl ?_
      refine g_iload_n (pc' := 57) C dX0_mergeThemes_56 rfl rfl ?_
      refine g_iload_n (pc' := 58) C dX0_mergeThemes_57 rfl rfl ?_
      refine k_X0_voteOf (pc' := 61) C a N B x3 p1 [0] rfl (by decide) gX0_mergeThemes_X0_voteOf ⟨Nat.le_of_ble_eq_true rfl, Nat.le_of_ble_eq_true rfl⟩ (Nat.le_of_ble_eq_true rfl) rfl dX0_mergeThemes_58 rfl h (fun r3 h => ?_)
      refine k_X0_setVote (pc' := 64) C a N B x3 p0 r3 [0] rfl (by decide) gX0_mergeThemes_X0_setVote ⟨Nat.le_of_ble_eq_true rfl, Nat.le_of_ble_eq_true rfl⟩ (Nat.le_of_ble_eq_true rfl) rfl dX0_mergeThemes_61 rfl h (fun B4 h => ?_)
      show G X _ [bdW (gcA X) a B4] _ _ _
      exact G_loc (lle_s (lle_s (lle_s (lle_s lle_0)))) (B_X0_mergeThemes_64 C a N p0 p1 Bz k35 hk35 x3 B4 h)
    · exact G_loc (lle_s (lle_s (lle_s (lle_s lle_0)))) (B_X0_mergeThemes_64 C a N p0 p1 Bz k35 hk35 x3 B h)
set_option maxRecDepth 100000 in
set_option maxHeartbeats 4000000 in
theorem L_X0_mergeThemes_35 {X : gX} (C : cx X RX0 cX0_mergeThemes 4 none wsX0_mergeThemes 2 46) (a : Nat → Nat) (N : Nat) (p0 : Int32) (p1 : Int32) (Bz : tS)  : ∀ (n : Nat) (x3 : Int32) (B : tS), f_X0_mergeThemes_35 N p0 p1  n x3 B = some Bz → G X (QV X [bdW (gcA X) a Bz]) [bdW (gcA X) a B] [some (.ref (a 0)), some (.int p0), some (.int p1), some (.int x3)] [] 35 := by
  intro n
  induction n with
  | zero => intro x3 B h; have h : (none : Option (tS)) = some Bz := h; cases h
  | succ n ih => intro x3 B h; exact B_X0_mergeThemes_35b C a N p0 p1 Bz  (f_X0_mergeThemes_35 N p0 p1  n) ih x3 B h
def f_X0_mergeThemes_27 (N : Nat) (p0 : Int32) (p1 : Int32) (k2 : Int32 → tS → Option (tS)) (x3 : Int32) (B : tS) : Option (tS) := k2 (x3 + 1) B
set_option maxRecDepth 100000 in
set_option maxHeartbeats 4000000 in
theorem B_X0_mergeThemes_27 {X : gX} (C : cx X RX0 cX0_mergeThemes 4 none wsX0_mergeThemes 2 46) (a : Nat → Nat) (N : Nat) (p0 : Int32) (p1 : Int32) (Bz : tS) (k2 : Int32 → tS → Option (tS)) (hk2 : ∀ (x3 : Int32) (B : tS), k2 x3 B = some Bz → G X (QV X [bdW (gcA X) a Bz]) [bdW (gcA X) a B] [some (.ref (a 0)), some (.int p0), some (.int p1), some (.int x3)] [] 2) (x3 : Int32) (B : tS) (h : f_X0_mergeThemes_27 N p0 p1 k2 x3 B = some Bz) : G X (QV X [bdW (gcA X) a Bz]) [bdW (gcA X) a B] [some (.ref (a 0)), some (.int p0), some (.int p1), some (.int x3)] [] 27 := by
  unfold f_X0_mergeThemes_27 at h
  refine g_iinc (pc' := 30) (v := (x3 + 1)) C dX0_mergeThemes_27 rfl rfl rfl (L' := [some (.ref (a 0)), some (.int p0), some (.int p1), some (.int (x3 + 1))]) rfl ?_
  refine g_goto (pc' := 2) C dX0_mergeThemes_30 (by decide) ?_
  exact G_loc (lle_s (lle_s (lle_s (lle_s lle_0)))) (hk2 (x3 + 1) B h)
def f_X0_mergeThemes_2b (N : Nat) (p0 : Int32) (p1 : Int32)  (k2 : Int32 → tS → Option (tS)) (x3 : Int32) (B : tS) : Option (tS) := (if (B 0 0) ≤ x3 then f_X0_mergeThemes_35 N p0 p1 N (0 : Int32) B else (if x3 < 0 ∨ 20 ≤ x3.toNatClampNeg then none else (if (B 3 x3.toNatClampNeg) = p1 then (if x3 < 0 ∨ 20 ≤ x3.toNatClampNeg then none else f_X0_mergeThemes_27 N p0 p1 k2 x3 (va_up B 3 (upd (B 3) x3.toNatClampNeg p0))) else f_X0_mergeThemes_27 N p0 p1 k2 x3 B)))
def f_X0_mergeThemes_2 (N : Nat) (p0 : Int32) (p1 : Int32)  : Nat → Int32 → tS → Option (tS)
  | 0 => fun _ _ => none
  | n + 1 => f_X0_mergeThemes_2b N p0 p1  (f_X0_mergeThemes_2 N p0 p1  n)
set_option maxRecDepth 100000 in
set_option maxHeartbeats 4000000 in
theorem B_X0_mergeThemes_2b {X : gX} (C : cx X RX0 cX0_mergeThemes 4 none wsX0_mergeThemes 2 46) (a : Nat → Nat) (N : Nat) (p0 : Int32) (p1 : Int32) (Bz : tS)  (k2 : Int32 → tS → Option (tS)) (hk2 : ∀ (x3 : Int32) (B : tS), k2 x3 B = some Bz → G X (QV X [bdW (gcA X) a Bz]) [bdW (gcA X) a B] [some (.ref (a 0)), some (.int p0), some (.int p1), some (.int x3)] [] 2) (x3 : Int32) (B : tS) (h : f_X0_mergeThemes_2b N p0 p1  k2 x3 B = some Bz) : G X (QV X [bdW (gcA X) a Bz]) [bdW (gcA X) a B] [some (.ref (a 0)), some (.int p0), some (.int p1), some (.int x3)] [] 2 := by
  unfold f_X0_mergeThemes_2b at h
  refine g_iload_n (pc' := 3) C dX0_mergeThemes_2 rfl rfl ?_
  refine g_aload_n (pc' := 4) C dX0_mergeThemes_3 rfl rfl ?_
  refine gg_X0_0 (pc' := 7) (i := 0) C rfl hi_X0_mergeThemes_X0 lk_X0_mergeThemes_1 dX0_mergeThemes_4 rfl ?_
  refine g_icmp_ge (pc' := 10) (tgt := 33) C dX0_mergeThemes_7 (by decide) rfl h (fun c h => ?_) (fun c h => ?_)
  · refine g_iconst (pc' := 34) (v := 0) C dX0_mergeThemes_33 (by decide) rfl ?_
    refine g_istore_n (pc' := 35) C dX0_mergeThemes_34 (Nat.le_of_ble_eq_true rfl) rfl (L' := [some (.ref (a 0)), some (.int p0), some (.int p1), some (.int (0 : Int32))]) rfl ?_
    exact G_loc (lle_s (lle_s (lle_s (lle_s lle_0)))) (L_X0_mergeThemes_35 C a N p0 p1 Bz N (0 : Int32) B h)
  · refine g_aload_n (pc' := 11) C dX0_mergeThemes_10 rfl rfl ?_
    refine gg_X0_3 (pc' := 14) (i := 0) C rfl hi_X0_mergeThemes_X0 lk_X0_mergeThemes_2 dX0_mergeThemes_11 rfl ?_
    refine g_iload_n (pc' := 15) C dX0_mergeThemes_14 rfl rfl ?_
    refine g_iald (pc' := 16) (i := 0) (j := 3) C rfl rfl dX0_mergeThemes_15 rfl h (fun h => ?_)
    refine g_iload_n (pc' := 17) C dX0_mergeThemes_16 rfl rfl ?_
    refine g_icmp_ne (pc' := 20) (tgt := 27) C dX0_mergeThemes_17 (by decide) rfl h (fun c h => ?_) (fun c h => ?_)
    · refine g_aload_n (pc' := 21) C dX0_mergeThemes_20 rfl rfl ?_
      refine gg_X0_3 (pc' := 24) (i := 0) C rfl hi_X0_mergeThemes_X0 lk_X0_mergeThemes_2 dX0_mergeThemes_21 rfl ?_
      refine g_iload_n (pc' := 25) C dX0_mergeThemes_24 rfl rfl ?_
      refine g_iload_n (pc' := 26) C dX0_mergeThemes_25 rfl rfl ?_
      refine g_iast (pc' := 27) (i := 0) (j := 3) (w' := bdW (gcA X) a (va_up B 3 (upd (B 3) x3.toNatClampNeg p0))) C rfl rfl rfl dX0_mergeThemes_26 rfl h (fun h => ?_)
      show G X _ [bdW (gcA X) a (va_up B 3 (upd (B 3) x3.toNatClampNeg p0))] _ _ _
      exact G_loc (lle_s (lle_s (lle_s (lle_s lle_0)))) (B_X0_mergeThemes_27 C a N p0 p1 Bz k2 hk2 x3 (va_up B 3 (upd (B 3) x3.toNatClampNeg p0)) h)
    · exact G_loc (lle_s (lle_s (lle_s (lle_s lle_0)))) (B_X0_mergeThemes_27 C a N p0 p1 Bz k2 hk2 x3 B h)
set_option maxRecDepth 100000 in
set_option maxHeartbeats 4000000 in
theorem L_X0_mergeThemes_2 {X : gX} (C : cx X RX0 cX0_mergeThemes 4 none wsX0_mergeThemes 2 46) (a : Nat → Nat) (N : Nat) (p0 : Int32) (p1 : Int32) (Bz : tS)  : ∀ (n : Nat) (x3 : Int32) (B : tS), f_X0_mergeThemes_2 N p0 p1  n x3 B = some Bz → G X (QV X [bdW (gcA X) a Bz]) [bdW (gcA X) a B] [some (.ref (a 0)), some (.int p0), some (.int p1), some (.int x3)] [] 2 := by
  intro n
  induction n with
  | zero => intro x3 B h; have h : (none : Option (tS)) = some Bz := h; cases h
  | succ n ih => intro x3 B h; exact B_X0_mergeThemes_2b C a N p0 p1 Bz  (f_X0_mergeThemes_2 N p0 p1  n) ih x3 B h
def f_X0_mergeThemes (N : Nat) (B : tS) (p0 : Int32) (p1 : Int32) : Option (tS) := f_X0_mergeThemes_2 N p0 p1 N (0 : Int32) B
set_option maxRecDepth 100000 in
set_option maxHeartbeats 4000000 in
theorem B_X0_mergeThemes {X : gX} (C : cx X RX0 cX0_mergeThemes 4 none wsX0_mergeThemes 2 46) (a : Nat → Nat) (N : Nat) (B : tS) (p0 : Int32) (p1 : Int32) (Bz : tS) (h : f_X0_mergeThemes N B p0 p1 = some Bz) : G X (QV X [bdW (gcA X) a Bz]) [bdW (gcA X) a B] [some (.ref (a 0)), some (.int p0), some (.int p1), none] [] 0 := by
  unfold f_X0_mergeThemes at h
  refine g_iconst (pc' := 1) (v := 0) C dX0_mergeThemes_0 (by decide) rfl ?_
  refine g_istore_n (pc' := 2) C dX0_mergeThemes_1 (Nat.le_of_ble_eq_true rfl) rfl (L' := [some (.ref (a 0)), some (.int p0), some (.int p1), some (.int (0 : Int32))]) rfl ?_
  exact G_loc (lle_s (lle_s (lle_s (lle_s lle_0)))) (L_X0_mergeThemes_2 C a N p0 p1 Bz N (0 : Int32) B h)
set_option maxRecDepth 100000 in
set_option maxHeartbeats 4000000 in
theorem c_X0_mergeThemes (l : Launch) (D : va_G) (cA : Nat → ClassId) (a : Nat → Nat) (N : Nat) (B : tS) (p0 : Int32) (p1 : Int32) (Bz : tS) (h : f_X0_mergeThemes N B p0 p1 = some Bz) : MV l D cA yX0_mergeThemes wsX0_mergeThemes 2 46 [.ref (a 0), .int p0, .int p1] [bdW cA a B]  [bdW cA a Bz] := MV_of (cc := cX0_mergeThemes) (maxL := 4) (by decide +kernel) rfl (List.forall_mem_cons.mpr ⟨rfl, List.forall_mem_cons.mpr ⟨rfl, List.forall_mem_cons.mpr ⟨rfl, List.forall_mem_nil _⟩⟩⟩) (Nat.le_of_ble_eq_true rfl) (fun X e1 e2 e3 C => by subst e1; subst e2; subst e3; exact B_X0_mergeThemes C a N B p0 p1 Bz h)
set_option maxRecDepth 100000 in
set_option maxHeartbeats 4000000 in
theorem nd_X0_mergeThemes : nd yX0_mergeThemes 2 := ⟨by decide +kernel, by decide +kernel, by decide +kernel⟩
set_option maxRecDepth 100000 in
set_option maxHeartbeats 4000000 in
theorem k_X0_mergeThemes {X : gX} {own : String} {cc : ByteArray} {nL : Nat} {ret : Option FieldType} {Ts : List Cond} {fr lm : Nat} {Q : State → Prop} {ms : List va_W} {L : List (Option Value)} {st : List Value} {pc pc' idx : Nat} {ρ : Type} {T : tS → Option ρ} {res : ρ} (C : cx X own cc nL ret Ts fr lm) (a : Nat → Nat) (N : Nat) (B : tS) (p0 : Int32) (p1 : Int32) (is : List Nat) (hC : is.map (fun i => ms[i]?) = [some (bdW (gcA X) a B)]) (hn : is.Nodup) (hG : GoodIn Ts (wsV own idx RX0 yX0_mergeThemes wsX0_mergeThemes)) (hR : 2 + 1 ≤ fr ∧ 8 + (4 + 11) + 46 ≤ lm) (hst : (st.map fun v => v.category).sum ≤ 8) (hLn : L.length = nL) (d : decode cc pc = .ok (.invokevirtual idx, 3)) (hp : pc + 3 = pc') (h : bd (f_X0_mergeThemes N B p0 p1) T = some res) (kk : ∀ (Bz : tS), T Bz = some res → G X Q (rpl ms is [bdW (gcA X) a Bz]) L (st) pc') : G X Q ms L (.int p1 :: .int p0 :: .ref (a 0) :: st) pc := by
  obtain ⟨Bz, h1, h⟩ := ob h
  exact G_callVV C (As := [.int p0, .int p1]) (c_X0_mergeThemes (gl X) (gD X) (gcA X) a N B p0 p1 Bz h1) hG rfl nd_X0_mergeThemes hR (q0 := 0) rfl rfl hC hn rfl rfl hst hLn d hp (kk Bz h)
def f_X0_votesFor_26 (N : Nat) (B : tS) (p0 : Int32) (p1 : Int32) (k5 : Int32 → Int32 → Option (Int32)) (x3 : Int32) (x4 : Int32) : Option (Int32) := k5 x3 (x4 + 1)
set_option maxRecDepth 100000 in
set_option maxHeartbeats 4000000 in
theorem B_X0_votesFor_26 {X : gX} (C : cx X RX0 cX0_votesFor 5 (some .int) wsX0_votesFor 1 22) (a : Nat → Nat) (N : Nat) (B : tS) (p0 : Int32) (p1 : Int32) (r : Int32) (k5 : Int32 → Int32 → Option (Int32)) (hk5 : ∀ (x3 : Int32) (x4 : Int32), k5 x3 x4 = some r → G X (QI X r [bdW (gcA X) a B]) [bdW (gcA X) a B] [some (.ref (a 0)), some (.int p0), some (.int p1), some (.int x3), some (.int x4)] [] 5) (x3 : Int32) (x4 : Int32) (h : f_X0_votesFor_26 N B p0 p1 k5 x3 x4 = some r) : G X (QI X r [bdW (gcA X) a B]) [bdW (gcA X) a B] [some (.ref (a 0)), some (.int p0), some (.int p1), some (.int x3), some (.int x4)] [] 26 := by
  unfold f_X0_votesFor_26 at h
  refine g_iinc (pc' := 29) (v := (x4 + 1)) C dX0_votesFor_26 rfl rfl rfl (L' := [some (.ref (a 0)), some (.int p0), some (.int p1), some (.int x3), some (.int (x4 + 1))]) rfl ?_
  refine g_goto (pc' := 5) C dX0_votesFor_29 (by decide) ?_
  exact G_loc (lle_s (lle_s (lle_s (lle_s (lle_s lle_0))))) (hk5 x3 (x4 + 1) h)
def f_X0_votesFor_5b (N : Nat) (B : tS) (p0 : Int32) (p1 : Int32)  (k5 : Int32 → Int32 → Option (Int32)) (x3 : Int32) (x4 : Int32) : Option (Int32) := (if (6 : Int32) ≤ x4 then some x3 else (bd (f_X0_voteOf N B x4 p0) (fun r1 => (if r1 = p1 then f_X0_votesFor_26 N B p0 p1 k5 (x3 + 1) x4 else f_X0_votesFor_26 N B p0 p1 k5 x3 x4))))
def f_X0_votesFor_5 (N : Nat) (B : tS) (p0 : Int32) (p1 : Int32)  : Nat → Int32 → Int32 → Option (Int32)
  | 0 => fun _ _ => none
  | n + 1 => f_X0_votesFor_5b N B p0 p1  (f_X0_votesFor_5 N B p0 p1  n)
set_option maxRecDepth 100000 in
set_option maxHeartbeats 4000000 in
theorem B_X0_votesFor_5b {X : gX} (C : cx X RX0 cX0_votesFor 5 (some .int) wsX0_votesFor 1 22) (a : Nat → Nat) (N : Nat) (B : tS) (p0 : Int32) (p1 : Int32) (r : Int32)  (k5 : Int32 → Int32 → Option (Int32)) (hk5 : ∀ (x3 : Int32) (x4 : Int32), k5 x3 x4 = some r → G X (QI X r [bdW (gcA X) a B]) [bdW (gcA X) a B] [some (.ref (a 0)), some (.int p0), some (.int p1), some (.int x3), some (.int x4)] [] 5) (x3 : Int32) (x4 : Int32) (h : f_X0_votesFor_5b N B p0 p1  k5 x3 x4 = some r) : G X (QI X r [bdW (gcA X) a B]) [bdW (gcA X) a B] [some (.ref (a 0)), some (.int p0), some (.int p1), some (.int x3), some (.int x4)] [] 5 := by
  unfold f_X0_votesFor_5b at h
  refine g_iload (pc' := 7) C dX0_votesFor_5 rfl rfl ?_
  refine g_bipush (pc' := 9) (v := 6) C dX0_votesFor_7 (by decide) rfl ?_
  refine g_icmp_ge (pc' := 12) (tgt := 32) C dX0_votesFor_9 (by decide) rfl h (fun c h => ?_) (fun c h => ?_)
  · refine g_iload_n (pc' := 33) C dX0_votesFor_32 rfl rfl ?_
    obtain rfl := Option.some.inj h
    exact g_iret C dX0_votesFor_33
  · refine g_aload_n (pc' := 13) C dX0_votesFor_12 rfl rfl ?_
    refine g_iload (pc' := 15) C dX0_votesFor_13 rfl rfl ?_
    refine g_iload_n (pc' := 16) C dX0_votesFor_15 rfl rfl ?_
    refine k_X0_voteOf (pc' := 19) C a N B x4 p0 [0] rfl (by decide) gX0_votesFor_X0_voteOf ⟨Nat.le_of_ble_eq_true rfl, Nat.le_of_ble_eq_true rfl⟩ (Nat.le_of_ble_eq_true rfl) rfl dX0_votesFor_16 rfl h (fun r1 h => ?_)
    refine g_iload_n (pc' := 20) C dX0_votesFor_19 rfl rfl ?_
    refine g_icmp_ne (pc' := 23) (tgt := 26) C dX0_votesFor_20 (by decide) rfl h (fun c h => ?_) (fun c h => ?_)
    · refine g_iinc (pc' := 26) (v := (x3 + 1)) C dX0_votesFor_23 rfl rfl rfl (L' := [some (.ref (a 0)), some (.int p0), some (.int p1), some (.int (x3 + 1)), some (.int x4)]) rfl ?_
      exact G_loc (lle_s (lle_s (lle_s (lle_s (lle_s lle_0))))) (B_X0_votesFor_26 C a N B p0 p1 r k5 hk5 (x3 + 1) x4 h)
    · exact G_loc (lle_s (lle_s (lle_s (lle_s (lle_s lle_0))))) (B_X0_votesFor_26 C a N B p0 p1 r k5 hk5 x3 x4 h)
set_option maxRecDepth 100000 in
set_option maxHeartbeats 4000000 in
theorem L_X0_votesFor_5 {X : gX} (C : cx X RX0 cX0_votesFor 5 (some .int) wsX0_votesFor 1 22) (a : Nat → Nat) (N : Nat) (B : tS) (p0 : Int32) (p1 : Int32) (r : Int32)  : ∀ (n : Nat) (x3 : Int32) (x4 : Int32), f_X0_votesFor_5 N B p0 p1  n x3 x4 = some r → G X (QI X r [bdW (gcA X) a B]) [bdW (gcA X) a B] [some (.ref (a 0)), some (.int p0), some (.int p1), some (.int x3), some (.int x4)] [] 5 := by
  intro n
  induction n with
  | zero => intro x3 x4 h; have h : (none : Option (Int32)) = some r := h; cases h
  | succ n ih => intro x3 x4 h; exact B_X0_votesFor_5b C a N B p0 p1 r  (f_X0_votesFor_5 N B p0 p1  n) ih x3 x4 h
def f_X0_votesFor (N : Nat) (B : tS) (p0 : Int32) (p1 : Int32) : Option (Int32) := f_X0_votesFor_5 N B p0 p1 N (0 : Int32) (0 : Int32)
set_option maxRecDepth 100000 in
set_option maxHeartbeats 4000000 in
theorem B_X0_votesFor {X : gX} (C : cx X RX0 cX0_votesFor 5 (some .int) wsX0_votesFor 1 22) (a : Nat → Nat) (N : Nat) (B : tS) (p0 : Int32) (p1 : Int32) (r : Int32) (h : f_X0_votesFor N B p0 p1 = some r) : G X (QI X r [bdW (gcA X) a B]) [bdW (gcA X) a B] [some (.ref (a 0)), some (.int p0), some (.int p1), none, none] [] 0 := by
  unfold f_X0_votesFor at h
  refine g_iconst (pc' := 1) (v := 0) C dX0_votesFor_0 (by decide) rfl ?_
  refine g_istore_n (pc' := 2) C dX0_votesFor_1 (Nat.le_of_ble_eq_true rfl) rfl (L' := [some (.ref (a 0)), some (.int p0), some (.int p1), some (.int (0 : Int32)), none]) rfl ?_
  refine g_iconst (pc' := 3) (v := 0) C dX0_votesFor_2 (by decide) rfl ?_
  refine g_istore (pc' := 5) C dX0_votesFor_3 (Nat.le_of_ble_eq_true rfl) rfl (L' := [some (.ref (a 0)), some (.int p0), some (.int p1), some (.int (0 : Int32)), some (.int (0 : Int32))]) rfl ?_
  exact G_loc (lle_s (lle_s (lle_s (lle_s (lle_s lle_0))))) (L_X0_votesFor_5 C a N B p0 p1 r N (0 : Int32) (0 : Int32) h)
set_option maxRecDepth 100000 in
set_option maxHeartbeats 4000000 in
theorem c_X0_votesFor (l : Launch) (D : va_G) (cA : Nat → ClassId) (a : Nat → Nat) (N : Nat) (B : tS) (p0 : Int32) (p1 : Int32) (r : Int32) (h : f_X0_votesFor N B p0 p1 = some r) : MI l D cA yX0_votesFor wsX0_votesFor 1 22 [.ref (a 0), .int p0, .int p1] [bdW cA a B] r [bdW cA a B] := MI_of (cc := cX0_votesFor) (maxL := 5) (rt := some .int) (by decide +kernel) rfl (List.forall_mem_cons.mpr ⟨rfl, List.forall_mem_cons.mpr ⟨rfl, List.forall_mem_cons.mpr ⟨rfl, List.forall_mem_nil _⟩⟩⟩) (Nat.le_of_ble_eq_true rfl) (fun X e1 e2 e3 C => by subst e1; subst e2; subst e3; exact B_X0_votesFor C a N B p0 p1 r h)
set_option maxRecDepth 100000 in
set_option maxHeartbeats 4000000 in
theorem nd_X0_votesFor : nd yX0_votesFor 2 := ⟨by decide +kernel, by decide +kernel, by decide +kernel⟩
set_option maxRecDepth 100000 in
set_option maxHeartbeats 4000000 in
theorem k_X0_votesFor {X : gX} {own : String} {cc : ByteArray} {nL : Nat} {ret : Option FieldType} {Ts : List Cond} {fr lm : Nat} {Q : State → Prop} {ms : List va_W} {L : List (Option Value)} {st : List Value} {pc pc' idx : Nat} {ρ : Type} {T : Int32 → Option ρ} {res : ρ} (C : cx X own cc nL ret Ts fr lm) (a : Nat → Nat) (N : Nat) (B : tS) (p0 : Int32) (p1 : Int32) (is : List Nat) (hC : is.map (fun i => ms[i]?) = [some (bdW (gcA X) a B)]) (hn : is.Nodup) (hG : GoodIn Ts (wsV own idx RX0 yX0_votesFor wsX0_votesFor)) (hR : 1 + 1 ≤ fr ∧ 8 + (5 + 11) + 22 ≤ lm) (hst : (st.map fun v => v.category).sum ≤ 8) (hLn : L.length = nL) (d : decode cc pc = .ok (.invokevirtual idx, 3)) (hp : pc + 3 = pc') (h : bd (f_X0_votesFor N B p0 p1) T = some res) (kk : ∀ (r : Int32), T r = some res → G X Q (ms) L (.int r :: st) pc') : G X Q ms L (.int p1 :: .int p0 :: .ref (a 0) :: st) pc := by
  obtain ⟨r, h1, h⟩ := ob h
  exact G_callVI C (As := [.int p0, .int p1]) (c_X0_votesFor (gl X) (gD X) (gcA X) a N B p0 p1 r h1) hG rfl nd_X0_votesFor hR (q0 := 0) rfl rfl hC hn rfl rfl hst hLn d hp (G_ms (rpl_same (mc := [bdW (gcA X) a B]) hC) (kk r h))
theorem hi_X0_notesNear_X0 : ∀ w ∈ wsX00, w ∈ wsX0_notesNear := fun w h => List.mem_cons_of_mem _ (List.mem_append_right _ h)
theorem lk_X0_notesNear_1 : Cond.fieldLink RX0 9 "NoteThemes$Board" "notes" "I" ∈ wsX0_notesNear := List.mem_of_getElem? (i := 1) rfl
theorem lk_X0_notesNear_2 : Cond.fieldLink RX0 34 "NoteThemes$Board" "settings" "[I" ∈ wsX0_notesNear := List.mem_of_getElem? (i := 2) rfl
def f_X0_notesNear_35 (N : Nat) (B : tS) (p0 : Int32) (k4 : Int32 → Int32 → Option (Int32)) (x2 : Int32) (x3 : Int32) : Option (Int32) := k4 x2 (x3 + 1)
set_option maxRecDepth 100000 in
set_option maxHeartbeats 4000000 in
theorem B_X0_notesNear_35 {X : gX} (C : cx X RX0 cX0_notesNear 4 (some .int) wsX0_notesNear 2 43) (a : Nat → Nat) (N : Nat) (B : tS) (p0 : Int32) (r : Int32) (k4 : Int32 → Int32 → Option (Int32)) (hk4 : ∀ (x2 : Int32) (x3 : Int32), k4 x2 x3 = some r → G X (QI X r [bdW (gcA X) a B]) [bdW (gcA X) a B] [some (.ref (a 0)), some (.int p0), some (.int x2), some (.int x3)] [] 4) (x2 : Int32) (x3 : Int32) (h : f_X0_notesNear_35 N B p0 k4 x2 x3 = some r) : G X (QI X r [bdW (gcA X) a B]) [bdW (gcA X) a B] [some (.ref (a 0)), some (.int p0), some (.int x2), some (.int x3)] [] 35 := by
  unfold f_X0_notesNear_35 at h
  refine g_iinc (pc' := 38) (v := (x3 + 1)) C dX0_notesNear_35 rfl rfl rfl (L' := [some (.ref (a 0)), some (.int p0), some (.int x2), some (.int (x3 + 1))]) rfl ?_
  refine g_goto (pc' := 4) C dX0_notesNear_38 (by decide) ?_
  exact G_loc (lle_s (lle_s (lle_s (lle_s lle_0)))) (hk4 x2 (x3 + 1) h)
def f_X0_notesNear_4b (N : Nat) (B : tS) (p0 : Int32)  (k4 : Int32 → Int32 → Option (Int32)) (x2 : Int32) (x3 : Int32) : Option (Int32) := (if (B 0 0) ≤ x3 then some x2 else (if x3 = p0 then f_X0_notesNear_35 N B p0 k4 x2 x3 else (bd (f_X0_distance N B p0 x3) (fun r1 => (if (B 7 (0 : Int32).toNatClampNeg) < r1 then f_X0_notesNear_35 N B p0 k4 x2 x3 else f_X0_notesNear_35 N B p0 k4 (x2 + 1) x3)))))
def f_X0_notesNear_4 (N : Nat) (B : tS) (p0 : Int32)  : Nat → Int32 → Int32 → Option (Int32)
  | 0 => fun _ _ => none
  | n + 1 => f_X0_notesNear_4b N B p0  (f_X0_notesNear_4 N B p0  n)
set_option maxRecDepth 100000 in
set_option maxHeartbeats 4000000 in
theorem B_X0_notesNear_4b {X : gX} (C : cx X RX0 cX0_notesNear 4 (some .int) wsX0_notesNear 2 43) (a : Nat → Nat) (N : Nat) (B : tS) (p0 : Int32) (r : Int32)  (k4 : Int32 → Int32 → Option (Int32)) (hk4 : ∀ (x2 : Int32) (x3 : Int32), k4 x2 x3 = some r → G X (QI X r [bdW (gcA X) a B]) [bdW (gcA X) a B] [some (.ref (a 0)), some (.int p0), some (.int x2), some (.int x3)] [] 4) (x2 : Int32) (x3 : Int32) (h : f_X0_notesNear_4b N B p0  k4 x2 x3 = some r) : G X (QI X r [bdW (gcA X) a B]) [bdW (gcA X) a B] [some (.ref (a 0)), some (.int p0), some (.int x2), some (.int x3)] [] 4 := by
  unfold f_X0_notesNear_4b at h
  refine g_iload_n (pc' := 5) C dX0_notesNear_4 rfl rfl ?_
  refine g_aload_n (pc' := 6) C dX0_notesNear_5 rfl rfl ?_
  refine gg_X0_0 (pc' := 9) (i := 0) C rfl hi_X0_notesNear_X0 lk_X0_notesNear_1 dX0_notesNear_6 rfl ?_
  refine g_icmp_ge (pc' := 12) (tgt := 41) C dX0_notesNear_9 (by decide) rfl h (fun c h => ?_) (fun c h => ?_)
  · refine g_iload_n (pc' := 42) C dX0_notesNear_41 rfl rfl ?_
    obtain rfl := Option.some.inj h
    exact g_iret C dX0_notesNear_42
  · refine g_iload_n (pc' := 13) C dX0_notesNear_12 rfl rfl ?_
    refine g_iload_n (pc' := 14) C dX0_notesNear_13 rfl rfl ?_
    refine g_icmp_eq (pc' := 17) (tgt := 35) C dX0_notesNear_14 (by decide) rfl h (fun c h => ?_) (fun c h => ?_)
    · exact G_loc (lle_s (lle_s (lle_s (lle_s lle_0)))) (B_X0_notesNear_35 C a N B p0 r k4 hk4 x2 x3 h)
    · refine g_aload_n (pc' := 18) C dX0_notesNear_17 rfl rfl ?_
      refine g_iload_n (pc' := 19) C dX0_notesNear_18 rfl rfl ?_
      refine g_iload_n (pc' := 20) C dX0_notesNear_19 rfl rfl ?_
      refine k_X0_distance (pc' := 23) C a N B p0 x3 [0] rfl (by decide) gX0_notesNear_X0_distance ⟨Nat.le_of_ble_eq_true rfl, Nat.le_of_ble_eq_true rfl⟩ (Nat.le_of_ble_eq_true rfl) rfl dX0_notesNear_20 rfl h (fun r1 h => ?_)
      refine g_aload_n (pc' := 24) C dX0_notesNear_23 rfl rfl ?_
      refine gg_X0_7 (pc' := 27) (i := 0) C rfl hi_X0_notesNear_X0 lk_X0_notesNear_2 dX0_notesNear_24 rfl ?_
      refine g_iconst (pc' := 28) (v := 0) C dX0_notesNear_27 (by decide) rfl ?_
      refine g_iald0 (pc' := 29) (i := 0) (j := 6) C rfl rfl dX0_notesNear_28 rfl (by unfold vp_in; decide) ?_
      refine g_icmp_gt (pc' := 32) (tgt := 35) C dX0_notesNear_29 (by decide) rfl h (fun c h => ?_) (fun c h => ?_)
      · exact G_loc (lle_s (lle_s (lle_s (lle_s lle_0)))) (B_X0_notesNear_35 C a N B p0 r k4 hk4 x2 x3 h)
      · refine g_iinc (pc' := 35) (v := (x2 + 1)) C dX0_notesNear_32 rfl rfl rfl (L' := [some (.ref (a 0)), some (.int p0), some (.int (x2 + 1)), some (.int x3)]) rfl ?_
        exact G_loc (lle_s (lle_s (lle_s (lle_s lle_0)))) (B_X0_notesNear_35 C a N B p0 r k4 hk4 (x2 + 1) x3 h)
set_option maxRecDepth 100000 in
set_option maxHeartbeats 4000000 in
theorem L_X0_notesNear_4 {X : gX} (C : cx X RX0 cX0_notesNear 4 (some .int) wsX0_notesNear 2 43) (a : Nat → Nat) (N : Nat) (B : tS) (p0 : Int32) (r : Int32)  : ∀ (n : Nat) (x2 : Int32) (x3 : Int32), f_X0_notesNear_4 N B p0  n x2 x3 = some r → G X (QI X r [bdW (gcA X) a B]) [bdW (gcA X) a B] [some (.ref (a 0)), some (.int p0), some (.int x2), some (.int x3)] [] 4 := by
  intro n
  induction n with
  | zero => intro x2 x3 h; have h : (none : Option (Int32)) = some r := h; cases h
  | succ n ih => intro x2 x3 h; exact B_X0_notesNear_4b C a N B p0 r  (f_X0_notesNear_4 N B p0  n) ih x2 x3 h
def f_X0_notesNear (N : Nat) (B : tS) (p0 : Int32) : Option (Int32) := f_X0_notesNear_4 N B p0 N (0 : Int32) (0 : Int32)
set_option maxRecDepth 100000 in
set_option maxHeartbeats 4000000 in
theorem B_X0_notesNear {X : gX} (C : cx X RX0 cX0_notesNear 4 (some .int) wsX0_notesNear 2 43) (a : Nat → Nat) (N : Nat) (B : tS) (p0 : Int32) (r : Int32) (h : f_X0_notesNear N B p0 = some r) : G X (QI X r [bdW (gcA X) a B]) [bdW (gcA X) a B] [some (.ref (a 0)), some (.int p0), none, none] [] 0 := by
  unfold f_X0_notesNear at h
  refine g_iconst (pc' := 1) (v := 0) C dX0_notesNear_0 (by decide) rfl ?_
  refine g_istore_n (pc' := 2) C dX0_notesNear_1 (Nat.le_of_ble_eq_true rfl) rfl (L' := [some (.ref (a 0)), some (.int p0), some (.int (0 : Int32)), none]) rfl ?_
  refine g_iconst (pc' := 3) (v := 0) C dX0_notesNear_2 (by decide) rfl ?_
  refine g_istore_n (pc' := 4) C dX0_notesNear_3 (Nat.le_of_ble_eq_true rfl) rfl (L' := [some (.ref (a 0)), some (.int p0), some (.int (0 : Int32)), some (.int (0 : Int32))]) rfl ?_
  exact G_loc (lle_s (lle_s (lle_s (lle_s lle_0)))) (L_X0_notesNear_4 C a N B p0 r N (0 : Int32) (0 : Int32) h)
set_option maxRecDepth 100000 in
set_option maxHeartbeats 4000000 in
theorem c_X0_notesNear (l : Launch) (D : va_G) (cA : Nat → ClassId) (a : Nat → Nat) (N : Nat) (B : tS) (p0 : Int32) (r : Int32) (h : f_X0_notesNear N B p0 = some r) : MI l D cA yX0_notesNear wsX0_notesNear 2 43 [.ref (a 0), .int p0] [bdW cA a B] r [bdW cA a B] := MI_of (cc := cX0_notesNear) (maxL := 4) (rt := some .int) (by decide +kernel) rfl (List.forall_mem_cons.mpr ⟨rfl, List.forall_mem_cons.mpr ⟨rfl, List.forall_mem_nil _⟩⟩) (Nat.le_of_ble_eq_true rfl) (fun X e1 e2 e3 C => by subst e1; subst e2; subst e3; exact B_X0_notesNear C a N B p0 r h)
set_option maxRecDepth 100000 in
set_option maxHeartbeats 4000000 in
theorem nd_X0_notesNear : nd yX0_notesNear 1 := ⟨by decide +kernel, by decide +kernel, by decide +kernel⟩
set_option maxRecDepth 100000 in
set_option maxHeartbeats 4000000 in
theorem k_X0_notesNear {X : gX} {own : String} {cc : ByteArray} {nL : Nat} {ret : Option FieldType} {Ts : List Cond} {fr lm : Nat} {Q : State → Prop} {ms : List va_W} {L : List (Option Value)} {st : List Value} {pc pc' idx : Nat} {ρ : Type} {T : Int32 → Option ρ} {res : ρ} (C : cx X own cc nL ret Ts fr lm) (a : Nat → Nat) (N : Nat) (B : tS) (p0 : Int32) (is : List Nat) (hC : is.map (fun i => ms[i]?) = [some (bdW (gcA X) a B)]) (hn : is.Nodup) (hG : GoodIn Ts (wsV own idx RX0 yX0_notesNear wsX0_notesNear)) (hR : 2 + 1 ≤ fr ∧ 8 + (4 + 11) + 43 ≤ lm) (hst : (st.map fun v => v.category).sum ≤ 8) (hLn : L.length = nL) (d : decode cc pc = .ok (.invokevirtual idx, 3)) (hp : pc + 3 = pc') (h : bd (f_X0_notesNear N B p0) T = some res) (kk : ∀ (r : Int32), T r = some res → G X Q (ms) L (.int r :: st) pc') : G X Q ms L (.int p0 :: .ref (a 0) :: st) pc := by
  obtain ⟨r, h1, h⟩ := ob h
  exact G_callVI C (As := [.int p0]) (c_X0_notesNear (gl X) (gD X) (gcA X) a N B p0 r h1) hG rfl nd_X0_notesNear hR (q0 := 0) rfl rfl hC hn rfl rfl hst hLn d hp (G_ms (rpl_same (mc := [bdW (gcA X) a B]) hC) (kk r h))
theorem hi_X0_dotsOfTheme_X0 : ∀ w ∈ wsX00, w ∈ wsX0_dotsOfTheme := fun w h => List.mem_cons_of_mem _ (List.mem_append_right _ h)
theorem lk_X0_dotsOfTheme_1 : Cond.fieldLink RX0 9 "NoteThemes$Board" "notes" "I" ∈ wsX0_dotsOfTheme := List.mem_of_getElem? (i := 1) rfl
theorem lk_X0_dotsOfTheme_2 : Cond.fieldLink RX0 22 "NoteThemes$Board" "themeOf" "[I" ∈ wsX0_dotsOfTheme := List.mem_of_getElem? (i := 2) rfl
def f_X0_dotsOfTheme_30 (N : Nat) (B : tS) (p0 : Int32) (k4 : Int32 → Int32 → Option (Int32)) (x2 : Int32) (x3 : Int32) : Option (Int32) := k4 x2 (x3 + 1)
set_option maxRecDepth 100000 in
set_option maxHeartbeats 4000000 in
theorem B_X0_dotsOfTheme_30 {X : gX} (C : cx X RX0 cX0_dotsOfTheme 4 (some .int) wsX0_dotsOfTheme 2 45) (a : Nat → Nat) (N : Nat) (B : tS) (p0 : Int32) (r : Int32) (k4 : Int32 → Int32 → Option (Int32)) (hk4 : ∀ (x2 : Int32) (x3 : Int32), k4 x2 x3 = some r → G X (QI X r [bdW (gcA X) a B]) [bdW (gcA X) a B] [some (.ref (a 0)), some (.int p0), some (.int x2), some (.int x3)] [] 4) (x2 : Int32) (x3 : Int32) (h : f_X0_dotsOfTheme_30 N B p0 k4 x2 x3 = some r) : G X (QI X r [bdW (gcA X) a B]) [bdW (gcA X) a B] [some (.ref (a 0)), some (.int p0), some (.int x2), some (.int x3)] [] 30 := by
  unfold f_X0_dotsOfTheme_30 at h
  refine g_iinc (pc' := 33) (v := (x3 + 1)) C dX0_dotsOfTheme_30 rfl rfl rfl (L' := [some (.ref (a 0)), some (.int p0), some (.int x2), some (.int (x3 + 1))]) rfl ?_
  refine g_goto (pc' := 4) C dX0_dotsOfTheme_33 (by decide) ?_
  exact G_loc (lle_s (lle_s (lle_s (lle_s lle_0)))) (hk4 x2 (x3 + 1) h)
def f_X0_dotsOfTheme_4b (N : Nat) (B : tS) (p0 : Int32)  (k4 : Int32 → Int32 → Option (Int32)) (x2 : Int32) (x3 : Int32) : Option (Int32) := (if (B 0 0) ≤ x3 then some x2 else (if x3 < 0 ∨ 20 ≤ x3.toNatClampNeg then none else (if (B 3 x3.toNatClampNeg) = p0 then (bd (f_X0_dotsOn N B x3) (fun r1 => f_X0_dotsOfTheme_30 N B p0 k4 (x2 + r1) x3)) else f_X0_dotsOfTheme_30 N B p0 k4 x2 x3)))
def f_X0_dotsOfTheme_4 (N : Nat) (B : tS) (p0 : Int32)  : Nat → Int32 → Int32 → Option (Int32)
  | 0 => fun _ _ => none
  | n + 1 => f_X0_dotsOfTheme_4b N B p0  (f_X0_dotsOfTheme_4 N B p0  n)
set_option maxRecDepth 100000 in
set_option maxHeartbeats 4000000 in
theorem B_X0_dotsOfTheme_4b {X : gX} (C : cx X RX0 cX0_dotsOfTheme 4 (some .int) wsX0_dotsOfTheme 2 45) (a : Nat → Nat) (N : Nat) (B : tS) (p0 : Int32) (r : Int32)  (k4 : Int32 → Int32 → Option (Int32)) (hk4 : ∀ (x2 : Int32) (x3 : Int32), k4 x2 x3 = some r → G X (QI X r [bdW (gcA X) a B]) [bdW (gcA X) a B] [some (.ref (a 0)), some (.int p0), some (.int x2), some (.int x3)] [] 4) (x2 : Int32) (x3 : Int32) (h : f_X0_dotsOfTheme_4b N B p0  k4 x2 x3 = some r) : G X (QI X r [bdW (gcA X) a B]) [bdW (gcA X) a B] [some (.ref (a 0)), some (.int p0), some (.int x2), some (.int x3)] [] 4 := by
  unfold f_X0_dotsOfTheme_4b at h
  refine g_iload_n (pc' := 5) C dX0_dotsOfTheme_4 rfl rfl ?_
  refine g_aload_n (pc' := 6) C dX0_dotsOfTheme_5 rfl rfl ?_
  refine gg_X0_0 (pc' := 9) (i := 0) C rfl hi_X0_dotsOfTheme_X0 lk_X0_dotsOfTheme_1 dX0_dotsOfTheme_6 rfl ?_
  refine g_icmp_ge (pc' := 12) (tgt := 36) C dX0_dotsOfTheme_9 (by decide) rfl h (fun c h => ?_) (fun c h => ?_)
  · refine g_iload_n (pc' := 37) C dX0_dotsOfTheme_36 rfl rfl ?_
    obtain rfl := Option.some.inj h
    exact g_iret C dX0_dotsOfTheme_37
  · refine g_aload_n (pc' := 13) C dX0_dotsOfTheme_12 rfl rfl ?_
    refine gg_X0_3 (pc' := 16) (i := 0) C rfl hi_X0_dotsOfTheme_X0 lk_X0_dotsOfTheme_2 dX0_dotsOfTheme_13 rfl ?_
    refine g_iload_n (pc' := 17) C dX0_dotsOfTheme_16 rfl rfl ?_
    refine g_iald (pc' := 18) (i := 0) (j := 3) C rfl rfl dX0_dotsOfTheme_17 rfl h (fun h => ?_)
    refine g_iload_n (pc' := 19) C dX0_dotsOfTheme_18 rfl rfl ?_
    refine g_icmp_ne (pc' := 22) (tgt := 30) C dX0_dotsOfTheme_19 (by decide) rfl h (fun c h => ?_) (fun c h => ?_)
    · refine g_iload_n (pc' := 23) C dX0_dotsOfTheme_22 rfl rfl ?_
      refine g_aload_n (pc' := 24) C dX0_dotsOfTheme_23 rfl rfl ?_
      refine g_iload_n (pc' := 25) C dX0_dotsOfTheme_24 rfl rfl ?_
      refine k_X0_dotsOn (pc' := 28) C a N B x3 [0] rfl (by decide) gX0_dotsOfTheme_X0_dotsOn ⟨Nat.le_of_ble_eq_true rfl, Nat.le_of_ble_eq_true rfl⟩ (Nat.le_of_ble_eq_true rfl) rfl dX0_dotsOfTheme_25 rfl h (fun r1 h => ?_)
      refine g_iadd (pc' := 29) C dX0_dotsOfTheme_28 rfl ?_
      refine g_istore_n (pc' := 30) C dX0_dotsOfTheme_29 (Nat.le_of_ble_eq_true rfl) rfl (L' := [some (.ref (a 0)), some (.int p0), some (.int (x2 + r1)), some (.int x3)]) rfl ?_
      exact G_loc (lle_s (lle_s (lle_s (lle_s lle_0)))) (B_X0_dotsOfTheme_30 C a N B p0 r k4 hk4 (x2 + r1) x3 h)
    · exact G_loc (lle_s (lle_s (lle_s (lle_s lle_0)))) (B_X0_dotsOfTheme_30 C a N B p0 r k4 hk4 x2 x3 h)
set_option maxRecDepth 100000 in
set_option maxHeartbeats 4000000 in
theorem L_X0_dotsOfTheme_4 {X : gX} (C : cx X RX0 cX0_dotsOfTheme 4 (some .int) wsX0_dotsOfTheme 2 45) (a : Nat → Nat) (N : Nat) (B : tS) (p0 : Int32) (r : Int32)  : ∀ (n : Nat) (x2 : Int32) (x3 : Int32), f_X0_dotsOfTheme_4 N B p0  n x2 x3 = some r → G X (QI X r [bdW (gcA X) a B]) [bdW (gcA X) a B] [some (.ref (a 0)), some (.int p0), some (.int x2), some (.int x3)] [] 4 := by
  intro n
  induction n with
  | zero => intro x2 x3 h; have h : (none : Option (Int32)) = some r := h; cases h
  | succ n ih => intro x2 x3 h; exact B_X0_dotsOfTheme_4b C a N B p0 r  (f_X0_dotsOfTheme_4 N B p0  n) ih x2 x3 h
def f_X0_dotsOfTheme (N : Nat) (B : tS) (p0 : Int32) : Option (Int32) := f_X0_dotsOfTheme_4 N B p0 N (0 : Int32) (0 : Int32)
set_option maxRecDepth 100000 in
set_option maxHeartbeats 4000000 in
theorem B_X0_dotsOfTheme {X : gX} (C : cx X RX0 cX0_dotsOfTheme 4 (some .int) wsX0_dotsOfTheme 2 45) (a : Nat → Nat) (N : Nat) (B : tS) (p0 : Int32) (r : Int32) (h : f_X0_dotsOfTheme N B p0 = some r) : G X (QI X r [bdW (gcA X) a B]) [bdW (gcA X) a B] [some (.ref (a 0)), some (.int p0), none, none] [] 0 := by
  unfold f_X0_dotsOfTheme at h
  refine g_iconst (pc' := 1) (v := 0) C dX0_dotsOfTheme_0 (by decide) rfl ?_
  refine g_istore_n (pc' := 2) C dX0_dotsOfTheme_1 (Nat.le_of_ble_eq_true rfl) rfl (L' := [some (.ref (a 0)), some (.int p0), some (.int (0 : Int32)), none]) rfl ?_
  refine g_iconst (pc' := 3) (v := 0) C dX0_dotsOfTheme_2 (by decide) rfl ?_
  refine g_istore_n (pc' := 4) C dX0_dotsOfTheme_3 (Nat.le_of_ble_eq_true rfl) rfl (L' := [some (.ref (a 0)), some (.int p0), some (.int (0 : Int32)), some (.int (0 : Int32))]) rfl ?_
  exact G_loc (lle_s (lle_s (lle_s (lle_s lle_0)))) (L_X0_dotsOfTheme_4 C a N B p0 r N (0 : Int32) (0 : Int32) h)
set_option maxRecDepth 100000 in
set_option maxHeartbeats 4000000 in
theorem c_X0_dotsOfTheme (l : Launch) (D : va_G) (cA : Nat → ClassId) (a : Nat → Nat) (N : Nat) (B : tS) (p0 : Int32) (r : Int32) (h : f_X0_dotsOfTheme N B p0 = some r) : MI l D cA yX0_dotsOfTheme wsX0_dotsOfTheme 2 45 [.ref (a 0), .int p0] [bdW cA a B] r [bdW cA a B] := MI_of (cc := cX0_dotsOfTheme) (maxL := 4) (rt := some .int) (by decide +kernel) rfl (List.forall_mem_cons.mpr ⟨rfl, List.forall_mem_cons.mpr ⟨rfl, List.forall_mem_nil _⟩⟩) (Nat.le_of_ble_eq_true rfl) (fun X e1 e2 e3 C => by subst e1; subst e2; subst e3; exact B_X0_dotsOfTheme C a N B p0 r h)
set_option maxRecDepth 100000 in
set_option maxHeartbeats 4000000 in
theorem nd_X0_dotsOfTheme : nd yX0_dotsOfTheme 1 := ⟨by decide +kernel, by decide +kernel, by decide +kernel⟩
set_option maxRecDepth 100000 in
set_option maxHeartbeats 4000000 in
theorem k_X0_dotsOfTheme {X : gX} {own : String} {cc : ByteArray} {nL : Nat} {ret : Option FieldType} {Ts : List Cond} {fr lm : Nat} {Q : State → Prop} {ms : List va_W} {L : List (Option Value)} {st : List Value} {pc pc' idx : Nat} {ρ : Type} {T : Int32 → Option ρ} {res : ρ} (C : cx X own cc nL ret Ts fr lm) (a : Nat → Nat) (N : Nat) (B : tS) (p0 : Int32) (is : List Nat) (hC : is.map (fun i => ms[i]?) = [some (bdW (gcA X) a B)]) (hn : is.Nodup) (hG : GoodIn Ts (wsV own idx RX0 yX0_dotsOfTheme wsX0_dotsOfTheme)) (hR : 2 + 1 ≤ fr ∧ 8 + (4 + 11) + 45 ≤ lm) (hst : (st.map fun v => v.category).sum ≤ 8) (hLn : L.length = nL) (d : decode cc pc = .ok (.invokevirtual idx, 3)) (hp : pc + 3 = pc') (h : bd (f_X0_dotsOfTheme N B p0) T = some res) (kk : ∀ (r : Int32), T r = some res → G X Q (ms) L (.int r :: st) pc') : G X Q ms L (.int p0 :: .ref (a 0) :: st) pc := by
  obtain ⟨r, h1, h⟩ := ob h
  exact G_callVI C (As := [.int p0]) (c_X0_dotsOfTheme (gl X) (gD X) (gcA X) a N B p0 r h1) hG rfl nd_X0_dotsOfTheme hR (q0 := 0) rfl rfl hC hn rfl rfl hst hLn d hp (G_ms (rpl_same (mc := [bdW (gcA X) a B]) hC) (kk r h))
def f_X0_votersOf (N : Nat) (B : tS) (p0 : Int32) : Option (Int32) := (bd (f_X0_votesFor N B p0 (-5 : Int32)) (fun r1 => some ((6 : Int32) - r1)))
set_option maxRecDepth 100000 in
set_option maxHeartbeats 4000000 in
theorem B_X0_votersOf {X : gX} (C : cx X RX0 cX0_votersOf 2 (some .int) wsX0_votersOf 2 46) (a : Nat → Nat) (N : Nat) (B : tS) (p0 : Int32) (r : Int32) (h : f_X0_votersOf N B p0 = some r) : G X (QI X r [bdW (gcA X) a B]) [bdW (gcA X) a B] [some (.ref (a 0)), some (.int p0)] [] 0 := by
  unfold f_X0_votersOf at h
  refine g_bipush (pc' := 2) (v := 6) C dX0_votersOf_0 (by decide) rfl ?_
  refine g_aload_n (pc' := 3) C dX0_votersOf_2 rfl rfl ?_
  refine g_iload_n (pc' := 4) C dX0_votersOf_3 rfl rfl ?_
  refine g_bipush (pc' := 6) (v := -5) C dX0_votersOf_4 (by decide) rfl ?_
  refine k_X0_votesFor (pc' := 9) C a N B p0 (-5 : Int32) [0] rfl (by decide) gX0_votersOf_X0_votesFor ⟨Nat.le_of_ble_eq_true rfl, Nat.le_of_ble_eq_true rfl⟩ (Nat.le_of_ble_eq_true rfl) rfl dX0_votersOf_6 rfl h (fun r1 h => ?_)
  refine g_isub (pc' := 10) C dX0_votersOf_9 rfl ?_
  obtain rfl := Option.some.inj h
  exact g_iret C dX0_votersOf_10
set_option maxRecDepth 100000 in
set_option maxHeartbeats 4000000 in
theorem c_X0_votersOf (l : Launch) (D : va_G) (cA : Nat → ClassId) (a : Nat → Nat) (N : Nat) (B : tS) (p0 : Int32) (r : Int32) (h : f_X0_votersOf N B p0 = some r) : MI l D cA yX0_votersOf wsX0_votersOf 2 46 [.ref (a 0), .int p0] [bdW cA a B] r [bdW cA a B] := MI_of (cc := cX0_votersOf) (maxL := 2) (rt := some .int) (by decide +kernel) rfl (List.forall_mem_cons.mpr ⟨rfl, List.forall_mem_cons.mpr ⟨rfl, List.forall_mem_nil _⟩⟩) (Nat.le_of_ble_eq_true rfl) (fun X e1 e2 e3 C => by subst e1; subst e2; subst e3; exact B_X0_votersOf C a N B p0 r h)
set_option maxRecDepth 100000 in
set_option maxHeartbeats 4000000 in
theorem nd_X0_votersOf : nd yX0_votersOf 1 := ⟨by decide +kernel, by decide +kernel, by decide +kernel⟩
set_option maxRecDepth 100000 in
set_option maxHeartbeats 4000000 in
theorem k_X0_votersOf {X : gX} {own : String} {cc : ByteArray} {nL : Nat} {ret : Option FieldType} {Ts : List Cond} {fr lm : Nat} {Q : State → Prop} {ms : List va_W} {L : List (Option Value)} {st : List Value} {pc pc' idx : Nat} {ρ : Type} {T : Int32 → Option ρ} {res : ρ} (C : cx X own cc nL ret Ts fr lm) (a : Nat → Nat) (N : Nat) (B : tS) (p0 : Int32) (is : List Nat) (hC : is.map (fun i => ms[i]?) = [some (bdW (gcA X) a B)]) (hn : is.Nodup) (hG : GoodIn Ts (wsV own idx RX0 yX0_votersOf wsX0_votersOf)) (hR : 2 + 1 ≤ fr ∧ 8 + (2 + 11) + 46 ≤ lm) (hst : (st.map fun v => v.category).sum ≤ 8) (hLn : L.length = nL) (d : decode cc pc = .ok (.invokevirtual idx, 3)) (hp : pc + 3 = pc') (h : bd (f_X0_votersOf N B p0) T = some res) (kk : ∀ (r : Int32), T r = some res → G X Q (ms) L (.int r :: st) pc') : G X Q ms L (.int p0 :: .ref (a 0) :: st) pc := by
  obtain ⟨r, h1, h⟩ := ob h
  exact G_callVI C (As := [.int p0]) (c_X0_votersOf (gl X) (gD X) (gcA X) a N B p0 r h1) hG rfl nd_X0_votersOf hR (q0 := 0) rfl rfl hC hn rfl rfl hst hLn d hp (G_ms (rpl_same (mc := [bdW (gcA X) a B]) hC) (kk r h))
theorem hi_X0_allDotsStuck_X0 : ∀ w ∈ wsX00, w ∈ wsX0_allDotsStuck := fun w h => List.mem_cons_of_mem _ (List.mem_append_right _ h)
theorem lk_X0_allDotsStuck_1 : Cond.fieldLink RX0 9 "NoteThemes$Board" "notes" "I" ∈ wsX0_allDotsStuck := List.mem_of_getElem? (i := 1) rfl
def f_X0_allDotsStuck_4b (N : Nat) (B : tS)  (k4 : Int32 → Int32 → Option (Int32)) (x1 : Int32) (x2 : Int32) : Option (Int32) := (if (B 0 0) ≤ x2 then some x1 else (bd (f_X0_dotsOn N B x2) (fun r1 => k4 (x1 + r1) (x2 + 1))))
def f_X0_allDotsStuck_4 (N : Nat) (B : tS)  : Nat → Int32 → Int32 → Option (Int32)
  | 0 => fun _ _ => none
  | n + 1 => f_X0_allDotsStuck_4b N B  (f_X0_allDotsStuck_4 N B  n)
set_option maxRecDepth 100000 in
set_option maxHeartbeats 4000000 in
theorem B_X0_allDotsStuck_4b {X : gX} (C : cx X RX0 cX0_allDotsStuck 3 (some .int) wsX0_allDotsStuck 2 45) (a : Nat → Nat) (N : Nat) (B : tS) (r : Int32)  (k4 : Int32 → Int32 → Option (Int32)) (hk4 : ∀ (x1 : Int32) (x2 : Int32), k4 x1 x2 = some r → G X (QI X r [bdW (gcA X) a B]) [bdW (gcA X) a B] [some (.ref (a 0)), some (.int x1), some (.int x2)] [] 4) (x1 : Int32) (x2 : Int32) (h : f_X0_allDotsStuck_4b N B  k4 x1 x2 = some r) : G X (QI X r [bdW (gcA X) a B]) [bdW (gcA X) a B] [some (.ref (a 0)), some (.int x1), some (.int x2)] [] 4 := by
  unfold f_X0_allDotsStuck_4b at h
  refine g_iload_n (pc' := 5) C dX0_allDotsStuck_4 rfl rfl ?_
  refine g_aload_n (pc' := 6) C dX0_allDotsStuck_5 rfl rfl ?_
  refine gg_X0_0 (pc' := 9) (i := 0) C rfl hi_X0_allDotsStuck_X0 lk_X0_allDotsStuck_1 dX0_allDotsStuck_6 rfl ?_
  refine g_icmp_ge (pc' := 12) (tgt := 26) C dX0_allDotsStuck_9 (by decide) rfl h (fun c h => ?_) (fun c h => ?_)
  · refine g_iload_n (pc' := 27) C dX0_allDotsStuck_26 rfl rfl ?_
    obtain rfl := Option.some.inj h
    exact g_iret C dX0_allDotsStuck_27
  · refine g_iload_n (pc' := 13) C dX0_allDotsStuck_12 rfl rfl ?_
    refine g_aload_n (pc' := 14) C dX0_allDotsStuck_13 rfl rfl ?_
    refine g_iload_n (pc' := 15) C dX0_allDotsStuck_14 rfl rfl ?_
    refine k_X0_dotsOn (pc' := 18) C a N B x2 [0] rfl (by decide) gX0_allDotsStuck_X0_dotsOn ⟨Nat.le_of_ble_eq_true rfl, Nat.le_of_ble_eq_true rfl⟩ (Nat.le_of_ble_eq_true rfl) rfl dX0_allDotsStuck_15 rfl h (fun r1 h => ?_)
    refine g_iadd (pc' := 19) C dX0_allDotsStuck_18 rfl ?_
    refine g_istore_n (pc' := 20) C dX0_allDotsStuck_19 (Nat.le_of_ble_eq_true rfl) rfl (L' := [some (.ref (a 0)), some (.int (x1 + r1)), some (.int x2)]) rfl ?_
    refine g_iinc (pc' := 23) (v := (x2 + 1)) C dX0_allDotsStuck_20 rfl rfl rfl (L' := [some (.ref (a 0)), some (.int (x1 + r1)), some (.int (x2 + 1))]) rfl ?_
    refine g_goto (pc' := 4) C dX0_allDotsStuck_23 (by decide) ?_
    exact G_loc (lle_s (lle_s (lle_s lle_0))) (hk4 (x1 + r1) (x2 + 1) h)
set_option maxRecDepth 100000 in
set_option maxHeartbeats 4000000 in
theorem L_X0_allDotsStuck_4 {X : gX} (C : cx X RX0 cX0_allDotsStuck 3 (some .int) wsX0_allDotsStuck 2 45) (a : Nat → Nat) (N : Nat) (B : tS) (r : Int32)  : ∀ (n : Nat) (x1 : Int32) (x2 : Int32), f_X0_allDotsStuck_4 N B  n x1 x2 = some r → G X (QI X r [bdW (gcA X) a B]) [bdW (gcA X) a B] [some (.ref (a 0)), some (.int x1), some (.int x2)] [] 4 := by
  intro n
  induction n with
  | zero => intro x1 x2 h; have h : (none : Option (Int32)) = some r := h; cases h
  | succ n ih => intro x1 x2 h; exact B_X0_allDotsStuck_4b C a N B r  (f_X0_allDotsStuck_4 N B  n) ih x1 x2 h
def f_X0_allDotsStuck (N : Nat) (B : tS)  : Option (Int32) := f_X0_allDotsStuck_4 N B N (0 : Int32) (0 : Int32)
set_option maxRecDepth 100000 in
set_option maxHeartbeats 4000000 in
theorem B_X0_allDotsStuck {X : gX} (C : cx X RX0 cX0_allDotsStuck 3 (some .int) wsX0_allDotsStuck 2 45) (a : Nat → Nat) (N : Nat) (B : tS)  (r : Int32) (h : f_X0_allDotsStuck N B = some r) : G X (QI X r [bdW (gcA X) a B]) [bdW (gcA X) a B] [some (.ref (a 0)), none, none] [] 0 := by
  unfold f_X0_allDotsStuck at h
  refine g_iconst (pc' := 1) (v := 0) C dX0_allDotsStuck_0 (by decide) rfl ?_
  refine g_istore_n (pc' := 2) C dX0_allDotsStuck_1 (Nat.le_of_ble_eq_true rfl) rfl (L' := [some (.ref (a 0)), some (.int (0 : Int32)), none]) rfl ?_
  refine g_iconst (pc' := 3) (v := 0) C dX0_allDotsStuck_2 (by decide) rfl ?_
  refine g_istore_n (pc' := 4) C dX0_allDotsStuck_3 (Nat.le_of_ble_eq_true rfl) rfl (L' := [some (.ref (a 0)), some (.int (0 : Int32)), some (.int (0 : Int32))]) rfl ?_
  exact G_loc (lle_s (lle_s (lle_s lle_0))) (L_X0_allDotsStuck_4 C a N B r N (0 : Int32) (0 : Int32) h)
set_option maxRecDepth 100000 in
set_option maxHeartbeats 4000000 in
theorem c_X0_allDotsStuck (l : Launch) (D : va_G) (cA : Nat → ClassId) (a : Nat → Nat) (N : Nat) (B : tS)  (r : Int32) (h : f_X0_allDotsStuck N B = some r) : MI l D cA yX0_allDotsStuck wsX0_allDotsStuck 2 45 [.ref (a 0)] [bdW cA a B] r [bdW cA a B] := MI_of (cc := cX0_allDotsStuck) (maxL := 3) (rt := some .int) (by decide +kernel) rfl (List.forall_mem_cons.mpr ⟨rfl, List.forall_mem_nil _⟩) (Nat.le_of_ble_eq_true rfl) (fun X e1 e2 e3 C => by subst e1; subst e2; subst e3; exact B_X0_allDotsStuck C a N B r h)
set_option maxRecDepth 100000 in
set_option maxHeartbeats 4000000 in
theorem nd_X0_allDotsStuck : nd yX0_allDotsStuck 0 := ⟨by decide +kernel, by decide +kernel, by decide +kernel⟩
set_option maxRecDepth 100000 in
set_option maxHeartbeats 4000000 in
theorem k_X0_allDotsStuck {X : gX} {own : String} {cc : ByteArray} {nL : Nat} {ret : Option FieldType} {Ts : List Cond} {fr lm : Nat} {Q : State → Prop} {ms : List va_W} {L : List (Option Value)} {st : List Value} {pc pc' idx : Nat} {ρ : Type} {T : Int32 → Option ρ} {res : ρ} (C : cx X own cc nL ret Ts fr lm) (a : Nat → Nat) (N : Nat) (B : tS)  (is : List Nat) (hC : is.map (fun i => ms[i]?) = [some (bdW (gcA X) a B)]) (hn : is.Nodup) (hG : GoodIn Ts (wsV own idx RX0 yX0_allDotsStuck wsX0_allDotsStuck)) (hR : 2 + 1 ≤ fr ∧ 8 + (3 + 11) + 45 ≤ lm) (hst : (st.map fun v => v.category).sum ≤ 8) (hLn : L.length = nL) (d : decode cc pc = .ok (.invokevirtual idx, 3)) (hp : pc + 3 = pc') (h : bd (f_X0_allDotsStuck N B) T = some res) (kk : ∀ (r : Int32), T r = some res → G X Q (ms) L (.int r :: st) pc') : G X Q ms L (.ref (a 0) :: st) pc := by
  obtain ⟨r, h1, h⟩ := ob h
  exact G_callVI C (As := []) (c_X0_allDotsStuck (gl X) (gD X) (gcA X) a N B r h1) hG rfl nd_X0_allDotsStuck hR (q0 := 0) rfl rfl hC hn rfl rfl hst hLn d hp (G_ms (rpl_same (mc := [bdW (gcA X) a B]) hC) (kk r h))
def f_X0_allDotsLeft_4b (N : Nat) (B : tS)  (k4 : Int32 → Int32 → Option (Int32)) (x1 : Int32) (x2 : Int32) : Option (Int32) := (if (6 : Int32) ≤ x2 then some x1 else (bd (f_X0_dotsLeft N B x2) (fun r1 => k4 (x1 + r1) (x2 + 1))))
def f_X0_allDotsLeft_4 (N : Nat) (B : tS)  : Nat → Int32 → Int32 → Option (Int32)
  | 0 => fun _ _ => none
  | n + 1 => f_X0_allDotsLeft_4b N B  (f_X0_allDotsLeft_4 N B  n)
set_option maxRecDepth 100000 in
set_option maxHeartbeats 4000000 in
theorem B_X0_allDotsLeft_4b {X : gX} (C : cx X RX0 cX0_allDotsLeft 3 (some .int) wsX0_allDotsLeft 2 45) (a : Nat → Nat) (N : Nat) (B : tS) (r : Int32)  (k4 : Int32 → Int32 → Option (Int32)) (hk4 : ∀ (x1 : Int32) (x2 : Int32), k4 x1 x2 = some r → G X (QI X r [bdW (gcA X) a B]) [bdW (gcA X) a B] [some (.ref (a 0)), some (.int x1), some (.int x2)] [] 4) (x1 : Int32) (x2 : Int32) (h : f_X0_allDotsLeft_4b N B  k4 x1 x2 = some r) : G X (QI X r [bdW (gcA X) a B]) [bdW (gcA X) a B] [some (.ref (a 0)), some (.int x1), some (.int x2)] [] 4 := by
  unfold f_X0_allDotsLeft_4b at h
  refine g_iload_n (pc' := 5) C dX0_allDotsLeft_4 rfl rfl ?_
  refine g_bipush (pc' := 7) (v := 6) C dX0_allDotsLeft_5 (by decide) rfl ?_
  refine g_icmp_ge (pc' := 10) (tgt := 24) C dX0_allDotsLeft_7 (by decide) rfl h (fun c h => ?_) (fun c h => ?_)
  · refine g_iload_n (pc' := 25) C dX0_allDotsLeft_24 rfl rfl ?_
    obtain rfl := Option.some.inj h
    exact g_iret C dX0_allDotsLeft_25
  · refine g_iload_n (pc' := 11) C dX0_allDotsLeft_10 rfl rfl ?_
    refine g_aload_n (pc' := 12) C dX0_allDotsLeft_11 rfl rfl ?_
    refine g_iload_n (pc' := 13) C dX0_allDotsLeft_12 rfl rfl ?_
    refine k_X0_dotsLeft (pc' := 16) C a N B x2 [0] rfl (by decide) gX0_allDotsLeft_X0_dotsLeft ⟨Nat.le_of_ble_eq_true rfl, Nat.le_of_ble_eq_true rfl⟩ (Nat.le_of_ble_eq_true rfl) rfl dX0_allDotsLeft_13 rfl h (fun r1 h => ?_)
    refine g_iadd (pc' := 17) C dX0_allDotsLeft_16 rfl ?_
    refine g_istore_n (pc' := 18) C dX0_allDotsLeft_17 (Nat.le_of_ble_eq_true rfl) rfl (L' := [some (.ref (a 0)), some (.int (x1 + r1)), some (.int x2)]) rfl ?_
    refine g_iinc (pc' := 21) (v := (x2 + 1)) C dX0_allDotsLeft_18 rfl rfl rfl (L' := [some (.ref (a 0)), some (.int (x1 + r1)), some (.int (x2 + 1))]) rfl ?_
    refine g_goto (pc' := 4) C dX0_allDotsLeft_21 (by decide) ?_
    exact G_loc (lle_s (lle_s (lle_s lle_0))) (hk4 (x1 + r1) (x2 + 1) h)
set_option maxRecDepth 100000 in
set_option maxHeartbeats 4000000 in
theorem L_X0_allDotsLeft_4 {X : gX} (C : cx X RX0 cX0_allDotsLeft 3 (some .int) wsX0_allDotsLeft 2 45) (a : Nat → Nat) (N : Nat) (B : tS) (r : Int32)  : ∀ (n : Nat) (x1 : Int32) (x2 : Int32), f_X0_allDotsLeft_4 N B  n x1 x2 = some r → G X (QI X r [bdW (gcA X) a B]) [bdW (gcA X) a B] [some (.ref (a 0)), some (.int x1), some (.int x2)] [] 4 := by
  intro n
  induction n with
  | zero => intro x1 x2 h; have h : (none : Option (Int32)) = some r := h; cases h
  | succ n ih => intro x1 x2 h; exact B_X0_allDotsLeft_4b C a N B r  (f_X0_allDotsLeft_4 N B  n) ih x1 x2 h
def f_X0_allDotsLeft (N : Nat) (B : tS)  : Option (Int32) := f_X0_allDotsLeft_4 N B N (0 : Int32) (0 : Int32)
set_option maxRecDepth 100000 in
set_option maxHeartbeats 4000000 in
theorem B_X0_allDotsLeft {X : gX} (C : cx X RX0 cX0_allDotsLeft 3 (some .int) wsX0_allDotsLeft 2 45) (a : Nat → Nat) (N : Nat) (B : tS)  (r : Int32) (h : f_X0_allDotsLeft N B = some r) : G X (QI X r [bdW (gcA X) a B]) [bdW (gcA X) a B] [some (.ref (a 0)), none, none] [] 0 := by
  unfold f_X0_allDotsLeft at h
  refine g_iconst (pc' := 1) (v := 0) C dX0_allDotsLeft_0 (by decide) rfl ?_
  refine g_istore_n (pc' := 2) C dX0_allDotsLeft_1 (Nat.le_of_ble_eq_true rfl) rfl (L' := [some (.ref (a 0)), some (.int (0 : Int32)), none]) rfl ?_
  refine g_iconst (pc' := 3) (v := 0) C dX0_allDotsLeft_2 (by decide) rfl ?_
  refine g_istore_n (pc' := 4) C dX0_allDotsLeft_3 (Nat.le_of_ble_eq_true rfl) rfl (L' := [some (.ref (a 0)), some (.int (0 : Int32)), some (.int (0 : Int32))]) rfl ?_
  exact G_loc (lle_s (lle_s (lle_s lle_0))) (L_X0_allDotsLeft_4 C a N B r N (0 : Int32) (0 : Int32) h)
set_option maxRecDepth 100000 in
set_option maxHeartbeats 4000000 in
theorem c_X0_allDotsLeft (l : Launch) (D : va_G) (cA : Nat → ClassId) (a : Nat → Nat) (N : Nat) (B : tS)  (r : Int32) (h : f_X0_allDotsLeft N B = some r) : MI l D cA yX0_allDotsLeft wsX0_allDotsLeft 2 45 [.ref (a 0)] [bdW cA a B] r [bdW cA a B] := MI_of (cc := cX0_allDotsLeft) (maxL := 3) (rt := some .int) (by decide +kernel) rfl (List.forall_mem_cons.mpr ⟨rfl, List.forall_mem_nil _⟩) (Nat.le_of_ble_eq_true rfl) (fun X e1 e2 e3 C => by subst e1; subst e2; subst e3; exact B_X0_allDotsLeft C a N B r h)
set_option maxRecDepth 100000 in
set_option maxHeartbeats 4000000 in
theorem nd_X0_allDotsLeft : nd yX0_allDotsLeft 0 := ⟨by decide +kernel, by decide +kernel, by decide +kernel⟩
set_option maxRecDepth 100000 in
set_option maxHeartbeats 4000000 in
theorem k_X0_allDotsLeft {X : gX} {own : String} {cc : ByteArray} {nL : Nat} {ret : Option FieldType} {Ts : List Cond} {fr lm : Nat} {Q : State → Prop} {ms : List va_W} {L : List (Option Value)} {st : List Value} {pc pc' idx : Nat} {ρ : Type} {T : Int32 → Option ρ} {res : ρ} (C : cx X own cc nL ret Ts fr lm) (a : Nat → Nat) (N : Nat) (B : tS)  (is : List Nat) (hC : is.map (fun i => ms[i]?) = [some (bdW (gcA X) a B)]) (hn : is.Nodup) (hG : GoodIn Ts (wsV own idx RX0 yX0_allDotsLeft wsX0_allDotsLeft)) (hR : 2 + 1 ≤ fr ∧ 8 + (3 + 11) + 45 ≤ lm) (hst : (st.map fun v => v.category).sum ≤ 8) (hLn : L.length = nL) (d : decode cc pc = .ok (.invokevirtual idx, 3)) (hp : pc + 3 = pc') (h : bd (f_X0_allDotsLeft N B) T = some res) (kk : ∀ (r : Int32), T r = some res → G X Q (ms) L (.int r :: st) pc') : G X Q ms L (.ref (a 0) :: st) pc := by
  obtain ⟨r, h1, h⟩ := ob h
  exact G_callVI C (As := []) (c_X0_allDotsLeft (gl X) (gD X) (gcA X) a N B r h1) hG rfl nd_X0_allDotsLeft hR (q0 := 0) rfl rfl hC hn rfl rfl hst hLn d hp (G_ms (rpl_same (mc := [bdW (gcA X) a B]) hC) (kk r h))
