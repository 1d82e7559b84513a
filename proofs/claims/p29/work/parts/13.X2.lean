theorem hi_X2_join_X2 : ∀ w ∈ wsX20, w ∈ wsX2_join := fun w h => List.mem_cons_of_mem _ (List.mem_append_right _ h)
theorem lk_X2_join_1 : Cond.methodLink RX2 39 Lib.Math.min.name ∈ wsX2_join := List.mem_of_getElem? (i := 1) rfl
theorem lk_X2_join_2 : Cond.static Lib.Math.min.name ∈ wsX2_join := List.mem_of_getElem? (i := 2) rfl
theorem lk_X2_join_3 : Cond.initialized "java/lang/Math" ∈ wsX2_join := List.mem_of_getElem? (i := 3) rfl
theorem lk_X2_join_4 : Cond.code Lib.Math.min.name Lib.Math.min.code 2 (some .int) ∈ wsX2_join := List.mem_of_getElem? (i := 4) rfl
theorem lk_X2_join_5 : Cond.methodLink RX2 44 Lib.Math.max.name ∈ wsX2_join := List.mem_of_getElem? (i := 5) rfl
theorem lk_X2_join_6 : Cond.static Lib.Math.max.name ∈ wsX2_join := List.mem_of_getElem? (i := 6) rfl
theorem lk_X2_join_7 : Cond.code Lib.Math.max.name Lib.Math.max.code 2 (some .int) ∈ wsX2_join := List.mem_of_getElem? (i := 7) rfl
theorem lk_X2_join_8 : Cond.fieldLink RX2 15 "NoteThemes$Heaps" "notes" "I" ∈ wsX2_join := List.mem_of_getElem? (i := 8) rfl
theorem lk_X2_join_9 : Cond.fieldLink RX2 22 "NoteThemes$Heaps" "lowestOf" "[I" ∈ wsX2_join := List.mem_of_getElem? (i := 9) rfl
def f_X2_join_45 (N : Nat) (p0 : Int32) (p1 : Int32) (k16 : Int32 → Int32 → Int32 → tS → Option (tS)) (x3 : Int32) (x4 : Int32) (x5 : Int32) (S : tS) : Option (tS) := k16 x3 x4 (x5 + 1) S
set_option maxRecDepth 100000 in
set_option maxHeartbeats 4000000 in
theorem B_X2_join_45 {X : gX} (C : cx X RX2 cX2_join 6 none wsX2_join 1 21) (a : Nat → Nat) (N : Nat) (p0 : Int32) (p1 : Int32) (Sz : tS) (k16 : Int32 → Int32 → Int32 → tS → Option (tS)) (hk16 : ∀ (x3 : Int32) (x4 : Int32) (x5 : Int32) (S : tS), k16 x3 x4 x5 S = some Sz → G X (QV X [heW (gcA X) a Sz]) [heW (gcA X) a S] [some (.ref (a 0)), some (.int p0), some (.int p1), some (.int x3), some (.int x4), some (.int x5)] [] 16) (x3 : Int32) (x4 : Int32) (x5 : Int32) (S : tS) (h : f_X2_join_45 N p0 p1 k16 x3 x4 x5 S = some Sz) : G X (QV X [heW (gcA X) a Sz]) [heW (gcA X) a S] [some (.ref (a 0)), some (.int p0), some (.int p1), some (.int x3), some (.int x4), some (.int x5)] [] 45 := by
  unfold f_X2_join_45 at h
  refine g_iinc (pc' := 48) (v := (x5 + 1)) C dX2_join_45 rfl rfl rfl (L' := [some (.ref (a 0)), some (.int p0), some (.int p1), some (.int x3), some (.int x4), some (.int (x5 + 1))]) rfl ?_
  refine g_goto (pc' := 16) C dX2_join_48 (by decide) ?_
  exact G_loc (lle_s (lle_s (lle_s (lle_s (lle_s (lle_s lle_0)))))) (hk16 x3 x4 (x5 + 1) S h)
def f_X2_join_16b (N : Nat) (p0 : Int32) (p1 : Int32)  (k16 : Int32 → Int32 → Int32 → tS → Option (tS)) (x3 : Int32) (x4 : Int32) (x5 : Int32) (S : tS) : Option (tS) := (if (S 1 0) ≤ x5 then some S else (if x5 < 0 ∨ 20 ≤ x5.toNatClampNeg then none else (if (S 3 x5.toNatClampNeg) = x4 then (if x5 < 0 ∨ 20 ≤ x5.toNatClampNeg then none else f_X2_join_45 N p0 p1 k16 x3 x4 x5 (va_up S 3 (upd (S 3) x5.toNatClampNeg x3))) else f_X2_join_45 N p0 p1 k16 x3 x4 x5 S)))
def f_X2_join_16 (N : Nat) (p0 : Int32) (p1 : Int32)  : Nat → Int32 → Int32 → Int32 → tS → Option (tS)
  | 0 => fun _ _ _ _ => none
  | n + 1 => f_X2_join_16b N p0 p1  (f_X2_join_16 N p0 p1  n)
set_option maxRecDepth 100000 in
set_option maxHeartbeats 4000000 in
theorem B_X2_join_16b {X : gX} (C : cx X RX2 cX2_join 6 none wsX2_join 1 21) (a : Nat → Nat) (N : Nat) (p0 : Int32) (p1 : Int32) (Sz : tS)  (k16 : Int32 → Int32 → Int32 → tS → Option (tS)) (hk16 : ∀ (x3 : Int32) (x4 : Int32) (x5 : Int32) (S : tS), k16 x3 x4 x5 S = some Sz → G X (QV X [heW (gcA X) a Sz]) [heW (gcA X) a S] [some (.ref (a 0)), some (.int p0), some (.int p1), some (.int x3), some (.int x4), some (.int x5)] [] 16) (x3 : Int32) (x4 : Int32) (x5 : Int32) (S : tS) (h : f_X2_join_16b N p0 p1  k16 x3 x4 x5 S = some Sz) : G X (QV X [heW (gcA X) a Sz]) [heW (gcA X) a S] [some (.ref (a 0)), some (.int p0), some (.int p1), some (.int x3), some (.int x4), some (.int x5)] [] 16 := by
  unfold f_X2_join_16b at h
  refine g_iload (pc' := 18) C dX2_join_16 rfl rfl ?_
  refine g_aload_n (pc' := 19) C dX2_join_18 rfl rfl ?_
  refine gg_X2_1 (pc' := 22) (i := 0) C rfl hi_X2_join_X2 lk_X2_join_8 dX2_join_19 rfl ?_
  refine g_icmp_ge (pc' := 25) (tgt := 51) C dX2_join_22 (by decide) rfl h (fun c h => ?_) (fun c h => ?_)
  · obtain rfl := Option.some.inj h
    exact g_vret C dX2_join_51
  · refine g_aload_n (pc' := 26) C dX2_join_25 rfl rfl ?_
    refine gg_X2_3 (pc' := 29) (i := 0) C rfl hi_X2_join_X2 lk_X2_join_9 dX2_join_26 rfl ?_
    refine g_iload (pc' := 31) C dX2_join_29 rfl rfl ?_
    refine g_iald (pc' := 32) (i := 0) (j := 2) C rfl rfl dX2_join_31 rfl h (fun h => ?_)
    refine g_iload (pc' := 34) C dX2_join_32 rfl rfl ?_
    refine g_icmp_ne (pc' := 37) (tgt := 45) C dX2_join_34 (by decide) rfl h (fun c h => ?_) (fun c h => ?_)
    · refine g_aload_n (pc' := 38) C dX2_join_37 rfl rfl ?_
      refine gg_X2_3 (pc' := 41) (i := 0) C rfl hi_X2_join_X2 lk_X2_join_9 dX2_join_38 rfl ?_
      refine g_iload (pc' := 43) C dX2_join_41 rfl rfl ?_
      refine g_iload_n (pc' := 44) C dX2_join_43 rfl rfl ?_
      refine g_iast (pc' := 45) (i := 0) (j := 2) (w' := heW (gcA X) a (va_up S 3 (upd (S 3) x5.toNatClampNeg x3))) C rfl rfl rfl dX2_join_44 rfl h (fun h => ?_)
      show G X _ [heW (gcA X) a (va_up S 3 (upd (S 3) x5.toNatClampNeg x3))] _ _ _
      exact G_loc (lle_s (lle_s (lle_s (lle_s (lle_s (lle_s lle_0)))))) (B_X2_join_45 C a N p0 p1 Sz k16 hk16 x3 x4 x5 (va_up S 3 (upd (S 3) x5.toNatClampNeg x3)) h)
    · exact G_loc (lle_s (lle_s (lle_s (lle_s (lle_s (lle_s lle_0)))))) (B_X2_join_45 C a N p0 p1 Sz k16 hk16 x3 x4 x5 S h)
set_option maxRecDepth 100000 in
set_option maxHeartbeats 4000000 in
theorem L_X2_join_16 {X : gX} (C : cx X RX2 cX2_join 6 none wsX2_join 1 21) (a : Nat → Nat) (N : Nat) (p0 : Int32) (p1 : Int32) (Sz : tS)  : ∀ (n : Nat) (x3 : Int32) (x4 : Int32) (x5 : Int32) (S : tS), f_X2_join_16 N p0 p1  n x3 x4 x5 S = some Sz → G X (QV X [heW (gcA X) a Sz]) [heW (gcA X) a S] [some (.ref (a 0)), some (.int p0), some (.int p1), some (.int x3), some (.int x4), some (.int x5)] [] 16 := by
  intro n
  induction n with
  | zero => intro x3 x4 x5 S h; have h : (none : Option (tS)) = some Sz := h; cases h
  | succ n ih => intro x3 x4 x5 S h; exact B_X2_join_16b C a N p0 p1 Sz  (f_X2_join_16 N p0 p1  n) ih x3 x4 x5 S h
def f_X2_join (N : Nat) (S : tS) (p0 : Int32) (p1 : Int32) : Option (tS) := f_X2_join_16 N p0 p1 N (if p1 < p0 then p1 else p0) (if p0 < p1 then p1 else p0) (0 : Int32) S
set_option maxRecDepth 100000 in
set_option maxHeartbeats 4000000 in
theorem B_X2_join {X : gX} (C : cx X RX2 cX2_join 6 none wsX2_join 1 21) (a : Nat → Nat) (N : Nat) (S : tS) (p0 : Int32) (p1 : Int32) (Sz : tS) (h : f_X2_join N S p0 p1 = some Sz) : G X (QV X [heW (gcA X) a Sz]) [heW (gcA X) a S] [some (.ref (a 0)), some (.int p0), some (.int p1), none, none, none] [] 0 := by
  unfold f_X2_join at h
  refine g_iload_n (pc' := 1) C dX2_join_0 rfl rfl ?_
  refine g_iload_n (pc' := 2) C dX2_join_1 rfl rfl ?_
  refine g_mmin (pc' := 5) C lk_X2_join_1 lk_X2_join_2 lk_X2_join_3 lk_X2_join_4 ⟨Nat.le_of_ble_eq_true rfl, Nat.le_of_ble_eq_true rfl⟩ rfl dX2_join_2 rfl ?_
  refine g_istore_n (pc' := 6) C dX2_join_5 (Nat.le_of_ble_eq_true rfl) rfl (L' := [some (.ref (a 0)), some (.int p0), some (.int p1), some (.int (if p1 < p0 then p1 else p0)), none, none]) rfl ?_
  refine g_iload_n (pc' := 7) C dX2_join_6 rfl rfl ?_
  refine g_iload_n (pc' := 8) C dX2_join_7 rfl rfl ?_
  refine g_mmax (pc' := 11) C lk_X2_join_5 lk_X2_join_6 lk_X2_join_3 lk_X2_join_7 ⟨Nat.le_of_ble_eq_true rfl, Nat.le_of_ble_eq_true rfl⟩ rfl dX2_join_8 rfl ?_
  refine g_istore (pc' := 13) C dX2_join_11 (Nat.le_of_ble_eq_true rfl) rfl (L' := [some (.ref (a 0)), some (.int p0), some (.int p1), some (.int (if p1 < p0 then p1 else p0)), some (.int (if p0 < p1 then p1 else p0)), none]) rfl ?_
  refine g_iconst (pc' := 14) (v := 0) C dX2_join_13 (by decide) rfl ?_
  refine g_istore (pc' := 16) C dX2_join_14 (Nat.le_of_ble_eq_true rfl) rfl (L' := [some (.ref (a 0)), some (.int p0), some (.int p1), some (.int (if p1 < p0 then p1 else p0)), some (.int (if p0 < p1 then p1 else p0)), some (.int (0 : Int32))]) rfl ?_
  exact G_loc (lle_s (lle_s (lle_s (lle_s (lle_s (lle_s lle_0)))))) (L_X2_join_16 C a N p0 p1 Sz N (if p1 < p0 then p1 else p0) (if p0 < p1 then p1 else p0) (0 : Int32) S h)
set_option maxRecDepth 100000 in
set_option maxHeartbeats 4000000 in
theorem c_X2_join (l : Launch) (D : va_G) (cA : Nat → ClassId) (a : Nat → Nat) (N : Nat) (S : tS) (p0 : Int32) (p1 : Int32) (Sz : tS) (h : f_X2_join N S p0 p1 = some Sz) : MV l D cA yX2_join wsX2_join 1 21 [.ref (a 0), .int p0, .int p1] [heW cA a S]  [heW cA a Sz] := MV_of (cc := cX2_join) (maxL := 6) (by decide +kernel) rfl (List.forall_mem_cons.mpr ⟨rfl, List.forall_mem_cons.mpr ⟨rfl, List.forall_mem_cons.mpr ⟨rfl, List.forall_mem_nil _⟩⟩⟩) (Nat.le_of_ble_eq_true rfl) (fun X e1 e2 e3 C => by subst e1; subst e2; subst e3; exact B_X2_join C a N S p0 p1 Sz h)
set_option maxRecDepth 100000 in
set_option maxHeartbeats 4000000 in
theorem nd_X2_join : nd yX2_join 2 := ⟨by decide +kernel, by decide +kernel, by decide +kernel⟩
set_option maxRecDepth 100000 in
set_option maxHeartbeats 4000000 in
theorem k_X2_join {X : gX} {own : String} {cc : ByteArray} {nL : Nat} {ret : Option FieldType} {Ts : List Cond} {fr lm : Nat} {Q : State → Prop} {ms : List va_W} {L : List (Option Value)} {st : List Value} {pc pc' idx : Nat} {ρ : Type} {T : tS → Option ρ} {res : ρ} (C : cx X own cc nL ret Ts fr lm) (a : Nat → Nat) (N : Nat) (S : tS) (p0 : Int32) (p1 : Int32) (is : List Nat) (hC : is.map (fun i => ms[i]?) = [some (heW (gcA X) a S)]) (hn : is.Nodup) (hG : GoodIn Ts (wsV own idx RX2 yX2_join wsX2_join)) (hR : 1 + 1 ≤ fr ∧ 8 + (6 + 11) + 21 ≤ lm) (hst : (st.map fun v => v.category).sum ≤ 8) (hLn : L.length = nL) (d : decode cc pc = .ok (.invokevirtual idx, 3)) (hp : pc + 3 = pc') (h : bd (f_X2_join N S p0 p1) T = some res) (kk : ∀ (Sz : tS), T Sz = some res → G X Q (rpl ms is [heW (gcA X) a Sz]) L (st) pc') : G X Q ms L (.int p1 :: .int p0 :: .ref (a 0) :: st) pc := by
  obtain ⟨Sz, h1, h⟩ := ob h
  exact G_callVV C (As := [.int p0, .int p1]) (c_X2_join (gl X) (gD X) (gcA X) a N S p0 p1 Sz h1) hG rfl nd_X2_join hR (q0 := 0) rfl rfl hC hn rfl rfl hst hLn d hp (kk Sz h)
theorem hi_X2_numberThem_X2 : ∀ w ∈ wsX20, w ∈ wsX2_numberThem := fun w h => List.mem_cons_of_mem _ (List.mem_append_right _ h)
theorem lk_X2_numberThem_1 : Cond.fieldLink RX2 9 "NoteThemes$Heaps" "number" "I" ∈ wsX2_numberThem := List.mem_of_getElem? (i := 1) rfl
theorem lk_X2_numberThem_2 : Cond.fieldLink RX2 15 "NoteThemes$Heaps" "notes" "I" ∈ wsX2_numberThem := List.mem_of_getElem? (i := 2) rfl
theorem lk_X2_numberThem_3 : Cond.fieldLink RX2 22 "NoteThemes$Heaps" "lowestOf" "[I" ∈ wsX2_numberThem := List.mem_of_getElem? (i := 3) rfl
theorem lk_X2_numberThem_4 : Cond.fieldLink RX2 18 "NoteThemes$Heaps" "heapOf" "[I" ∈ wsX2_numberThem := List.mem_of_getElem? (i := 4) rfl
def f_X2_numberThem_65 (N : Nat)  (k7 : Int32 → tS → Option (tS)) (x1 : Int32) (S : tS) : Option (tS) := k7 (x1 + 1) S
set_option maxRecDepth 100000 in
set_option maxHeartbeats 4000000 in
theorem B_X2_numberThem_65 {X : gX} (C : cx X RX2 cX2_numberThem 2 none wsX2_numberThem 0 0) (a : Nat → Nat) (N : Nat)  (Sz : tS) (k7 : Int32 → tS → Option (tS)) (hk7 : ∀ (x1 : Int32) (S : tS), k7 x1 S = some Sz → G X (QV X [heW (gcA X) a Sz]) [heW (gcA X) a S] [some (.ref (a 0)), some (.int x1)] [] 7) (x1 : Int32) (S : tS) (h : f_X2_numberThem_65 N k7 x1 S = some Sz) : G X (QV X [heW (gcA X) a Sz]) [heW (gcA X) a S] [some (.ref (a 0)), some (.int x1)] [] 65 := by
  unfold f_X2_numberThem_65 at h
  refine g_iinc (pc' := 68) (v := (x1 + 1)) C dX2_numberThem_65 rfl rfl rfl (L' := [some (.ref (a 0)), some (.int (x1 + 1))]) rfl ?_
  refine g_goto (pc' := 7) C dX2_numberThem_68 (by decide) ?_
  exact G_loc (lle_s (lle_s lle_0)) (hk7 (x1 + 1) S h)
def f_X2_numberThem_7b (N : Nat)   (k7 : Int32 → tS → Option (tS)) (x1 : Int32) (S : tS) : Option (tS) := (if (S 1 0) ≤ x1 then some S else (if x1 < 0 ∨ 20 ≤ x1.toNatClampNeg then none else (if (S 3 x1.toNatClampNeg) = x1 then (if x1 < 0 ∨ 20 ≤ x1.toNatClampNeg then none else f_X2_numberThem_65 N k7 x1 (va_up (va_up S 2 (upd (S 2) x1.toNatClampNeg (S 0 0))) 0 (fun _ => ((S 0 0) + (1 : Int32))))) else (if x1 < 0 ∨ 20 ≤ x1.toNatClampNeg then none else (if (S 3 x1.toNatClampNeg) < 0 ∨ 20 ≤ (S 3 x1.toNatClampNeg).toNatClampNeg then none else (if x1 < 0 ∨ 20 ≤ x1.toNatClampNeg then none else f_X2_numberThem_65 N k7 x1 (va_up S 2 (upd (S 2) x1.toNatClampNeg (S 2 (S 3 x1.toNatClampNeg).toNatClampNeg)))))))))
def f_X2_numberThem_7 (N : Nat)   : Nat → Int32 → tS → Option (tS)
  | 0 => fun _ _ => none
  | n + 1 => f_X2_numberThem_7b N  (f_X2_numberThem_7 N  n)
set_option maxRecDepth 100000 in
set_option maxHeartbeats 4000000 in
theorem B_X2_numberThem_7b {X : gX} (C : cx X RX2 cX2_numberThem 2 none wsX2_numberThem 0 0) (a : Nat → Nat) (N : Nat)  (Sz : tS)  (k7 : Int32 → tS → Option (tS)) (hk7 : ∀ (x1 : Int32) (S : tS), k7 x1 S = some Sz → G X (QV X [heW (gcA X) a Sz]) [heW (gcA X) a S] [some (.ref (a 0)), some (.int x1)] [] 7) (x1 : Int32) (S : tS) (h : f_X2_numberThem_7b N  k7 x1 S = some Sz) : G X (QV X [heW (gcA X) a Sz]) [heW (gcA X) a S] [some (.ref (a 0)), some (.int x1)] [] 7 := by
  unfold f_X2_numberThem_7b at h
  refine g_iload_n (pc' := 8) C dX2_numberThem_7 rfl rfl ?_
  refine g_aload_n (pc' := 9) C dX2_numberThem_8 rfl rfl ?_
  refine gg_X2_1 (pc' := 12) (i := 0) C rfl hi_X2_numberThem_X2 lk_X2_numberThem_2 dX2_numberThem_9 rfl ?_
  refine g_icmp_ge (pc' := 15) (tgt := 71) C dX2_numberThem_12 (by decide) rfl h (fun c h => ?_) (fun c h => ?_)
  · obtain rfl := Option.some.inj h
    exact g_vret C dX2_numberThem_71
  · refine g_aload_n (pc' := 16) C dX2_numberThem_15 rfl rfl ?_
    refine gg_X2_3 (pc' := 19) (i := 0) C rfl hi_X2_numberThem_X2 lk_X2_numberThem_3 dX2_numberThem_16 rfl ?_
    refine g_iload_n (pc' := 20) C dX2_numberThem_19 rfl rfl ?_
    refine g_iald (pc' := 21) (i := 0) (j := 2) C rfl rfl dX2_numberThem_20 rfl h (fun h => ?_)
    refine g_iload_n (pc' := 22) C dX2_numberThem_21 rfl rfl ?_
    refine g_icmp_ne (pc' := 25) (tgt := 48) C dX2_numberThem_22 (by decide) rfl h (fun c h => ?_) (fun c h => ?_)
    · refine g_aload_n (pc' := 26) C dX2_numberThem_25 rfl rfl ?_
      refine gg_X2_2 (pc' := 29) (i := 0) C rfl hi_X2_numberThem_X2 lk_X2_numberThem_4 dX2_numberThem_26 rfl ?_
      refine g_iload_n (pc' := 30) C dX2_numberThem_29 rfl rfl ?_
      refine g_aload_n (pc' := 31) C dX2_numberThem_30 rfl rfl ?_
      refine gg_X2_0 (pc' := 34) (i := 0) C rfl hi_X2_numberThem_X2 lk_X2_numberThem_1 dX2_numberThem_31 rfl ?_
      refine g_iast (pc' := 35) (i := 0) (j := 1) (w' := heW (gcA X) a (va_up S 2 (upd (S 2) x1.toNatClampNeg (S 0 0)))) C rfl rfl rfl dX2_numberThem_34 rfl h (fun h => ?_)
      show G X _ [heW (gcA X) a (va_up S 2 (upd (S 2) x1.toNatClampNeg (S 0 0)))] _ _ _
      refine g_aload_n (pc' := 36) C dX2_numberThem_35 rfl rfl ?_
      refine g_dup (pc' := 37) C dX2_numberThem_36 rfl rfl ?_
      refine gg_X2_0 (pc' := 40) (i := 0) C rfl hi_X2_numberThem_X2 lk_X2_numberThem_1 dX2_numberThem_37 rfl ?_
      refine g_vi (v := (S 0 0)) rfl ?_
      refine g_iconst (pc' := 41) (v := 1) C dX2_numberThem_40 (by decide) rfl ?_
      refine g_iadd (pc' := 42) C dX2_numberThem_41 rfl ?_
      refine gp_X2_0 (pc' := 45) (i := 0) C rfl hi_X2_numberThem_X2 lk_X2_numberThem_1 dX2_numberThem_42 rfl ?_
      show G X _ [heW (gcA X) a (va_up (va_up S 2 (upd (S 2) x1.toNatClampNeg (S 0 0))) 0 (fun _ => ((S 0 0) + (1 : Int32))))] _ _ _
      refine g_goto (pc' := 65) C dX2_numberThem_45 (by decide) ?_
      exact G_loc (lle_s (lle_s lle_0)) (B_X2_numberThem_65 C a N Sz k7 hk7 x1 (va_up (va_up S 2 (upd (S 2) x1.toNatClampNeg (S 0 0))) 0 (fun _ => ((S 0 0) + (1 : Int32)))) h)
    · refine g_aload_n (pc' := 49) C dX2_numberThem_48 rfl rfl ?_
      refine gg_X2_2 (pc' := 52) (i := 0) C rfl hi_X2_numberThem_X2 lk_X2_numberThem_4 dX2_numberThem_49 rfl ?_
      refine g_iload_n (pc' := 53) C dX2_numberThem_52 rfl rfl ?_
      refine g_aload_n (pc' := 54) C dX2_numberThem_53 rfl rfl ?_
      refine gg_X2_2 (pc' := 57) (i := 0) C rfl hi_X2_numberThem_X2 lk_X2_numberThem_4 dX2_numberThem_54 rfl ?_
      refine g_aload_n (pc' := 58) C dX2_numberThem_57 rfl rfl ?_
      refine gg_X2_3 (pc' := 61) (i := 0) C rfl hi_X2_numberThem_X2 lk_X2_numberThem_3 dX2_numberThem_58 rfl ?_
      refine g_iload_n (pc' := 62) C dX2_numberThem_61 rfl rfl ?_
      refine g_iald (pc' := 63) (i := 0) (j := 2) C rfl rfl dX2_numberThem_62 rfl h (fun h => ?_)
      refine g_iald (pc' := 64) (i := 0) (j := 1) C rfl rfl dX2_numberThem_63 rfl h (fun h => ?_)
      refine g_iast (pc' := 65) (i := 0) (j := 1) (w' := heW (gcA X) a (va_up S 2 (upd (S 2) x1.toNatClampNeg (S 2 (S 3 x1.toNatClampNeg).toNatClampNeg)))) C rfl rfl rfl dX2_numberThem_64 rfl h (fun h => ?_)
      show G X _ [heW (gcA X) a (va_up S 2 (upd (S 2) x1.toNatClampNeg (S 2 (S 3 x1.toNatClampNeg).toNatClampNeg)))] _ _ _
      exact G_loc (lle_s (lle_s lle_0)) (B_X2_numberThem_65 C a N Sz k7 hk7 x1 (va_up S 2 (upd (S 2) x1.toNatClampNeg (S 2 (S 3 x1.toNatClampNeg).toNatClampNeg))) h)
set_option maxRecDepth 100000 in
set_option maxHeartbeats 4000000 in
theorem L_X2_numberThem_7 {X : gX} (C : cx X RX2 cX2_numberThem 2 none wsX2_numberThem 0 0) (a : Nat → Nat) (N : Nat)  (Sz : tS)  : ∀ (n : Nat) (x1 : Int32) (S : tS), f_X2_numberThem_7 N  n x1 S = some Sz → G X (QV X [heW (gcA X) a Sz]) [heW (gcA X) a S] [some (.ref (a 0)), some (.int x1)] [] 7 := by
  intro n
  induction n with
  | zero => intro x1 S h; have h : (none : Option (tS)) = some Sz := h; cases h
  | succ n ih => intro x1 S h; exact B_X2_numberThem_7b C a N Sz  (f_X2_numberThem_7 N  n) ih x1 S h
def f_X2_numberThem (N : Nat) (S : tS)  : Option (tS) := f_X2_numberThem_7 N N (0 : Int32) (va_up S 0 (fun _ => (0 : Int32)))
set_option maxRecDepth 100000 in
set_option maxHeartbeats 4000000 in
theorem B_X2_numberThem {X : gX} (C : cx X RX2 cX2_numberThem 2 none wsX2_numberThem 0 0) (a : Nat → Nat) (N : Nat) (S : tS)  (Sz : tS) (h : f_X2_numberThem N S = some Sz) : G X (QV X [heW (gcA X) a Sz]) [heW (gcA X) a S] [some (.ref (a 0)), none] [] 0 := by
  unfold f_X2_numberThem at h
  refine g_aload_n (pc' := 1) C dX2_numberThem_0 rfl rfl ?_
  refine g_iconst (pc' := 2) (v := 0) C dX2_numberThem_1 (by decide) rfl ?_
  refine gp_X2_0 (pc' := 5) (i := 0) C rfl hi_X2_numberThem_X2 lk_X2_numberThem_1 dX2_numberThem_2 rfl ?_
  show G X _ [heW (gcA X) a (va_up S 0 (fun _ => (0 : Int32)))] _ _ _
  refine g_iconst (pc' := 6) (v := 0) C dX2_numberThem_5 (by decide) rfl ?_
  refine g_istore_n (pc' := 7) C dX2_numberThem_6 (Nat.le_of_ble_eq_true rfl) rfl (L' := [some (.ref (a 0)), some (.int (0 : Int32))]) rfl ?_
  exact G_loc (lle_s (lle_s lle_0)) (L_X2_numberThem_7 C a N Sz N (0 : Int32) (va_up S 0 (fun _ => (0 : Int32))) h)
set_option maxRecDepth 100000 in
set_option maxHeartbeats 4000000 in
theorem c_X2_numberThem (l : Launch) (D : va_G) (cA : Nat → ClassId) (a : Nat → Nat) (N : Nat) (S : tS)  (Sz : tS) (h : f_X2_numberThem N S = some Sz) : MV l D cA yX2_numberThem wsX2_numberThem 0 0 [.ref (a 0)] [heW cA a S]  [heW cA a Sz] := MV_of (cc := cX2_numberThem) (maxL := 2) (by decide +kernel) rfl (List.forall_mem_cons.mpr ⟨rfl, List.forall_mem_nil _⟩) (Nat.le_of_ble_eq_true rfl) (fun X e1 e2 e3 C => by subst e1; subst e2; subst e3; exact B_X2_numberThem C a N S Sz h)
set_option maxRecDepth 100000 in
set_option maxHeartbeats 4000000 in
theorem nd_X2_numberThem : nd yX2_numberThem 0 := ⟨by decide +kernel, by decide +kernel, by decide +kernel⟩
set_option maxRecDepth 100000 in
set_option maxHeartbeats 4000000 in
theorem k_X2_numberThem {X : gX} {own : String} {cc : ByteArray} {nL : Nat} {ret : Option FieldType} {Ts : List Cond} {fr lm : Nat} {Q : State → Prop} {ms : List va_W} {L : List (Option Value)} {st : List Value} {pc pc' idx : Nat} {ρ : Type} {T : tS → Option ρ} {res : ρ} (C : cx X own cc nL ret Ts fr lm) (a : Nat → Nat) (N : Nat) (S : tS)  (is : List Nat) (hC : is.map (fun i => ms[i]?) = [some (heW (gcA X) a S)]) (hn : is.Nodup) (hG : GoodIn Ts (wsV own idx RX2 yX2_numberThem wsX2_numberThem)) (hR : 0 + 1 ≤ fr ∧ 8 + (2 + 11) + 0 ≤ lm) (hst : (st.map fun v => v.category).sum ≤ 8) (hLn : L.length = nL) (d : decode cc pc = .ok (.invokevirtual idx, 3)) (hp : pc + 3 = pc') (h : bd (f_X2_numberThem N S) T = some res) (kk : ∀ (Sz : tS), T Sz = some res → G X Q (rpl ms is [heW (gcA X) a Sz]) L (st) pc') : G X Q ms L (.ref (a 0) :: st) pc := by
  obtain ⟨Sz, h1, h⟩ := ob h
  exact G_callVV C (As := []) (c_X2_numberThem (gl X) (gD X) (gcA X) a N S Sz h1) hG rfl nd_X2_numberThem hR (q0 := 0) rfl rfl hC hn rfl rfl hst hLn d hp (kk Sz h)
theorem hi_X2_find_X0 : ∀ w ∈ wsX00, w ∈ wsX2_find := fun w h => List.mem_cons_of_mem _ (List.mem_append_left _ (List.mem_append_right _ h))
theorem hi_X2_find_X2 : ∀ w ∈ wsX20, w ∈ wsX2_find := fun w h => List.mem_cons_of_mem _ (List.mem_append_right _ h)
theorem lk_X2_find_1 : Cond.fieldLink RX2 25 "NoteThemes$Board" "notes" "I" ∈ wsX2_find := List.mem_of_getElem? (i := 1) rfl
theorem lk_X2_find_2 : Cond.fieldLink RX2 15 "NoteThemes$Heaps" "notes" "I" ∈ wsX2_find := List.mem_of_getElem? (i := 2) rfl
theorem lk_X2_find_3 : Cond.fieldLink RX2 22 "NoteThemes$Heaps" "lowestOf" "[I" ∈ wsX2_find := List.mem_of_getElem? (i := 3) rfl
theorem lk_X2_find_4 : Cond.fieldLink RX2 9 "NoteThemes$Heaps" "number" "I" ∈ wsX2_find := List.mem_of_getElem? (i := 4) rfl
def f_X2_find_94 (N : Nat) (B : tS) (p1 : Int32) (k33 : Int32 → tS → Option (Int32 × tS)) (k44 : Int32 → Int32 → tS → Option (Int32 × tS)) (x3 : Int32) (x4 : Int32) (S : tS) : Option (Int32 × tS) := k44 x3 (x4 + 1) S
set_option maxRecDepth 100000 in
set_option maxHeartbeats 4000000 in
theorem B_X2_find_94 {X : gX} (C : cx X RX2 cX2_find 5 (some .int) wsX2_find 2 46) (a : Nat → Nat) (b : Nat → Nat) (N : Nat) (B : tS) (p1 : Int32) (r : Int32) (Sz : tS) (k33 : Int32 → tS → Option (Int32 × tS)) (hk33 : ∀ (x3 : Int32) (S : tS), k33 x3 S = some (r, Sz) → G X (QI X r [heW (gcA X) a Sz, bdW (gcA X) b B]) [heW (gcA X) a S, bdW (gcA X) b B] [some (.ref (a 0)), some (.ref (b 0)), some (.int p1), some (.int x3), none] [] 33) (k44 : Int32 → Int32 → tS → Option (Int32 × tS)) (hk44 : ∀ (x3 : Int32) (x4 : Int32) (S : tS), k44 x3 x4 S = some (r, Sz) → G X (QI X r [heW (gcA X) a Sz, bdW (gcA X) b B]) [heW (gcA X) a S, bdW (gcA X) b B] [some (.ref (a 0)), some (.ref (b 0)), some (.int p1), some (.int x3), some (.int x4)] [] 44) (x3 : Int32) (x4 : Int32) (S : tS) (h : f_X2_find_94 N B p1 k33 k44 x3 x4 S = some (r, Sz)) : G X (QI X r [heW (gcA X) a Sz, bdW (gcA X) b B]) [heW (gcA X) a S, bdW (gcA X) b B] [some (.ref (a 0)), some (.ref (b 0)), some (.int p1), some (.int x3), some (.int x4)] [] 94 := by
  unfold f_X2_find_94 at h
  refine g_iinc (pc' := 97) (v := (x4 + 1)) C dX2_find_94 rfl rfl rfl (L' := [some (.ref (a 0)), some (.ref (b 0)), some (.int p1), some (.int x3), some (.int (x4 + 1))]) rfl ?_
  refine g_goto (pc' := 44) C dX2_find_97 (by decide) ?_
  exact G_loc (lle_s (lle_s (lle_s (lle_s (lle_s lle_0))))) (hk44 x3 (x4 + 1) S h)
def f_X2_find_44b (N : Nat) (B : tS) (p1 : Int32) (k33 : Int32 → tS → Option (Int32 × tS)) (k44 : Int32 → Int32 → tS → Option (Int32 × tS)) (x3 : Int32) (x4 : Int32) (S : tS) : Option (Int32 × tS) := (if x3 ≤ x4 then k33 (x3 + 1) S else (if x4 < 0 ∨ 20 ≤ x4.toNatClampNeg then none else (if x3 < 0 ∨ 20 ≤ x3.toNatClampNeg then none else (if (S 3 x4.toNatClampNeg) = (S 3 x3.toNatClampNeg) then f_X2_find_94 N B p1 k33 k44 x3 x4 S else (bd (f_X0_distance N B x4 x3) (fun r1 => (if p1 < r1 then f_X2_find_94 N B p1 k33 k44 x3 x4 S else (if x4 < 0 ∨ 20 ≤ x4.toNatClampNeg then none else (if x3 < 0 ∨ 20 ≤ x3.toNatClampNeg then none else (bd (f_X2_join N S (S 3 x4.toNatClampNeg) (S 3 x3.toNatClampNeg)) (fun S2 => f_X2_find_94 N B p1 k33 k44 x3 x4 S2)))))))))))
def f_X2_find_44 (N : Nat) (B : tS) (p1 : Int32) (k33 : Int32 → tS → Option (Int32 × tS)) : Nat → Int32 → Int32 → tS → Option (Int32 × tS)
  | 0 => fun _ _ _ => none
  | n + 1 => f_X2_find_44b N B p1 k33 (f_X2_find_44 N B p1 k33 n)
set_option maxRecDepth 100000 in
set_option maxHeartbeats 4000000 in
theorem B_X2_find_44b {X : gX} (C : cx X RX2 cX2_find 5 (some .int) wsX2_find 2 46) (a : Nat → Nat) (b : Nat → Nat) (N : Nat) (B : tS) (p1 : Int32) (r : Int32) (Sz : tS) (k33 : Int32 → tS → Option (Int32 × tS)) (hk33 : ∀ (x3 : Int32) (S : tS), k33 x3 S = some (r, Sz) → G X (QI X r [heW (gcA X) a Sz, bdW (gcA X) b B]) [heW (gcA X) a S, bdW (gcA X) b B] [some (.ref (a 0)), some (.ref (b 0)), some (.int p1), some (.int x3), none] [] 33) (k44 : Int32 → Int32 → tS → Option (Int32 × tS)) (hk44 : ∀ (x3 : Int32) (x4 : Int32) (S : tS), k44 x3 x4 S = some (r, Sz) → G X (QI X r [heW (gcA X) a Sz, bdW (gcA X) b B]) [heW (gcA X) a S, bdW (gcA X) b B] [some (.ref (a 0)), some (.ref (b 0)), some (.int p1), some (.int x3), some (.int x4)] [] 44) (x3 : Int32) (x4 : Int32) (S : tS) (h : f_X2_find_44b N B p1 k33 k44 x3 x4 S = some (r, Sz)) : G X (QI X r [heW (gcA X) a Sz, bdW (gcA X) b B]) [heW (gcA X) a S, bdW (gcA X) b B] [some (.ref (a 0)), some (.ref (b 0)), some (.int p1), some (.int x3), some (.int x4)] [] 44 := by
  unfold f_X2_find_44b at h
  refine g_iload (pc' := 46) C dX2_find_44 rfl rfl ?_
  refine g_iload_n (pc' := 47) C dX2_find_46 rfl rfl ?_
  refine g_icmp_ge (pc' := 50) (tgt := 100) C dX2_find_47 (by decide) rfl h (fun c h => ?_) (fun c h => ?_)
  · refine g_iinc (pc' := 103) (v := (x3 + 1)) C dX2_find_100 rfl rfl rfl (L' := [some (.ref (a 0)), some (.ref (b 0)), some (.int p1), some (.int (x3 + 1)), some (.int x4)]) rfl ?_
    refine g_goto (pc' := 33) C dX2_find_103 (by decide) ?_
    exact G_loc (lle_s (lle_s (lle_s (lle_s (lle_n lle_0))))) (hk33 (x3 + 1) S h)
  · refine g_aload_n (pc' := 51) C dX2_find_50 rfl rfl ?_
    refine gg_X2_3 (pc' := 54) (i := 0) C rfl hi_X2_find_X2 lk_X2_find_3 dX2_find_51 rfl ?_
    refine g_iload (pc' := 56) C dX2_find_54 rfl rfl ?_
    refine g_iald (pc' := 57) (i := 0) (j := 2) C rfl rfl dX2_find_56 rfl h (fun h => ?_)
    refine g_aload_n (pc' := 58) C dX2_find_57 rfl rfl ?_
    refine gg_X2_3 (pc' := 61) (i := 0) C rfl hi_X2_find_X2 lk_X2_find_3 dX2_find_58 rfl ?_
    refine g_iload_n (pc' := 62) C dX2_find_61 rfl rfl ?_
    refine g_iald (pc' := 63) (i := 0) (j := 2) C rfl rfl dX2_find_62 rfl h (fun h => ?_)
    refine g_icmp_eq (pc' := 66) (tgt := 94) C dX2_find_63 (by decide) rfl h (fun c h => ?_) (fun c h => ?_)
    · exact G_loc (lle_s (lle_s (lle_s (lle_s (lle_s lle_0))))) (B_X2_find_94 C a b N B p1 r Sz k33 hk33 k44 hk44 x3 x4 S h)
    · refine g_aload_n (pc' := 67) C dX2_find_66 rfl rfl ?_
      refine g_iload (pc' := 69) C dX2_find_67 rfl rfl ?_
      refine g_iload_n (pc' := 70) C dX2_find_69 rfl rfl ?_
      refine k_X0_distance (pc' := 73) C b N B x4 x3 [1] rfl (by decide) gX2_find_X0_distance ⟨Nat.le_of_ble_eq_true rfl, Nat.le_of_ble_eq_true rfl⟩ (Nat.le_of_ble_eq_true rfl) rfl dX2_find_70 rfl h (fun r1 h => ?_)
      refine g_iload_n (pc' := 74) C dX2_find_73 rfl rfl ?_
      refine g_icmp_gt (pc' := 77) (tgt := 94) C dX2_find_74 (by decide) rfl h (fun c h => ?_) (fun c h => ?_)
      · exact G_loc (lle_s (lle_s (lle_s (lle_s (lle_s lle_0))))) (B_X2_find_94 C a b N B p1 r Sz k33 hk33 k44 hk44 x3 x4 S h)
      · refine g_aload_n (pc' := 78) C dX2_find_77 rfl rfl ?_
        refine g_aload_n (pc' := 79) C dX2_find_78 rfl rfl ?_
        refine gg_X2_3 (pc' := 82) (i := 0) C rfl hi_X2_find_X2 lk_X2_find_3 dX2_find_79 rfl ?_
        refine g_iload (pc' := 84) C dX2_find_82 rfl rfl ?_
        refine g_iald (pc' := 85) (i := 0) (j := 2) C rfl rfl dX2_find_84 rfl h (fun h => ?_)
        refine g_aload_n (pc' := 86) C dX2_find_85 rfl rfl ?_
        refine gg_X2_3 (pc' := 89) (i := 0) C rfl hi_X2_find_X2 lk_X2_find_3 dX2_find_86 rfl ?_
        refine g_iload_n (pc' := 90) C dX2_find_89 rfl rfl ?_
        refine g_iald (pc' := 91) (i := 0) (j := 2) C rfl rfl dX2_find_90 rfl h (fun h => ?_)
        refine k_X2_join (pc' := 94) C a N S (S 3 x4.toNatClampNeg) (S 3 x3.toNatClampNeg) [0] rfl (by decide) gX2_find_X2_join ⟨Nat.le_of_ble_eq_true rfl, Nat.le_of_ble_eq_true rfl⟩ (Nat.le_of_ble_eq_true rfl) rfl dX2_find_91 rfl h (fun S2 h => ?_)
        show G X _ [heW (gcA X) a S2, bdW (gcA X) b B] _ _ _
        exact G_loc (lle_s (lle_s (lle_s (lle_s (lle_s lle_0))))) (B_X2_find_94 C a b N B p1 r Sz k33 hk33 k44 hk44 x3 x4 S2 h)
set_option maxRecDepth 100000 in
set_option maxHeartbeats 4000000 in
theorem L_X2_find_44 {X : gX} (C : cx X RX2 cX2_find 5 (some .int) wsX2_find 2 46) (a : Nat → Nat) (b : Nat → Nat) (N : Nat) (B : tS) (p1 : Int32) (r : Int32) (Sz : tS) (k33 : Int32 → tS → Option (Int32 × tS)) (hk33 : ∀ (x3 : Int32) (S : tS), k33 x3 S = some (r, Sz) → G X (QI X r [heW (gcA X) a Sz, bdW (gcA X) b B]) [heW (gcA X) a S, bdW (gcA X) b B] [some (.ref (a 0)), some (.ref (b 0)), some (.int p1), some (.int x3), none] [] 33) : ∀ (n : Nat) (x3 : Int32) (x4 : Int32) (S : tS), f_X2_find_44 N B p1 k33 n x3 x4 S = some (r, Sz) → G X (QI X r [heW (gcA X) a Sz, bdW (gcA X) b B]) [heW (gcA X) a S, bdW (gcA X) b B] [some (.ref (a 0)), some (.ref (b 0)), some (.int p1), some (.int x3), some (.int x4)] [] 44 := by
  intro n
  induction n with
  | zero => intro x3 x4 S h; have h : (none : Option (Int32 × tS)) = some (r, Sz) := h; cases h
  | succ n ih => intro x3 x4 S h; exact B_X2_find_44b C a b N B p1 r Sz k33 hk33 (f_X2_find_44 N B p1 k33 n) ih x3 x4 S h
def f_X2_find_33b (N : Nat) (B : tS) (p1 : Int32)  (k33 : Int32 → tS → Option (Int32 × tS)) (x3 : Int32) (S : tS) : Option (Int32 × tS) := (if (S 1 0) ≤ x3 then (bd (f_X2_numberThem N S) (fun S1 => some ((S1 0 0), S1))) else f_X2_find_44 N B p1 k33 N x3 (0 : Int32) S)
def f_X2_find_33 (N : Nat) (B : tS) (p1 : Int32)  : Nat → Int32 → tS → Option (Int32 × tS)
  | 0 => fun _ _ => none
  | n + 1 => f_X2_find_33b N B p1  (f_X2_find_33 N B p1  n)
set_option maxRecDepth 100000 in
set_option maxHeartbeats 4000000 in
theorem B_X2_find_33b {X : gX} (C : cx X RX2 cX2_find 5 (some .int) wsX2_find 2 46) (a : Nat → Nat) (b : Nat → Nat) (N : Nat) (B : tS) (p1 : Int32) (r : Int32) (Sz : tS)  (k33 : Int32 → tS → Option (Int32 × tS)) (hk33 : ∀ (x3 : Int32) (S : tS), k33 x3 S = some (r, Sz) → G X (QI X r [heW (gcA X) a Sz, bdW (gcA X) b B]) [heW (gcA X) a S, bdW (gcA X) b B] [some (.ref (a 0)), some (.ref (b 0)), some (.int p1), some (.int x3), none] [] 33) (x3 : Int32) (S : tS) (h : f_X2_find_33b N B p1  k33 x3 S = some (r, Sz)) : G X (QI X r [heW (gcA X) a Sz, bdW (gcA X) b B]) [heW (gcA X) a S, bdW (gcA X) b B] [some (.ref (a 0)), some (.ref (b 0)), some (.int p1), some (.int x3), none] [] 33 := by
  unfold f_X2_find_33b at h
  refine g_iload_n (pc' := 34) C dX2_find_33 rfl rfl ?_
  refine g_aload_n (pc' := 35) C dX2_find_34 rfl rfl ?_
  refine gg_X2_1 (pc' := 38) (i := 0) C rfl hi_X2_find_X2 lk_X2_find_2 dX2_find_35 rfl ?_
  refine g_icmp_ge (pc' := 41) (tgt := 106) C dX2_find_38 (by decide) rfl h (fun c h => ?_) (fun c h => ?_)
  · refine g_aload_n (pc' := 107) C dX2_find_106 rfl rfl ?_
    refine k_X2_numberThem (pc' := 110) C a N S [0] rfl (by decide) gX2_find_X2_numberThem ⟨Nat.le_of_ble_eq_true rfl, Nat.le_of_ble_eq_true rfl⟩ (Nat.le_of_ble_eq_true rfl) rfl dX2_find_107 rfl h (fun S1 h => ?_)
    show G X _ [heW (gcA X) a S1, bdW (gcA X) b B] _ _ _
    refine g_aload_n (pc' := 111) C dX2_find_110 rfl rfl ?_
    refine gg_X2_0 (pc' := 114) (i := 0) C rfl hi_X2_find_X2 lk_X2_find_4 dX2_find_111 rfl ?_
    obtain ⟨rfl, rfl⟩ := pj2 (Option.some.inj h)
    exact g_iret C dX2_find_114
  · refine g_iconst (pc' := 42) (v := 0) C dX2_find_41 (by decide) rfl ?_
    refine g_istore (pc' := 44) C dX2_find_42 (Nat.le_of_ble_eq_true rfl) rfl (L' := [some (.ref (a 0)), some (.ref (b 0)), some (.int p1), some (.int x3), some (.int (0 : Int32))]) rfl ?_
    exact G_loc (lle_s (lle_s (lle_s (lle_s (lle_s lle_0))))) (L_X2_find_44 C a b N B p1 r Sz k33 hk33 N x3 (0 : Int32) S h)
set_option maxRecDepth 100000 in
set_option maxHeartbeats 4000000 in
theorem L_X2_find_33 {X : gX} (C : cx X RX2 cX2_find 5 (some .int) wsX2_find 2 46) (a : Nat → Nat) (b : Nat → Nat) (N : Nat) (B : tS) (p1 : Int32) (r : Int32) (Sz : tS)  : ∀ (n : Nat) (x3 : Int32) (S : tS), f_X2_find_33 N B p1  n x3 S = some (r, Sz) → G X (QI X r [heW (gcA X) a Sz, bdW (gcA X) b B]) [heW (gcA X) a S, bdW (gcA X) b B] [some (.ref (a 0)), some (.ref (b 0)), some (.int p1), some (.int x3), none] [] 33 := by
  intro n
  induction n with
  | zero => intro x3 S h; have h : (none : Option (Int32 × tS)) = some (r, Sz) := h; cases h
  | succ n ih => intro x3 S h; exact B_X2_find_33b C a b N B p1 r Sz  (f_X2_find_33 N B p1  n) ih x3 S h
def f_X2_find_10b (N : Nat) (B : tS) (p1 : Int32)  (k10 : Int32 → tS → Option (Int32 × tS)) (x3 : Int32) (S : tS) : Option (Int32 × tS) := (if (S 1 0) ≤ x3 then f_X2_find_33 N B p1 N (0 : Int32) S else (if x3 < 0 ∨ 20 ≤ x3.toNatClampNeg then none else k10 (x3 + 1) (va_up S 3 (upd (S 3) x3.toNatClampNeg x3))))
def f_X2_find_10 (N : Nat) (B : tS) (p1 : Int32)  : Nat → Int32 → tS → Option (Int32 × tS)
  | 0 => fun _ _ => none
  | n + 1 => f_X2_find_10b N B p1  (f_X2_find_10 N B p1  n)
set_option maxRecDepth 100000 in
set_option maxHeartbeats 4000000 in
theorem B_X2_find_10b {X : gX} (C : cx X RX2 cX2_find 5 (some .int) wsX2_find 2 46) (a : Nat → Nat) (b : Nat → Nat) (N : Nat) (B : tS) (p1 : Int32) (r : Int32) (Sz : tS)  (k10 : Int32 → tS → Option (Int32 × tS)) (hk10 : ∀ (x3 : Int32) (S : tS), k10 x3 S = some (r, Sz) → G X (QI X r [heW (gcA X) a Sz, bdW (gcA X) b B]) [heW (gcA X) a S, bdW (gcA X) b B] [some (.ref (a 0)), some (.ref (b 0)), some (.int p1), some (.int x3), none] [] 10) (x3 : Int32) (S : tS) (h : f_X2_find_10b N B p1  k10 x3 S = some (r, Sz)) : G X (QI X r [heW (gcA X) a Sz, bdW (gcA X) b B]) [heW (gcA X) a S, bdW (gcA X) b B] [some (.ref (a 0)), some (.ref (b 0)), some (.int p1), some (.int x3), none] [] 10 := by
  unfold f_X2_find_10b at h
  refine g_iload_n (pc' := 11) C dX2_find_10 rfl rfl ?_
  refine g_aload_n (pc' := 12) C dX2_find_11 rfl rfl ?_
  refine gg_X2_1 (pc' := 15) (i := 0) C rfl hi_X2_find_X2 lk_X2_find_2 dX2_find_12 rfl ?_
  refine g_icmp_ge (pc' := 18) (tgt := 31) C dX2_find_15 (by decide) rfl h (fun c h => ?_) (fun c h => ?_)
  · refine g_iconst (pc' := 32) (v := 0) C dX2_find_31 (by decide) rfl ?_
    refine g_istore_n (pc' := 33) C dX2_find_32 (Nat.le_of_ble_eq_true rfl) rfl (L' := [some (.ref (a 0)), some (.ref (b 0)), some (.int p1), some (.int (0 : Int32)), none]) rfl ?_
    exact G_loc (lle_s (lle_s (lle_s (lle_s (lle_n lle_0))))) (L_X2_find_33 C a b N B p1 r Sz N (0 : Int32) S h)
  · refine g_aload_n (pc' := 19) C dX2_find_18 rfl rfl ?_
    refine gg_X2_3 (pc' := 22) (i := 0) C rfl hi_X2_find_X2 lk_X2_find_3 dX2_find_19 rfl ?_
    refine g_iload_n (pc' := 23) C dX2_find_22 rfl rfl ?_
    refine g_iload_n (pc' := 24) C dX2_find_23 rfl rfl ?_
    refine g_iast (pc' := 25) (i := 0) (j := 2) (w' := heW (gcA X) a (va_up S 3 (upd (S 3) x3.toNatClampNeg x3))) C rfl rfl rfl dX2_find_24 rfl h (fun h => ?_)
    show G X _ [heW (gcA X) a (va_up S 3 (upd (S 3) x3.toNatClampNeg x3)), bdW (gcA X) b B] _ _ _
    refine g_iinc (pc' := 28) (v := (x3 + 1)) C dX2_find_25 rfl rfl rfl (L' := [some (.ref (a 0)), some (.ref (b 0)), some (.int p1), some (.int (x3 + 1)), none]) rfl ?_
    refine g_goto (pc' := 10) C dX2_find_28 (by decide) ?_
    exact G_loc (lle_s (lle_s (lle_s (lle_s (lle_n lle_0))))) (hk10 (x3 + 1) (va_up S 3 (upd (S 3) x3.toNatClampNeg x3)) h)
set_option maxRecDepth 100000 in
set_option maxHeartbeats 4000000 in
theorem L_X2_find_10 {X : gX} (C : cx X RX2 cX2_find 5 (some .int) wsX2_find 2 46) (a : Nat → Nat) (b : Nat → Nat) (N : Nat) (B : tS) (p1 : Int32) (r : Int32) (Sz : tS)  : ∀ (n : Nat) (x3 : Int32) (S : tS), f_X2_find_10 N B p1  n x3 S = some (r, Sz) → G X (QI X r [heW (gcA X) a Sz, bdW (gcA X) b B]) [heW (gcA X) a S, bdW (gcA X) b B] [some (.ref (a 0)), some (.ref (b 0)), some (.int p1), some (.int x3), none] [] 10 := by
  intro n
  induction n with
  | zero => intro x3 S h; have h : (none : Option (Int32 × tS)) = some (r, Sz) := h; cases h
  | succ n ih => intro x3 S h; exact B_X2_find_10b C a b N B p1 r Sz  (f_X2_find_10 N B p1  n) ih x3 S h
def f_X2_find (N : Nat) (S : tS) (B : tS) (p1 : Int32) : Option (Int32 × tS) := f_X2_find_10 N B p1 N (0 : Int32) (va_up S 1 (fun _ => (B 0 0)))
set_option maxRecDepth 100000 in
set_option maxHeartbeats 4000000 in
theorem B_X2_find {X : gX} (C : cx X RX2 cX2_find 5 (some .int) wsX2_find 2 46) (a : Nat → Nat) (b : Nat → Nat) (N : Nat) (S : tS) (B : tS) (p1 : Int32) (r : Int32) (Sz : tS) (h : f_X2_find N S B p1 = some (r, Sz)) : G X (QI X r [heW (gcA X) a Sz, bdW (gcA X) b B]) [heW (gcA X) a S, bdW (gcA X) b B] [some (.ref (a 0)), some (.ref (b 0)), some (.int p1), none, none] [] 0 := by
  unfold f_X2_find at h
  refine g_aload_n (pc' := 1) C dX2_find_0 rfl rfl ?_
  refine g_aload_n (pc' := 2) C dX2_find_1 rfl rfl ?_
  refine gg_X0_0 (pc' := 5) (i := 1) C rfl hi_X2_find_X0 lk_X2_find_1 dX2_find_2 rfl ?_
  refine gp_X2_1 (pc' := 8) (i := 0) C rfl hi_X2_find_X2 lk_X2_find_2 dX2_find_5 rfl ?_
  show G X _ [heW (gcA X) a (va_up S 1 (fun _ => (B 0 0))), bdW (gcA X) b B] _ _ _
  refine g_iconst (pc' := 9) (v := 0) C dX2_find_8 (by decide) rfl ?_
  refine g_istore_n (pc' := 10) C dX2_find_9 (Nat.le_of_ble_eq_true rfl) rfl (L' := [some (.ref (a 0)), some (.ref (b 0)), some (.int p1), some (.int (0 : Int32)), none]) rfl ?_
  exact G_loc (lle_s (lle_s (lle_s (lle_s (lle_n lle_0))))) (L_X2_find_10 C a b N B p1 r Sz N (0 : Int32) (va_up S 1 (fun _ => (B 0 0))) h)
set_option maxRecDepth 100000 in
set_option maxHeartbeats 4000000 in
theorem c_X2_find (l : Launch) (D : va_G) (cA : Nat → ClassId) (a : Nat → Nat) (b : Nat → Nat) (N : Nat) (S : tS) (B : tS) (p1 : Int32) (r : Int32) (Sz : tS) (h : f_X2_find N S B p1 = some (r, Sz)) : MI l D cA yX2_find wsX2_find 2 46 [.ref (a 0), .ref (b 0), .int p1] [heW cA a S, bdW cA b B] r [heW cA a Sz, bdW cA b B] := MI_of (cc := cX2_find) (maxL := 5) (rt := some .int) (by decide +kernel) rfl (List.forall_mem_cons.mpr ⟨rfl, List.forall_mem_cons.mpr ⟨rfl, List.forall_mem_cons.mpr ⟨rfl, List.forall_mem_nil _⟩⟩⟩) (Nat.le_of_ble_eq_true rfl) (fun X e1 e2 e3 C => by subst e1; subst e2; subst e3; exact B_X2_find C a b N S B p1 r Sz h)
set_option maxRecDepth 100000 in
set_option maxHeartbeats 4000000 in
theorem nd_X2_find : nd yX2_find 2 := ⟨by decide +kernel, by decide +kernel, by decide +kernel⟩
set_option maxRecDepth 100000 in
set_option maxHeartbeats 4000000 in
theorem k_X2_find {X : gX} {own : String} {cc : ByteArray} {nL : Nat} {ret : Option FieldType} {Ts : List Cond} {fr lm : Nat} {Q : State → Prop} {ms : List va_W} {L : List (Option Value)} {st : List Value} {pc pc' idx : Nat} {ρ : Type} {T : Int32 → tS → Option ρ} {res : ρ} (C : cx X own cc nL ret Ts fr lm) (a : Nat → Nat) (b : Nat → Nat) (N : Nat) (S : tS) (B : tS) (p1 : Int32) (is : List Nat) (hC : is.map (fun i => ms[i]?) = [some (heW (gcA X) a S), some (bdW (gcA X) b B)]) (hn : is.Nodup) (hG : GoodIn Ts (wsV own idx RX2 yX2_find wsX2_find)) (hR : 2 + 1 ≤ fr ∧ 8 + (5 + 11) + 46 ≤ lm) (hst : (st.map fun v => v.category).sum ≤ 8) (hLn : L.length = nL) (d : decode cc pc = .ok (.invokevirtual idx, 3)) (hp : pc + 3 = pc') (h : bd2 (f_X2_find N S B p1) T = some res) (kk : ∀ (r : Int32) (Sz : tS), T r Sz = some res → G X Q (rpl ms is [heW (gcA X) a Sz, bdW (gcA X) b B]) L (.int r :: st) pc') : G X Q ms L (.int p1 :: .ref (b 0) :: .ref (a 0) :: st) pc := by
  obtain ⟨r, Sz, h1, h⟩ := ob2 h
  exact G_callVI C (As := [.ref (b 0), .int p1]) (c_X2_find (gl X) (gD X) (gcA X) a b N S B p1 r Sz h1) hG rfl nd_X2_find hR (q0 := 0) rfl rfl hC hn rfl rfl hst hLn d hp (kk r Sz h)
theorem hi_X2_has_X2 : ∀ w ∈ wsX20, w ∈ wsX2_has := fun w h => List.mem_cons_of_mem _ (List.mem_append_right _ h)
theorem lk_X2_has_1 : Cond.fieldLink RX2 9 "NoteThemes$Heaps" "number" "I" ∈ wsX2_has := List.mem_of_getElem? (i := 1) rfl
def f_X2_has (N : Nat) (S : tS) (p0 : Int32) : Option (Int32) := (if p0 < 0 then some (0 : Int32) else (if (S 0 0) ≤ p0 then some (0 : Int32) else some (1 : Int32)))
set_option maxRecDepth 100000 in
set_option maxHeartbeats 4000000 in
theorem B_X2_has {X : gX} (C : cx X RX2 cX2_has 2 (some .boolean) wsX2_has 0 0) (a : Nat → Nat) (N : Nat) (S : tS) (p0 : Int32) (r : Int32) (h : f_X2_has N S p0 = some r) : G X (QI X r [heW (gcA X) a S]) [heW (gcA X) a S] [some (.ref (a 0)), some (.int p0)] [] 0 := by
  unfold f_X2_has at h
  refine g_iload_n (pc' := 1) C dX2_has_0 rfl rfl ?_
  refine g_if_lt (pc' := 4) (tgt := 16) C dX2_has_1 (by decide) rfl h (fun c h => ?_) (fun c h => ?_)
  · refine g_iconst (pc' := 17) (v := 0) C dX2_has_16 (by decide) rfl ?_
    obtain rfl := Option.some.inj h
    exact g_zret0 C rfl dX2_has_17
  · refine g_iload_n (pc' := 5) C dX2_has_4 rfl rfl ?_
    refine g_aload_n (pc' := 6) C dX2_has_5 rfl rfl ?_
    refine gg_X2_0 (pc' := 9) (i := 0) C rfl hi_X2_has_X2 lk_X2_has_1 dX2_has_6 rfl ?_
    refine g_icmp_ge (pc' := 12) (tgt := 16) C dX2_has_9 (by decide) rfl h (fun c h => ?_) (fun c h => ?_)
    · refine g_iconst (pc' := 17) (v := 0) C dX2_has_16 (by decide) rfl ?_
      obtain rfl := Option.some.inj h
      exact g_zret0 C rfl dX2_has_17
    · refine g_iconst (pc' := 13) (v := 1) C dX2_has_12 (by decide) rfl ?_
      refine g_goto (pc' := 17) C dX2_has_13 (by decide) ?_
      obtain rfl := Option.some.inj h
      exact g_zret0 C rfl dX2_has_17
set_option maxRecDepth 100000 in
set_option maxHeartbeats 4000000 in
theorem c_X2_has (l : Launch) (D : va_G) (cA : Nat → ClassId) (a : Nat → Nat) (N : Nat) (S : tS) (p0 : Int32) (r : Int32) (h : f_X2_has N S p0 = some r) : MI l D cA yX2_has wsX2_has 0 0 [.ref (a 0), .int p0] [heW cA a S] r [heW cA a S] := MI_of (cc := cX2_has) (maxL := 2) (rt := some .boolean) (by decide +kernel) rfl (List.forall_mem_cons.mpr ⟨rfl, List.forall_mem_cons.mpr ⟨rfl, List.forall_mem_nil _⟩⟩) (Nat.le_of_ble_eq_true rfl) (fun X e1 e2 e3 C => by subst e1; subst e2; subst e3; exact B_X2_has C a N S p0 r h)
set_option maxRecDepth 100000 in
set_option maxHeartbeats 4000000 in
theorem nd_X2_has : nd yX2_has 1 := ⟨by decide +kernel, by decide +kernel, by decide +kernel⟩
set_option maxRecDepth 100000 in
set_option maxHeartbeats 4000000 in
theorem k_X2_has {X : gX} {own : String} {cc : ByteArray} {nL : Nat} {ret : Option FieldType} {Ts : List Cond} {fr lm : Nat} {Q : State → Prop} {ms : List va_W} {L : List (Option Value)} {st : List Value} {pc pc' idx : Nat} {ρ : Type} {T : Int32 → Option ρ} {res : ρ} (C : cx X own cc nL ret Ts fr lm) (a : Nat → Nat) (N : Nat) (S : tS) (p0 : Int32) (is : List Nat) (hC : is.map (fun i => ms[i]?) = [some (heW (gcA X) a S)]) (hn : is.Nodup) (hG : GoodIn Ts (wsV own idx RX2 yX2_has wsX2_has)) (hR : 0 + 1 ≤ fr ∧ 8 + (2 + 11) + 0 ≤ lm) (hst : (st.map fun v => v.category).sum ≤ 8) (hLn : L.length = nL) (d : decode cc pc = .ok (.invokevirtual idx, 3)) (hp : pc + 3 = pc') (h : bd (f_X2_has N S p0) T = some res) (kk : ∀ (r : Int32), T r = some res → G X Q (ms) L (.int r :: st) pc') : G X Q ms L (.int p0 :: .ref (a 0) :: st) pc := by
  obtain ⟨r, h1, h⟩ := ob h
  exact G_callVI C (As := [.int p0]) (c_X2_has (gl X) (gD X) (gcA X) a N S p0 r h1) hG rfl nd_X2_has hR (q0 := 0) rfl rfl hC hn rfl rfl hst hLn d hp (G_ms (rpl_same (mc := [heW (gcA X) a S]) hC) (kk r h))
theorem hi_X2_freeNotesIn_X0 : ∀ w ∈ wsX00, w ∈ wsX2_freeNotesIn := fun w h => List.mem_cons_of_mem _ (List.mem_append_right _ h)
theorem hi_X2_freeNotesIn_X2 : ∀ w ∈ wsX20, w ∈ wsX2_freeNotesIn := fun w h => List.mem_cons_of_mem _ (List.mem_append_left _ (List.mem_append_right _ h))
theorem lk_X2_freeNotesIn_1 : Cond.fieldLink RX2 15 "NoteThemes$Heaps" "notes" "I" ∈ wsX2_freeNotesIn := List.mem_of_getElem? (i := 1) rfl
theorem lk_X2_freeNotesIn_2 : Cond.fieldLink RX2 18 "NoteThemes$Heaps" "heapOf" "[I" ∈ wsX2_freeNotesIn := List.mem_of_getElem? (i := 2) rfl
theorem lk_X2_freeNotesIn_3 : Cond.fieldLink RX2 51 "NoteThemes$Board" "themeOf" "[I" ∈ wsX2_freeNotesIn := List.mem_of_getElem? (i := 3) rfl
def f_X2_freeNotesIn_40 (N : Nat) (S : tS) (B : tS) (p0 : Int32) (k5 : Int32 → Int32 → Option (Int32)) (x3 : Int32) (x4 : Int32) : Option (Int32) := k5 x3 (x4 + 1)
set_option maxRecDepth 100000 in
set_option maxHeartbeats 4000000 in
theorem B_X2_freeNotesIn_40 {X : gX} (C : cx X RX2 cX2_freeNotesIn 5 (some .int) wsX2_freeNotesIn 0 0) (a : Nat → Nat) (b : Nat → Nat) (N : Nat) (S : tS) (B : tS) (p0 : Int32) (r : Int32) (k5 : Int32 → Int32 → Option (Int32)) (hk5 : ∀ (x3 : Int32) (x4 : Int32), k5 x3 x4 = some r → G X (QI X r [heW (gcA X) a S, bdW (gcA X) b B]) [heW (gcA X) a S, bdW (gcA X) b B] [some (.ref (a 0)), some (.int p0), some (.ref (b 0)), some (.int x3), some (.int x4)] [] 5) (x3 : Int32) (x4 : Int32) (h : f_X2_freeNotesIn_40 N S B p0 k5 x3 x4 = some r) : G X (QI X r [heW (gcA X) a S, bdW (gcA X) b B]) [heW (gcA X) a S, bdW (gcA X) b B] [some (.ref (a 0)), some (.int p0), some (.ref (b 0)), some (.int x3), some (.int x4)] [] 40 := by
  unfold f_X2_freeNotesIn_40 at h
  refine g_iinc (pc' := 43) (v := (x4 + 1)) C dX2_freeNotesIn_40 rfl rfl rfl (L' := [some (.ref (a 0)), some (.int p0), some (.ref (b 0)), some (.int x3), some (.int (x4 + 1))]) rfl ?_
  refine g_goto (pc' := 5) C dX2_freeNotesIn_43 (by decide) ?_
  exact G_loc (lle_s (lle_s (lle_s (lle_s (lle_s lle_0))))) (hk5 x3 (x4 + 1) h)
def f_X2_freeNotesIn_5b (N : Nat) (S : tS) (B : tS) (p0 : Int32)  (k5 : Int32 → Int32 → Option (Int32)) (x3 : Int32) (x4 : Int32) : Option (Int32) := (if (S 1 0) ≤ x4 then some x3 else (if x4 < 0 ∨ 20 ≤ x4.toNatClampNeg then none else (if (S 2 x4.toNatClampNeg) = p0 then (if x4 < 0 ∨ 20 ≤ x4.toNatClampNeg then none else (if (B 3 x4.toNatClampNeg) = (-5 : Int32) then f_X2_freeNotesIn_40 N S B p0 k5 (x3 + 1) x4 else f_X2_freeNotesIn_40 N S B p0 k5 x3 x4)) else f_X2_freeNotesIn_40 N S B p0 k5 x3 x4)))
def f_X2_freeNotesIn_5 (N : Nat) (S : tS) (B : tS) (p0 : Int32)  : Nat → Int32 → Int32 → Option (Int32)
  | 0 => fun _ _ => none
  | n + 1 => f_X2_freeNotesIn_5b N S B p0  (f_X2_freeNotesIn_5 N S B p0  n)
set_option maxRecDepth 100000 in
set_option maxHeartbeats 4000000 in
theorem B_X2_freeNotesIn_5b {X : gX} (C : cx X RX2 cX2_freeNotesIn 5 (some .int) wsX2_freeNotesIn 0 0) (a : Nat → Nat) (b : Nat → Nat) (N : Nat) (S : tS) (B : tS) (p0 : Int32) (r : Int32)  (k5 : Int32 → Int32 → Option (Int32)) (hk5 : ∀ (x3 : Int32) (x4 : Int32), k5 x3 x4 = some r → G X (QI X r [heW (gcA X) a S, bdW (gcA X) b B]) [heW (gcA X) a S, bdW (gcA X) b B] [some (.ref (a 0)), some (.int p0), some (.ref (b 0)), some (.int x3), some (.int x4)] [] 5) (x3 : Int32) (x4 : Int32) (h : f_X2_freeNotesIn_5b N S B p0  k5 x3 x4 = some r) : G X (QI X r [heW (gcA X) a S, bdW (gcA X) b B]) [heW (gcA X) a S, bdW (gcA X) b B] [some (.ref (a 0)), some (.int p0), some (.ref (b 0)), some (.int x3), some (.int x4)] [] 5 := by
  unfold f_X2_freeNotesIn_5b at h
  refine g_iload (pc' := 7) C dX2_freeNotesIn_5 rfl rfl ?_
  refine g_aload_n (pc' := 8) C dX2_freeNotesIn_7 rfl rfl ?_
  refine gg_X2_1 (pc' := 11) (i := 0) C rfl hi_X2_freeNotesIn_X2 lk_X2_freeNotesIn_1 dX2_freeNotesIn_8 rfl ?_
  refine g_icmp_ge (pc' := 14) (tgt := 46) C dX2_freeNotesIn_11 (by decide) rfl h (fun c h => ?_) (fun c h => ?_)
  · refine g_iload_n (pc' := 47) C dX2_freeNotesIn_46 rfl rfl ?_
    obtain rfl := Option.some.inj h
    exact g_iret C dX2_freeNotesIn_47
  · refine g_aload_n (pc' := 15) C dX2_freeNotesIn_14 rfl rfl ?_
    refine gg_X2_2 (pc' := 18) (i := 0) C rfl hi_X2_freeNotesIn_X2 lk_X2_freeNotesIn_2 dX2_freeNotesIn_15 rfl ?_
    refine g_iload (pc' := 20) C dX2_freeNotesIn_18 rfl rfl ?_
    refine g_iald (pc' := 21) (i := 0) (j := 1) C rfl rfl dX2_freeNotesIn_20 rfl h (fun h => ?_)
    refine g_iload_n (pc' := 22) C dX2_freeNotesIn_21 rfl rfl ?_
    refine g_icmp_ne (pc' := 25) (tgt := 40) C dX2_freeNotesIn_22 (by decide) rfl h (fun c h => ?_) (fun c h => ?_)
    · refine g_aload_n (pc' := 26) C dX2_freeNotesIn_25 rfl rfl ?_
      refine gg_X0_3 (pc' := 29) (i := 1) C rfl hi_X2_freeNotesIn_X0 lk_X2_freeNotesIn_3 dX2_freeNotesIn_26 rfl ?_
      refine g_iload (pc' := 31) C dX2_freeNotesIn_29 rfl rfl ?_
      refine g_iald (pc' := 32) (i := 1) (j := 3) C rfl rfl dX2_freeNotesIn_31 rfl h (fun h => ?_)
      refine g_bipush (pc' := 34) (v := -5) C dX2_freeNotesIn_32 (by decide) rfl ?_
      refine g_icmp_ne (pc' := 37) (tgt := 40) C dX2_freeNotesIn_34 (by decide) rfl h (fun c h => ?_) (fun c h => ?_)
      · refine g_iinc (pc' := 40) (v := (x3 + 1)) C dX2_freeNotesIn_37 rfl rfl rfl (L' := [some (.ref (a 0)), some (.int p0), some (.ref (b 0)), some (.int (x3 + 1)), some (.int x4)]) rfl ?_
        exact G_loc (lle_s (lle_s (lle_s (lle_s (lle_s lle_0))))) (B_X2_freeNotesIn_40 C a b N S B p0 r k5 hk5 (x3 + 1) x4 h)
      · exact G_loc (lle_s (lle_s (lle_s (lle_s (lle_s lle_0))))) (B_X2_freeNotesIn_40 C a b N S B p0 r k5 hk5 x3 x4 h)
    · exact G_loc (lle_s (lle_s (lle_s (lle_s (lle_s lle_0))))) (B_X2_freeNotesIn_40 C a b N S B p0 r k5 hk5 x3 x4 h)
set_option maxRecDepth 100000 in
set_option maxHeartbeats 4000000 in
theorem L_X2_freeNotesIn_5 {X : gX} (C : cx X RX2 cX2_freeNotesIn 5 (some .int) wsX2_freeNotesIn 0 0) (a : Nat → Nat) (b : Nat → Nat) (N : Nat) (S : tS) (B : tS) (p0 : Int32) (r : Int32)  : ∀ (n : Nat) (x3 : Int32) (x4 : Int32), f_X2_freeNotesIn_5 N S B p0  n x3 x4 = some r → G X (QI X r [heW (gcA X) a S, bdW (gcA X) b B]) [heW (gcA X) a S, bdW (gcA X) b B] [some (.ref (a 0)), some (.int p0), some (.ref (b 0)), some (.int x3), some (.int x4)] [] 5 := by
  intro n
  induction n with
  | zero => intro x3 x4 h; have h : (none : Option (Int32)) = some r := h; cases h
  | succ n ih => intro x3 x4 h; exact B_X2_freeNotesIn_5b C a b N S B p0 r  (f_X2_freeNotesIn_5 N S B p0  n) ih x3 x4 h
def f_X2_freeNotesIn (N : Nat) (S : tS) (B : tS) (p0 : Int32) : Option (Int32) := f_X2_freeNotesIn_5 N S B p0 N (0 : Int32) (0 : Int32)
set_option maxRecDepth 100000 in
set_option maxHeartbeats 4000000 in
theorem B_X2_freeNotesIn {X : gX} (C : cx X RX2 cX2_freeNotesIn 5 (some .int) wsX2_freeNotesIn 0 0) (a : Nat → Nat) (b : Nat → Nat) (N : Nat) (S : tS) (B : tS) (p0 : Int32) (r : Int32) (h : f_X2_freeNotesIn N S B p0 = some r) : G X (QI X r [heW (gcA X) a S, bdW (gcA X) b B]) [heW (gcA X) a S, bdW (gcA X) b B] [some (.ref (a 0)), some (.int p0), some (.ref (b 0)), none, none] [] 0 := by
  unfold f_X2_freeNotesIn at h
  refine g_iconst (pc' := 1) (v := 0) C dX2_freeNotesIn_0 (by decide) rfl ?_
  refine g_istore_n (pc' := 2) C dX2_freeNotesIn_1 (Nat.le_of_ble_eq_true rfl) rfl (L' := [some (.ref (a 0)), some (.int p0), some (.ref (b 0)), some (.int (0 : Int32)), none]) rfl ?_
  refine g_iconst (pc' := 3) (v := 0) C dX2_freeNotesIn_2 (by decide) rfl ?_
  refine g_istore (pc' := 5) C dX2_freeNotesIn_3 (Nat.le_of_ble_eq_true rfl) rfl (L' := [some (.ref (a 0)), some (.int p0), some (.ref (b 0)), some (.int (0 : Int32)), some (.int (0 : Int32))]) rfl ?_
  exact G_loc (lle_s (lle_s (lle_s (lle_s (lle_s lle_0))))) (L_X2_freeNotesIn_5 C a b N S B p0 r N (0 : Int32) (0 : Int32) h)
set_option maxRecDepth 100000 in
set_option maxHeartbeats 4000000 in
theorem c_X2_freeNotesIn (l : Launch) (D : va_G) (cA : Nat → ClassId) (a : Nat → Nat) (b : Nat → Nat) (N : Nat) (S : tS) (B : tS) (p0 : Int32) (r : Int32) (h : f_X2_freeNotesIn N S B p0 = some r) : MI l D cA yX2_freeNotesIn wsX2_freeNotesIn 0 0 [.ref (a 0), .int p0, .ref (b 0)] [heW cA a S, bdW cA b B] r [heW cA a S, bdW cA b B] := MI_of (cc := cX2_freeNotesIn) (maxL := 5) (rt := some .int) (by decide +kernel) rfl (List.forall_mem_cons.mpr ⟨rfl, List.forall_mem_cons.mpr ⟨rfl, List.forall_mem_cons.mpr ⟨rfl, List.forall_mem_nil _⟩⟩⟩) (Nat.le_of_ble_eq_true rfl) (fun X e1 e2 e3 C => by subst e1; subst e2; subst e3; exact B_X2_freeNotesIn C a b N S B p0 r h)
set_option maxRecDepth 100000 in
set_option maxHeartbeats 4000000 in
theorem nd_X2_freeNotesIn : nd yX2_freeNotesIn 2 := ⟨by decide +kernel, by decide +kernel, by decide +kernel⟩
set_option maxRecDepth 100000 in
set_option maxHeartbeats 4000000 in
theorem k_X2_freeNotesIn {X : gX} {own : String} {cc : ByteArray} {nL : Nat} {ret : Option FieldType} {Ts : List Cond} {fr lm : Nat} {Q : State → Prop} {ms : List va_W} {L : List (Option Value)} {st : List Value} {pc pc' idx : Nat} {ρ : Type} {T : Int32 → Option ρ} {res : ρ} (C : cx X own cc nL ret Ts fr lm) (a : Nat → Nat) (b : Nat → Nat) (N : Nat) (S : tS) (B : tS) (p0 : Int32) (is : List Nat) (hC : is.map (fun i => ms[i]?) = [some (heW (gcA X) a S), some (bdW (gcA X) b B)]) (hn : is.Nodup) (hG : GoodIn Ts (wsV own idx RX2 yX2_freeNotesIn wsX2_freeNotesIn)) (hR : 0 + 1 ≤ fr ∧ 8 + (5 + 11) + 0 ≤ lm) (hst : (st.map fun v => v.category).sum ≤ 8) (hLn : L.length = nL) (d : decode cc pc = .ok (.invokevirtual idx, 3)) (hp : pc + 3 = pc') (h : bd (f_X2_freeNotesIn N S B p0) T = some res) (kk : ∀ (r : Int32), T r = some res → G X Q (ms) L (.int r :: st) pc') : G X Q ms L (.ref (b 0) :: .int p0 :: .ref (a 0) :: st) pc := by
  obtain ⟨r, h1, h⟩ := ob h
  exact G_callVI C (As := [.int p0, .ref (b 0)]) (c_X2_freeNotesIn (gl X) (gD X) (gcA X) a b N S B p0 r h1) hG rfl nd_X2_freeNotesIn hR (q0 := 0) rfl rfl hC hn rfl rfl hst hLn d hp (G_ms (rpl_same (mc := [heW (gcA X) a S, bdW (gcA X) b B]) hC) (kk r h))
theorem hi_X2_notesIn_X2 : ∀ w ∈ wsX20, w ∈ wsX2_notesIn := fun w h => List.mem_cons_of_mem _ (List.mem_append_right _ h)
theorem lk_X2_notesIn_1 : Cond.fieldLink RX2 15 "NoteThemes$Heaps" "notes" "I" ∈ wsX2_notesIn := List.mem_of_getElem? (i := 1) rfl
theorem lk_X2_notesIn_2 : Cond.fieldLink RX2 18 "NoteThemes$Heaps" "heapOf" "[I" ∈ wsX2_notesIn := List.mem_of_getElem? (i := 2) rfl
def f_X2_notesIn_25 (N : Nat) (S : tS) (p0 : Int32) (k4 : Int32 → Int32 → Option (Int32)) (x2 : Int32) (x3 : Int32) : Option (Int32) := k4 x2 (x3 + 1)
set_option maxRecDepth 100000 in
set_option maxHeartbeats 4000000 in
theorem B_X2_notesIn_25 {X : gX} (C : cx X RX2 cX2_notesIn 4 (some .int) wsX2_notesIn 0 0) (a : Nat → Nat) (N : Nat) (S : tS) (p0 : Int32) (r : Int32) (k4 : Int32 → Int32 → Option (Int32)) (hk4 : ∀ (x2 : Int32) (x3 : Int32), k4 x2 x3 = some r → G X (QI X r [heW (gcA X) a S]) [heW (gcA X) a S] [some (.ref (a 0)), some (.int p0), some (.int x2), some (.int x3)] [] 4) (x2 : Int32) (x3 : Int32) (h : f_X2_notesIn_25 N S p0 k4 x2 x3 = some r) : G X (QI X r [heW (gcA X) a S]) [heW (gcA X) a S] [some (.ref (a 0)), some (.int p0), some (.int x2), some (.int x3)] [] 25 := by
  unfold f_X2_notesIn_25 at h
  refine g_iinc (pc' := 28) (v := (x3 + 1)) C dX2_notesIn_25 rfl rfl rfl (L' := [some (.ref (a 0)), some (.int p0), some (.int x2), some (.int (x3 + 1))]) rfl ?_
  refine g_goto (pc' := 4) C dX2_notesIn_28 (by decide) ?_
  exact G_loc (lle_s (lle_s (lle_s (lle_s lle_0)))) (hk4 x2 (x3 + 1) h)
def f_X2_notesIn_4b (N : Nat) (S : tS) (p0 : Int32)  (k4 : Int32 → Int32 → Option (Int32)) (x2 : Int32) (x3 : Int32) : Option (Int32) := (if (S 1 0) ≤ x3 then some x2 else (if x3 < 0 ∨ 20 ≤ x3.toNatClampNeg then none else (if (S 2 x3.toNatClampNeg) = p0 then f_X2_notesIn_25 N S p0 k4 (x2 + 1) x3 else f_X2_notesIn_25 N S p0 k4 x2 x3)))
def f_X2_notesIn_4 (N : Nat) (S : tS) (p0 : Int32)  : Nat → Int32 → Int32 → Option (Int32)
  | 0 => fun _ _ => none
  | n + 1 => f_X2_notesIn_4b N S p0  (f_X2_notesIn_4 N S p0  n)
set_option maxRecDepth 100000 in
set_option maxHeartbeats 4000000 in
theorem B_X2_notesIn_4b {X : gX} (C : cx X RX2 cX2_notesIn 4 (some .int) wsX2_notesIn 0 0) (a : Nat → Nat) (N : Nat) (S : tS) (p0 : Int32) (r : Int32)  (k4 : Int32 → Int32 → Option (Int32)) (hk4 : ∀ (x2 : Int32) (x3 : Int32), k4 x2 x3 = some r → G X (QI X r [heW (gcA X) a S]) [heW (gcA X) a S] [some (.ref (a 0)), some (.int p0), some (.int x2), some (.int x3)] [] 4) (x2 : Int32) (x3 : Int32) (h : f_X2_notesIn_4b N S p0  k4 x2 x3 = some r) : G X (QI X r [heW (gcA X) a S]) [heW (gcA X) a S] [some (.ref (a 0)), some (.int p0), some (.int x2), some (.int x3)] [] 4 := by
  unfold f_X2_notesIn_4b at h
  refine g_iload_n (pc' := 5) C dX2_notesIn_4 rfl rfl ?_
  refine g_aload_n (pc' := 6) C dX2_notesIn_5 rfl rfl ?_
  refine gg_X2_1 (pc' := 9) (i := 0) C rfl hi_X2_notesIn_X2 lk_X2_notesIn_1 dX2_notesIn_6 rfl ?_
  refine g_icmp_ge (pc' := 12) (tgt := 31) C dX2_notesIn_9 (by decide) rfl h (fun c h => ?_) (fun c h => ?_)
  · refine g_iload_n (pc' := 32) C dX2_notesIn_31 rfl rfl ?_
    obtain rfl := Option.some.inj h
    exact g_iret C dX2_notesIn_32
  · refine g_aload_n (pc' := 13) C dX2_notesIn_12 rfl rfl ?_
    refine gg_X2_2 (pc' := 16) (i := 0) C rfl hi_X2_notesIn_X2 lk_X2_notesIn_2 dX2_notesIn_13 rfl ?_
    refine g_iload_n (pc' := 17) C dX2_notesIn_16 rfl rfl ?_
    refine g_iald (pc' := 18) (i := 0) (j := 1) C rfl rfl dX2_notesIn_17 rfl h (fun h => ?_)
    refine g_iload_n (pc' := 19) C dX2_notesIn_18 rfl rfl ?_
    refine g_icmp_ne (pc' := 22) (tgt := 25) C dX2_notesIn_19 (by decide) rfl h (fun c h => ?_) (fun c h => ?_)
    · refine g_iinc (pc' := 25) (v := (x2 + 1)) C dX2_notesIn_22 rfl rfl rfl (L' := [some (.ref (a 0)), some (.int p0), some (.int (x2 + 1)), some (.int x3)]) rfl ?_
      exact G_loc (lle_s (lle_s (lle_s (lle_s lle_0)))) (B_X2_notesIn_25 C a N S p0 r k4 hk4 (x2 + 1) x3 h)
    · exact G_loc (lle_s (lle_s (lle_s (lle_s lle_0)))) (B_X2_notesIn_25 C a N S p0 r k4 hk4 x2 x3 h)
set_option maxRecDepth 100000 in
set_option maxHeartbeats 4000000 in
theorem L_X2_notesIn_4 {X : gX} (C : cx X RX2 cX2_notesIn 4 (some .int) wsX2_notesIn 0 0) (a : Nat → Nat) (N : Nat) (S : tS) (p0 : Int32) (r : Int32)  : ∀ (n : Nat) (x2 : Int32) (x3 : Int32), f_X2_notesIn_4 N S p0  n x2 x3 = some r → G X (QI X r [heW (gcA X) a S]) [heW (gcA X) a S] [some (.ref (a 0)), some (.int p0), some (.int x2), some (.int x3)] [] 4 := by
  intro n
  induction n with
  | zero => intro x2 x3 h; have h : (none : Option (Int32)) = some r := h; cases h
  | succ n ih => intro x2 x3 h; exact B_X2_notesIn_4b C a N S p0 r  (f_X2_notesIn_4 N S p0  n) ih x2 x3 h
def f_X2_notesIn (N : Nat) (S : tS) (p0 : Int32) : Option (Int32) := f_X2_notesIn_4 N S p0 N (0 : Int32) (0 : Int32)
set_option maxRecDepth 100000 in
set_option maxHeartbeats 4000000 in
theorem B_X2_notesIn {X : gX} (C : cx X RX2 cX2_notesIn 4 (some .int) wsX2_notesIn 0 0) (a : Nat → Nat) (N : Nat) (S : tS) (p0 : Int32) (r : Int32) (h : f_X2_notesIn N S p0 = some r) : G X (QI X r [heW (gcA X) a S]) [heW (gcA X) a S] [some (.ref (a 0)), some (.int p0), none, none] [] 0 := by
  unfold f_X2_notesIn at h
  refine g_iconst (pc' := 1) (v := 0) C dX2_notesIn_0 (by decide) rfl ?_
  refine g_istore_n (pc' := 2) C dX2_notesIn_1 (Nat.le_of_ble_eq_true rfl) rfl (L' := [some (.ref (a 0)), some (.int p0), some (.int (0 : Int32)), none]) rfl ?_
  refine g_iconst (pc' := 3) (v := 0) C dX2_notesIn_2 (by decide) rfl ?_
  refine g_istore_n (pc' := 4) C dX2_notesIn_3 (Nat.le_of_ble_eq_true rfl) rfl (L' := [some (.ref (a 0)), some (.int p0), some (.int (0 : Int32)), some (.int (0 : Int32))]) rfl ?_
  exact G_loc (lle_s (lle_s (lle_s (lle_s lle_0)))) (L_X2_notesIn_4 C a N S p0 r N (0 : Int32) (0 : Int32) h)
set_option maxRecDepth 100000 in
set_option maxHeartbeats 4000000 in
theorem c_X2_notesIn (l : Launch) (D : va_G) (cA : Nat → ClassId) (a : Nat → Nat) (N : Nat) (S : tS) (p0 : Int32) (r : Int32) (h : f_X2_notesIn N S p0 = some r) : MI l D cA yX2_notesIn wsX2_notesIn 0 0 [.ref (a 0), .int p0] [heW cA a S] r [heW cA a S] := MI_of (cc := cX2_notesIn) (maxL := 4) (rt := some .int) (by decide +kernel) rfl (List.forall_mem_cons.mpr ⟨rfl, List.forall_mem_cons.mpr ⟨rfl, List.forall_mem_nil _⟩⟩) (Nat.le_of_ble_eq_true rfl) (fun X e1 e2 e3 C => by subst e1; subst e2; subst e3; exact B_X2_notesIn C a N S p0 r h)
set_option maxRecDepth 100000 in
set_option maxHeartbeats 4000000 in
theorem nd_X2_notesIn : nd yX2_notesIn 1 := ⟨by decide +kernel, by decide +kernel, by decide +kernel⟩
set_option maxRecDepth 100000 in
set_option maxHeartbeats 4000000 in
theorem k_X2_notesIn {X : gX} {own : String} {cc : ByteArray} {nL : Nat} {ret : Option FieldType} {Ts : List Cond} {fr lm : Nat} {Q : State → Prop} {ms : List va_W} {L : List (Option Value)} {st : List Value} {pc pc' idx : Nat} {ρ : Type} {T : Int32 → Option ρ} {res : ρ} (C : cx X own cc nL ret Ts fr lm) (a : Nat → Nat) (N : Nat) (S : tS) (p0 : Int32) (is : List Nat) (hC : is.map (fun i => ms[i]?) = [some (heW (gcA X) a S)]) (hn : is.Nodup) (hG : GoodIn Ts (wsV own idx RX2 yX2_notesIn wsX2_notesIn)) (hR : 0 + 1 ≤ fr ∧ 8 + (4 + 11) + 0 ≤ lm) (hst : (st.map fun v => v.category).sum ≤ 8) (hLn : L.length = nL) (d : decode cc pc = .ok (.invokevirtual idx, 3)) (hp : pc + 3 = pc') (h : bd (f_X2_notesIn N S p0) T = some res) (kk : ∀ (r : Int32), T r = some res → G X Q (ms) L (.int r :: st) pc') : G X Q ms L (.int p0 :: .ref (a 0) :: st) pc := by
  obtain ⟨r, h1, h⟩ := ob h
  exact G_callVI C (As := [.int p0]) (c_X2_notesIn (gl X) (gD X) (gcA X) a N S p0 r h1) hG rfl nd_X2_notesIn hR (q0 := 0) rfl rfl hC hn rfl rfl hst hLn d hp (G_ms (rpl_same (mc := [heW (gcA X) a S]) hC) (kk r h))
theorem hi_X2_lowestNoteIn_X2 : ∀ w ∈ wsX20, w ∈ wsX2_lowestNoteIn := fun w h => List.mem_cons_of_mem _ (List.mem_append_right _ h)
theorem lk_X2_lowestNoteIn_1 : Cond.fieldLink RX2 15 "NoteThemes$Heaps" "notes" "I" ∈ wsX2_lowestNoteIn := List.mem_of_getElem? (i := 1) rfl
theorem lk_X2_lowestNoteIn_2 : Cond.fieldLink RX2 18 "NoteThemes$Heaps" "heapOf" "[I" ∈ wsX2_lowestNoteIn := List.mem_of_getElem? (i := 2) rfl
def f_X2_lowestNoteIn_2b (N : Nat) (S : tS) (p0 : Int32)  (k2 : Int32 → Option (Int32)) (x2 : Int32) : Option (Int32) := (if (S 1 0) ≤ x2 then some (-5 : Int32) else (if x2 < 0 ∨ 20 ≤ x2.toNatClampNeg then none else (if (S 2 x2.toNatClampNeg) = p0 then some x2 else k2 (x2 + 1))))
def f_X2_lowestNoteIn_2 (N : Nat) (S : tS) (p0 : Int32)  : Nat → Int32 → Option (Int32)
  | 0 => fun _ => none
  | n + 1 => f_X2_lowestNoteIn_2b N S p0  (f_X2_lowestNoteIn_2 N S p0  n)
set_option maxRecDepth 100000 in
set_option maxHeartbeats 4000000 in
theorem B_X2_lowestNoteIn_2b {X : gX} (C : cx X RX2 cX2_lowestNoteIn 3 (some .int) wsX2_lowestNoteIn 0 0) (a : Nat → Nat) (N : Nat) (S : tS) (p0 : Int32) (r : Int32)  (k2 : Int32 → Option (Int32)) (hk2 : ∀ (x2 : Int32), k2 x2 = some r → G X (QI X r [heW (gcA X) a S]) [heW (gcA X) a S] [some (.ref (a 0)), some (.int p0), some (.int x2)] [] 2) (x2 : Int32) (h : f_X2_lowestNoteIn_2b N S p0  k2 x2 = some r) : G X (QI X r [heW (gcA X) a S]) [heW (gcA X) a S] [some (.ref (a 0)), some (.int p0), some (.int x2)] [] 2 := by
  unfold f_X2_lowestNoteIn_2b at h
  refine g_iload_n (pc' := 3) C dX2_lowestNoteIn_2 rfl rfl ?_
  refine g_aload_n (pc' := 4) C dX2_lowestNoteIn_3 rfl rfl ?_
  refine gg_X2_1 (pc' := 7) (i := 0) C rfl hi_X2_lowestNoteIn_X2 lk_X2_lowestNoteIn_1 dX2_lowestNoteIn_4 rfl ?_
  refine g_icmp_ge (pc' := 10) (tgt := 28) C dX2_lowestNoteIn_7 (by decide) rfl h (fun c h => ?_) (fun c h => ?_)
  · refine g_bipush (pc' := 30) (v := -5) C dX2_lowestNoteIn_28 (by decide) rfl ?_
    obtain rfl := Option.some.inj h
    exact g_iret C dX2_lowestNoteIn_30
  · refine g_aload_n (pc' := 11) C dX2_lowestNoteIn_10 rfl rfl ?_
    refine gg_X2_2 (pc' := 14) (i := 0) C rfl hi_X2_lowestNoteIn_X2 lk_X2_lowestNoteIn_2 dX2_lowestNoteIn_11 rfl ?_
    refine g_iload_n (pc' := 15) C dX2_lowestNoteIn_14 rfl rfl ?_
    refine g_iald (pc' := 16) (i := 0) (j := 1) C rfl rfl dX2_lowestNoteIn_15 rfl h (fun h => ?_)
    refine g_iload_n (pc' := 17) C dX2_lowestNoteIn_16 rfl rfl ?_
    refine g_icmp_ne (pc' := 20) (tgt := 22) C dX2_lowestNoteIn_17 (by decide) rfl h (fun c h => ?_) (fun c h => ?_)
    · refine g_iload_n (pc' := 21) C dX2_lowestNoteIn_20 rfl rfl ?_
      obtain rfl := Option.some.inj h
      exact g_iret C dX2_lowestNoteIn_21
    · refine g_iinc (pc' := 25) (v := (x2 + 1)) C dX2_lowestNoteIn_22 rfl rfl rfl (L' := [some (.ref (a 0)), some (.int p0), some (.int (x2 + 1))]) rfl ?_
      refine g_goto (pc' := 2) C dX2_lowestNoteIn_25 (by decide) ?_
      exact G_loc (lle_s (lle_s (lle_s lle_0))) (hk2 (x2 + 1) h)
set_option maxRecDepth 100000 in
set_option maxHeartbeats 4000000 in
theorem L_X2_lowestNoteIn_2 {X : gX} (C : cx X RX2 cX2_lowestNoteIn 3 (some .int) wsX2_lowestNoteIn 0 0) (a : Nat → Nat) (N : Nat) (S : tS) (p0 : Int32) (r : Int32)  : ∀ (n : Nat) (x2 : Int32), f_X2_lowestNoteIn_2 N S p0  n x2 = some r → G X (QI X r [heW (gcA X) a S]) [heW (gcA X) a S] [some (.ref (a 0)), some (.int p0), some (.int x2)] [] 2 := by
  intro n
  induction n with
  | zero => intro x2 h; have h : (none : Option (Int32)) = some r := h; cases h
  | succ n ih => intro x2 h; exact B_X2_lowestNoteIn_2b C a N S p0 r  (f_X2_lowestNoteIn_2 N S p0  n) ih x2 h
def f_X2_lowestNoteIn (N : Nat) (S : tS) (p0 : Int32) : Option (Int32) := f_X2_lowestNoteIn_2 N S p0 N (0 : Int32)
set_option maxRecDepth 100000 in
set_option maxHeartbeats 4000000 in
theorem B_X2_lowestNoteIn {X : gX} (C : cx X RX2 cX2_lowestNoteIn 3 (some .int) wsX2_lowestNoteIn 0 0) (a : Nat → Nat) (N : Nat) (S : tS) (p0 : Int32) (r : Int32) (h : f_X2_lowestNoteIn N S p0 = some r) : G X (QI X r [heW (gcA X) a S]) [heW (gcA X) a S] [some (.ref (a 0)), some (.int p0), none] [] 0 := by
  unfold f_X2_lowestNoteIn at h
  refine g_iconst (pc' := 1) (v := 0) C dX2_lowestNoteIn_0 (by decide) rfl ?_
  refine g_istore_n (pc' := 2) C dX2_lowestNoteIn_1 (Nat.le_of_ble_eq_true rfl) rfl (L' := [some (.ref (a 0)), some (.int p0), some (.int (0 : Int32))]) rfl ?_
  exact G_loc (lle_s (lle_s (lle_s lle_0))) (L_X2_lowestNoteIn_2 C a N S p0 r N (0 : Int32) h)
set_option maxRecDepth 100000 in
set_option maxHeartbeats 4000000 in
theorem c_X2_lowestNoteIn (l : Launch) (D : va_G) (cA : Nat → ClassId) (a : Nat → Nat) (N : Nat) (S : tS) (p0 : Int32) (r : Int32) (h : f_X2_lowestNoteIn N S p0 = some r) : MI l D cA yX2_lowestNoteIn wsX2_lowestNoteIn 0 0 [.ref (a 0), .int p0] [heW cA a S] r [heW cA a S] := MI_of (cc := cX2_lowestNoteIn) (maxL := 3) (rt := some .int) (by decide +kernel) rfl (List.forall_mem_cons.mpr ⟨rfl, List.forall_mem_cons.mpr ⟨rfl, List.forall_mem_nil _⟩⟩) (Nat.le_of_ble_eq_true rfl) (fun X e1 e2 e3 C => by subst e1; subst e2; subst e3; exact B_X2_lowestNoteIn C a N S p0 r h)
set_option maxRecDepth 100000 in
set_option maxHeartbeats 4000000 in
theorem nd_X2_lowestNoteIn : nd yX2_lowestNoteIn 1 := ⟨by decide +kernel, by decide +kernel, by decide +kernel⟩
set_option maxRecDepth 100000 in
set_option maxHeartbeats 4000000 in
theorem k_X2_lowestNoteIn {X : gX} {own : String} {cc : ByteArray} {nL : Nat} {ret : Option FieldType} {Ts : List Cond} {fr lm : Nat} {Q : State → Prop} {ms : List va_W} {L : List (Option Value)} {st : List Value} {pc pc' idx : Nat} {ρ : Type} {T : Int32 → Option ρ} {res : ρ} (C : cx X own cc nL ret Ts fr lm) (a : Nat → Nat) (N : Nat) (S : tS) (p0 : Int32) (is : List Nat) (hC : is.map (fun i => ms[i]?) = [some (heW (gcA X) a S)]) (hn : is.Nodup) (hG : GoodIn Ts (wsV own idx RX2 yX2_lowestNoteIn wsX2_lowestNoteIn)) (hR : 0 + 1 ≤ fr ∧ 8 + (3 + 11) + 0 ≤ lm) (hst : (st.map fun v => v.category).sum ≤ 8) (hLn : L.length = nL) (d : decode cc pc = .ok (.invokevirtual idx, 3)) (hp : pc + 3 = pc') (h : bd (f_X2_lowestNoteIn N S p0) T = some res) (kk : ∀ (r : Int32), T r = some res → G X Q (ms) L (.int r :: st) pc') : G X Q ms L (.int p0 :: .ref (a 0) :: st) pc := by
  obtain ⟨r, h1, h⟩ := ob h
  exact G_callVI C (As := [.int p0]) (c_X2_lowestNoteIn (gl X) (gD X) (gcA X) a N S p0 r h1) hG rfl nd_X2_lowestNoteIn hR (q0 := 0) rfl rfl hC hn rfl rfl hst hLn d hp (G_ms (rpl_same (mc := [heW (gcA X) a S]) hC) (kk r h))
theorem hi_X2_dotsIn_X2 : ∀ w ∈ wsX20, w ∈ wsX2_dotsIn := fun w h => List.mem_cons_of_mem _ (List.mem_append_left _ (List.mem_append_right _ h))
theorem lk_X2_dotsIn_1 : Cond.fieldLink RX2 15 "NoteThemes$Heaps" "notes" "I" ∈ wsX2_dotsIn := List.mem_of_getElem? (i := 1) rfl
theorem lk_X2_dotsIn_2 : Cond.fieldLink RX2 18 "NoteThemes$Heaps" "heapOf" "[I" ∈ wsX2_dotsIn := List.mem_of_getElem? (i := 2) rfl
def f_X2_dotsIn_34 (N : Nat) (S : tS) (B : tS) (p0 : Int32) (k5 : Int32 → Int32 → Option (Int32)) (x3 : Int32) (x4 : Int32) : Option (Int32) := k5 x3 (x4 + 1)
set_option maxRecDepth 100000 in
set_option maxHeartbeats 4000000 in
theorem B_X2_dotsIn_34 {X : gX} (C : cx X RX2 cX2_dotsIn 5 (some .int) wsX2_dotsIn 2 45) (a : Nat → Nat) (b : Nat → Nat) (N : Nat) (S : tS) (B : tS) (p0 : Int32) (r : Int32) (k5 : Int32 → Int32 → Option (Int32)) (hk5 : ∀ (x3 : Int32) (x4 : Int32), k5 x3 x4 = some r → G X (QI X r [heW (gcA X) a S, bdW (gcA X) b B]) [heW (gcA X) a S, bdW (gcA X) b B] [some (.ref (a 0)), some (.int p0), some (.ref (b 0)), some (.int x3), some (.int x4)] [] 5) (x3 : Int32) (x4 : Int32) (h : f_X2_dotsIn_34 N S B p0 k5 x3 x4 = some r) : G X (QI X r [heW (gcA X) a S, bdW (gcA X) b B]) [heW (gcA X) a S, bdW (gcA X) b B] [some (.ref (a 0)), some (.int p0), some (.ref (b 0)), some (.int x3), some (.int x4)] [] 34 := by
  unfold f_X2_dotsIn_34 at h
  refine g_iinc (pc' := 37) (v := (x4 + 1)) C dX2_dotsIn_34 rfl rfl rfl (L' := [some (.ref (a 0)), some (.int p0), some (.ref (b 0)), some (.int x3), some (.int (x4 + 1))]) rfl ?_
  refine g_goto (pc' := 5) C dX2_dotsIn_37 (by decide) ?_
  exact G_loc (lle_s (lle_s (lle_s (lle_s (lle_s lle_0))))) (hk5 x3 (x4 + 1) h)
def f_X2_dotsIn_5b (N : Nat) (S : tS) (B : tS) (p0 : Int32)  (k5 : Int32 → Int32 → Option (Int32)) (x3 : Int32) (x4 : Int32) : Option (Int32) := (if (S 1 0) ≤ x4 then some x3 else (if x4 < 0 ∨ 20 ≤ x4.toNatClampNeg then none else (if (S 2 x4.toNatClampNeg) = p0 then (bd (f_X0_dotsOn N B x4) (fun r1 => f_X2_dotsIn_34 N S B p0 k5 (x3 + r1) x4)) else f_X2_dotsIn_34 N S B p0 k5 x3 x4)))
def f_X2_dotsIn_5 (N : Nat) (S : tS) (B : tS) (p0 : Int32)  : Nat → Int32 → Int32 → Option (Int32)
  | 0 => fun _ _ => none
  | n + 1 => f_X2_dotsIn_5b N S B p0  (f_X2_dotsIn_5 N S B p0  n)
set_option maxRecDepth 100000 in
set_option maxHeartbeats 4000000 in
theorem B_X2_dotsIn_5b {X : gX} (C : cx X RX2 cX2_dotsIn 5 (some .int) wsX2_dotsIn 2 45) (a : Nat → Nat) (b : Nat → Nat) (N : Nat) (S : tS) (B : tS) (p0 : Int32) (r : Int32)  (k5 : Int32 → Int32 → Option (Int32)) (hk5 : ∀ (x3 : Int32) (x4 : Int32), k5 x3 x4 = some r → G X (QI X r [heW (gcA X) a S, bdW (gcA X) b B]) [heW (gcA X) a S, bdW (gcA X) b B] [some (.ref (a 0)), some (.int p0), some (.ref (b 0)), some (.int x3), some (.int x4)] [] 5) (x3 : Int32) (x4 : Int32) (h : f_X2_dotsIn_5b N S B p0  k5 x3 x4 = some r) : G X (QI X r [heW (gcA X) a S, bdW (gcA X) b B]) [heW (gcA X) a S, bdW (gcA X) b B] [some (.ref (a 0)), some (.int p0), some (.ref (b 0)), some (.int x3), some (.int x4)] [] 5 := by
  unfold f_X2_dotsIn_5b at h
  refine g_iload (pc' := 7) C dX2_dotsIn_5 rfl rfl ?_
  refine g_aload_n (pc' := 8) C dX2_dotsIn_7 rfl rfl ?_
  refine gg_X2_1 (pc' := 11) (i := 0) C rfl hi_X2_dotsIn_X2 lk_X2_dotsIn_1 dX2_dotsIn_8 rfl ?_
  refine g_icmp_ge (pc' := 14) (tgt := 40) C dX2_dotsIn_11 (by decide) rfl h (fun c h => ?_) (fun c h => ?_)
  · refine g_iload_n (pc' := 41) C dX2_dotsIn_40 rfl rfl ?_
    obtain rfl := Option.some.inj h
    exact g_iret C dX2_dotsIn_41
  · refine g_aload_n (pc' := 15) C dX2_dotsIn_14 rfl rfl ?_
    refine gg_X2_2 (pc' := 18) (i := 0) C rfl hi_X2_dotsIn_X2 lk_X2_dotsIn_2 dX2_dotsIn_15 rfl ?_
    refine g_iload (pc' := 20) C dX2_dotsIn_18 rfl rfl ?_
    refine g_iald (pc' := 21) (i := 0) (j := 1) C rfl rfl dX2_dotsIn_20 rfl h (fun h => ?_)
    refine g_iload_n (pc' := 22) C dX2_dotsIn_21 rfl rfl ?_
    refine g_icmp_ne (pc' := 25) (tgt := 34) C dX2_dotsIn_22 (by decide) rfl h (fun c h => ?_) (fun c h => ?_)
    · refine g_iload_n (pc' := 26) C dX2_dotsIn_25 rfl rfl ?_
      refine g_aload_n (pc' := 27) C dX2_dotsIn_26 rfl rfl ?_
      refine g_iload (pc' := 29) C dX2_dotsIn_27 rfl rfl ?_
      refine k_X0_dotsOn (pc' := 32) C b N B x4 [1] rfl (by decide) gX2_dotsIn_X0_dotsOn ⟨Nat.le_of_ble_eq_true rfl, Nat.le_of_ble_eq_true rfl⟩ (Nat.le_of_ble_eq_true rfl) rfl dX2_dotsIn_29 rfl h (fun r1 h => ?_)
      refine g_iadd (pc' := 33) C dX2_dotsIn_32 rfl ?_
      refine g_istore_n (pc' := 34) C dX2_dotsIn_33 (Nat.le_of_ble_eq_true rfl) rfl (L' := [some (.ref (a 0)), some (.int p0), some (.ref (b 0)), some (.int (x3 + r1)), some (.int x4)]) rfl ?_
      exact G_loc (lle_s (lle_s (lle_s (lle_s (lle_s lle_0))))) (B_X2_dotsIn_34 C a b N S B p0 r k5 hk5 (x3 + r1) x4 h)
    · exact G_loc (lle_s (lle_s (lle_s (lle_s (lle_s lle_0))))) (B_X2_dotsIn_34 C a b N S B p0 r k5 hk5 x3 x4 h)
set_option maxRecDepth 100000 in
set_option maxHeartbeats 4000000 in
theorem L_X2_dotsIn_5 {X : gX} (C : cx X RX2 cX2_dotsIn 5 (some .int) wsX2_dotsIn 2 45) (a : Nat → Nat) (b : Nat → Nat) (N : Nat) (S : tS) (B : tS) (p0 : Int32) (r : Int32)  : ∀ (n : Nat) (x3 : Int32) (x4 : Int32), f_X2_dotsIn_5 N S B p0  n x3 x4 = some r → G X (QI X r [heW (gcA X) a S, bdW (gcA X) b B]) [heW (gcA X) a S, bdW (gcA X) b B] [some (.ref (a 0)), some (.int p0), some (.ref (b 0)), some (.int x3), some (.int x4)] [] 5 := by
  intro n
  induction n with
  | zero => intro x3 x4 h; have h : (none : Option (Int32)) = some r := h; cases h
  | succ n ih => intro x3 x4 h; exact B_X2_dotsIn_5b C a b N S B p0 r  (f_X2_dotsIn_5 N S B p0  n) ih x3 x4 h
def f_X2_dotsIn (N : Nat) (S : tS) (B : tS) (p0 : Int32) : Option (Int32) := f_X2_dotsIn_5 N S B p0 N (0 : Int32) (0 : Int32)
set_option maxRecDepth 100000 in
set_option maxHeartbeats 4000000 in
theorem B_X2_dotsIn {X : gX} (C : cx X RX2 cX2_dotsIn 5 (some .int) wsX2_dotsIn 2 45) (a : Nat → Nat) (b : Nat → Nat) (N : Nat) (S : tS) (B : tS) (p0 : Int32) (r : Int32) (h : f_X2_dotsIn N S B p0 = some r) : G X (QI X r [heW (gcA X) a S, bdW (gcA X) b B]) [heW (gcA X) a S, bdW (gcA X) b B] [some (.ref (a 0)), some (.int p0), some (.ref (b 0)), none, none] [] 0 := by
  unfold f_X2_dotsIn at h
  refine g_iconst (pc' := 1) (v := 0) C dX2_dotsIn_0 (by decide) rfl ?_
  refine g_istore_n (pc' := 2) C dX2_dotsIn_1 (Nat.le_of_ble_eq_true rfl) rfl (L' := [some (.ref (a 0)), some (.int p0), some (.ref (b 0)), some (.int (0 : Int32)), none]) rfl ?_
  refine g_iconst (pc' := 3) (v := 0) C dX2_dotsIn_2 (by decide) rfl ?_
  refine g_istore (pc' := 5) C dX2_dotsIn_3 (Nat.le_of_ble_eq_true rfl) rfl (L' := [some (.ref (a 0)), some (.int p0), some (.ref (b 0)), some (.int (0 : Int32)), some (.int (0 : Int32))]) rfl ?_
  exact G_loc (lle_s (lle_s (lle_s (lle_s (lle_s lle_0))))) (L_X2_dotsIn_5 C a b N S B p0 r N (0 : Int32) (0 : Int32) h)
set_option maxRecDepth 100000 in
set_option maxHeartbeats 4000000 in
theorem c_X2_dotsIn (l : Launch) (D : va_G) (cA : Nat → ClassId) (a : Nat → Nat) (b : Nat → Nat) (N : Nat) (S : tS) (B : tS) (p0 : Int32) (r : Int32) (h : f_X2_dotsIn N S B p0 = some r) : MI l D cA yX2_dotsIn wsX2_dotsIn 2 45 [.ref (a 0), .int p0, .ref (b 0)] [heW cA a S, bdW cA b B] r [heW cA a S, bdW cA b B] := MI_of (cc := cX2_dotsIn) (maxL := 5) (rt := some .int) (by decide +kernel) rfl (List.forall_mem_cons.mpr ⟨rfl, List.forall_mem_cons.mpr ⟨rfl, List.forall_mem_cons.mpr ⟨rfl, List.forall_mem_nil _⟩⟩⟩) (Nat.le_of_ble_eq_true rfl) (fun X e1 e2 e3 C => by subst e1; subst e2; subst e3; exact B_X2_dotsIn C a b N S B p0 r h)
set_option maxRecDepth 100000 in
set_option maxHeartbeats 4000000 in
theorem nd_X2_dotsIn : nd yX2_dotsIn 2 := ⟨by decide +kernel, by decide +kernel, by decide +kernel⟩
set_option maxRecDepth 100000 in
set_option maxHeartbeats 4000000 in
theorem k_X2_dotsIn {X : gX} {own : String} {cc : ByteArray} {nL : Nat} {ret : Option FieldType} {Ts : List Cond} {fr lm : Nat} {Q : State → Prop} {ms : List va_W} {L : List (Option Value)} {st : List Value} {pc pc' idx : Nat} {ρ : Type} {T : Int32 → Option ρ} {res : ρ} (C : cx X own cc nL ret Ts fr lm) (a : Nat → Nat) (b : Nat → Nat) (N : Nat) (S : tS) (B : tS) (p0 : Int32) (is : List Nat) (hC : is.map (fun i => ms[i]?) = [some (heW (gcA X) a S), some (bdW (gcA X) b B)]) (hn : is.Nodup) (hG : GoodIn Ts (wsV own idx RX2 yX2_dotsIn wsX2_dotsIn)) (hR : 2 + 1 ≤ fr ∧ 8 + (5 + 11) + 45 ≤ lm) (hst : (st.map fun v => v.category).sum ≤ 8) (hLn : L.length = nL) (d : decode cc pc = .ok (.invokevirtual idx, 3)) (hp : pc + 3 = pc') (h : bd (f_X2_dotsIn N S B p0) T = some res) (kk : ∀ (r : Int32), T r = some res → G X Q (ms) L (.int r :: st) pc') : G X Q ms L (.ref (b 0) :: .int p0 :: .ref (a 0) :: st) pc := by
  obtain ⟨r, h1, h⟩ := ob h
  exact G_callVI C (As := [.int p0, .ref (b 0)]) (c_X2_dotsIn (gl X) (gD X) (gcA X) a b N S B p0 r h1) hG rfl nd_X2_dotsIn hR (q0 := 0) rfl rfl hC hn rfl rfl hst hLn d hp (G_ms (rpl_same (mc := [heW (gcA X) a S, bdW (gcA X) b B]) hC) (kk r h))
theorem hi_X2_distancesTo_X2 : ∀ w ∈ wsX20, w ∈ wsX2_distancesTo := fun w h => List.mem_cons_of_mem _ (List.mem_append_left _ (List.mem_append_right _ h))
theorem lk_X2_distancesTo_1 : Cond.fieldLink RX2 15 "NoteThemes$Heaps" "notes" "I" ∈ wsX2_distancesTo := List.mem_of_getElem? (i := 1) rfl
theorem lk_X2_distancesTo_2 : Cond.fieldLink RX2 18 "NoteThemes$Heaps" "heapOf" "[I" ∈ wsX2_distancesTo := List.mem_of_getElem? (i := 2) rfl
def f_X2_distancesTo_40 (N : Nat) (S : tS) (B : tS) (p0 : Int32) (k5 : Int32 → Int32 → Option (Int32)) (x3 : Int32) (x4 : Int32) : Option (Int32) := k5 x3 (x4 + 1)
set_option maxRecDepth 100000 in
set_option maxHeartbeats 4000000 in
theorem B_X2_distancesTo_40 {X : gX} (C : cx X RX2 cX2_distancesTo 5 (some .int) wsX2_distancesTo 2 43) (a : Nat → Nat) (b : Nat → Nat) (N : Nat) (S : tS) (B : tS) (p0 : Int32) (r : Int32) (k5 : Int32 → Int32 → Option (Int32)) (hk5 : ∀ (x3 : Int32) (x4 : Int32), k5 x3 x4 = some r → G X (QI X r [heW (gcA X) a S, bdW (gcA X) b B]) [heW (gcA X) a S, bdW (gcA X) b B] [some (.ref (a 0)), some (.int p0), some (.ref (b 0)), some (.int x3), some (.int x4)] [] 5) (x3 : Int32) (x4 : Int32) (h : f_X2_distancesTo_40 N S B p0 k5 x3 x4 = some r) : G X (QI X r [heW (gcA X) a S, bdW (gcA X) b B]) [heW (gcA X) a S, bdW (gcA X) b B] [some (.ref (a 0)), some (.int p0), some (.ref (b 0)), some (.int x3), some (.int x4)] [] 40 := by
  unfold f_X2_distancesTo_40 at h
  refine g_iinc (pc' := 43) (v := (x4 + 1)) C dX2_distancesTo_40 rfl rfl rfl (L' := [some (.ref (a 0)), some (.int p0), some (.ref (b 0)), some (.int x3), some (.int (x4 + 1))]) rfl ?_
  refine g_goto (pc' := 5) C dX2_distancesTo_43 (by decide) ?_
  exact G_loc (lle_s (lle_s (lle_s (lle_s (lle_s lle_0))))) (hk5 x3 (x4 + 1) h)
def f_X2_distancesTo_5b (N : Nat) (S : tS) (B : tS) (p0 : Int32)  (k5 : Int32 → Int32 → Option (Int32)) (x3 : Int32) (x4 : Int32) : Option (Int32) := (if (S 1 0) ≤ x4 then some x3 else (if x4 < 0 ∨ 20 ≤ x4.toNatClampNeg then none else (if p0 < 0 ∨ 20 ≤ p0.toNatClampNeg then none else (if (S 2 x4.toNatClampNeg) = (S 2 p0.toNatClampNeg) then (bd (f_X0_distance N B p0 x4) (fun r1 => f_X2_distancesTo_40 N S B p0 k5 (x3 + r1) x4)) else f_X2_distancesTo_40 N S B p0 k5 x3 x4))))
def f_X2_distancesTo_5 (N : Nat) (S : tS) (B : tS) (p0 : Int32)  : Nat → Int32 → Int32 → Option (Int32)
  | 0 => fun _ _ => none
  | n + 1 => f_X2_distancesTo_5b N S B p0  (f_X2_distancesTo_5 N S B p0  n)
set_option maxRecDepth 100000 in
set_option maxHeartbeats 4000000 in
theorem B_X2_distancesTo_5b {X : gX} (C : cx X RX2 cX2_distancesTo 5 (some .int) wsX2_distancesTo 2 43) (a : Nat → Nat) (b : Nat → Nat) (N : Nat) (S : tS) (B : tS) (p0 : Int32) (r : Int32)  (k5 : Int32 → Int32 → Option (Int32)) (hk5 : ∀ (x3 : Int32) (x4 : Int32), k5 x3 x4 = some r → G X (QI X r [heW (gcA X) a S, bdW (gcA X) b B]) [heW (gcA X) a S, bdW (gcA X) b B] [some (.ref (a 0)), some (.int p0), some (.ref (b 0)), some (.int x3), some (.int x4)] [] 5) (x3 : Int32) (x4 : Int32) (h : f_X2_distancesTo_5b N S B p0  k5 x3 x4 = some r) : G X (QI X r [heW (gcA X) a S, bdW (gcA X) b B]) [heW (gcA X) a S, bdW (gcA X) b B] [some (.ref (a 0)), some (.int p0), some (.ref (b 0)), some (.int x3), some (.int x4)] [] 5 := by
  unfold f_X2_distancesTo_5b at h
  refine g_iload (pc' := 7) C dX2_distancesTo_5 rfl rfl ?_
  refine g_aload_n (pc' := 8) C dX2_distancesTo_7 rfl rfl ?_
  refine gg_X2_1 (pc' := 11) (i := 0) C rfl hi_X2_distancesTo_X2 lk_X2_distancesTo_1 dX2_distancesTo_8 rfl ?_
  refine g_icmp_ge (pc' := 14) (tgt := 46) C dX2_distancesTo_11 (by decide) rfl h (fun c h => ?_) (fun c h => ?_)
  · refine g_iload_n (pc' := 47) C dX2_distancesTo_46 rfl rfl ?_
    obtain rfl := Option.some.inj h
    exact g_iret C dX2_distancesTo_47
  · refine g_aload_n (pc' := 15) C dX2_distancesTo_14 rfl rfl ?_
    refine gg_X2_2 (pc' := 18) (i := 0) C rfl hi_X2_distancesTo_X2 lk_X2_distancesTo_2 dX2_distancesTo_15 rfl ?_
    refine g_iload (pc' := 20) C dX2_distancesTo_18 rfl rfl ?_
    refine g_iald (pc' := 21) (i := 0) (j := 1) C rfl rfl dX2_distancesTo_20 rfl h (fun h => ?_)
    refine g_aload_n (pc' := 22) C dX2_distancesTo_21 rfl rfl ?_
    refine gg_X2_2 (pc' := 25) (i := 0) C rfl hi_X2_distancesTo_X2 lk_X2_distancesTo_2 dX2_distancesTo_22 rfl ?_
    refine g_iload_n (pc' := 26) C dX2_distancesTo_25 rfl rfl ?_
    refine g_iald (pc' := 27) (i := 0) (j := 1) C rfl rfl dX2_distancesTo_26 rfl h (fun h => ?_)
    refine g_icmp_ne (pc' := 30) (tgt := 40) C dX2_distancesTo_27 (by decide) rfl h (fun c h => ?_) (fun c h => ?_)
    · refine g_iload_n (pc' := 31) C dX2_distancesTo_30 rfl rfl ?_
      refine g_aload_n (pc' := 32) C dX2_distancesTo_31 rfl rfl ?_
      refine g_iload_n (pc' := 33) C dX2_distancesTo_32 rfl rfl ?_
      refine g_iload (pc' := 35) C dX2_distancesTo_33 rfl rfl ?_
      refine k_X0_distance (pc' := 38) C b N B p0 x4 [1] rfl (by decide) gX2_distancesTo_X0_distance ⟨Nat.le_of_ble_eq_true rfl, Nat.le_of_ble_eq_true rfl⟩ (Nat.le_of_ble_eq_true rfl) rfl dX2_distancesTo_35 rfl h (fun r1 h => ?_)
      refine g_iadd (pc' := 39) C dX2_distancesTo_38 rfl ?_
      refine g_istore_n (pc' := 40) C dX2_distancesTo_39 (Nat.le_of_ble_eq_true rfl) rfl (L' := [some (.ref (a 0)), some (.int p0), some (.ref (b 0)), some (.int (x3 + r1)), some (.int x4)]) rfl ?_
      exact G_loc (lle_s (lle_s (lle_s (lle_s (lle_s lle_0))))) (B_X2_distancesTo_40 C a b N S B p0 r k5 hk5 (x3 + r1) x4 h)
    · exact G_loc (lle_s (lle_s (lle_s (lle_s (lle_s lle_0))))) (B_X2_distancesTo_40 C a b N S B p0 r k5 hk5 x3 x4 h)
set_option maxRecDepth 100000 in
set_option maxHeartbeats 4000000 in
theorem L_X2_distancesTo_5 {X : gX} (C : cx X RX2 cX2_distancesTo 5 (some .int) wsX2_distancesTo 2 43) (a : Nat → Nat) (b : Nat → Nat) (N : Nat) (S : tS) (B : tS) (p0 : Int32) (r : Int32)  : ∀ (n : Nat) (x3 : Int32) (x4 : Int32), f_X2_distancesTo_5 N S B p0  n x3 x4 = some r → G X (QI X r [heW (gcA X) a S, bdW (gcA X) b B]) [heW (gcA X) a S, bdW (gcA X) b B] [some (.ref (a 0)), some (.int p0), some (.ref (b 0)), some (.int x3), some (.int x4)] [] 5 := by
  intro n
  induction n with
  | zero => intro x3 x4 h; have h : (none : Option (Int32)) = some r := h; cases h
  | succ n ih => intro x3 x4 h; exact B_X2_distancesTo_5b C a b N S B p0 r  (f_X2_distancesTo_5 N S B p0  n) ih x3 x4 h
def f_X2_distancesTo (N : Nat) (S : tS) (B : tS) (p0 : Int32) : Option (Int32) := f_X2_distancesTo_5 N S B p0 N (0 : Int32) (0 : Int32)
set_option maxRecDepth 100000 in
set_option maxHeartbeats 4000000 in
theorem B_X2_distancesTo {X : gX} (C : cx X RX2 cX2_distancesTo 5 (some .int) wsX2_distancesTo 2 43) (a : Nat → Nat) (b : Nat → Nat) (N : Nat) (S : tS) (B : tS) (p0 : Int32) (r : Int32) (h : f_X2_distancesTo N S B p0 = some r) : G X (QI X r [heW (gcA X) a S, bdW (gcA X) b B]) [heW (gcA X) a S, bdW (gcA X) b B] [some (.ref (a 0)), some (.int p0), some (.ref (b 0)), none, none] [] 0 := by
  unfold f_X2_distancesTo at h
  refine g_iconst (pc' := 1) (v := 0) C dX2_distancesTo_0 (by decide) rfl ?_
  refine g_istore_n (pc' := 2) C dX2_distancesTo_1 (Nat.le_of_ble_eq_true rfl) rfl (L' := [some (.ref (a 0)), some (.int p0), some (.ref (b 0)), some (.int (0 : Int32)), none]) rfl ?_
  refine g_iconst (pc' := 3) (v := 0) C dX2_distancesTo_2 (by decide) rfl ?_
  refine g_istore (pc' := 5) C dX2_distancesTo_3 (Nat.le_of_ble_eq_true rfl) rfl (L' := [some (.ref (a 0)), some (.int p0), some (.ref (b 0)), some (.int (0 : Int32)), some (.int (0 : Int32))]) rfl ?_
  exact G_loc (lle_s (lle_s (lle_s (lle_s (lle_s lle_0))))) (L_X2_distancesTo_5 C a b N S B p0 r N (0 : Int32) (0 : Int32) h)
set_option maxRecDepth 100000 in
set_option maxHeartbeats 4000000 in
theorem c_X2_distancesTo (l : Launch) (D : va_G) (cA : Nat → ClassId) (a : Nat → Nat) (b : Nat → Nat) (N : Nat) (S : tS) (B : tS) (p0 : Int32) (r : Int32) (h : f_X2_distancesTo N S B p0 = some r) : MI l D cA yX2_distancesTo wsX2_distancesTo 2 43 [.ref (a 0), .int p0, .ref (b 0)] [heW cA a S, bdW cA b B] r [heW cA a S, bdW cA b B] := MI_of (cc := cX2_distancesTo) (maxL := 5) (rt := some .int) (by decide +kernel) rfl (List.forall_mem_cons.mpr ⟨rfl, List.forall_mem_cons.mpr ⟨rfl, List.forall_mem_cons.mpr ⟨rfl, List.forall_mem_nil _⟩⟩⟩) (Nat.le_of_ble_eq_true rfl) (fun X e1 e2 e3 C => by subst e1; subst e2; subst e3; exact B_X2_distancesTo C a b N S B p0 r h)
set_option maxRecDepth 100000 in
set_option maxHeartbeats 4000000 in
theorem nd_X2_distancesTo : nd yX2_distancesTo 2 := ⟨by decide +kernel, by decide +kernel, by decide +kernel⟩
set_option maxRecDepth 100000 in
set_option maxHeartbeats 4000000 in
theorem k_X2_distancesTo {X : gX} {own : String} {cc : ByteArray} {nL : Nat} {ret : Option FieldType} {Ts : List Cond} {fr lm : Nat} {Q : State → Prop} {ms : List va_W} {L : List (Option Value)} {st : List Value} {pc pc' idx : Nat} {ρ : Type} {T : Int32 → Option ρ} {res : ρ} (C : cx X own cc nL ret Ts fr lm) (a : Nat → Nat) (b : Nat → Nat) (N : Nat) (S : tS) (B : tS) (p0 : Int32) (is : List Nat) (hC : is.map (fun i => ms[i]?) = [some (heW (gcA X) a S), some (bdW (gcA X) b B)]) (hn : is.Nodup) (hG : GoodIn Ts (wsV own idx RX2 yX2_distancesTo wsX2_distancesTo)) (hR : 2 + 1 ≤ fr ∧ 8 + (5 + 11) + 43 ≤ lm) (hst : (st.map fun v => v.category).sum ≤ 8) (hLn : L.length = nL) (d : decode cc pc = .ok (.invokevirtual idx, 3)) (hp : pc + 3 = pc') (h : bd (f_X2_distancesTo N S B p0) T = some res) (kk : ∀ (r : Int32), T r = some res → G X Q (ms) L (.int r :: st) pc') : G X Q ms L (.ref (b 0) :: .int p0 :: .ref (a 0) :: st) pc := by
  obtain ⟨r, h1, h⟩ := ob h
  exact G_callVI C (As := [.int p0, .ref (b 0)]) (c_X2_distancesTo (gl X) (gD X) (gcA X) a b N S B p0 r h1) hG rfl nd_X2_distancesTo hR (q0 := 0) rfl rfl hC hn rfl rfl hst hLn d hp (G_ms (rpl_same (mc := [heW (gcA X) a S, bdW (gcA X) b B]) hC) (kk r h))
theorem hi_X2_middleOf_X2 : ∀ w ∈ wsX20, w ∈ wsX2_middleOf := fun w h => List.mem_cons_of_mem _ (List.mem_append_left _ (List.mem_append_right _ h))
theorem lk_X2_middleOf_1 : Cond.fieldLink RX2 15 "NoteThemes$Heaps" "notes" "I" ∈ wsX2_middleOf := List.mem_of_getElem? (i := 1) rfl
theorem lk_X2_middleOf_2 : Cond.fieldLink RX2 18 "NoteThemes$Heaps" "heapOf" "[I" ∈ wsX2_middleOf := List.mem_of_getElem? (i := 2) rfl
def f_X2_middleOf_54 (N : Nat) (S : tS) (B : tS) (p0 : Int32) (k11 : Int32 → Int32 → Int32 → Option (Int32)) (x3 : Int32) (x4 : Int32) (x5 : Int32) : Option (Int32) := k11 x3 x4 (x5 + 1)
set_option maxRecDepth 100000 in
set_option maxHeartbeats 4000000 in
theorem B_X2_middleOf_54 {X : gX} (C : cx X RX2 cX2_middleOf 7 (some .int) wsX2_middleOf 3 67) (a : Nat → Nat) (b : Nat → Nat) (N : Nat) (S : tS) (B : tS) (p0 : Int32) (r : Int32) (k11 : Int32 → Int32 → Int32 → Option (Int32)) (hk11 : ∀ (x3 : Int32) (x4 : Int32) (x5 : Int32), k11 x3 x4 x5 = some r → G X (QI X r [heW (gcA X) a S, bdW (gcA X) b B]) [heW (gcA X) a S, bdW (gcA X) b B] [some (.ref (a 0)), some (.int p0), some (.ref (b 0)), some (.int x3), some (.int x4), some (.int x5), none] [] 11) (x3 : Int32) (x4 : Int32) (x5 : Int32) (h : f_X2_middleOf_54 N S B p0 k11 x3 x4 x5 = some r) : G X (QI X r [heW (gcA X) a S, bdW (gcA X) b B]) [heW (gcA X) a S, bdW (gcA X) b B] [some (.ref (a 0)), some (.int p0), some (.ref (b 0)), some (.int x3), some (.int x4), some (.int x5), none] [] 54 := by
  unfold f_X2_middleOf_54 at h
  refine g_iinc (pc' := 57) (v := (x5 + 1)) C dX2_middleOf_54 rfl rfl rfl (L' := [some (.ref (a 0)), some (.int p0), some (.ref (b 0)), some (.int x3), some (.int x4), some (.int (x5 + 1)), none]) rfl ?_
  refine g_goto (pc' := 11) C dX2_middleOf_57 (by decide) ?_
  exact G_loc (lle_s (lle_s (lle_s (lle_s (lle_s (lle_s (lle_n lle_0))))))) (hk11 x3 x4 (x5 + 1) h)
def f_X2_middleOf_11b (N : Nat) (S : tS) (B : tS) (p0 : Int32)  (k11 : Int32 → Int32 → Int32 → Option (Int32)) (x3 : Int32) (x4 : Int32) (x5 : Int32) : Option (Int32) := (if (S 1 0) ≤ x5 then some x3 else (if x5 < 0 ∨ 20 ≤ x5.toNatClampNeg then none else (if (S 2 x5.toNatClampNeg) = p0 then (bd (f_X2_distancesTo N S B x5) (fun r1 => (if x4 ≤ r1 then f_X2_middleOf_54 N S B p0 k11 x3 x4 x5 else f_X2_middleOf_54 N S B p0 k11 x5 r1 x5))) else f_X2_middleOf_54 N S B p0 k11 x3 x4 x5)))
def f_X2_middleOf_11 (N : Nat) (S : tS) (B : tS) (p0 : Int32)  : Nat → Int32 → Int32 → Int32 → Option (Int32)
  | 0 => fun _ _ _ => none
  | n + 1 => f_X2_middleOf_11b N S B p0  (f_X2_middleOf_11 N S B p0  n)
set_option maxRecDepth 100000 in
set_option maxHeartbeats 4000000 in
theorem B_X2_middleOf_11b {X : gX} (C : cx X RX2 cX2_middleOf 7 (some .int) wsX2_middleOf 3 67) (a : Nat → Nat) (b : Nat → Nat) (N : Nat) (S : tS) (B : tS) (p0 : Int32) (r : Int32)  (k11 : Int32 → Int32 → Int32 → Option (Int32)) (hk11 : ∀ (x3 : Int32) (x4 : Int32) (x5 : Int32), k11 x3 x4 x5 = some r → G X (QI X r [heW (gcA X) a S, bdW (gcA X) b B]) [heW (gcA X) a S, bdW (gcA X) b B] [some (.ref (a 0)), some (.int p0), some (.ref (b 0)), some (.int x3), some (.int x4), some (.int x5), none] [] 11) (x3 : Int32) (x4 : Int32) (x5 : Int32) (h : f_X2_middleOf_11b N S B p0  k11 x3 x4 x5 = some r) : G X (QI X r [heW (gcA X) a S, bdW (gcA X) b B]) [heW (gcA X) a S, bdW (gcA X) b B] [some (.ref (a 0)), some (.int p0), some (.ref (b 0)), some (.int x3), some (.int x4), some (.int x5), none] [] 11 := by
  unfold f_X2_middleOf_11b at h
  refine g_iload (pc' := 13) C dX2_middleOf_11 rfl rfl ?_
  refine g_aload_n (pc' := 14) C dX2_middleOf_13 rfl rfl ?_
  refine gg_X2_1 (pc' := 17) (i := 0) C rfl hi_X2_middleOf_X2 lk_X2_middleOf_1 dX2_middleOf_14 rfl ?_
  refine g_icmp_ge (pc' := 20) (tgt := 60) C dX2_middleOf_17 (by decide) rfl h (fun c h => ?_) (fun c h => ?_)
  · refine g_iload_n (pc' := 61) C dX2_middleOf_60 rfl rfl ?_
    obtain rfl := Option.some.inj h
    exact g_iret C dX2_middleOf_61
  · refine g_aload_n (pc' := 21) C dX2_middleOf_20 rfl rfl ?_
    refine gg_X2_2 (pc' := 24) (i := 0) C rfl hi_X2_middleOf_X2 lk_X2_middleOf_2 dX2_middleOf_21 rfl ?_
    refine g_iload (pc' := 26) C dX2_middleOf_24 rfl rfl ?_
    refine g_iald (pc' := 27) (i := 0) (j := 1) C rfl rfl dX2_middleOf_26 rfl h (fun h => ?_)
    refine g_iload_n (pc' := 28) C dX2_middleOf_27 rfl rfl ?_
    refine g_icmp_ne (pc' := 31) (tgt := 54) C dX2_middleOf_28 (by decide) rfl h (fun c h => ?_) (fun c h => ?_)
    · refine g_aload_n (pc' := 32) C dX2_middleOf_31 rfl rfl ?_
      refine g_iload (pc' := 34) C dX2_middleOf_32 rfl rfl ?_
      refine g_aload_n (pc' := 35) C dX2_middleOf_34 rfl rfl ?_
      refine k_X2_distancesTo (pc' := 38) C a b N S B x5 [0, 1] rfl (by decide) gX2_middleOf_X2_distancesTo ⟨Nat.le_of_ble_eq_true rfl, Nat.le_of_ble_eq_true rfl⟩ (Nat.le_of_ble_eq_true rfl) rfl dX2_middleOf_35 rfl h (fun r1 h => ?_)
      refine g_istore (pc' := 40) C dX2_middleOf_38 (Nat.le_of_ble_eq_true rfl) rfl (L' := [some (.ref (a 0)), some (.int p0), some (.ref (b 0)), some (.int x3), some (.int x4), some (.int x5), some (.int r1)]) rfl ?_
      refine g_iload (pc' := 42) C dX2_middleOf_40 rfl rfl ?_
      refine g_iload (pc' := 44) C dX2_middleOf_42 rfl rfl ?_
      refine g_icmp_ge (pc' := 47) (tgt := 54) C dX2_middleOf_44 (by decide) rfl h (fun c h => ?_) (fun c h => ?_)
      · exact G_loc (lle_s (lle_s (lle_s (lle_s (lle_s (lle_s (lle_n lle_0))))))) (B_X2_middleOf_54 C a b N S B p0 r k11 hk11 x3 x4 x5 h)
      · refine g_iload (pc' := 49) C dX2_middleOf_47 rfl rfl ?_
        refine g_istore_n (pc' := 50) C dX2_middleOf_49 (Nat.le_of_ble_eq_true rfl) rfl (L' := [some (.ref (a 0)), some (.int p0), some (.ref (b 0)), some (.int x5), some (.int x4), some (.int x5), some (.int r1)]) rfl ?_
        refine g_iload (pc' := 52) C dX2_middleOf_50 rfl rfl ?_
        refine g_istore (pc' := 54) C dX2_middleOf_52 (Nat.le_of_ble_eq_true rfl) rfl (L' := [some (.ref (a 0)), some (.int p0), some (.ref (b 0)), some (.int x5), some (.int r1), some (.int x5), some (.int r1)]) rfl ?_
        exact G_loc (lle_s (lle_s (lle_s (lle_s (lle_s (lle_s (lle_n lle_0))))))) (B_X2_middleOf_54 C a b N S B p0 r k11 hk11 x5 r1 x5 h)
    · exact G_loc (lle_s (lle_s (lle_s (lle_s (lle_s (lle_s (lle_n lle_0))))))) (B_X2_middleOf_54 C a b N S B p0 r k11 hk11 x3 x4 x5 h)
set_option maxRecDepth 100000 in
set_option maxHeartbeats 4000000 in
theorem L_X2_middleOf_11 {X : gX} (C : cx X RX2 cX2_middleOf 7 (some .int) wsX2_middleOf 3 67) (a : Nat → Nat) (b : Nat → Nat) (N : Nat) (S : tS) (B : tS) (p0 : Int32) (r : Int32)  : ∀ (n : Nat) (x3 : Int32) (x4 : Int32) (x5 : Int32), f_X2_middleOf_11 N S B p0  n x3 x4 x5 = some r → G X (QI X r [heW (gcA X) a S, bdW (gcA X) b B]) [heW (gcA X) a S, bdW (gcA X) b B] [some (.ref (a 0)), some (.int p0), some (.ref (b 0)), some (.int x3), some (.int x4), some (.int x5), none] [] 11 := by
  intro n
  induction n with
  | zero => intro x3 x4 x5 h; have h : (none : Option (Int32)) = some r := h; cases h
  | succ n ih => intro x3 x4 x5 h; exact B_X2_middleOf_11b C a b N S B p0 r  (f_X2_middleOf_11 N S B p0  n) ih x3 x4 x5 h
def f_X2_middleOf (N : Nat) (S : tS) (B : tS) (p0 : Int32) : Option (Int32) := f_X2_middleOf_11 N S B p0 N (-5 : Int32) (1000 : Int32) (0 : Int32)
set_option maxRecDepth 100000 in
set_option maxHeartbeats 4000000 in
theorem B_X2_middleOf {X : gX} (C : cx X RX2 cX2_middleOf 7 (some .int) wsX2_middleOf 3 67) (a : Nat → Nat) (b : Nat → Nat) (N : Nat) (S : tS) (B : tS) (p0 : Int32) (r : Int32) (h : f_X2_middleOf N S B p0 = some r) : G X (QI X r [heW (gcA X) a S, bdW (gcA X) b B]) [heW (gcA X) a S, bdW (gcA X) b B] [some (.ref (a 0)), some (.int p0), some (.ref (b 0)), none, none, none, none] [] 0 := by
  unfold f_X2_middleOf at h
  refine g_bipush (pc' := 2) (v := -5) C dX2_middleOf_0 (by decide) rfl ?_
  refine g_istore_n (pc' := 3) C dX2_middleOf_2 (Nat.le_of_ble_eq_true rfl) rfl (L' := [some (.ref (a 0)), some (.int p0), some (.ref (b 0)), some (.int (-5 : Int32)), none, none, none]) rfl ?_
  refine g_sipush (pc' := 6) (v := 1000) C dX2_middleOf_3 (by decide) rfl ?_
  refine g_istore (pc' := 8) C dX2_middleOf_6 (Nat.le_of_ble_eq_true rfl) rfl (L' := [some (.ref (a 0)), some (.int p0), some (.ref (b 0)), some (.int (-5 : Int32)), some (.int (1000 : Int32)), none, none]) rfl ?_
  refine g_iconst (pc' := 9) (v := 0) C dX2_middleOf_8 (by decide) rfl ?_
  refine g_istore (pc' := 11) C dX2_middleOf_9 (Nat.le_of_ble_eq_true rfl) rfl (L' := [some (.ref (a 0)), some (.int p0), some (.ref (b 0)), some (.int (-5 : Int32)), some (.int (1000 : Int32)), some (.int (0 : Int32)), none]) rfl ?_
  exact G_loc (lle_s (lle_s (lle_s (lle_s (lle_s (lle_s (lle_n lle_0))))))) (L_X2_middleOf_11 C a b N S B p0 r N (-5 : Int32) (1000 : Int32) (0 : Int32) h)
set_option maxRecDepth 100000 in
set_option maxHeartbeats 4000000 in
theorem c_X2_middleOf (l : Launch) (D : va_G) (cA : Nat → ClassId) (a : Nat → Nat) (b : Nat → Nat) (N : Nat) (S : tS) (B : tS) (p0 : Int32) (r : Int32) (h : f_X2_middleOf N S B p0 = some r) : MI l D cA yX2_middleOf wsX2_middleOf 3 67 [.ref (a 0), .int p0, .ref (b 0)] [heW cA a S, bdW cA b B] r [heW cA a S, bdW cA b B] := MI_of (cc := cX2_middleOf) (maxL := 7) (rt := some .int) (by decide +kernel) rfl (List.forall_mem_cons.mpr ⟨rfl, List.forall_mem_cons.mpr ⟨rfl, List.forall_mem_cons.mpr ⟨rfl, List.forall_mem_nil _⟩⟩⟩) (Nat.le_of_ble_eq_true rfl) (fun X e1 e2 e3 C => by subst e1; subst e2; subst e3; exact B_X2_middleOf C a b N S B p0 r h)
set_option maxRecDepth 100000 in
set_option maxHeartbeats 4000000 in
theorem nd_X2_middleOf : nd yX2_middleOf 2 := ⟨by decide +kernel, by decide +kernel, by decide +kernel⟩
set_option maxRecDepth 100000 in
set_option maxHeartbeats 4000000 in
theorem k_X2_middleOf {X : gX} {own : String} {cc : ByteArray} {nL : Nat} {ret : Option FieldType} {Ts : List Cond} {fr lm : Nat} {Q : State → Prop} {ms : List va_W} {L : List (Option Value)} {st : List Value} {pc pc' idx : Nat} {ρ : Type} {T : Int32 → Option ρ} {res : ρ} (C : cx X own cc nL ret Ts fr lm) (a : Nat → Nat) (b : Nat → Nat) (N : Nat) (S : tS) (B : tS) (p0 : Int32) (is : List Nat) (hC : is.map (fun i => ms[i]?) = [some (heW (gcA X) a S), some (bdW (gcA X) b B)]) (hn : is.Nodup) (hG : GoodIn Ts (wsV own idx RX2 yX2_middleOf wsX2_middleOf)) (hR : 3 + 1 ≤ fr ∧ 8 + (7 + 11) + 67 ≤ lm) (hst : (st.map fun v => v.category).sum ≤ 8) (hLn : L.length = nL) (d : decode cc pc = .ok (.invokevirtual idx, 3)) (hp : pc + 3 = pc') (h : bd (f_X2_middleOf N S B p0) T = some res) (kk : ∀ (r : Int32), T r = some res → G X Q (ms) L (.int r :: st) pc') : G X Q ms L (.ref (b 0) :: .int p0 :: .ref (a 0) :: st) pc := by
  obtain ⟨r, h1, h⟩ := ob h
  exact G_callVI C (As := [.int p0, .ref (b 0)]) (c_X2_middleOf (gl X) (gD X) (gcA X) a b N S B p0 r h1) hG rfl nd_X2_middleOf hR (q0 := 0) rfl rfl hC hn rfl rfl hst hLn d hp (G_ms (rpl_same (mc := [heW (gcA X) a S, bdW (gcA X) b B]) hC) (kk r h))
theorem hi_X2_widthOf_X2 : ∀ w ∈ wsX20, w ∈ wsX2_widthOf := fun w h => List.mem_cons_of_mem _ (List.mem_append_left _ (List.mem_append_right _ h))
theorem lk_X2_widthOf_1 : Cond.fieldLink RX2 15 "NoteThemes$Heaps" "notes" "I" ∈ wsX2_widthOf := List.mem_of_getElem? (i := 1) rfl
theorem lk_X2_widthOf_2 : Cond.fieldLink RX2 18 "NoteThemes$Heaps" "heapOf" "[I" ∈ wsX2_widthOf := List.mem_of_getElem? (i := 2) rfl
theorem lk_X2_widthOf_3 : Cond.methodLink RX2 44 Lib.Math.max.name ∈ wsX2_widthOf := List.mem_of_getElem? (i := 3) rfl
theorem lk_X2_widthOf_4 : Cond.static Lib.Math.max.name ∈ wsX2_widthOf := List.mem_of_getElem? (i := 4) rfl
theorem lk_X2_widthOf_5 : Cond.initialized "java/lang/Math" ∈ wsX2_widthOf := List.mem_of_getElem? (i := 5) rfl
theorem lk_X2_widthOf_6 : Cond.code Lib.Math.max.name Lib.Math.max.code 2 (some .int) ∈ wsX2_widthOf := List.mem_of_getElem? (i := 6) rfl
def f_X2_widthOf_59 (N : Nat) (S : tS) (B : tS) (p0 : Int32) (k5 : Int32 → Int32 → Option (Int32)) (k17 : Int32 → Int32 → Int32 → Option (Int32)) (x3 : Int32) (x4 : Int32) (x5 : Int32) : Option (Int32) := k17 x3 x4 (x5 + 1)
set_option maxRecDepth 100000 in
set_option maxHeartbeats 4000000 in
theorem B_X2_widthOf_59 {X : gX} (C : cx X RX2 cX2_widthOf 6 (some .int) wsX2_widthOf 2 43) (a : Nat → Nat) (b : Nat → Nat) (N : Nat) (S : tS) (B : tS) (p0 : Int32) (r : Int32) (k5 : Int32 → Int32 → Option (Int32)) (hk5 : ∀ (x3 : Int32) (x4 : Int32), k5 x3 x4 = some r → G X (QI X r [heW (gcA X) a S, bdW (gcA X) b B]) [heW (gcA X) a S, bdW (gcA X) b B] [some (.ref (a 0)), some (.int p0), some (.ref (b 0)), some (.int x3), some (.int x4), none] [] 5) (k17 : Int32 → Int32 → Int32 → Option (Int32)) (hk17 : ∀ (x3 : Int32) (x4 : Int32) (x5 : Int32), k17 x3 x4 x5 = some r → G X (QI X r [heW (gcA X) a S, bdW (gcA X) b B]) [heW (gcA X) a S, bdW (gcA X) b B] [some (.ref (a 0)), some (.int p0), some (.ref (b 0)), some (.int x3), some (.int x4), some (.int x5)] [] 17) (x3 : Int32) (x4 : Int32) (x5 : Int32) (h : f_X2_widthOf_59 N S B p0 k5 k17 x3 x4 x5 = some r) : G X (QI X r [heW (gcA X) a S, bdW (gcA X) b B]) [heW (gcA X) a S, bdW (gcA X) b B] [some (.ref (a 0)), some (.int p0), some (.ref (b 0)), some (.int x3), some (.int x4), some (.int x5)] [] 59 := by
  unfold f_X2_widthOf_59 at h
  refine g_iinc (pc' := 62) (v := (x5 + 1)) C dX2_widthOf_59 rfl rfl rfl (L' := [some (.ref (a 0)), some (.int p0), some (.ref (b 0)), some (.int x3), some (.int x4), some (.int (x5 + 1))]) rfl ?_
  refine g_goto (pc' := 17) C dX2_widthOf_62 (by decide) ?_
  exact G_loc (lle_s (lle_s (lle_s (lle_s (lle_s (lle_s lle_0)))))) (hk17 x3 x4 (x5 + 1) h)
def f_X2_widthOf_17b (N : Nat) (S : tS) (B : tS) (p0 : Int32) (k5 : Int32 → Int32 → Option (Int32)) (k17 : Int32 → Int32 → Int32 → Option (Int32)) (x3 : Int32) (x4 : Int32) (x5 : Int32) : Option (Int32) := (if x4 ≤ x5 then k5 x3 (x4 + 1) else (if x4 < 0 ∨ 20 ≤ x4.toNatClampNeg then none else (if (S 2 x4.toNatClampNeg) = p0 then (if x5 < 0 ∨ 20 ≤ x5.toNatClampNeg then none else (if (S 2 x5.toNatClampNeg) = p0 then (bd (f_X0_distance N B x4 x5) (fun r1 => f_X2_widthOf_59 N S B p0 k5 k17 (if x3 < r1 then r1 else x3) x4 x5)) else f_X2_widthOf_59 N S B p0 k5 k17 x3 x4 x5)) else f_X2_widthOf_59 N S B p0 k5 k17 x3 x4 x5)))
def f_X2_widthOf_17 (N : Nat) (S : tS) (B : tS) (p0 : Int32) (k5 : Int32 → Int32 → Option (Int32)) : Nat → Int32 → Int32 → Int32 → Option (Int32)
  | 0 => fun _ _ _ => none
  | n + 1 => f_X2_widthOf_17b N S B p0 k5 (f_X2_widthOf_17 N S B p0 k5 n)
set_option maxRecDepth 100000 in
set_option maxHeartbeats 4000000 in
theorem B_X2_widthOf_17b {X : gX} (C : cx X RX2 cX2_widthOf 6 (some .int) wsX2_widthOf 2 43) (a : Nat → Nat) (b : Nat → Nat) (N : Nat) (S : tS) (B : tS) (p0 : Int32) (r : Int32) (k5 : Int32 → Int32 → Option (Int32)) (hk5 : ∀ (x3 : Int32) (x4 : Int32), k5 x3 x4 = some r → G X (QI X r [heW (gcA X) a S, bdW (gcA X) b B]) [heW (gcA X) a S, bdW (gcA X) b B] [some (.ref (a 0)), some (.int p0), some (.ref (b 0)), some (.int x3), some (.int x4), none] [] 5) (k17 : Int32 → Int32 → Int32 → Option (Int32)) (hk17 : ∀ (x3 : Int32) (x4 : Int32) (x5 : Int32), k17 x3 x4 x5 = some r → G X (QI X r [heW (gcA X) a S, bdW (gcA X) b B]) [heW (gcA X) a S, bdW (gcA X) b B] [some (.ref (a 0)), some (.int p0), some (.ref (b 0)), some (.int x3), some (.int x4), some (.int x5)] [] 17) (x3 : Int32) (x4 : Int32) (x5 : Int32) (h : f_X2_widthOf_17b N S B p0 k5 k17 x3 x4 x5 = some r) : G X (QI X r [heW (gcA X) a S, bdW (gcA X) b B]) [heW (gcA X) a S, bdW (gcA X) b B] [some (.ref (a 0)), some (.int p0), some (.ref (b 0)), some (.int x3), some (.int x4), some (.int x5)] [] 17 := by
  unfold f_X2_widthOf_17b at h
  refine g_iload (pc' := 19) C dX2_widthOf_17 rfl rfl ?_
  refine g_iload (pc' := 21) C dX2_widthOf_19 rfl rfl ?_
  refine g_icmp_ge (pc' := 24) (tgt := 65) C dX2_widthOf_21 (by decide) rfl h (fun c h => ?_) (fun c h => ?_)
  · refine g_iinc (pc' := 68) (v := (x4 + 1)) C dX2_widthOf_65 rfl rfl rfl (L' := [some (.ref (a 0)), some (.int p0), some (.ref (b 0)), some (.int x3), some (.int (x4 + 1)), some (.int x5)]) rfl ?_
    refine g_goto (pc' := 5) C dX2_widthOf_68 (by decide) ?_
    exact G_loc (lle_s (lle_s (lle_s (lle_s (lle_s (lle_n lle_0)))))) (hk5 x3 (x4 + 1) h)
  · refine g_aload_n (pc' := 25) C dX2_widthOf_24 rfl rfl ?_
    refine gg_X2_2 (pc' := 28) (i := 0) C rfl hi_X2_widthOf_X2 lk_X2_widthOf_2 dX2_widthOf_25 rfl ?_
    refine g_iload (pc' := 30) C dX2_widthOf_28 rfl rfl ?_
    refine g_iald (pc' := 31) (i := 0) (j := 1) C rfl rfl dX2_widthOf_30 rfl h (fun h => ?_)
    refine g_iload_n (pc' := 32) C dX2_widthOf_31 rfl rfl ?_
    refine g_icmp_ne (pc' := 35) (tgt := 59) C dX2_widthOf_32 (by decide) rfl h (fun c h => ?_) (fun c h => ?_)
    · refine g_aload_n (pc' := 36) C dX2_widthOf_35 rfl rfl ?_
      refine gg_X2_2 (pc' := 39) (i := 0) C rfl hi_X2_widthOf_X2 lk_X2_widthOf_2 dX2_widthOf_36 rfl ?_
      refine g_iload (pc' := 41) C dX2_widthOf_39 rfl rfl ?_
      refine g_iald (pc' := 42) (i := 0) (j := 1) C rfl rfl dX2_widthOf_41 rfl h (fun h => ?_)
      refine g_iload_n (pc' := 43) C dX2_widthOf_42 rfl rfl ?_
      refine g_icmp_ne (pc' := 46) (tgt := 59) C dX2_widthOf_43 (by decide) rfl h (fun c h => ?_) (fun c h => ?_)
      · refine g_iload_n (pc' := 47) C dX2_widthOf_46 rfl rfl ?_
        refine g_aload_n (pc' := 48) C dX2_widthOf_47 rfl rfl ?_
        refine g_iload (pc' := 50) C dX2_widthOf_48 rfl rfl ?_
        refine g_iload (pc' := 52) C dX2_widthOf_50 rfl rfl ?_
        refine k_X0_distance (pc' := 55) C b N B x4 x5 [1] rfl (by decide) gX2_widthOf_X0_distance ⟨Nat.le_of_ble_eq_true rfl, Nat.le_of_ble_eq_true rfl⟩ (Nat.le_of_ble_eq_true rfl) rfl dX2_widthOf_52 rfl h (fun r1 h => ?_)
        refine g_mmax (pc' := 58) C lk_X2_widthOf_3 lk_X2_widthOf_4 lk_X2_widthOf_5 lk_X2_widthOf_6 ⟨Nat.le_of_ble_eq_true rfl, Nat.le_of_ble_eq_true rfl⟩ rfl dX2_widthOf_55 rfl ?_
        refine g_istore_n (pc' := 59) C dX2_widthOf_58 (Nat.le_of_ble_eq_true rfl) rfl (L' := [some (.ref (a 0)), some (.int p0), some (.ref (b 0)), some (.int (if x3 < r1 then r1 else x3)), some (.int x4), some (.int x5)]) rfl ?_
        exact G_loc (lle_s (lle_s (lle_s (lle_s (lle_s (lle_s lle_0)))))) (B_X2_widthOf_59 C a b N S B p0 r k5 hk5 k17 hk17 (if x3 < r1 then r1 else x3) x4 x5 h)
      · exact G_loc (lle_s (lle_s (lle_s (lle_s (lle_s (lle_s lle_0)))))) (B_X2_widthOf_59 C a b N S B p0 r k5 hk5 k17 hk17 x3 x4 x5 h)
    · exact G_loc (lle_s (lle_s (lle_s (lle_s (lle_s (lle_s lle_0)))))) (B_X2_widthOf_59 C a b N S B p0 r k5 hk5 k17 hk17 x3 x4 x5 h)
set_option maxRecDepth 100000 in
set_option maxHeartbeats 4000000 in
theorem L_X2_widthOf_17 {X : gX} (C : cx X RX2 cX2_widthOf 6 (some .int) wsX2_widthOf 2 43) (a : Nat → Nat) (b : Nat → Nat) (N : Nat) (S : tS) (B : tS) (p0 : Int32) (r : Int32) (k5 : Int32 → Int32 → Option (Int32)) (hk5 : ∀ (x3 : Int32) (x4 : Int32), k5 x3 x4 = some r → G X (QI X r [heW (gcA X) a S, bdW (gcA X) b B]) [heW (gcA X) a S, bdW (gcA X) b B] [some (.ref (a 0)), some (.int p0), some (.ref (b 0)), some (.int x3), some (.int x4), none] [] 5) : ∀ (n : Nat) (x3 : Int32) (x4 : Int32) (x5 : Int32), f_X2_widthOf_17 N S B p0 k5 n x3 x4 x5 = some r → G X (QI X r [heW (gcA X) a S, bdW (gcA X) b B]) [heW (gcA X) a S, bdW (gcA X) b B] [some (.ref (a 0)), some (.int p0), some (.ref (b 0)), some (.int x3), some (.int x4), some (.int x5)] [] 17 := by
  intro n
  induction n with
  | zero => intro x3 x4 x5 h; have h : (none : Option (Int32)) = some r := h; cases h
  | succ n ih => intro x3 x4 x5 h; exact B_X2_widthOf_17b C a b N S B p0 r k5 hk5 (f_X2_widthOf_17 N S B p0 k5 n) ih x3 x4 x5 h
def f_X2_widthOf_5b (N : Nat) (S : tS) (B : tS) (p0 : Int32)  (k5 : Int32 → Int32 → Option (Int32)) (x3 : Int32) (x4 : Int32) : Option (Int32) := (if (S 1 0) ≤ x4 then some x3 else f_X2_widthOf_17 N S B p0 k5 N x3 x4 (0 : Int32))
def f_X2_widthOf_5 (N : Nat) (S : tS) (B : tS) (p0 : Int32)  : Nat → Int32 → Int32 → Option (Int32)
  | 0 => fun _ _ => none
  | n + 1 => f_X2_widthOf_5b N S B p0  (f_X2_widthOf_5 N S B p0  n)
set_option maxRecDepth 100000 in
set_option maxHeartbeats 4000000 in
theorem B_X2_widthOf_5b {X : gX} (C : cx X RX2 cX2_widthOf 6 (some .int) wsX2_widthOf 2 43) (a : Nat → Nat) (b : Nat → Nat) (N : Nat) (S : tS) (B : tS) (p0 : Int32) (r : Int32)  (k5 : Int32 → Int32 → Option (Int32)) (hk5 : ∀ (x3 : Int32) (x4 : Int32), k5 x3 x4 = some r → G X (QI X r [heW (gcA X) a S, bdW (gcA X) b B]) [heW (gcA X) a S, bdW (gcA X) b B] [some (.ref (a 0)), some (.int p0), some (.ref (b 0)), some (.int x3), some (.int x4), none] [] 5) (x3 : Int32) (x4 : Int32) (h : f_X2_widthOf_5b N S B p0  k5 x3 x4 = some r) : G X (QI X r [heW (gcA X) a S, bdW (gcA X) b B]) [heW (gcA X) a S, bdW (gcA X) b B] [some (.ref (a 0)), some (.int p0), some (.ref (b 0)), some (.int x3), some (.int x4), none] [] 5 := by
  unfold f_X2_widthOf_5b at h
  refine g_iload (pc' := 7) C dX2_widthOf_5 rfl rfl ?_
  refine g_aload_n (pc' := 8) C dX2_widthOf_7 rfl rfl ?_
  refine gg_X2_1 (pc' := 11) (i := 0) C rfl hi_X2_widthOf_X2 lk_X2_widthOf_1 dX2_widthOf_8 rfl ?_
  refine g_icmp_ge (pc' := 14) (tgt := 71) C dX2_widthOf_11 (by decide) rfl h (fun c h => ?_) (fun c h => ?_)
  · refine g_iload_n (pc' := 72) C dX2_widthOf_71 rfl rfl ?_
    obtain rfl := Option.some.inj h
    exact g_iret C dX2_widthOf_72
  · refine g_iconst (pc' := 15) (v := 0) C dX2_widthOf_14 (by decide) rfl ?_
    refine g_istore (pc' := 17) C dX2_widthOf_15 (Nat.le_of_ble_eq_true rfl) rfl (L' := [some (.ref (a 0)), some (.int p0), some (.ref (b 0)), some (.int x3), some (.int x4), some (.int (0 : Int32))]) rfl ?_
    exact G_loc (lle_s (lle_s (lle_s (lle_s (lle_s (lle_s lle_0)))))) (L_X2_widthOf_17 C a b N S B p0 r k5 hk5 N x3 x4 (0 : Int32) h)
set_option maxRecDepth 100000 in
set_option maxHeartbeats 4000000 in
theorem L_X2_widthOf_5 {X : gX} (C : cx X RX2 cX2_widthOf 6 (some .int) wsX2_widthOf 2 43) (a : Nat → Nat) (b : Nat → Nat) (N : Nat) (S : tS) (B : tS) (p0 : Int32) (r : Int32)  : ∀ (n : Nat) (x3 : Int32) (x4 : Int32), f_X2_widthOf_5 N S B p0  n x3 x4 = some r → G X (QI X r [heW (gcA X) a S, bdW (gcA X) b B]) [heW (gcA X) a S, bdW (gcA X) b B] [some (.ref (a 0)), some (.int p0), some (.ref (b 0)), some (.int x3), some (.int x4), none] [] 5 := by
  intro n
  induction n with
  | zero => intro x3 x4 h; have h : (none : Option (Int32)) = some r := h; cases h
  | succ n ih => intro x3 x4 h; exact B_X2_widthOf_5b C a b N S B p0 r  (f_X2_widthOf_5 N S B p0  n) ih x3 x4 h
def f_X2_widthOf (N : Nat) (S : tS) (B : tS) (p0 : Int32) : Option (Int32) := f_X2_widthOf_5 N S B p0 N (0 : Int32) (0 : Int32)
set_option maxRecDepth 100000 in
set_option maxHeartbeats 4000000 in
theorem B_X2_widthOf {X : gX} (C : cx X RX2 cX2_widthOf 6 (some .int) wsX2_widthOf 2 43) (a : Nat → Nat) (b : Nat → Nat) (N : Nat) (S : tS) (B : tS) (p0 : Int32) (r : Int32) (h : f_X2_widthOf N S B p0 = some r) : G X (QI X r [heW (gcA X) a S, bdW (gcA X) b B]) [heW (gcA X) a S, bdW (gcA X) b B] [some (.ref (a 0)), some (.int p0), some (.ref (b 0)), none, none, none] [] 0 := by
  unfold f_X2_widthOf at h
  refine g_iconst (pc' := 1) (v := 0) C dX2_widthOf_0 (by decide) rfl ?_
  refine g_istore_n (pc' := 2) C dX2_widthOf_1 (Nat.le_of_ble_eq_true rfl) rfl (L' := [some (.ref (a 0)), some (.int p0), some (.ref (b 0)), some (.int (0 : Int32)), none, none]) rfl ?_
  refine g_iconst (pc' := 3) (v := 0) C dX2_widthOf_2 (by decide) rfl ?_
  refine g_istore (pc' := 5) C dX2_widthOf_3 (Nat.le_of_ble_eq_true rfl) rfl (L' := [some (.ref (a 0)), some (.int p0), some (.ref (b 0)), some (.int (0 : Int32)), some (.int (0 : Int32)), none]) rfl ?_
  exact G_loc (lle_s (lle_s (lle_s (lle_s (lle_s (lle_n lle_0)))))) (L_X2_widthOf_5 C a b N S B p0 r N (0 : Int32) (0 : Int32) h)
set_option maxRecDepth 100000 in
set_option maxHeartbeats 4000000 in
theorem c_X2_widthOf (l : Launch) (D : va_G) (cA : Nat → ClassId) (a : Nat → Nat) (b : Nat → Nat) (N : Nat) (S : tS) (B : tS) (p0 : Int32) (r : Int32) (h : f_X2_widthOf N S B p0 = some r) : MI l D cA yX2_widthOf wsX2_widthOf 2 43 [.ref (a 0), .int p0, .ref (b 0)] [heW cA a S, bdW cA b B] r [heW cA a S, bdW cA b B] := MI_of (cc := cX2_widthOf) (maxL := 6) (rt := some .int) (by decide +kernel) rfl (List.forall_mem_cons.mpr ⟨rfl, List.forall_mem_cons.mpr ⟨rfl, List.forall_mem_cons.mpr ⟨rfl, List.forall_mem_nil _⟩⟩⟩) (Nat.le_of_ble_eq_true rfl) (fun X e1 e2 e3 C => by subst e1; subst e2; subst e3; exact B_X2_widthOf C a b N S B p0 r h)
set_option maxRecDepth 100000 in
set_option maxHeartbeats 4000000 in
theorem nd_X2_widthOf : nd yX2_widthOf 2 := ⟨by decide +kernel, by decide +kernel, by decide +kernel⟩
set_option maxRecDepth 100000 in
set_option maxHeartbeats 4000000 in
theorem k_X2_widthOf {X : gX} {own : String} {cc : ByteArray} {nL : Nat} {ret : Option FieldType} {Ts : List Cond} {fr lm : Nat} {Q : State → Prop} {ms : List va_W} {L : List (Option Value)} {st : List Value} {pc pc' idx : Nat} {ρ : Type} {T : Int32 → Option ρ} {res : ρ} (C : cx X own cc nL ret Ts fr lm) (a : Nat → Nat) (b : Nat → Nat) (N : Nat) (S : tS) (B : tS) (p0 : Int32) (is : List Nat) (hC : is.map (fun i => ms[i]?) = [some (heW (gcA X) a S), some (bdW (gcA X) b B)]) (hn : is.Nodup) (hG : GoodIn Ts (wsV own idx RX2 yX2_widthOf wsX2_widthOf)) (hR : 2 + 1 ≤ fr ∧ 8 + (6 + 11) + 43 ≤ lm) (hst : (st.map fun v => v.category).sum ≤ 8) (hLn : L.length = nL) (d : decode cc pc = .ok (.invokevirtual idx, 3)) (hp : pc + 3 = pc') (h : bd (f_X2_widthOf N S B p0) T = some res) (kk : ∀ (r : Int32), T r = some res → G X Q (ms) L (.int r :: st) pc') : G X Q ms L (.ref (b 0) :: .int p0 :: .ref (a 0) :: st) pc := by
  obtain ⟨r, h1, h⟩ := ob h
  exact G_callVI C (As := [.int p0, .ref (b 0)]) (c_X2_widthOf (gl X) (gD X) (gcA X) a b N S B p0 r h1) hG rfl nd_X2_widthOf hR (q0 := 0) rfl rfl hC hn rfl rfl hst hLn d hp (G_ms (rpl_same (mc := [heW (gcA X) a S, bdW (gcA X) b B]) hC) (kk r h))
