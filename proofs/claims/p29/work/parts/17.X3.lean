/-! the history: dropOldest, remember, takeBack -/
section GA
variable {X : gX} {own : String} {cc : ByteArray} {nL : Nat} {ret : Option FieldType} {Ts : List Cond} {fr lm : Nat} {Q : State → Prop} {ms : List va_W} {L : List (Option Value)} {st : List Value} {pc pc' : Nat}
theorem g_asto (C : cx X own cc nL ret Ts fr lm) {k : Fin 4} {x : Nat} (d : decode cc pc = .ok (.astore_n k, 1)) (hi : k.val < L.length) (hp : pc + 1 = pc') {L' : List (Option Value)} (hL : stL L k.val (.ref x) = L') (kk : G X Q ms L' st pc') : G X Q ms L (.ref x :: st) pc := g_astore_n C d hi hp hL kk
end GA
def hhW (cA : Nat → ClassId) (a : Nat → Nat) (k : Nat → Nat → Nat) (S : tH) : va_W := [(a 0, .inr (3, [.int S.1, .ref (a 2)])), (a 2, .inl (cA 2, 4, .inr (.inr (.inr (.inr (rwK k S.2.1))))))]
def hms (cA : Nat → ClassId) (a : Nat → Nat) (k : Nat → Nat → Nat) (S : tH) : List va_W := [hhW cA a k S, bdW cA (k 0) (S.2.2 0), bdW cA (k 1) (S.2.2 1), bdW cA (k 2) (S.2.2 2), bdW cA (k 3) (S.2.2 3)]
theorem hs_fl (cA : Nat → ClassId) (a : Nat → Nat) (k : Nat → Nat → Nat) (S : tH) (ms : List va_W) : (hsW cA a k S :: ms).flatten = (hms cA a k S ++ ms).flatten := by
  simp [hsW, hms, hhW, List.flatten_cons, List.append_assoc]
theorem row_up (k : Nat → Nat → Nat) (π : Nat → Nat) {j : Nat} (v : Nat) (hj : j < 4) : va_up (rwK k π) j (some (k v 0)) = rwK k (va_up π j v) := by
  funext i
  unfold va_up rwK
  by_cases h : i = j
  · subst h; simp [hj]
  · simp [h]
theorem hh_set (cA : Nat → ClassId) (a : Nat → Nat) (k : Nat → Nat → Nat) (S : tH) {jj j : Nat} (v : Nat) (hj : jj = j) (hj4 : j < 4) : (hhW cA a k S).set 1 (a 2, .inl (cA 2, 4, .inr (.inr (.inr (.inr (va_up (rwK k S.2.1) jj (some (k v 0)))))))) = hhW cA a k (S.1, va_up S.2.1 j v, S.2.2) := by
  subst hj
  rw [row_up _ _ _ hj4]
  rfl
theorem hms_mem (cA : Nat → ClassId) (a : Nat → Nat) (k : Nat → Nat → Nat) (S : tH) {v : Nat} (hv : v < 4) : ∃ vs, (k v 0, .inr (0, vs)) ∈ (hms cA a k S).flatten := by
  have key : ∀ i, i < 4 → (hms cA a k S)[i + 1]? = some (bdW cA (k i) (S.2.2 i)) := by
    intro i hi
    match i, hi with
    | 0, _ => rfl
    | 1, _ => rfl
    | 2, _ => rfl
    | 3, _ => rfl
  exact ⟨[.int (S.2.2 v 0 0), .ref (k v 2), .ref (k v 3), .ref (k v 4), .ref (k v 5), .int (S.2.2 v 5 0), .ref (k v 7), .ref (k v 8)], List.mem_flatten.mpr ⟨bdW cA (k v) (S.2.2 v), List.mem_of_getElem? (key v hv), List.mem_cons_self⟩⟩
def f_X3_rot (π : Nat → Nat) : Nat → Nat := va_up (va_up (va_up (va_up π 0 (π 1)) 1 (π 2)) 2 (π 3)) 3 (π 0)
def f_X3_dropOldest (S : tH) : tH := (S.1 - 1, f_X3_rot S.2.1, S.2.2)
theorem lk_do_kept : Cond.fieldLink RX3 17 "NoteThemes$History" "kept" "[LNoteThemes$Board;" ∈ wsX3_dropOldest := List.mem_of_getElem? (i := 1) rfl
theorem lk_do_st : Cond.fieldLink RX3 9 "NoteThemes$History" "states" "I" ∈ wsX3_dropOldest := List.mem_of_getElem? (i := 2) rfl
theorem lk_re_kept : Cond.fieldLink RX3 17 "NoteThemes$History" "kept" "[LNoteThemes$Board;" ∈ wsX3_remember := List.mem_of_getElem? (i := 2) rfl
theorem lk_re_st : Cond.fieldLink RX3 9 "NoteThemes$History" "states" "I" ∈ wsX3_remember := List.mem_of_getElem? (i := 1) rfl
theorem lk_tb_kept : Cond.fieldLink RX3 17 "NoteThemes$History" "kept" "[LNoteThemes$Board;" ∈ wsX3_takeBack := List.mem_of_getElem? (i := 2) rfl
theorem lk_tb_st : Cond.fieldLink RX3 9 "NoteThemes$History" "states" "I" ∈ wsX3_takeBack := List.mem_of_getElem? (i := 1) rfl
theorem hi_do_X3 : ∀ w ∈ wsX30, w ∈ wsX3_dropOldest := fun w h => List.mem_cons_of_mem _ (List.mem_append_right _ h)
theorem hi_re_X3 : ∀ w ∈ wsX30, w ∈ wsX3_remember := fun w h => List.mem_cons_of_mem _ (List.mem_append_left _ (List.mem_append_right _ h))
theorem hi_tb_X3 : ∀ w ∈ wsX30, w ∈ wsX3_takeBack := fun w h => List.mem_cons_of_mem _ (List.mem_append_left _ (List.mem_append_right _ h))
section GH
variable {X : gX} {own : String} {cc : ByteArray} {nL : Nat} {ret : Option FieldType} {Ts : List Cond} {fr lm : Nat} {Q : State → Prop} {ms : List va_W} {L : List (Option Value)} {st : List Value} {pc pc' i idx : Nat} {a : Nat → Nat} {k : Nat → Nat → Nat} {S : tH}
theorem gh_st (C : cx X own cc nL ret Ts fr lm) (hm : ms[i]? = some (hhW (gcA X) a k S)) (hin : ∀ w ∈ wsX30, w ∈ Ts) (hlink : Cond.fieldLink own idx "NoteThemes$History" "states" "I" ∈ Ts) (d : decode cc pc = .ok (.getfield idx, 3)) (hp : pc + 3 = pc') (kk : G X Q ms L (.int S.1 :: st) pc') : G X Q ms L (.ref (a 0) :: st) pc :=
  G_get C (j := 0) (k := 0) (N := 2) (ci := 3) (T := TX3) (Cn := RX3) hm rfl rfl (by decide) rfl hin hlink d hp kk
theorem gh_kept (C : cx X own cc nL ret Ts fr lm) (hm : ms[i]? = some (hhW (gcA X) a k S)) (hin : ∀ w ∈ wsX30, w ∈ Ts) (hlink : Cond.fieldLink own idx "NoteThemes$History" "kept" "[LNoteThemes$Board;" ∈ Ts) (d : decode cc pc = .ok (.getfield idx, 3)) (hp : pc + 3 = pc') (kk : G X Q ms L (.ref (a 2) :: st) pc') : G X Q ms L (.ref (a 0) :: st) pc :=
  G_get C (j := 0) (k := 1) (N := 2) (ci := 3) (T := TX3) (Cn := RX3) hm rfl rfl (by decide) rfl hin hlink d hp kk
theorem gh_put (C : cx X own cc nL ret Ts fr lm) {v : Int32} (hm : ms[i]? = some (hhW (gcA X) a k S)) (hin : ∀ w ∈ wsX30, w ∈ Ts) (hlink : Cond.fieldLink own idx "NoteThemes$History" "states" "I" ∈ Ts) (d : decode cc pc = .ok (.putfield idx, 3)) (hp : pc + 3 = pc') (kk : G X Q (ms.set i (hhW (gcA X) a k (v, S.2.1, S.2.2))) L st pc') : G X Q ms L (.int v :: .ref (a 0) :: st) pc :=
  G_put C (j := 0) (k := 0) (N := 2) (ci := 3) (T := TX3) (Cn := RX3) (ty := .int) (ty0 := tyX3) hm rfl rfl (by decide) (Nat.le_of_ble_eq_true rfl) rfl tyX3_ok nmX3 rfl (by decide +kernel) rfl rfl hin hlink d hp kk
end GH

set_option maxRecDepth 100000 in
set_option maxHeartbeats 4000000 in
theorem B_X3_dropOldest {X : gX} (C : cx X RX3 cX3_dropOldest 3 none wsX3_dropOldest 0 0) (a : Nat → Nat) (k : Nat → Nat → Nat) (S : tH) (h0 : S.2.1 0 < 4) (h1 : S.2.1 1 < 4) (h2 : S.2.1 2 < 4) (h3 : S.2.1 3 < 4) : G X (QV X (hms (gcA X) a k (f_X3_dropOldest S))) (hms (gcA X) a k S) [some (.ref (a 0)), none, none] [] 0 := by
  have hv := fun (T : tH) (v : Nat) (h : v < 4) => hms_mem (gcA X) a k T h
  refine g_aload_n (pc' := 1) C dX3_dropOldest_0 rfl rfl ?_
  refine gh_kept (pc' := 4) (i := 0) C rfl hi_do_X3 lk_do_kept dX3_dropOldest_1 rfl ?_
  refine g_iconst (pc' := 5) (v := 0) C dX3_dropOldest_4 (by decide) rfl ?_
  refine g_aald (pc' := 6) (i := 0) (j := 1) (v := k (S.2.1 0) 0) C rfl rfl (by unfold vp_in; decide) rfl dX3_dropOldest_5 rfl ?_
  refine g_asto (pc' := 7) C dX3_dropOldest_6 (Nat.le_of_ble_eq_true rfl) rfl (L' := [some (.ref (a 0)), some (.ref (k (S.2.1 0) 0)), none]) rfl ?_
  refine g_iconst (pc' := 8) (v := 1) C dX3_dropOldest_7 (by decide) rfl ?_
  refine g_istore_n (pc' := 9) C dX3_dropOldest_8 (Nat.le_of_ble_eq_true rfl) rfl (L' := [some (.ref (a 0)), some (.ref (k (S.2.1 0) 0)), some (.int 1)]) rfl ?_
  refine g_iload_n (pc' := 10) C dX3_dropOldest_9 rfl rfl ?_
  refine g_iconst (pc' := 11) (v := 4) C dX3_dropOldest_10 (by decide) rfl ?_
  refine g_icmp_ge (pc' := 14) (tgt := 34) (T := (none : Option Unit)) (F := some ()) (res := ()) C dX3_dropOldest_11 (by decide) rfl (by decide) (fun c h => absurd c (by decide)) (fun c h => ?_)
  refine g_aload_n (pc' := 15) C dX3_dropOldest_14 rfl rfl ?_
  refine gh_kept (pc' := 18) (i := 0) C rfl hi_do_X3 lk_do_kept dX3_dropOldest_15 rfl ?_
  refine g_iload_n (pc' := 19) C dX3_dropOldest_18 rfl rfl ?_
  refine g_iconst (pc' := 20) (v := 1) C dX3_dropOldest_19 (by decide) rfl ?_
  refine g_isub (pc' := 21) C dX3_dropOldest_20 rfl ?_
  refine g_aload_n (pc' := 22) C dX3_dropOldest_21 rfl rfl ?_
  refine gh_kept (pc' := 25) (i := 0) C rfl hi_do_X3 lk_do_kept dX3_dropOldest_22 rfl ?_
  refine g_iload_n (pc' := 26) C dX3_dropOldest_25 rfl rfl ?_
  refine g_aald (pc' := 27) (i := 0) (j := 1) (v := k (S.2.1 1) 0) C rfl rfl (by unfold vp_in; decide) rfl dX3_dropOldest_26 rfl ?_
  refine g_aast (pc' := 28) (i := 0) (j := 1) C rfl rfl (hh_set (gcA X) a k (S.1, S.2.1, S.2.2) (j := 0) (S.2.1 1) (by decide) (by decide)) (hv (S.1, S.2.1, S.2.2) _ h1).choose_spec (by unfold vp_in; decide) dX3_dropOldest_27 rfl ?_
  show G X _ (hms (gcA X) a k (S.1, (va_up S.2.1 0 (S.2.1 1)), S.2.2)) _ _ _
  refine g_iinc (pc' := 31) (v := 2) C dX3_dropOldest_28 rfl (by decide) rfl (L' := [some (.ref (a 0)), some (.ref (k (S.2.1 0) 0)), some (.int 2)]) rfl ?_
  refine g_goto (pc' := 9) C dX3_dropOldest_31 (by decide) ?_
  refine g_iload_n (pc' := 10) C dX3_dropOldest_9 rfl rfl ?_
  refine g_iconst (pc' := 11) (v := 4) C dX3_dropOldest_10 (by decide) rfl ?_
  refine g_icmp_ge (pc' := 14) (tgt := 34) (T := (none : Option Unit)) (F := some ()) (res := ()) C dX3_dropOldest_11 (by decide) rfl (by decide) (fun c h => absurd c (by decide)) (fun c h => ?_)
  refine g_aload_n (pc' := 15) C dX3_dropOldest_14 rfl rfl ?_
  refine gh_kept (pc' := 18) (i := 0) C rfl hi_do_X3 lk_do_kept dX3_dropOldest_15 rfl ?_
  refine g_iload_n (pc' := 19) C dX3_dropOldest_18 rfl rfl ?_
  refine g_iconst (pc' := 20) (v := 1) C dX3_dropOldest_19 (by decide) rfl ?_
  refine g_isub (pc' := 21) C dX3_dropOldest_20 rfl ?_
  refine g_aload_n (pc' := 22) C dX3_dropOldest_21 rfl rfl ?_
  refine gh_kept (pc' := 25) (i := 0) C rfl hi_do_X3 lk_do_kept dX3_dropOldest_22 rfl ?_
  refine g_iload_n (pc' := 26) C dX3_dropOldest_25 rfl rfl ?_
  refine g_aald (pc' := 27) (i := 0) (j := 1) (v := k (S.2.1 2) 0) C rfl rfl (by unfold vp_in; decide) rfl dX3_dropOldest_26 rfl ?_
  refine g_aast (pc' := 28) (i := 0) (j := 1) C rfl rfl (hh_set (gcA X) a k (S.1, (va_up S.2.1 0 (S.2.1 1)), S.2.2) (j := 1) (S.2.1 2) (by decide) (by decide)) (hv (S.1, (va_up S.2.1 0 (S.2.1 1)), S.2.2) _ h2).choose_spec (by unfold vp_in; decide) dX3_dropOldest_27 rfl ?_
  show G X _ (hms (gcA X) a k (S.1, (va_up (va_up S.2.1 0 (S.2.1 1)) 1 (S.2.1 2)), S.2.2)) _ _ _
  refine g_iinc (pc' := 31) (v := 3) C dX3_dropOldest_28 rfl (by decide) rfl (L' := [some (.ref (a 0)), some (.ref (k (S.2.1 0) 0)), some (.int 3)]) rfl ?_
  refine g_goto (pc' := 9) C dX3_dropOldest_31 (by decide) ?_
  refine g_iload_n (pc' := 10) C dX3_dropOldest_9 rfl rfl ?_
  refine g_iconst (pc' := 11) (v := 4) C dX3_dropOldest_10 (by decide) rfl ?_
  refine g_icmp_ge (pc' := 14) (tgt := 34) (T := (none : Option Unit)) (F := some ()) (res := ()) C dX3_dropOldest_11 (by decide) rfl (by decide) (fun c h => absurd c (by decide)) (fun c h => ?_)
  refine g_aload_n (pc' := 15) C dX3_dropOldest_14 rfl rfl ?_
  refine gh_kept (pc' := 18) (i := 0) C rfl hi_do_X3 lk_do_kept dX3_dropOldest_15 rfl ?_
  refine g_iload_n (pc' := 19) C dX3_dropOldest_18 rfl rfl ?_
  refine g_iconst (pc' := 20) (v := 1) C dX3_dropOldest_19 (by decide) rfl ?_
  refine g_isub (pc' := 21) C dX3_dropOldest_20 rfl ?_
  refine g_aload_n (pc' := 22) C dX3_dropOldest_21 rfl rfl ?_
  refine gh_kept (pc' := 25) (i := 0) C rfl hi_do_X3 lk_do_kept dX3_dropOldest_22 rfl ?_
  refine g_iload_n (pc' := 26) C dX3_dropOldest_25 rfl rfl ?_
  refine g_aald (pc' := 27) (i := 0) (j := 1) (v := k (S.2.1 3) 0) C rfl rfl (by unfold vp_in; decide) rfl dX3_dropOldest_26 rfl ?_
  refine g_aast (pc' := 28) (i := 0) (j := 1) C rfl rfl (hh_set (gcA X) a k (S.1, (va_up (va_up S.2.1 0 (S.2.1 1)) 1 (S.2.1 2)), S.2.2) (j := 2) (S.2.1 3) (by decide) (by decide)) (hv (S.1, (va_up (va_up S.2.1 0 (S.2.1 1)) 1 (S.2.1 2)), S.2.2) _ h3).choose_spec (by unfold vp_in; decide) dX3_dropOldest_27 rfl ?_
  show G X _ (hms (gcA X) a k (S.1, (va_up (va_up (va_up S.2.1 0 (S.2.1 1)) 1 (S.2.1 2)) 2 (S.2.1 3)), S.2.2)) _ _ _
  refine g_iinc (pc' := 31) (v := 4) C dX3_dropOldest_28 rfl (by decide) rfl (L' := [some (.ref (a 0)), some (.ref (k (S.2.1 0) 0)), some (.int 4)]) rfl ?_
  refine g_goto (pc' := 9) C dX3_dropOldest_31 (by decide) ?_
  refine g_iload_n (pc' := 10) C dX3_dropOldest_9 rfl rfl ?_
  refine g_iconst (pc' := 11) (v := 4) C dX3_dropOldest_10 (by decide) rfl ?_
  refine g_icmp_ge (pc' := 14) (tgt := 34) (T := some ()) (F := (none : Option Unit)) (res := ()) C dX3_dropOldest_11 (by decide) rfl (by decide) (fun c h => ?_) (fun c h => absurd (show (4 : Int32) ≤ 4 by decide) c)
  refine g_aload_n (pc' := 35) C dX3_dropOldest_34 rfl rfl ?_
  refine gh_kept (pc' := 38) (i := 0) C rfl hi_do_X3 lk_do_kept dX3_dropOldest_35 rfl ?_
  refine g_iconst (pc' := 39) (v := 3) C dX3_dropOldest_38 (by decide) rfl ?_
  refine g_aload_n (pc' := 40) C dX3_dropOldest_39 rfl rfl ?_
  refine g_aast (pc' := 41) (i := 0) (j := 1) C rfl rfl (hh_set (gcA X) a k (S.1, (va_up (va_up (va_up S.2.1 0 (S.2.1 1)) 1 (S.2.1 2)) 2 (S.2.1 3)), S.2.2) (j := 3) (S.2.1 0) (by decide) (by decide)) (hv (S.1, (va_up (va_up (va_up S.2.1 0 (S.2.1 1)) 1 (S.2.1 2)) 2 (S.2.1 3)), S.2.2) _ h0).choose_spec (by unfold vp_in; decide) dX3_dropOldest_40 rfl ?_
  show G X _ (hms (gcA X) a k (S.1, f_X3_rot S.2.1, S.2.2)) _ _ _
  refine g_aload_n (pc' := 42) C dX3_dropOldest_41 rfl rfl ?_
  refine g_dup (pc' := 43) C dX3_dropOldest_42 rfl rfl ?_
  refine gh_st (pc' := 46) (i := 0) C rfl hi_do_X3 lk_do_st dX3_dropOldest_43 rfl ?_
  refine g_iconst (pc' := 47) (v := 1) C dX3_dropOldest_46 (by decide) rfl ?_
  refine g_isub (pc' := 48) C dX3_dropOldest_47 rfl ?_
  refine gh_put (pc' := 51) (i := 0) C rfl hi_do_X3 lk_do_st dX3_dropOldest_48 rfl ?_
  exact g_vret C dX3_dropOldest_51
theorem c_X3_dropOldest (l : Launch) (D : va_G) (cA : Nat → ClassId) (a : Nat → Nat) (k : Nat → Nat → Nat) (S : tH) (h0 : S.2.1 0 < 4) (h1 : S.2.1 1 < 4) (h2 : S.2.1 2 < 4) (h3 : S.2.1 3 < 4) : MV l D cA yX3_dropOldest wsX3_dropOldest 0 0 [.ref (a 0)] (hms cA a k S) (hms cA a k (f_X3_dropOldest S)) := MV_of (cc := cX3_dropOldest) (maxL := 3) (by decide +kernel) rfl (List.forall_mem_cons.mpr ⟨rfl, List.forall_mem_nil _⟩) (Nat.le_of_ble_eq_true rfl) (fun X e1 e2 e3 C => by subst e1; subst e2; subst e3; exact B_X3_dropOldest C a k S h0 h1 h2 h3)
theorem nd_X3_dropOldest : nd yX3_dropOldest 0 := ⟨by decide +kernel, by decide +kernel, by decide +kernel⟩
def f_X3_remember (N : Nat) (S : tH) (B : tS) : Option tH := bd (if S.1 < 4 then some S else (if S.2.1 0 < 4 ∧ S.2.1 1 < 4 ∧ S.2.1 2 < 4 ∧ S.2.1 3 < 4 then some (f_X3_dropOldest S) else none)) (fun T => if T.1 < 0 ∨ 4 ≤ T.1.toNatClampNeg then none else (if T.2.1 T.1.toNatClampNeg < 4 then bd (f_X0_copyFrom N (T.2.2 (T.2.1 T.1.toNatClampNeg)) B) (fun C => some (T.1 + 1, T.2.1, va_up T.2.2 (T.2.1 T.1.toNatClampNeg) C)) else none))
def f_X3_takeBack (N : Nat) (S : tH) (B : tS) : Option (tH × tS) := if S.1 - 1 < 0 ∨ 4 ≤ (S.1 - 1).toNatClampNeg then none else (if S.2.1 (S.1 - 1).toNatClampNeg < 4 then bd (f_X0_copyFrom N B (S.2.2 (S.2.1 (S.1 - 1).toNatClampNeg))) (fun C => some ((S.1 - 1, S.2.1, S.2.2), C)) else none)
theorem hms_at (cA : Nat → ClassId) (a : Nat → Nat) (k : Nat → Nat → Nat) (S : tH) (w : va_W) {j : Nat} (hj : j < 4) : (hms cA a k S ++ [w])[j + 1]? = some (bdW cA (k j) (S.2.2 j)) := by
  match j, hj with
  | 0, _ => rfl
  | 1, _ => rfl
  | 2, _ => rfl
  | 3, _ => rfl
theorem hms_up (cA : Nat → ClassId) (a : Nat → Nat) (k : Nat → Nat → Nat) (S : tH) (w w' : va_W) (B : tS) {j : Nat} (hj : j < 4) : rpl (hms cA a k S ++ [w]) [j + 1, 5] [bdW cA (k j) B, w'] = hms cA a k (S.1, S.2.1, va_up S.2.2 j B) ++ [w'] := by
  match j, hj with
  | 0, _ => rfl
  | 1, _ => rfl
  | 2, _ => rfl
  | 3, _ => rfl
set_option maxRecDepth 100000 in
set_option maxHeartbeats 4000000 in
theorem B_X3_remember12 {X : gX} (C : cx X RX3 cX3_remember 2 none wsX3_remember 2 47) (a b : Nat → Nat) (k : Nat → Nat → Nat) (N : Nat) (S : tH) (B : tS) (Sz : tH) (h : (if S.1 < 0 ∨ 4 ≤ S.1.toNatClampNeg then none else (if S.2.1 S.1.toNatClampNeg < 4 then bd (f_X0_copyFrom N (S.2.2 (S.2.1 S.1.toNatClampNeg)) B) (fun C => some (S.1 + 1, S.2.1, va_up S.2.2 (S.2.1 S.1.toNatClampNeg) C)) else none)) = some Sz) : G X (QV X (hms (gcA X) a k Sz ++ [bdW (gcA X) b B])) (hms (gcA X) a k S ++ [bdW (gcA X) b B]) [some (.ref (a 0)), some (.ref (b 0))] [] 12 := by
  obtain ⟨hg, h⟩ := og h
  refine oif h (fun hj h => ?_) (fun c h => by cases h)
  generalize hjj : S.2.1 S.1.toNatClampNeg = j at hj h
  refine g_aload_n (pc' := 13) C dX3_remember_12 rfl rfl ?_
  refine gh_kept (pc' := 16) (i := 0) C rfl hi_re_X3 lk_re_kept dX3_remember_13 rfl ?_
  refine g_aload_n (pc' := 17) C dX3_remember_16 rfl rfl ?_
  refine gh_st (pc' := 20) (i := 0) C rfl hi_re_X3 lk_re_st dX3_remember_17 rfl ?_
  refine g_aald (pc' := 21) (i := 0) (j := 1) (v := k j 0) C rfl rfl hg (by show rwK k S.2.1 _ = _; unfold rwK; rw [if_pos (Nat.not_le.mp fun q => hg (Or.inr q)), hjj]) dX3_remember_20 rfl ?_
  refine g_aload_n (pc' := 22) C dX3_remember_21 rfl rfl ?_
  refine k_X0_copyFrom (pc' := 25) C (k j) b N (S.2.2 j) B [j + 1, 5] (by rw [List.map_cons, hms_at _ _ _ _ _ hj]; rfl) (by simp; omega) gX3_remember_X0_copyFrom ⟨Nat.le_of_ble_eq_true rfl, Nat.le_of_ble_eq_true rfl⟩ (Nat.le_of_ble_eq_true rfl) rfl dX3_remember_22 rfl h (fun B1 h => ?_)
  rw [hms_up _ _ _ _ _ _ _ hj]
  obtain rfl := Option.some.inj h
  refine g_aload_n (pc' := 26) C dX3_remember_25 rfl rfl ?_
  refine g_dup (pc' := 27) C dX3_remember_26 rfl rfl ?_
  refine gh_st (pc' := 30) (i := 0) C rfl hi_re_X3 lk_re_st dX3_remember_27 rfl ?_
  refine g_iconst (pc' := 31) (v := 1) C dX3_remember_30 (by decide) rfl ?_
  refine g_iadd (pc' := 32) C dX3_remember_31 rfl ?_
  refine gh_put (pc' := 35) (i := 0) C rfl hi_re_X3 lk_re_st dX3_remember_32 rfl ?_
  exact g_vret C dX3_remember_35
set_option maxRecDepth 100000 in
set_option maxHeartbeats 4000000 in
theorem B_X3_remember {X : gX} (C : cx X RX3 cX3_remember 2 none wsX3_remember 2 47) (a b : Nat → Nat) (k : Nat → Nat → Nat) (N : Nat) (S : tH) (B : tS) (Sz : tH) (h : f_X3_remember N S B = some Sz) : G X (QV X [hsW (gcA X) a k Sz, bdW (gcA X) b B]) [hsW (gcA X) a k S, bdW (gcA X) b B] [some (.ref (a 0)), some (.ref (b 0))] [] 0 := by
  rw [QV_fl (hs_fl (gcA X) a k Sz [bdW (gcA X) b B])]
  refine G_fl (hs_fl (gcA X) a k S [bdW (gcA X) b B]) ?_
  unfold f_X3_remember at h
  obtain ⟨T, h1, h⟩ := ob h
  refine g_aload_n (pc' := 1) C dX3_remember_0 rfl rfl ?_
  refine gh_st (pc' := 4) (i := 0) C rfl hi_re_X3 lk_re_st dX3_remember_1 rfl ?_
  refine g_iconst (pc' := 5) (v := 4) C dX3_remember_4 (by decide) rfl ?_
  refine g_icmp_lt (pc' := 8) (tgt := 12) C dX3_remember_5 (by decide) rfl h1 (fun c h1 => ?_) (fun c h1 => ?_)
  · obtain rfl := Option.some.inj h1
    exact B_X3_remember12 C a b k N S B Sz h
  · refine oif h1 (fun hq h1 => ?_) (fun c h1 => by cases h1)
    obtain rfl := Option.some.inj h1
    refine g_aload_n (pc' := 9) C dX3_remember_8 rfl rfl ?_
    refine G_callVV (pc' := 12) C (As := []) (c_X3_dropOldest (gl X) (gD X) (gcA X) a k S hq.1 hq.2.1 hq.2.2.1 hq.2.2.2) gX3_remember_X3_dropOldest rfl nd_X3_dropOldest ⟨Nat.le_of_ble_eq_true rfl, Nat.le_of_ble_eq_true rfl⟩ (q0 := 0) rfl rfl (is := [0, 1, 2, 3, 4]) rfl (by decide) rfl rfl (Nat.le_of_ble_eq_true rfl) rfl dX3_remember_9 rfl ?_
    exact B_X3_remember12 C a b k N (f_X3_dropOldest S) B Sz h
theorem c_X3_remember (l : Launch) (D : va_G) (cA : Nat → ClassId) (a b : Nat → Nat) (k : Nat → Nat → Nat) (N : Nat) (S : tH) (B : tS) (Sz : tH) (h : f_X3_remember N S B = some Sz) : MV l D cA yX3_remember wsX3_remember 2 47 [.ref (a 0), .ref (b 0)] [hsW cA a k S, bdW cA b B] [hsW cA a k Sz, bdW cA b B] := MV_of (cc := cX3_remember) (maxL := 2) (by decide +kernel) rfl (List.forall_mem_cons.mpr ⟨rfl, List.forall_mem_cons.mpr ⟨rfl, List.forall_mem_nil _⟩⟩) (Nat.le_of_ble_eq_true rfl) (fun X e1 e2 e3 C => by subst e1; subst e2; subst e3; exact B_X3_remember C a b k N S B Sz h)
theorem nd_X3_remember : nd yX3_remember 1 := ⟨by decide +kernel, by decide +kernel, by decide +kernel⟩
theorem k_X3_remember {X : gX} {own : String} {cc : ByteArray} {nL : Nat} {ret : Option FieldType} {Ts : List Cond} {fr lm : Nat} {Q : State → Prop} {ms : List va_W} {L : List (Option Value)} {st : List Value} {pc pc' idx : Nat} {ρ : Type} {T : tH → Option ρ} {res : ρ} (C : cx X own cc nL ret Ts fr lm) (a b : Nat → Nat) (k : Nat → Nat → Nat) (N : Nat) (S : tH) (B : tS) (is : List Nat) (hC : is.map (fun i => ms[i]?) = [some (hsW (gcA X) a k S), some (bdW (gcA X) b B)]) (hn : is.Nodup) (hG : GoodIn Ts (wsV own idx RX3 yX3_remember wsX3_remember)) (hR : 2 + 1 ≤ fr ∧ 8 + (2 + 11) + 47 ≤ lm) (hst : (st.map fun v => v.category).sum ≤ 8) (hLn : L.length = nL) (d : decode cc pc = .ok (.invokevirtual idx, 3)) (hp : pc + 3 = pc') (h : bd (f_X3_remember N S B) T = some res) (kk : ∀ (Sz : tH), T Sz = some res → G X Q (rpl ms is [hsW (gcA X) a k Sz, bdW (gcA X) b B]) L (st) pc') : G X Q ms L (.ref (b 0) :: .ref (a 0) :: st) pc := by
  obtain ⟨Sz, h1, h⟩ := ob h
  exact G_callVV C (As := [.ref (b 0)]) (c_X3_remember (gl X) (gD X) (gcA X) a b k N S B Sz h1) hG rfl nd_X3_remember hR (q0 := 0) rfl rfl hC hn rfl rfl hst hLn d hp (kk Sz h)
set_option maxRecDepth 100000 in
set_option maxHeartbeats 4000000 in
theorem B_X3_takeBack {X : gX} (C : cx X RX3 cX3_takeBack 2 none wsX3_takeBack 2 47) (a b : Nat → Nat) (k : Nat → Nat → Nat) (N : Nat) (S : tH) (B : tS) (Sz : tH) (Bz : tS) (h : f_X3_takeBack N S B = some (Sz, Bz)) : G X (QV X [hsW (gcA X) a k Sz, bdW (gcA X) b Bz]) [hsW (gcA X) a k S, bdW (gcA X) b B] [some (.ref (a 0)), some (.ref (b 0))] [] 0 := by
  rw [QV_fl (hs_fl (gcA X) a k Sz [bdW (gcA X) b Bz])]
  refine G_fl (hs_fl (gcA X) a k S [bdW (gcA X) b B]) ?_
  unfold f_X3_takeBack at h
  obtain ⟨hg, h⟩ := og h
  refine oif h (fun hj h => ?_) (fun c h => by cases h)
  generalize hjj : S.2.1 (S.1 - 1).toNatClampNeg = j at hj h
  refine g_aload_n (pc' := 1) C dX3_takeBack_0 rfl rfl ?_
  refine g_dup (pc' := 2) C dX3_takeBack_1 rfl rfl ?_
  refine gh_st (pc' := 5) (i := 0) C rfl hi_tb_X3 lk_tb_st dX3_takeBack_2 rfl ?_
  refine g_iconst (pc' := 6) (v := 1) C dX3_takeBack_5 (by decide) rfl ?_
  refine g_isub (pc' := 7) C dX3_takeBack_6 rfl ?_
  refine gh_put (pc' := 10) (i := 0) C rfl hi_tb_X3 lk_tb_st dX3_takeBack_7 rfl ?_
  show G X _ (hms (gcA X) a k (S.1 - 1, S.2.1, S.2.2) ++ [bdW (gcA X) b B]) _ _ _
  refine g_aload_n (pc' := 11) C dX3_takeBack_10 rfl rfl ?_
  refine g_aload_n (pc' := 12) C dX3_takeBack_11 rfl rfl ?_
  refine gh_kept (pc' := 15) (i := 0) (S := (S.1 - 1, S.2.1, S.2.2)) (k := k) C rfl hi_tb_X3 lk_tb_kept dX3_takeBack_12 rfl ?_
  refine g_aload_n (pc' := 16) C dX3_takeBack_15 rfl rfl ?_
  refine gh_st (pc' := 19) (i := 0) (S := (S.1 - 1, S.2.1, S.2.2)) (k := k) C rfl hi_tb_X3 lk_tb_st dX3_takeBack_16 rfl ?_
  refine g_aald (pc' := 20) (i := 0) (j := 1) (v := k j 0) C rfl rfl hg (by show rwK k S.2.1 _ = _; unfold rwK; rw [if_pos (Nat.not_le.mp fun q => hg (Or.inr q)), hjj]) dX3_takeBack_19 rfl ?_
  refine k_X0_copyFrom (pc' := 23) C b (k j) N B (S.2.2 j) [5, j + 1] (by rw [List.map_cons, List.map_cons, hms_at _ _ _ (S.1 - 1, S.2.1, S.2.2) _ hj]; rfl) (by simp; omega) gX3_takeBack_X0_copyFrom ⟨Nat.le_of_ble_eq_true rfl, Nat.le_of_ble_eq_true rfl⟩ (Nat.le_of_ble_eq_true rfl) rfl dX3_takeBack_20 rfl h (fun B1 h => ?_)
  obtain ⟨rfl, rfl⟩ := pj2 (Option.some.inj h)
  have e : rpl (hms (gcA X) a k (S.1 - 1, S.2.1, S.2.2) ++ [bdW (gcA X) b B]) [5, j + 1] [bdW (gcA X) b B1, bdW (gcA X) (k j) (S.2.2 j)] = hms (gcA X) a k (S.1 - 1, S.2.1, S.2.2) ++ [bdW (gcA X) b B1] := by
    match j, hj with
    | 0, _ => rfl
    | 1, _ => rfl
    | 2, _ => rfl
    | 3, _ => rfl
  rw [e]
  exact g_vret C dX3_takeBack_23
theorem c_X3_takeBack (l : Launch) (D : va_G) (cA : Nat → ClassId) (a b : Nat → Nat) (k : Nat → Nat → Nat) (N : Nat) (S : tH) (B : tS) (Sz : tH) (Bz : tS) (h : f_X3_takeBack N S B = some (Sz, Bz)) : MV l D cA yX3_takeBack wsX3_takeBack 2 47 [.ref (a 0), .ref (b 0)] [hsW cA a k S, bdW cA b B] [hsW cA a k Sz, bdW cA b Bz] := MV_of (cc := cX3_takeBack) (maxL := 2) (by decide +kernel) rfl (List.forall_mem_cons.mpr ⟨rfl, List.forall_mem_cons.mpr ⟨rfl, List.forall_mem_nil _⟩⟩) (Nat.le_of_ble_eq_true rfl) (fun X e1 e2 e3 C => by subst e1; subst e2; subst e3; exact B_X3_takeBack C a b k N S B Sz Bz h)
theorem nd_X3_takeBack : nd yX3_takeBack 1 := ⟨by decide +kernel, by decide +kernel, by decide +kernel⟩
theorem k_X3_takeBack {X : gX} {own : String} {cc : ByteArray} {nL : Nat} {ret : Option FieldType} {Ts : List Cond} {fr lm : Nat} {Q : State → Prop} {ms : List va_W} {L : List (Option Value)} {st : List Value} {pc pc' idx : Nat} {ρ : Type} {T : tH → tS → Option ρ} {res : ρ} (C : cx X own cc nL ret Ts fr lm) (a b : Nat → Nat) (k : Nat → Nat → Nat) (N : Nat) (S : tH) (B : tS) (is : List Nat) (hC : is.map (fun i => ms[i]?) = [some (hsW (gcA X) a k S), some (bdW (gcA X) b B)]) (hn : is.Nodup) (hG : GoodIn Ts (wsV own idx RX3 yX3_takeBack wsX3_takeBack)) (hR : 2 + 1 ≤ fr ∧ 8 + (2 + 11) + 47 ≤ lm) (hst : (st.map fun v => v.category).sum ≤ 8) (hLn : L.length = nL) (d : decode cc pc = .ok (.invokevirtual idx, 3)) (hp : pc + 3 = pc') (h : bd2 (f_X3_takeBack N S B) T = some res) (kk : ∀ (Sz : tH) (Bz : tS), T Sz Bz = some res → G X Q (rpl ms is [hsW (gcA X) a k Sz, bdW (gcA X) b Bz]) L (st) pc') : G X Q ms L (.ref (b 0) :: .ref (a 0) :: st) pc := by
  obtain ⟨Sz, Bz, h1, h⟩ := ob2 h
  exact G_callVV C (As := [.ref (b 0)]) (c_X3_takeBack (gl X) (gD X) (gcA X) a b k N S B Sz Bz h1) hG rfl nd_X3_takeBack hR (q0 := 0) rfl rfl hC hn rfl rfl hst hLn d hp (kk Sz Bz h)
