theorem hi_X1_beginNumber_X1 : ∀ w ∈ wsX10, w ∈ wsX1_beginNumber := fun w h => List.mem_cons_of_mem _ (List.mem_append_right _ h)
theorem lk_X1_beginNumber_1 : Cond.fieldLink RX1 19 "NoteThemes$BoardText" "part" "I" ∈ wsX1_beginNumber := List.mem_of_getElem? (i := 1) rfl
theorem lk_X1_beginNumber_2 : Cond.fieldLink RX1 22 "NoteThemes$BoardText" "number" "I" ∈ wsX1_beginNumber := List.mem_of_getElem? (i := 2) rfl
def f_X1_beginNumber (N : Nat) (S : tS) (p0 : Int32) : Option (tS) := some (va_up (va_up S 2 (fun _ => p0)) 3 (fun _ => (-1 : Int32)))
set_option maxRecDepth 100000 in
set_option maxHeartbeats 4000000 in
theorem B_X1_beginNumber {X : gX} (C : cx X RX1 cX1_beginNumber 2 none wsX1_beginNumber 0 0) (t : Nat → Nat) (b : Nat → Nat) (N : Nat) (S : tS) (p0 : Int32) (Sz : tS) (h : f_X1_beginNumber N S p0 = some Sz) : G X (QV X [btW t (b 0) Sz]) [btW t (b 0) S] [some (.ref (t 0)), some (.int p0)] [] 0 := by
  unfold f_X1_beginNumber at h
  refine g_aload_n (pc' := 1) C dX1_beginNumber_0 rfl rfl ?_
  refine g_iload_n (pc' := 2) C dX1_beginNumber_1 rfl rfl ?_
  refine gp_X1_2 (pc' := 5) (i := 0) C rfl hi_X1_beginNumber_X1 lk_X1_beginNumber_1 dX1_beginNumber_2 rfl ?_
  show G X _ [btW t (b 0) (va_up S 2 (fun _ => p0))] _ _ _
  refine g_aload_n (pc' := 6) C dX1_beginNumber_5 rfl rfl ?_
  refine g_iconst (pc' := 7) (v := -1) C dX1_beginNumber_6 (by decide) rfl ?_
  refine gp_X1_3 (pc' := 10) (i := 0) C rfl hi_X1_beginNumber_X1 lk_X1_beginNumber_2 dX1_beginNumber_7 rfl ?_
  show G X _ [btW t (b 0) (va_up (va_up S 2 (fun _ => p0)) 3 (fun _ => (-1 : Int32)))] _ _ _
  obtain rfl := Option.some.inj h
  exact g_vret C dX1_beginNumber_10
set_option maxRecDepth 100000 in
set_option maxHeartbeats 4000000 in
theorem c_X1_beginNumber (l : Launch) (D : va_G) (cA : Nat → ClassId) (t : Nat → Nat) (b : Nat → Nat) (N : Nat) (S : tS) (p0 : Int32) (Sz : tS) (h : f_X1_beginNumber N S p0 = some Sz) : MV l D cA yX1_beginNumber wsX1_beginNumber 0 0 [.ref (t 0), .int p0] [btW t (b 0) S]  [btW t (b 0) Sz] := MV_of (cc := cX1_beginNumber) (maxL := 2) (by decide +kernel) rfl (List.forall_mem_cons.mpr ⟨rfl, List.forall_mem_cons.mpr ⟨rfl, List.forall_mem_nil _⟩⟩) (Nat.le_of_ble_eq_true rfl) (fun X e1 e2 e3 C => by subst e1; subst e2; subst e3; exact B_X1_beginNumber C t b N S p0 Sz h)
set_option maxRecDepth 100000 in
set_option maxHeartbeats 4000000 in
theorem nd_X1_beginNumber : nd yX1_beginNumber 1 := ⟨by decide +kernel, by decide +kernel, by decide +kernel⟩
set_option maxRecDepth 100000 in
set_option maxHeartbeats 4000000 in
theorem k_X1_beginNumber {X : gX} {own : String} {cc : ByteArray} {nL : Nat} {ret : Option FieldType} {Ts : List Cond} {fr lm : Nat} {Q : State → Prop} {ms : List va_W} {L : List (Option Value)} {st : List Value} {pc pc' idx : Nat} {ρ : Type} {T : tS → Option ρ} {res : ρ} (C : cx X own cc nL ret Ts fr lm) (t : Nat → Nat) (b : Nat → Nat) (N : Nat) (S : tS) (p0 : Int32) (is : List Nat) (hC : is.map (fun i => ms[i]?) = [some (btW t (b 0) S)]) (hn : is.Nodup) (hG : GoodIn Ts (wsV own idx RX1 yX1_beginNumber wsX1_beginNumber)) (hR : 0 + 1 ≤ fr ∧ 8 + (2 + 11) + 0 ≤ lm) (hst : (st.map fun v => v.category).sum ≤ 8) (hLn : L.length = nL) (d : decode cc pc = .ok (.invokevirtual idx, 3)) (hp : pc + 3 = pc') (h : bd (f_X1_beginNumber N S p0) T = some res) (kk : ∀ (Sz : tS), T Sz = some res → G X Q (rpl ms is [btW t (b 0) Sz]) L (st) pc') : G X Q ms L (.int p0 :: .ref (t 0) :: st) pc := by
  obtain ⟨Sz, h1, h⟩ := ob h
  exact G_callVV C (As := [.int p0]) (c_X1_beginNumber (gl X) (gD X) (gcA X) t b N S p0 Sz h1) hG rfl nd_X1_beginNumber hR (q0 := 0) rfl rfl hC hn rfl rfl hst hLn d hp (kk Sz h)
theorem hi_X1_takesComma_X1 : ∀ w ∈ wsX10, w ∈ wsX1_takesComma := fun w h => List.mem_cons_of_mem _ (List.mem_append_right _ h)
theorem lk_X1_takesComma_1 : Cond.fieldLink RX1 19 "NoteThemes$BoardText" "part" "I" ∈ wsX1_takesComma := List.mem_of_getElem? (i := 1) rfl
theorem lk_X1_takesComma_2 : Cond.fieldLink RX1 22 "NoteThemes$BoardText" "number" "I" ∈ wsX1_takesComma := List.mem_of_getElem? (i := 2) rfl
theorem lk_X1_takesComma_3 : Cond.fieldLink RX1 25 "NoteThemes$BoardText" "column" "I" ∈ wsX1_takesComma := List.mem_of_getElem? (i := 3) rfl
def f_X1_takesComma (N : Nat) (S : tS)  : Option (Int32 × tS) := (if (S 2 0) = 0 then (if (S 3 0) = (-1 : Int32) then some ((0 : Int32), S) else (bd (f_X1_beginNumber N (va_up S 4 (fun _ => (S 3 0))) (1 : Int32)) (fun S1 => some ((1 : Int32), S1)))) else some ((0 : Int32), S))
set_option maxRecDepth 100000 in
set_option maxHeartbeats 4000000 in
theorem B_X1_takesComma {X : gX} (C : cx X RX1 cX1_takesComma 1 (some .boolean) wsX1_takesComma 1 21) (t : Nat → Nat) (b : Nat → Nat) (N : Nat) (S : tS)  (r : Int32) (Sz : tS) (h : f_X1_takesComma N S = some (r, Sz)) : G X (QI X r [btW t (b 0) Sz]) [btW t (b 0) S] [some (.ref (t 0))] [] 0 := by
  unfold f_X1_takesComma at h
  refine g_aload_n (pc' := 1) C dX1_takesComma_0 rfl rfl ?_
  refine gg_X1_2 (pc' := 4) (i := 0) C rfl hi_X1_takesComma_X1 lk_X1_takesComma_1 dX1_takesComma_1 rfl ?_
  refine g_if_ne (pc' := 7) (tgt := 15) C dX1_takesComma_4 (by decide) rfl h (fun c h => ?_) (fun c h => ?_)
  · refine g_aload_n (pc' := 8) C dX1_takesComma_7 rfl rfl ?_
    refine gg_X1_3 (pc' := 11) (i := 0) C rfl hi_X1_takesComma_X1 lk_X1_takesComma_2 dX1_takesComma_8 rfl ?_
    refine g_iconst (pc' := 12) (v := -1) C dX1_takesComma_11 (by decide) rfl ?_
    refine g_icmp_ne (pc' := 15) (tgt := 17) C dX1_takesComma_12 (by decide) rfl h (fun c h => ?_) (fun c h => ?_)
    · refine g_iconst (pc' := 16) (v := 0) C dX1_takesComma_15 (by decide) rfl ?_
      obtain ⟨rfl, rfl⟩ := pj2 (Option.some.inj h)
      exact g_zret0 C rfl dX1_takesComma_16
    · refine g_aload_n (pc' := 18) C dX1_takesComma_17 rfl rfl ?_
      refine g_aload_n (pc' := 19) C dX1_takesComma_18 rfl rfl ?_
      refine gg_X1_3 (pc' := 22) (i := 0) C rfl hi_X1_takesComma_X1 lk_X1_takesComma_2 dX1_takesComma_19 rfl ?_
      refine gp_X1_4 (pc' := 25) (i := 0) C rfl hi_X1_takesComma_X1 lk_X1_takesComma_3 dX1_takesComma_22 rfl ?_
      show G X _ [btW t (b 0) (va_up S 4 (fun _ => (S 3 0)))] _ _ _
      refine g_aload_n (pc' := 26) C dX1_takesComma_25 rfl rfl ?_
      refine g_iconst (pc' := 27) (v := 1) C dX1_takesComma_26 (by decide) rfl ?_
      refine k_X1_beginNumber (pc' := 30) C t b N (va_up S 4 (fun _ => (S 3 0))) (1 : Int32) [0] rfl (by decide) gX1_takesComma_X1_beginNumber ⟨Nat.le_of_ble_eq_true rfl, Nat.le_of_ble_eq_true rfl⟩ (Nat.le_of_ble_eq_true rfl) rfl dX1_takesComma_27 rfl h (fun S1 h => ?_)
      show G X _ [btW t (b 0) S1] _ _ _
      refine g_iconst (pc' := 31) (v := 1) C dX1_takesComma_30 (by decide) rfl ?_
      obtain ⟨rfl, rfl⟩ := pj2 (Option.some.inj h)
      exact g_zret0 C rfl dX1_takesComma_31
  · refine g_iconst (pc' := 16) (v := 0) C dX1_takesComma_15 (by decide) rfl ?_
    obtain ⟨rfl, rfl⟩ := pj2 (Option.some.inj h)
    exact g_zret0 C rfl dX1_takesComma_16
set_option maxRecDepth 100000 in
set_option maxHeartbeats 4000000 in
theorem c_X1_takesComma (l : Launch) (D : va_G) (cA : Nat → ClassId) (t : Nat → Nat) (b : Nat → Nat) (N : Nat) (S : tS)  (r : Int32) (Sz : tS) (h : f_X1_takesComma N S = some (r, Sz)) : MI l D cA yX1_takesComma wsX1_takesComma 1 21 [.ref (t 0)] [btW t (b 0) S] r [btW t (b 0) Sz] := MI_of (cc := cX1_takesComma) (maxL := 1) (rt := some .boolean) (by decide +kernel) rfl (List.forall_mem_cons.mpr ⟨rfl, List.forall_mem_nil _⟩) (Nat.le_of_ble_eq_true rfl) (fun X e1 e2 e3 C => by subst e1; subst e2; subst e3; exact B_X1_takesComma C t b N S r Sz h)
set_option maxRecDepth 100000 in
set_option maxHeartbeats 4000000 in
theorem nd_X1_takesComma : nd yX1_takesComma 0 := ⟨by decide +kernel, by decide +kernel, by decide +kernel⟩
set_option maxRecDepth 100000 in
set_option maxHeartbeats 4000000 in
theorem k_X1_takesComma {X : gX} {own : String} {cc : ByteArray} {nL : Nat} {ret : Option FieldType} {Ts : List Cond} {fr lm : Nat} {Q : State → Prop} {ms : List va_W} {L : List (Option Value)} {st : List Value} {pc pc' idx : Nat} {ρ : Type} {T : Int32 → tS → Option ρ} {res : ρ} (C : cx X own cc nL ret Ts fr lm) (t : Nat → Nat) (b : Nat → Nat) (N : Nat) (S : tS)  (is : List Nat) (hC : is.map (fun i => ms[i]?) = [some (btW t (b 0) S)]) (hn : is.Nodup) (hG : GoodIn Ts (wsV own idx RX1 yX1_takesComma wsX1_takesComma)) (hR : 1 + 1 ≤ fr ∧ 8 + (1 + 11) + 21 ≤ lm) (hst : (st.map fun v => v.category).sum ≤ 8) (hLn : L.length = nL) (d : decode cc pc = .ok (.invokevirtual idx, 3)) (hp : pc + 3 = pc') (h : bd2 (f_X1_takesComma N S) T = some res) (kk : ∀ (r : Int32) (Sz : tS), T r Sz = some res → G X Q (rpl ms is [btW t (b 0) Sz]) L (.int r :: st) pc') : G X Q ms L (.ref (t 0) :: st) pc := by
  obtain ⟨r, Sz, h1, h⟩ := ob2 h
  exact G_callVI C (As := []) (c_X1_takesComma (gl X) (gD X) (gcA X) t b N S r Sz h1) hG rfl nd_X1_takesComma hR (q0 := 0) rfl rfl hC hn rfl rfl hst hLn d hp (kk r Sz h)
theorem hi_X1_endsNote_X0 : ∀ w ∈ wsX00, w ∈ wsX1_endsNote := fun w h => List.mem_cons_of_mem _ (List.mem_append_right _ h)
theorem hi_X1_endsNote_X1 : ∀ w ∈ wsX10, w ∈ wsX1_endsNote := fun w h => List.mem_cons_of_mem _ (List.mem_append_left _ (List.mem_append_right _ h))
theorem lk_X1_endsNote_1 : Cond.fieldLink RX1 19 "NoteThemes$BoardText" "part" "I" ∈ wsX1_endsNote := List.mem_of_getElem? (i := 1) rfl
theorem lk_X1_endsNote_2 : Cond.fieldLink RX1 22 "NoteThemes$BoardText" "number" "I" ∈ wsX1_endsNote := List.mem_of_getElem? (i := 2) rfl
theorem lk_X1_endsNote_3 : Cond.fieldLink RX1 15 "NoteThemes$BoardText" "notesRead" "I" ∈ wsX1_endsNote := List.mem_of_getElem? (i := 3) rfl
theorem lk_X1_endsNote_4 : Cond.fieldLink RX1 9 "NoteThemes$BoardText" "board" "LNoteThemes$Board;" ∈ wsX1_endsNote := List.mem_of_getElem? (i := 4) rfl
theorem lk_X1_endsNote_5 : Cond.fieldLink RX1 53 "NoteThemes$Board" "notes" "I" ∈ wsX1_endsNote := List.mem_of_getElem? (i := 5) rfl
theorem lk_X1_endsNote_6 : Cond.fieldLink RX1 25 "NoteThemes$BoardText" "column" "I" ∈ wsX1_endsNote := List.mem_of_getElem? (i := 6) rfl
def f_X1_endsNote_58 (N : Nat)   (S : tS) (B : tS) : Option (Int32 × tS × tS) := (if (S 2 0) = (2 : Int32) then some ((1 : Int32), S, B) else some ((0 : Int32), S, B))
set_option maxRecDepth 100000 in
set_option maxHeartbeats 4000000 in
theorem B_X1_endsNote_58 {X : gX} (C : cx X RX1 cX1_endsNote 1 (some .boolean) wsX1_endsNote 2 47) (t : Nat → Nat) (b : Nat → Nat) (N : Nat)  (r : Int32) (Sz : tS) (Bz : tS)  (S : tS) (B : tS) (h : f_X1_endsNote_58 N  S B = some (r, Sz, Bz)) : G X (QI X r [btW t (b 0) Sz, bdW (gcA X) b Bz]) [btW t (b 0) S, bdW (gcA X) b B] [some (.ref (t 0))] [] 58 := by
  unfold f_X1_endsNote_58 at h
  refine g_aload_n (pc' := 59) C dX1_endsNote_58 rfl rfl ?_
  refine gg_X1_2 (pc' := 62) (i := 0) C rfl hi_X1_endsNote_X1 lk_X1_endsNote_1 dX1_endsNote_59 rfl ?_
  refine g_iconst (pc' := 63) (v := 2) C dX1_endsNote_62 (by decide) rfl ?_
  refine g_icmp_ne (pc' := 66) (tgt := 70) C dX1_endsNote_63 (by decide) rfl h (fun c h => ?_) (fun c h => ?_)
  · refine g_iconst (pc' := 67) (v := 1) C dX1_endsNote_66 (by decide) rfl ?_
    refine g_goto (pc' := 71) C dX1_endsNote_67 (by decide) ?_
    obtain ⟨rfl, rfl, rfl⟩ := pj3 (Option.some.inj h)
    exact g_zret0 C rfl dX1_endsNote_71
  · refine g_iconst (pc' := 71) (v := 0) C dX1_endsNote_70 (by decide) rfl ?_
    obtain ⟨rfl, rfl, rfl⟩ := pj3 (Option.some.inj h)
    exact g_zret0 C rfl dX1_endsNote_71
def f_X1_endsNote (N : Nat) (S : tS) (B : tS)  : Option (Int32 × tS × tS) := (if (S 2 0) = (1 : Int32) then (if (S 3 0) = (-1 : Int32) then f_X1_endsNote_58 N S B else (if (20 : Int32) ≤ (B 0 0) then f_X1_endsNote_58 N (va_up (va_up S 2 (fun _ => (2 : Int32))) 1 (fun _ => ((S 1 0) + (1 : Int32)))) B else (bd (f_X0_addNote N B (S 4 0) (S 3 0)) (fun B1 => f_X1_endsNote_58 N (va_up (va_up S 2 (fun _ => (2 : Int32))) 1 (fun _ => ((S 1 0) + (1 : Int32)))) B1)))) else f_X1_endsNote_58 N S B)
set_option maxRecDepth 100000 in
set_option maxHeartbeats 4000000 in
theorem B_X1_endsNote {X : gX} (C : cx X RX1 cX1_endsNote 1 (some .boolean) wsX1_endsNote 2 47) (t : Nat → Nat) (b : Nat → Nat) (N : Nat) (S : tS) (B : tS)  (r : Int32) (Sz : tS) (Bz : tS) (h : f_X1_endsNote N S B = some (r, Sz, Bz)) : G X (QI X r [btW t (b 0) Sz, bdW (gcA X) b Bz]) [btW t (b 0) S, bdW (gcA X) b B] [some (.ref (t 0))] [] 0 := by
  unfold f_X1_endsNote at h
  refine g_aload_n (pc' := 1) C dX1_endsNote_0 rfl rfl ?_
  refine gg_X1_2 (pc' := 4) (i := 0) C rfl hi_X1_endsNote_X1 lk_X1_endsNote_1 dX1_endsNote_1 rfl ?_
  refine g_iconst (pc' := 5) (v := 1) C dX1_endsNote_4 (by decide) rfl ?_
  refine g_icmp_ne (pc' := 8) (tgt := 58) C dX1_endsNote_5 (by decide) rfl h (fun c h => ?_) (fun c h => ?_)
  · refine g_aload_n (pc' := 9) C dX1_endsNote_8 rfl rfl ?_
    refine gg_X1_3 (pc' := 12) (i := 0) C rfl hi_X1_endsNote_X1 lk_X1_endsNote_2 dX1_endsNote_9 rfl ?_
    refine g_iconst (pc' := 13) (v := -1) C dX1_endsNote_12 (by decide) rfl ?_
    refine g_icmp_eq (pc' := 16) (tgt := 58) C dX1_endsNote_13 (by decide) rfl h (fun c h => ?_) (fun c h => ?_)
    · exact G_loc (lle_s lle_0) (B_X1_endsNote_58 C t b N r Sz Bz S B h)
    · refine g_aload_n (pc' := 17) C dX1_endsNote_16 rfl rfl ?_
      refine g_iconst (pc' := 18) (v := 2) C dX1_endsNote_17 (by decide) rfl ?_
      refine gp_X1_2 (pc' := 21) (i := 0) C rfl hi_X1_endsNote_X1 lk_X1_endsNote_1 dX1_endsNote_18 rfl ?_
      show G X _ [btW t (b 0) (va_up S 2 (fun _ => (2 : Int32))), bdW (gcA X) b B] _ _ _
      refine g_aload_n (pc' := 22) C dX1_endsNote_21 rfl rfl ?_
      refine g_dup (pc' := 23) C dX1_endsNote_22 rfl rfl ?_
      refine gg_X1_1 (pc' := 26) (i := 0) C rfl hi_X1_endsNote_X1 lk_X1_endsNote_3 dX1_endsNote_23 rfl ?_
      refine g_vi (v := (S 1 0)) rfl ?_
      refine g_iconst (pc' := 27) (v := 1) C dX1_endsNote_26 (by decide) rfl ?_
      refine g_iadd (pc' := 28) C dX1_endsNote_27 rfl ?_
      refine gp_X1_1 (pc' := 31) (i := 0) C rfl hi_X1_endsNote_X1 lk_X1_endsNote_3 dX1_endsNote_28 rfl ?_
      show G X _ [btW t (b 0) (va_up (va_up S 2 (fun _ => (2 : Int32))) 1 (fun _ => ((S 1 0) + (1 : Int32)))), bdW (gcA X) b B] _ _ _
      refine g_aload_n (pc' := 32) C dX1_endsNote_31 rfl rfl ?_
      refine gg_X1_0 (pc' := 35) (i := 0) C rfl hi_X1_endsNote_X1 lk_X1_endsNote_4 dX1_endsNote_32 rfl ?_
      refine gg_X0_0 (pc' := 38) (i := 1) C rfl hi_X1_endsNote_X0 lk_X1_endsNote_5 dX1_endsNote_35 rfl ?_
      refine g_bipush (pc' := 40) (v := 20) C dX1_endsNote_38 (by decide) rfl ?_
      refine g_icmp_ge (pc' := 43) (tgt := 58) C dX1_endsNote_40 (by decide) rfl h (fun c h => ?_) (fun c h => ?_)
      · exact G_loc (lle_s lle_0) (B_X1_endsNote_58 C t b N r Sz Bz (va_up (va_up S 2 (fun _ => (2 : Int32))) 1 (fun _ => ((S 1 0) + (1 : Int32)))) B h)
      · refine g_aload_n (pc' := 44) C dX1_endsNote_43 rfl rfl ?_
        refine gg_X1_0 (pc' := 47) (i := 0) C rfl hi_X1_endsNote_X1 lk_X1_endsNote_4 dX1_endsNote_44 rfl ?_
        refine g_aload_n (pc' := 48) C dX1_endsNote_47 rfl rfl ?_
        refine gg_X1_4 (pc' := 51) (i := 0) C rfl hi_X1_endsNote_X1 lk_X1_endsNote_6 dX1_endsNote_48 rfl ?_
        refine g_vi (v := (S 4 0)) rfl ?_
        refine g_aload_n (pc' := 52) C dX1_endsNote_51 rfl rfl ?_
        refine gg_X1_3 (pc' := 55) (i := 0) C rfl hi_X1_endsNote_X1 lk_X1_endsNote_2 dX1_endsNote_52 rfl ?_
        refine g_vi (v := (S 3 0)) rfl ?_
        refine k_X0_addNote (pc' := 58) C b N B (S 4 0) (S 3 0) [1] rfl (by decide) gX1_endsNote_X0_addNote ⟨Nat.le_of_ble_eq_true rfl, Nat.le_of_ble_eq_true rfl⟩ (Nat.le_of_ble_eq_true rfl) rfl dX1_endsNote_55 rfl h (fun B1 h => ?_)
        show G X _ [btW t (b 0) (va_up (va_up S 2 (fun _ => (2 : Int32))) 1 (fun _ => ((S 1 0) + (1 : Int32)))), bdW (gcA X) b B1] _ _ _
        exact G_loc (lle_s lle_0) (B_X1_endsNote_58 C t b N r Sz Bz (va_up (va_up S 2 (fun _ => (2 : Int32))) 1 (fun _ => ((S 1 0) + (1 : Int32)))) B1 h)
  · exact G_loc (lle_s lle_0) (B_X1_endsNote_58 C t b N r Sz Bz S B h)
set_option maxRecDepth 100000 in
set_option maxHeartbeats 4000000 in
theorem c_X1_endsNote (l : Launch) (D : va_G) (cA : Nat → ClassId) (t : Nat → Nat) (b : Nat → Nat) (N : Nat) (S : tS) (B : tS)  (r : Int32) (Sz : tS) (Bz : tS) (h : f_X1_endsNote N S B = some (r, Sz, Bz)) : MI l D cA yX1_endsNote wsX1_endsNote 2 47 [.ref (t 0)] [btW t (b 0) S, bdW cA b B] r [btW t (b 0) Sz, bdW cA b Bz] := MI_of (cc := cX1_endsNote) (maxL := 1) (rt := some .boolean) (by decide +kernel) rfl (List.forall_mem_cons.mpr ⟨rfl, List.forall_mem_nil _⟩) (Nat.le_of_ble_eq_true rfl) (fun X e1 e2 e3 C => by subst e1; subst e2; subst e3; exact B_X1_endsNote C t b N S B r Sz Bz h)
set_option maxRecDepth 100000 in
set_option maxHeartbeats 4000000 in
theorem nd_X1_endsNote : nd yX1_endsNote 0 := ⟨by decide +kernel, by decide +kernel, by decide +kernel⟩
set_option maxRecDepth 100000 in
set_option maxHeartbeats 4000000 in
theorem k_X1_endsNote {X : gX} {own : String} {cc : ByteArray} {nL : Nat} {ret : Option FieldType} {Ts : List Cond} {fr lm : Nat} {Q : State → Prop} {ms : List va_W} {L : List (Option Value)} {st : List Value} {pc pc' idx : Nat} {ρ : Type} {T : Int32 → tS → tS → Option ρ} {res : ρ} (C : cx X own cc nL ret Ts fr lm) (t : Nat → Nat) (b : Nat → Nat) (N : Nat) (S : tS) (B : tS)  (is : List Nat) (hC : is.map (fun i => ms[i]?) = [some (btW t (b 0) S), some (bdW (gcA X) b B)]) (hn : is.Nodup) (hG : GoodIn Ts (wsV own idx RX1 yX1_endsNote wsX1_endsNote)) (hR : 2 + 1 ≤ fr ∧ 8 + (1 + 11) + 47 ≤ lm) (hst : (st.map fun v => v.category).sum ≤ 8) (hLn : L.length = nL) (d : decode cc pc = .ok (.invokevirtual idx, 3)) (hp : pc + 3 = pc') (h : bd3 (f_X1_endsNote N S B) T = some res) (kk : ∀ (r : Int32) (Sz : tS) (Bz : tS), T r Sz Bz = some res → G X Q (rpl ms is [btW t (b 0) Sz, bdW (gcA X) b Bz]) L (.int r :: st) pc') : G X Q ms L (.ref (t 0) :: st) pc := by
  obtain ⟨r, Sz, Bz, h1, h⟩ := ob3 h
  exact G_callVI C (As := []) (c_X1_endsNote (gl X) (gD X) (gcA X) t b N S B r Sz Bz h1) hG rfl nd_X1_endsNote hR (q0 := 0) rfl rfl hC hn rfl rfl hst hLn d hp (kk r Sz Bz h)
theorem hi_X1_takesStar_X0 : ∀ w ∈ wsX00, w ∈ wsX1_takesStar := fun w h => List.mem_cons_of_mem _ (List.mem_append_right _ h)
theorem hi_X1_takesStar_X1 : ∀ w ∈ wsX10, w ∈ wsX1_takesStar := fun w h => List.mem_cons_of_mem _ (List.mem_append_left _ (List.mem_append_right _ h))
theorem lk_X1_takesStar_1 : Cond.fieldLink RX1 9 "NoteThemes$BoardText" "board" "LNoteThemes$Board;" ∈ wsX1_takesStar := List.mem_of_getElem? (i := 1) rfl
theorem lk_X1_takesStar_2 : Cond.fieldLink RX1 53 "NoteThemes$Board" "notes" "I" ∈ wsX1_takesStar := List.mem_of_getElem? (i := 2) rfl
def f_X1_takesStar (N : Nat) (S : tS) (B : tS)  : Option (Int32 × tS) := (bd (f_X0_dotsLeft N B (0 : Int32)) (fun r1 => (if r1 = 0 then some ((0 : Int32), B) else (bd (f_X0_hasMostDots N B (0 : Int32) ((B 0 0) - (1 : Int32))) (fun r2 => (if r2 = 0 then (bd (f_X0_addDots N B (0 : Int32) ((B 0 0) - (1 : Int32)) (1 : Int32)) (fun B3 => some ((1 : Int32), B3))) else some ((0 : Int32), B)))))))
set_option maxRecDepth 100000 in
set_option maxHeartbeats 4000000 in
theorem B_X1_takesStar {X : gX} (C : cx X RX1 cX1_takesStar 2 (some .boolean) wsX1_takesStar 2 45) (t : Nat → Nat) (b : Nat → Nat) (N : Nat) (S : tS) (B : tS)  (r : Int32) (Bz : tS) (h : f_X1_takesStar N S B = some (r, Bz)) : G X (QI X r [btW t (b 0) S, bdW (gcA X) b Bz]) [btW t (b 0) S, bdW (gcA X) b B] [some (.ref (t 0)), none] [] 0 := by
  unfold f_X1_takesStar at h
  refine g_aload_n (pc' := 1) C dX1_takesStar_0 rfl rfl ?_
  refine gg_X1_0 (pc' := 4) (i := 0) C rfl hi_X1_takesStar_X1 lk_X1_takesStar_1 dX1_takesStar_1 rfl ?_
  refine gg_X0_0 (pc' := 7) (i := 1) C rfl hi_X1_takesStar_X0 lk_X1_takesStar_2 dX1_takesStar_4 rfl ?_
  refine g_iconst (pc' := 8) (v := 1) C dX1_takesStar_7 (by decide) rfl ?_
  refine g_isub (pc' := 9) C dX1_takesStar_8 rfl ?_
  refine g_istore_n (pc' := 10) C dX1_takesStar_9 (Nat.le_of_ble_eq_true rfl) rfl (L' := [some (.ref (t 0)), some (.int ((B 0 0) - (1 : Int32)))]) rfl ?_
  refine g_aload_n (pc' := 11) C dX1_takesStar_10 rfl rfl ?_
  refine gg_X1_0 (pc' := 14) (i := 0) C rfl hi_X1_takesStar_X1 lk_X1_takesStar_1 dX1_takesStar_11 rfl ?_
  refine g_iconst (pc' := 15) (v := 0) C dX1_takesStar_14 (by decide) rfl ?_
  refine k_X0_dotsLeft (pc' := 18) C b N B (0 : Int32) [1] rfl (by decide) gX1_takesStar_X0_dotsLeft ⟨Nat.le_of_ble_eq_true rfl, Nat.le_of_ble_eq_true rfl⟩ (Nat.le_of_ble_eq_true rfl) rfl dX1_takesStar_15 rfl h (fun r1 h => ?_)
  refine g_if_eq (pc' := 21) (tgt := 33) C dX1_takesStar_18 (by decide) rfl h (fun c h => ?_) (fun c h => ?_)
  · refine g_iconst (pc' := 34) (v := 0) C dX1_takesStar_33 (by decide) rfl ?_
    obtain ⟨rfl, rfl⟩ := pj2 (Option.some.inj h)
    exact g_zret0 C rfl dX1_takesStar_34
  · refine g_aload_n (pc' := 22) C dX1_takesStar_21 rfl rfl ?_
    refine gg_X1_0 (pc' := 25) (i := 0) C rfl hi_X1_takesStar_X1 lk_X1_takesStar_1 dX1_takesStar_22 rfl ?_
    refine g_iconst (pc' := 26) (v := 0) C dX1_takesStar_25 (by decide) rfl ?_
    refine g_iload_n (pc' := 27) C dX1_takesStar_26 rfl rfl ?_
    refine k_X0_hasMostDots (pc' := 30) C b N B (0 : Int32) ((B 0 0) - (1 : Int32)) [1] rfl (by decide) gX1_takesStar_X0_hasMostDots ⟨Nat.le_of_ble_eq_true rfl, Nat.le_of_ble_eq_true rfl⟩ (Nat.le_of_ble_eq_true rfl) rfl dX1_takesStar_27 rfl h (fun r2 h => ?_)
    refine g_if_eq (pc' := 33) (tgt := 35) C dX1_takesStar_30 (by decide) rfl h (fun c h => ?_) (fun c h => ?_)
    · refine g_aload_n (pc' := 36) C dX1_takesStar_35 rfl rfl ?_
      refine gg_X1_0 (pc' := 39) (i := 0) C rfl hi_X1_takesStar_X1 lk_X1_takesStar_1 dX1_takesStar_36 rfl ?_
      refine g_iconst (pc' := 40) (v := 0) C dX1_takesStar_39 (by decide) rfl ?_
      refine g_iload_n (pc' := 41) C dX1_takesStar_40 rfl rfl ?_
      refine g_iconst (pc' := 42) (v := 1) C dX1_takesStar_41 (by decide) rfl ?_
      refine k_X0_addDots (pc' := 45) C b N B (0 : Int32) ((B 0 0) - (1 : Int32)) (1 : Int32) [1] rfl (by decide) gX1_takesStar_X0_addDots ⟨Nat.le_of_ble_eq_true rfl, Nat.le_of_ble_eq_true rfl⟩ (Nat.le_of_ble_eq_true rfl) rfl dX1_takesStar_42 rfl h (fun B3 h => ?_)
      show G X _ [btW t (b 0) S, bdW (gcA X) b B3] _ _ _
      refine g_iconst (pc' := 46) (v := 1) C dX1_takesStar_45 (by decide) rfl ?_
      obtain ⟨rfl, rfl⟩ := pj2 (Option.some.inj h)
      exact g_zret0 C rfl dX1_takesStar_46
    · refine g_iconst (pc' := 34) (v := 0) C dX1_takesStar_33 (by decide) rfl ?_
      obtain ⟨rfl, rfl⟩ := pj2 (Option.some.inj h)
      exact g_zret0 C rfl dX1_takesStar_34
set_option maxRecDepth 100000 in
set_option maxHeartbeats 4000000 in
theorem c_X1_takesStar (l : Launch) (D : va_G) (cA : Nat → ClassId) (t : Nat → Nat) (b : Nat → Nat) (N : Nat) (S : tS) (B : tS)  (r : Int32) (Bz : tS) (h : f_X1_takesStar N S B = some (r, Bz)) : MI l D cA yX1_takesStar wsX1_takesStar 2 45 [.ref (t 0)] [btW t (b 0) S, bdW cA b B] r [btW t (b 0) S, bdW cA b Bz] := MI_of (cc := cX1_takesStar) (maxL := 2) (rt := some .boolean) (by decide +kernel) rfl (List.forall_mem_cons.mpr ⟨rfl, List.forall_mem_nil _⟩) (Nat.le_of_ble_eq_true rfl) (fun X e1 e2 e3 C => by subst e1; subst e2; subst e3; exact B_X1_takesStar C t b N S B r Bz h)
set_option maxRecDepth 100000 in
set_option maxHeartbeats 4000000 in
theorem nd_X1_takesStar : nd yX1_takesStar 0 := ⟨by decide +kernel, by decide +kernel, by decide +kernel⟩
set_option maxRecDepth 100000 in
set_option maxHeartbeats 4000000 in
theorem k_X1_takesStar {X : gX} {own : String} {cc : ByteArray} {nL : Nat} {ret : Option FieldType} {Ts : List Cond} {fr lm : Nat} {Q : State → Prop} {ms : List va_W} {L : List (Option Value)} {st : List Value} {pc pc' idx : Nat} {ρ : Type} {T : Int32 → tS → Option ρ} {res : ρ} (C : cx X own cc nL ret Ts fr lm) (t : Nat → Nat) (b : Nat → Nat) (N : Nat) (S : tS) (B : tS)  (is : List Nat) (hC : is.map (fun i => ms[i]?) = [some (btW t (b 0) S), some (bdW (gcA X) b B)]) (hn : is.Nodup) (hG : GoodIn Ts (wsV own idx RX1 yX1_takesStar wsX1_takesStar)) (hR : 2 + 1 ≤ fr ∧ 8 + (2 + 11) + 45 ≤ lm) (hst : (st.map fun v => v.category).sum ≤ 8) (hLn : L.length = nL) (d : decode cc pc = .ok (.invokevirtual idx, 3)) (hp : pc + 3 = pc') (h : bd2 (f_X1_takesStar N S B) T = some res) (kk : ∀ (r : Int32) (Bz : tS), T r Bz = some res → G X Q (rpl ms is [btW t (b 0) S, bdW (gcA X) b Bz]) L (.int r :: st) pc') : G X Q ms L (.ref (t 0) :: st) pc := by
  obtain ⟨r, Bz, h1, h⟩ := ob2 h
  exact G_callVI C (As := []) (c_X1_takesStar (gl X) (gD X) (gcA X) t b N S B r Bz h1) hG rfl nd_X1_takesStar hR (q0 := 0) rfl rfl hC hn rfl rfl hst hLn d hp (kk r Bz h)
def f_X1_takesSemicolon (N : Nat) (S : tS) (B : tS)  : Option (Int32 × tS × tS) := (bd3 (f_X1_endsNote N S B) (fun r1 S1 B1 => (if r1 = 0 then some ((0 : Int32), S1, B1) else (bd (f_X1_beginNumber N S1 (0 : Int32)) (fun S2 => some ((1 : Int32), S2, B1))))))
set_option maxRecDepth 100000 in
set_option maxHeartbeats 4000000 in
theorem B_X1_takesSemicolon {X : gX} (C : cx X RX1 cX1_takesSemicolon 1 (some .boolean) wsX1_takesSemicolon 3 67) (t : Nat → Nat) (b : Nat → Nat) (N : Nat) (S : tS) (B : tS)  (r : Int32) (Sz : tS) (Bz : tS) (h : f_X1_takesSemicolon N S B = some (r, Sz, Bz)) : G X (QI X r [btW t (b 0) Sz, bdW (gcA X) b Bz]) [btW t (b 0) S, bdW (gcA X) b B] [some (.ref (t 0))] [] 0 := by
  unfold f_X1_takesSemicolon at h
  refine g_aload_n (pc' := 1) C dX1_takesSemicolon_0 rfl rfl ?_
  refine k_X1_endsNote (pc' := 4) C t b N S B [0, 1] rfl (by decide) gX1_takesSemicolon_X1_endsNote ⟨Nat.le_of_ble_eq_true rfl, Nat.le_of_ble_eq_true rfl⟩ (Nat.le_of_ble_eq_true rfl) rfl dX1_takesSemicolon_1 rfl h (fun r1 S1 B1 h => ?_)
  show G X _ [btW t (b 0) S1, bdW (gcA X) b B1] _ _ _
  refine g_if_ne (pc' := 7) (tgt := 9) C dX1_takesSemicolon_4 (by decide) rfl h (fun c h => ?_) (fun c h => ?_)
  · refine g_iconst (pc' := 8) (v := 0) C dX1_takesSemicolon_7 (by decide) rfl ?_
    obtain ⟨rfl, rfl, rfl⟩ := pj3 (Option.some.inj h)
    exact g_zret0 C rfl dX1_takesSemicolon_8
  · refine g_aload_n (pc' := 10) C dX1_takesSemicolon_9 rfl rfl ?_
    refine g_iconst (pc' := 11) (v := 0) C dX1_takesSemicolon_10 (by decide) rfl ?_
    refine k_X1_beginNumber (pc' := 14) C t b N S1 (0 : Int32) [0] rfl (by decide) gX1_takesSemicolon_X1_beginNumber ⟨Nat.le_of_ble_eq_true rfl, Nat.le_of_ble_eq_true rfl⟩ (Nat.le_of_ble_eq_true rfl) rfl dX1_takesSemicolon_11 rfl h (fun S2 h => ?_)
    show G X _ [btW t (b 0) S2, bdW (gcA X) b B1] _ _ _
    refine g_iconst (pc' := 15) (v := 1) C dX1_takesSemicolon_14 (by decide) rfl ?_
    obtain ⟨rfl, rfl, rfl⟩ := pj3 (Option.some.inj h)
    exact g_zret0 C rfl dX1_takesSemicolon_15
set_option maxRecDepth 100000 in
set_option maxHeartbeats 4000000 in
theorem c_X1_takesSemicolon (l : Launch) (D : va_G) (cA : Nat → ClassId) (t : Nat → Nat) (b : Nat → Nat) (N : Nat) (S : tS) (B : tS)  (r : Int32) (Sz : tS) (Bz : tS) (h : f_X1_takesSemicolon N S B = some (r, Sz, Bz)) : MI l D cA yX1_takesSemicolon wsX1_takesSemicolon 3 67 [.ref (t 0)] [btW t (b 0) S, bdW cA b B] r [btW t (b 0) Sz, bdW cA b Bz] := MI_of (cc := cX1_takesSemicolon) (maxL := 1) (rt := some .boolean) (by decide +kernel) rfl (List.forall_mem_cons.mpr ⟨rfl, List.forall_mem_nil _⟩) (Nat.le_of_ble_eq_true rfl) (fun X e1 e2 e3 C => by subst e1; subst e2; subst e3; exact B_X1_takesSemicolon C t b N S B r Sz Bz h)
set_option maxRecDepth 100000 in
set_option maxHeartbeats 4000000 in
theorem nd_X1_takesSemicolon : nd yX1_takesSemicolon 0 := ⟨by decide +kernel, by decide +kernel, by decide +kernel⟩
set_option maxRecDepth 100000 in
set_option maxHeartbeats 4000000 in
theorem k_X1_takesSemicolon {X : gX} {own : String} {cc : ByteArray} {nL : Nat} {ret : Option FieldType} {Ts : List Cond} {fr lm : Nat} {Q : State → Prop} {ms : List va_W} {L : List (Option Value)} {st : List Value} {pc pc' idx : Nat} {ρ : Type} {T : Int32 → tS → tS → Option ρ} {res : ρ} (C : cx X own cc nL ret Ts fr lm) (t : Nat → Nat) (b : Nat → Nat) (N : Nat) (S : tS) (B : tS)  (is : List Nat) (hC : is.map (fun i => ms[i]?) = [some (btW t (b 0) S), some (bdW (gcA X) b B)]) (hn : is.Nodup) (hG : GoodIn Ts (wsV own idx RX1 yX1_takesSemicolon wsX1_takesSemicolon)) (hR : 3 + 1 ≤ fr ∧ 8 + (1 + 11) + 67 ≤ lm) (hst : (st.map fun v => v.category).sum ≤ 8) (hLn : L.length = nL) (d : decode cc pc = .ok (.invokevirtual idx, 3)) (hp : pc + 3 = pc') (h : bd3 (f_X1_takesSemicolon N S B) T = some res) (kk : ∀ (r : Int32) (Sz : tS) (Bz : tS), T r Sz Bz = some res → G X Q (rpl ms is [btW t (b 0) Sz, bdW (gcA X) b Bz]) L (.int r :: st) pc') : G X Q ms L (.ref (t 0) :: st) pc := by
  obtain ⟨r, Sz, Bz, h1, h⟩ := ob3 h
  exact G_callVI C (As := []) (c_X1_takesSemicolon (gl X) (gD X) (gcA X) t b N S B r Sz Bz h1) hG rfl nd_X1_takesSemicolon hR (q0 := 0) rfl rfl hC hn rfl rfl hst hLn d hp (kk r Sz Bz h)
theorem hi_X1_takesDigit_X1 : ∀ w ∈ wsX10, w ∈ wsX1_takesDigit := fun w h => List.mem_cons_of_mem _ (List.mem_append_right _ h)
theorem lk_X1_takesDigit_1 : Cond.fieldLink RX1 19 "NoteThemes$BoardText" "part" "I" ∈ wsX1_takesDigit := List.mem_of_getElem? (i := 1) rfl
theorem lk_X1_takesDigit_2 : Cond.fieldLink RX1 22 "NoteThemes$BoardText" "number" "I" ∈ wsX1_takesDigit := List.mem_of_getElem? (i := 2) rfl
def f_X1_takesDigit_39 (N : Nat) (p0 : Int32)  (t0 : Int32) (S : tS) : Option (Int32 × tS) := (if (S 3 0) = 0 then some ((0 : Int32), S) else (if (((S 3 0) * (10 : Int32)) + p0) ≤ t0 then some ((1 : Int32), (va_up S 3 (fun _ => (((S 3 0) * (10 : Int32)) + p0)))) else some ((0 : Int32), S)))
set_option maxRecDepth 100000 in
set_option maxHeartbeats 4000000 in
theorem B_X1_takesDigit_39 {X : gX} (C : cx X RX1 cX1_takesDigit 3 (some .boolean) wsX1_takesDigit 0 0) (t : Nat → Nat) (b : Nat → Nat) (N : Nat) (p0 : Int32) (r : Int32) (Sz : tS)  (t0 : Int32) (S : tS) (h : f_X1_takesDigit_39 N p0  t0 S = some (r, Sz)) : G X (QI X r [btW t (b 0) Sz]) [btW t (b 0) S] [some (.ref (t 0)), some (.int p0), none] [.int t0] 39 := by
  unfold f_X1_takesDigit_39 at h
  refine g_istore_n (pc' := 40) C dX1_takesDigit_39 (Nat.le_of_ble_eq_true rfl) rfl (L' := [some (.ref (t 0)), some (.int p0), some (.int t0)]) rfl ?_
  refine g_aload_n (pc' := 41) C dX1_takesDigit_40 rfl rfl ?_
  refine gg_X1_3 (pc' := 44) (i := 0) C rfl hi_X1_takesDigit_X1 lk_X1_takesDigit_2 dX1_takesDigit_41 rfl ?_
  refine g_if_eq (pc' := 47) (tgt := 60) C dX1_takesDigit_44 (by decide) rfl h (fun c h => ?_) (fun c h => ?_)
  · refine g_iconst (pc' := 61) (v := 0) C dX1_takesDigit_60 (by decide) rfl ?_
    obtain ⟨rfl, rfl⟩ := pj2 (Option.some.inj h)
    exact g_zret0 C rfl dX1_takesDigit_61
  · refine g_aload_n (pc' := 48) C dX1_takesDigit_47 rfl rfl ?_
    refine gg_X1_3 (pc' := 51) (i := 0) C rfl hi_X1_takesDigit_X1 lk_X1_takesDigit_2 dX1_takesDigit_48 rfl ?_
    refine g_bipush (pc' := 53) (v := 10) C dX1_takesDigit_51 (by decide) rfl ?_
    refine g_imul (pc' := 54) C dX1_takesDigit_53 rfl ?_
    refine g_iload_n (pc' := 55) C dX1_takesDigit_54 rfl rfl ?_
    refine g_iadd (pc' := 56) C dX1_takesDigit_55 rfl ?_
    refine g_iload_n (pc' := 57) C dX1_takesDigit_56 rfl rfl ?_
    refine g_icmp_le (pc' := 60) (tgt := 62) C dX1_takesDigit_57 (by decide) rfl h (fun c h => ?_) (fun c h => ?_)
    · refine g_aload_n (pc' := 63) C dX1_takesDigit_62 rfl rfl ?_
      refine g_aload_n (pc' := 64) C dX1_takesDigit_63 rfl rfl ?_
      refine gg_X1_3 (pc' := 67) (i := 0) C rfl hi_X1_takesDigit_X1 lk_X1_takesDigit_2 dX1_takesDigit_64 rfl ?_
      refine g_bipush (pc' := 69) (v := 10) C dX1_takesDigit_67 (by decide) rfl ?_
      refine g_imul (pc' := 70) C dX1_takesDigit_69 rfl ?_
      refine g_iload_n (pc' := 71) C dX1_takesDigit_70 rfl rfl ?_
      refine g_iadd (pc' := 72) C dX1_takesDigit_71 rfl ?_
      refine gp_X1_3 (pc' := 75) (i := 0) C rfl hi_X1_takesDigit_X1 lk_X1_takesDigit_2 dX1_takesDigit_72 rfl ?_
      show G X _ [btW t (b 0) (va_up S 3 (fun _ => (((S 3 0) * (10 : Int32)) + p0)))] _ _ _
      refine g_iconst (pc' := 76) (v := 1) C dX1_takesDigit_75 (by decide) rfl ?_
      obtain ⟨rfl, rfl⟩ := pj2 (Option.some.inj h)
      exact g_zret0 C rfl dX1_takesDigit_76
    · refine g_iconst (pc' := 61) (v := 0) C dX1_takesDigit_60 (by decide) rfl ?_
      obtain ⟨rfl, rfl⟩ := pj2 (Option.some.inj h)
      exact g_zret0 C rfl dX1_takesDigit_61
def f_X1_takesDigit (N : Nat) (S : tS) (p0 : Int32) : Option (Int32 × tS) := (if (S 2 0) = (2 : Int32) then some ((0 : Int32), S) else (if (S 3 0) = (-1 : Int32) then some ((1 : Int32), (va_up S 3 (fun _ => p0))) else (if (S 2 0) = 0 then f_X1_takesDigit_39 N p0 (29 : Int32) S else f_X1_takesDigit_39 N p0 (19 : Int32) S)))
set_option maxRecDepth 100000 in
set_option maxHeartbeats 4000000 in
theorem B_X1_takesDigit {X : gX} (C : cx X RX1 cX1_takesDigit 3 (some .boolean) wsX1_takesDigit 0 0) (t : Nat → Nat) (b : Nat → Nat) (N : Nat) (S : tS) (p0 : Int32) (r : Int32) (Sz : tS) (h : f_X1_takesDigit N S p0 = some (r, Sz)) : G X (QI X r [btW t (b 0) Sz]) [btW t (b 0) S] [some (.ref (t 0)), some (.int p0), none] [] 0 := by
  unfold f_X1_takesDigit at h
  refine g_aload_n (pc' := 1) C dX1_takesDigit_0 rfl rfl ?_
  refine gg_X1_2 (pc' := 4) (i := 0) C rfl hi_X1_takesDigit_X1 lk_X1_takesDigit_1 dX1_takesDigit_1 rfl ?_
  refine g_iconst (pc' := 5) (v := 2) C dX1_takesDigit_4 (by decide) rfl ?_
  refine g_icmp_ne (pc' := 8) (tgt := 10) C dX1_takesDigit_5 (by decide) rfl h (fun c h => ?_) (fun c h => ?_)
  · refine g_iconst (pc' := 9) (v := 0) C dX1_takesDigit_8 (by decide) rfl ?_
    obtain ⟨rfl, rfl⟩ := pj2 (Option.some.inj h)
    exact g_zret0 C rfl dX1_takesDigit_9
  · refine g_aload_n (pc' := 11) C dX1_takesDigit_10 rfl rfl ?_
    refine gg_X1_3 (pc' := 14) (i := 0) C rfl hi_X1_takesDigit_X1 lk_X1_takesDigit_2 dX1_takesDigit_11 rfl ?_
    refine g_iconst (pc' := 15) (v := -1) C dX1_takesDigit_14 (by decide) rfl ?_
    refine g_icmp_ne (pc' := 18) (tgt := 25) C dX1_takesDigit_15 (by decide) rfl h (fun c h => ?_) (fun c h => ?_)
    · refine g_aload_n (pc' := 19) C dX1_takesDigit_18 rfl rfl ?_
      refine g_iload_n (pc' := 20) C dX1_takesDigit_19 rfl rfl ?_
      refine gp_X1_3 (pc' := 23) (i := 0) C rfl hi_X1_takesDigit_X1 lk_X1_takesDigit_2 dX1_takesDigit_20 rfl ?_
      show G X _ [btW t (b 0) (va_up S 3 (fun _ => p0))] _ _ _
      refine g_iconst (pc' := 24) (v := 1) C dX1_takesDigit_23 (by decide) rfl ?_
      obtain ⟨rfl, rfl⟩ := pj2 (Option.some.inj h)
      exact g_zret0 C rfl dX1_takesDigit_24
    · refine g_aload_n (pc' := 26) C dX1_takesDigit_25 rfl rfl ?_
      refine gg_X1_2 (pc' := 29) (i := 0) C rfl hi_X1_takesDigit_X1 lk_X1_takesDigit_1 dX1_takesDigit_26 rfl ?_
      refine g_if_ne (pc' := 32) (tgt := 37) C dX1_takesDigit_29 (by decide) rfl h (fun c h => ?_) (fun c h => ?_)
      · refine g_bipush (pc' := 34) (v := 29) C dX1_takesDigit_32 (by decide) rfl ?_
        refine g_goto (pc' := 39) C dX1_takesDigit_34 (by decide) ?_
        exact G_loc (lle_s (lle_s (lle_n lle_0))) (B_X1_takesDigit_39 C t b N p0 r Sz (29 : Int32) S h)
      · refine g_bipush (pc' := 39) (v := 19) C dX1_takesDigit_37 (by decide) rfl ?_
        exact G_loc (lle_s (lle_s (lle_n lle_0))) (B_X1_takesDigit_39 C t b N p0 r Sz (19 : Int32) S h)
set_option maxRecDepth 100000 in
set_option maxHeartbeats 4000000 in
theorem c_X1_takesDigit (l : Launch) (D : va_G) (cA : Nat → ClassId) (t : Nat → Nat) (b : Nat → Nat) (N : Nat) (S : tS) (p0 : Int32) (r : Int32) (Sz : tS) (h : f_X1_takesDigit N S p0 = some (r, Sz)) : MI l D cA yX1_takesDigit wsX1_takesDigit 0 0 [.ref (t 0), .int p0] [btW t (b 0) S] r [btW t (b 0) Sz] := MI_of (cc := cX1_takesDigit) (maxL := 3) (rt := some .boolean) (by decide +kernel) rfl (List.forall_mem_cons.mpr ⟨rfl, List.forall_mem_cons.mpr ⟨rfl, List.forall_mem_nil _⟩⟩) (Nat.le_of_ble_eq_true rfl) (fun X e1 e2 e3 C => by subst e1; subst e2; subst e3; exact B_X1_takesDigit C t b N S p0 r Sz h)
set_option maxRecDepth 100000 in
set_option maxHeartbeats 4000000 in
theorem nd_X1_takesDigit : nd yX1_takesDigit 1 := ⟨by decide +kernel, by decide +kernel, by decide +kernel⟩
set_option maxRecDepth 100000 in
set_option maxHeartbeats 4000000 in
theorem k_X1_takesDigit {X : gX} {own : String} {cc : ByteArray} {nL : Nat} {ret : Option FieldType} {Ts : List Cond} {fr lm : Nat} {Q : State → Prop} {ms : List va_W} {L : List (Option Value)} {st : List Value} {pc pc' idx : Nat} {ρ : Type} {T : Int32 → tS → Option ρ} {res : ρ} (C : cx X own cc nL ret Ts fr lm) (t : Nat → Nat) (b : Nat → Nat) (N : Nat) (S : tS) (p0 : Int32) (is : List Nat) (hC : is.map (fun i => ms[i]?) = [some (btW t (b 0) S)]) (hn : is.Nodup) (hG : GoodIn Ts (wsV own idx RX1 yX1_takesDigit wsX1_takesDigit)) (hR : 0 + 1 ≤ fr ∧ 8 + (3 + 11) + 0 ≤ lm) (hst : (st.map fun v => v.category).sum ≤ 8) (hLn : L.length = nL) (d : decode cc pc = .ok (.invokevirtual idx, 3)) (hp : pc + 3 = pc') (h : bd2 (f_X1_takesDigit N S p0) T = some res) (kk : ∀ (r : Int32) (Sz : tS), T r Sz = some res → G X Q (rpl ms is [btW t (b 0) Sz]) L (.int r :: st) pc') : G X Q ms L (.int p0 :: .ref (t 0) :: st) pc := by
  obtain ⟨r, Sz, h1, h⟩ := ob2 h
  exact G_callVI C (As := [.int p0]) (c_X1_takesDigit (gl X) (gD X) (gcA X) t b N S p0 r Sz h1) hG rfl nd_X1_takesDigit hR (q0 := 0) rfl rfl hC hn rfl rfl hst hLn d hp (kk r Sz h)
def f_X1_takes (N : Nat) (S : tS) (B : tS) (p0 : Int32) : Option (Int32 × tS × tS) := (if p0 = (42 : Int32) then (bd3 (f_X1_endsNote N S B) (fun r1 S1 B1 => (if r1 = 0 then some ((0 : Int32), S1, B1) else (bd2 (f_X1_takesStar N S1 B1) (fun r2 B2 => (if r2 = 0 then some ((0 : Int32), S1, B2) else some ((1 : Int32), S1, B2))))))) else (if p0 = (44 : Int32) then (bd2 (f_X1_takesComma N S) (fun r3 S3 => (if ¬ (r3 = 0 ∨ r3 = 1) then none else some (r3, S3, B)))) else (if p0 = (59 : Int32) then (bd3 (f_X1_takesSemicolon N S B) (fun r4 S4 B4 => (if ¬ (r4 = 0 ∨ r4 = 1) then none else some (r4, S4, B4)))) else (if p0 < (48 : Int32) then some ((0 : Int32), S, B) else (if (57 : Int32) < p0 then some ((0 : Int32), S, B) else (bd2 (f_X1_takesDigit N S (p0 - (48 : Int32))) (fun r5 S5 => (if r5 = 0 then some ((0 : Int32), S5, B) else some ((1 : Int32), S5, B)))))))))
set_option maxRecDepth 100000 in
set_option maxHeartbeats 4000000 in
theorem B_X1_takes {X : gX} (C : cx X RX1 cX1_takes 2 (some .boolean) wsX1_takes 4 87) (t : Nat → Nat) (b : Nat → Nat) (N : Nat) (S : tS) (B : tS) (p0 : Int32) (r : Int32) (Sz : tS) (Bz : tS) (h : f_X1_takes N S B p0 = some (r, Sz, Bz)) : G X (QI X r [btW t (b 0) Sz, bdW (gcA X) b Bz]) [btW t (b 0) S, bdW (gcA X) b B] [some (.ref (t 0)), some (.int p0)] [] 0 := by
  unfold f_X1_takes at h
  refine g_iload_n (pc' := 1) C dX1_takes_0 rfl rfl ?_
  refine oif h (fun c h => ?_) (fun c0 h => ?_)
  · refine g_look (pc' := 41) (off := 40) C dX1_takes_1 (by decide) (by rw [c] <;> decide) (by decide) ?_
    refine g_aload_n (pc' := 42) C dX1_takes_41 rfl rfl ?_
    refine k_X1_endsNote (pc' := 45) C t b N S B [0, 1] rfl (by decide) gX1_takes_X1_endsNote ⟨Nat.le_of_ble_eq_true rfl, Nat.le_of_ble_eq_true rfl⟩ (Nat.le_of_ble_eq_true rfl) rfl dX1_takes_42 rfl h (fun r1 S1 B1 h => ?_)
    show G X _ [btW t (b 0) S1, bdW (gcA X) b B1] _ _ _
    refine g_if_eq (pc' := 48) (tgt := 59) C dX1_takes_45 (by decide) rfl h (fun c h => ?_) (fun c h => ?_)
    · refine g_iconst (pc' := 60) (v := 0) C dX1_takes_59 (by decide) rfl ?_
      obtain ⟨rfl, rfl, rfl⟩ := pj3 (Option.some.inj h)
      exact g_zret0 C rfl dX1_takes_60
    · refine g_aload_n (pc' := 49) C dX1_takes_48 rfl rfl ?_
      refine k_X1_takesStar (pc' := 52) C t b N S1 B1 [0, 1] rfl (by decide) gX1_takes_X1_takesStar ⟨Nat.le_of_ble_eq_true rfl, Nat.le_of_ble_eq_true rfl⟩ (Nat.le_of_ble_eq_true rfl) rfl dX1_takes_49 rfl h (fun r2 B2 h => ?_)
      show G X _ [btW t (b 0) S1, bdW (gcA X) b B2] _ _ _
      refine g_if_eq (pc' := 55) (tgt := 59) C dX1_takes_52 (by decide) rfl h (fun c h => ?_) (fun c h => ?_)
      · refine g_iconst (pc' := 60) (v := 0) C dX1_takes_59 (by decide) rfl ?_
        obtain ⟨rfl, rfl, rfl⟩ := pj3 (Option.some.inj h)
        exact g_zret0 C rfl dX1_takes_60
      · refine g_iconst (pc' := 56) (v := 1) C dX1_takes_55 (by decide) rfl ?_
        refine g_goto (pc' := 60) C dX1_takes_56 (by decide) ?_
        obtain ⟨rfl, rfl, rfl⟩ := pj3 (Option.some.inj h)
        exact g_zret0 C rfl dX1_takes_60
  refine oif h (fun c h => ?_) (fun c1 h => ?_)
  · refine g_look (pc' := 36) (off := 35) C dX1_takes_1 (by decide) (by rw [c] <;> decide) (by decide) ?_
    refine g_aload_n (pc' := 37) C dX1_takes_36 rfl rfl ?_
    refine k_X1_takesComma (pc' := 40) C t b N S [0] rfl (by decide) gX1_takes_X1_takesComma ⟨Nat.le_of_ble_eq_true rfl, Nat.le_of_ble_eq_true rfl⟩ (Nat.le_of_ble_eq_true rfl) rfl dX1_takes_37 rfl h (fun r3 S3 h => ?_)
    show G X _ [btW t (b 0) S3, bdW (gcA X) b B] _ _ _
    obtain ⟨hz, h⟩ := og h
    obtain ⟨rfl, rfl, rfl⟩ := pj3 (Option.some.inj h)
    exact g_zret0 C (zb hz) dX1_takes_40
  refine oif h (fun c h => ?_) (fun c2 h => ?_)
  · refine g_look (pc' := 61) (off := 60) C dX1_takes_1 (by decide) (by rw [c] <;> decide) (by decide) ?_
    refine g_aload_n (pc' := 62) C dX1_takes_61 rfl rfl ?_
    refine k_X1_takesSemicolon (pc' := 65) C t b N S B [0, 1] rfl (by decide) gX1_takes_X1_takesSemicolon ⟨Nat.le_of_ble_eq_true rfl, Nat.le_of_ble_eq_true rfl⟩ (Nat.le_of_ble_eq_true rfl) rfl dX1_takes_62 rfl h (fun r4 S4 B4 h => ?_)
    show G X _ [btW t (b 0) S4, bdW (gcA X) b B4] _ _ _
    obtain ⟨hz, h⟩ := og h
    obtain ⟨rfl, rfl, rfl⟩ := pj3 (Option.some.inj h)
    exact g_zret0 C (zb hz) dX1_takes_65
  refine g_look (pc' := 66) (off := 65) C dX1_takes_1 (by decide) ((lv_osw (a := 42) c0 (by decide)).trans ((lv_osw (a := 44) c1 (by decide)).trans ((lv_osw (a := 59) c2 (by decide)).trans rfl))) (by decide) ?_
  refine g_iload_n (pc' := 67) C dX1_takes_66 rfl rfl ?_
  refine g_bipush (pc' := 69) (v := 48) C dX1_takes_67 (by decide) rfl ?_
  refine g_icmp_lt (pc' := 72) (tgt := 93) C dX1_takes_69 (by decide) rfl h (fun c h => ?_) (fun c h => ?_)
  · refine g_iconst (pc' := 94) (v := 0) C dX1_takes_93 (by decide) rfl ?_
    obtain ⟨rfl, rfl, rfl⟩ := pj3 (Option.some.inj h)
    exact g_zret0 C rfl dX1_takes_94
  · refine g_iload_n (pc' := 73) C dX1_takes_72 rfl rfl ?_
    refine g_bipush (pc' := 75) (v := 57) C dX1_takes_73 (by decide) rfl ?_
    refine g_icmp_gt (pc' := 78) (tgt := 93) C dX1_takes_75 (by decide) rfl h (fun c h => ?_) (fun c h => ?_)
    · refine g_iconst (pc' := 94) (v := 0) C dX1_takes_93 (by decide) rfl ?_
      obtain ⟨rfl, rfl, rfl⟩ := pj3 (Option.some.inj h)
      exact g_zret0 C rfl dX1_takes_94
    · refine g_aload_n (pc' := 79) C dX1_takes_78 rfl rfl ?_
      refine g_iload_n (pc' := 80) C dX1_takes_79 rfl rfl ?_
      refine g_bipush (pc' := 82) (v := 48) C dX1_takes_80 (by decide) rfl ?_
      refine g_isub (pc' := 83) C dX1_takes_82 rfl ?_
      refine k_X1_takesDigit (pc' := 86) C t b N S (p0 - (48 : Int32)) [0] rfl (by decide) gX1_takes_X1_takesDigit ⟨Nat.le_of_ble_eq_true rfl, Nat.le_of_ble_eq_true rfl⟩ (Nat.le_of_ble_eq_true rfl) rfl dX1_takes_83 rfl h (fun r5 S5 h => ?_)
      show G X _ [btW t (b 0) S5, bdW (gcA X) b B] _ _ _
      refine g_if_eq (pc' := 89) (tgt := 93) C dX1_takes_86 (by decide) rfl h (fun c h => ?_) (fun c h => ?_)
      · refine g_iconst (pc' := 94) (v := 0) C dX1_takes_93 (by decide) rfl ?_
        obtain ⟨rfl, rfl, rfl⟩ := pj3 (Option.some.inj h)
        exact g_zret0 C rfl dX1_takes_94
      · refine g_iconst (pc' := 90) (v := 1) C dX1_takes_89 (by decide) rfl ?_
        refine g_goto (pc' := 94) C dX1_takes_90 (by decide) ?_
        obtain ⟨rfl, rfl, rfl⟩ := pj3 (Option.some.inj h)
        exact g_zret0 C rfl dX1_takes_94
set_option maxRecDepth 100000 in
set_option maxHeartbeats 4000000 in
theorem c_X1_takes (l : Launch) (D : va_G) (cA : Nat → ClassId) (t : Nat → Nat) (b : Nat → Nat) (N : Nat) (S : tS) (B : tS) (p0 : Int32) (r : Int32) (Sz : tS) (Bz : tS) (h : f_X1_takes N S B p0 = some (r, Sz, Bz)) : MI l D cA yX1_takes wsX1_takes 4 87 [.ref (t 0), .int p0] [btW t (b 0) S, bdW cA b B] r [btW t (b 0) Sz, bdW cA b Bz] := MI_of (cc := cX1_takes) (maxL := 2) (rt := some .boolean) (by decide +kernel) rfl (List.forall_mem_cons.mpr ⟨rfl, List.forall_mem_cons.mpr ⟨rfl, List.forall_mem_nil _⟩⟩) (Nat.le_of_ble_eq_true rfl) (fun X e1 e2 e3 C => by subst e1; subst e2; subst e3; exact B_X1_takes C t b N S B p0 r Sz Bz h)
set_option maxRecDepth 100000 in
set_option maxHeartbeats 4000000 in
theorem nd_X1_takes : nd yX1_takes 1 := ⟨by decide +kernel, by decide +kernel, by decide +kernel⟩
set_option maxRecDepth 100000 in
set_option maxHeartbeats 4000000 in
theorem k_X1_takes {X : gX} {own : String} {cc : ByteArray} {nL : Nat} {ret : Option FieldType} {Ts : List Cond} {fr lm : Nat} {Q : State → Prop} {ms : List va_W} {L : List (Option Value)} {st : List Value} {pc pc' idx : Nat} {ρ : Type} {T : Int32 → tS → tS → Option ρ} {res : ρ} (C : cx X own cc nL ret Ts fr lm) (t : Nat → Nat) (b : Nat → Nat) (N : Nat) (S : tS) (B : tS) (p0 : Int32) (is : List Nat) (hC : is.map (fun i => ms[i]?) = [some (btW t (b 0) S), some (bdW (gcA X) b B)]) (hn : is.Nodup) (hG : GoodIn Ts (wsV own idx RX1 yX1_takes wsX1_takes)) (hR : 4 + 1 ≤ fr ∧ 8 + (2 + 11) + 87 ≤ lm) (hst : (st.map fun v => v.category).sum ≤ 8) (hLn : L.length = nL) (d : decode cc pc = .ok (.invokevirtual idx, 3)) (hp : pc + 3 = pc') (h : bd3 (f_X1_takes N S B p0) T = some res) (kk : ∀ (r : Int32) (Sz : tS) (Bz : tS), T r Sz Bz = some res → G X Q (rpl ms is [btW t (b 0) Sz, bdW (gcA X) b Bz]) L (.int r :: st) pc') : G X Q ms L (.int p0 :: .ref (t 0) :: st) pc := by
  obtain ⟨r, Sz, Bz, h1, h⟩ := ob3 h
  exact G_callVI C (As := [.int p0]) (c_X1_takes (gl X) (gD X) (gcA X) t b N S B p0 r Sz Bz h1) hG rfl nd_X1_takes hR (q0 := 0) rfl rfl hC hn rfl rfl hst hLn d hp (kk r Sz Bz h)
theorem hi_X1_findFault_X1 : ∀ w ∈ wsX10, w ∈ wsX1_findFault := fun w h => List.mem_cons_of_mem _ (List.mem_append_left _ (List.mem_append_right _ h))
theorem lk_X1_findFault_1 : Cond.fieldLink RX1 15 "NoteThemes$BoardText" "notesRead" "I" ∈ wsX1_findFault := List.mem_of_getElem? (i := 1) rfl
def f_X1_findFault_12b (N : Nat) (Tx : tS) (p1 : Int32)  (k12 : Int32 → tS → tS → Option (Int32 × tS × tS)) (x3 : Int32) (S : tS) (B : tS) : Option (Int32 × tS × tS) := (if p1 ≤ x3 then (bd3 (f_X1_endsNote N S B) (fun r1 S1 B1 => (if r1 = 0 then some (p1, S1, B1) else some ((-1 : Int32), S1, B1)))) else (if x3 < 0 ∨ 80 ≤ x3.toNatClampNeg then none else (bd3 (f_X1_takes N S B (Tx 0 x3.toNatClampNeg)) (fun r2 S2 B2 => (if r2 = 0 then some (x3, S2, B2) else k12 (x3 + 1) S2 B2)))))
def f_X1_findFault_12 (N : Nat) (Tx : tS) (p1 : Int32)  : Nat → Int32 → tS → tS → Option (Int32 × tS × tS)
  | 0 => fun _ _ _ => none
  | n + 1 => f_X1_findFault_12b N Tx p1  (f_X1_findFault_12 N Tx p1  n)
set_option maxRecDepth 100000 in
set_option maxHeartbeats 4000000 in
theorem B_X1_findFault_12b {X : gX} (C : cx X RX1 cX1_findFault 4 (some .int) wsX1_findFault 5 108) (t : Nat → Nat) (b : Nat → Nat) (x : Nat → Nat) (N : Nat) (Tx : tS) (p1 : Int32) (r : Int32) (Sz : tS) (Bz : tS)  (k12 : Int32 → tS → tS → Option (Int32 × tS × tS)) (hk12 : ∀ (x3 : Int32) (S : tS) (B : tS), k12 x3 S B = some (r, Sz, Bz) → G X (QI X r [btW t (b 0) Sz, bdW (gcA X) b Bz, txW (gcA X) x Tx]) [btW t (b 0) S, bdW (gcA X) b B, txW (gcA X) x Tx] [some (.ref (t 0)), some (.ref (x 0)), some (.int p1), some (.int x3)] [] 12) (x3 : Int32) (S : tS) (B : tS) (h : f_X1_findFault_12b N Tx p1  k12 x3 S B = some (r, Sz, Bz)) : G X (QI X r [btW t (b 0) Sz, bdW (gcA X) b Bz, txW (gcA X) x Tx]) [btW t (b 0) S, bdW (gcA X) b B, txW (gcA X) x Tx] [some (.ref (t 0)), some (.ref (x 0)), some (.int p1), some (.int x3)] [] 12 := by
  unfold f_X1_findFault_12b at h
  refine g_iload_n (pc' := 13) C dX1_findFault_12 rfl rfl ?_
  refine g_iload_n (pc' := 14) C dX1_findFault_13 rfl rfl ?_
  refine g_icmp_ge (pc' := 17) (tgt := 35) C dX1_findFault_14 (by decide) rfl h (fun c h => ?_) (fun c h => ?_)
  · refine g_aload_n (pc' := 36) C dX1_findFault_35 rfl rfl ?_
    refine k_X1_endsNote (pc' := 39) C t b N S B [0, 1] rfl (by decide) gX1_findFault_X1_endsNote ⟨Nat.le_of_ble_eq_true rfl, Nat.le_of_ble_eq_true rfl⟩ (Nat.le_of_ble_eq_true rfl) rfl dX1_findFault_36 rfl h (fun r1 S1 B1 h => ?_)
    show G X _ [btW t (b 0) S1, bdW (gcA X) b B1, txW (gcA X) x Tx] _ _ _
    refine g_if_eq (pc' := 42) (tgt := 46) C dX1_findFault_39 (by decide) rfl h (fun c h => ?_) (fun c h => ?_)
    · refine g_iload_n (pc' := 47) C dX1_findFault_46 rfl rfl ?_
      obtain ⟨rfl, rfl, rfl⟩ := pj3 (Option.some.inj h)
      exact g_iret C dX1_findFault_47
    · refine g_iconst (pc' := 43) (v := -1) C dX1_findFault_42 (by decide) rfl ?_
      refine g_goto (pc' := 47) C dX1_findFault_43 (by decide) ?_
      obtain ⟨rfl, rfl, rfl⟩ := pj3 (Option.some.inj h)
      exact g_iret C dX1_findFault_47
  · refine g_aload_n (pc' := 18) C dX1_findFault_17 rfl rfl ?_
    refine g_aload_n (pc' := 19) C dX1_findFault_18 rfl rfl ?_
    refine g_iload_n (pc' := 20) C dX1_findFault_19 rfl rfl ?_
    refine g_cald (pc' := 21) (i := 2) (j := 0) C rfl rfl dX1_findFault_20 rfl h (fun h => ?_)
    refine k_X1_takes (pc' := 24) C t b N S B (Tx 0 x3.toNatClampNeg) [0, 1] rfl (by decide) gX1_findFault_X1_takes ⟨Nat.le_of_ble_eq_true rfl, Nat.le_of_ble_eq_true rfl⟩ (Nat.le_of_ble_eq_true rfl) rfl dX1_findFault_21 rfl h (fun r2 S2 B2 h => ?_)
    show G X _ [btW t (b 0) S2, bdW (gcA X) b B2, txW (gcA X) x Tx] _ _ _
    refine g_if_ne (pc' := 27) (tgt := 29) C dX1_findFault_24 (by decide) rfl h (fun c h => ?_) (fun c h => ?_)
    · refine g_iload_n (pc' := 28) C dX1_findFault_27 rfl rfl ?_
      obtain ⟨rfl, rfl, rfl⟩ := pj3 (Option.some.inj h)
      exact g_iret C dX1_findFault_28
    · refine g_iinc (pc' := 32) (v := (x3 + 1)) C dX1_findFault_29 rfl rfl rfl (L' := [some (.ref (t 0)), some (.ref (x 0)), some (.int p1), some (.int (x3 + 1))]) rfl ?_
      refine g_goto (pc' := 12) C dX1_findFault_32 (by decide) ?_
      exact G_loc (lle_s (lle_s (lle_s (lle_s lle_0)))) (hk12 (x3 + 1) S2 B2 h)
set_option maxRecDepth 100000 in
set_option maxHeartbeats 4000000 in
theorem L_X1_findFault_12 {X : gX} (C : cx X RX1 cX1_findFault 4 (some .int) wsX1_findFault 5 108) (t : Nat → Nat) (b : Nat → Nat) (x : Nat → Nat) (N : Nat) (Tx : tS) (p1 : Int32) (r : Int32) (Sz : tS) (Bz : tS)  : ∀ (n : Nat) (x3 : Int32) (S : tS) (B : tS), f_X1_findFault_12 N Tx p1  n x3 S B = some (r, Sz, Bz) → G X (QI X r [btW t (b 0) Sz, bdW (gcA X) b Bz, txW (gcA X) x Tx]) [btW t (b 0) S, bdW (gcA X) b B, txW (gcA X) x Tx] [some (.ref (t 0)), some (.ref (x 0)), some (.int p1), some (.int x3)] [] 12 := by
  intro n
  induction n with
  | zero => intro x3 S B h; have h : (none : Option (Int32 × tS × tS)) = some (r, Sz, Bz) := h; cases h
  | succ n ih => intro x3 S B h; exact B_X1_findFault_12b C t b x N Tx p1 r Sz Bz  (f_X1_findFault_12 N Tx p1  n) ih x3 S B h
def f_X1_findFault (N : Nat) (S : tS) (B : tS) (Tx : tS) (p1 : Int32) : Option (Int32 × tS × tS) := (bd (f_X1_beginNumber N (va_up S 1 (fun _ => (0 : Int32))) (0 : Int32)) (fun S1 => f_X1_findFault_12 N Tx p1 N (0 : Int32) S1 B))
set_option maxRecDepth 100000 in
set_option maxHeartbeats 4000000 in
theorem B_X1_findFault {X : gX} (C : cx X RX1 cX1_findFault 4 (some .int) wsX1_findFault 5 108) (t : Nat → Nat) (b : Nat → Nat) (x : Nat → Nat) (N : Nat) (S : tS) (B : tS) (Tx : tS) (p1 : Int32) (r : Int32) (Sz : tS) (Bz : tS) (h : f_X1_findFault N S B Tx p1 = some (r, Sz, Bz)) : G X (QI X r [btW t (b 0) Sz, bdW (gcA X) b Bz, txW (gcA X) x Tx]) [btW t (b 0) S, bdW (gcA X) b B, txW (gcA X) x Tx] [some (.ref (t 0)), some (.ref (x 0)), some (.int p1), none] [] 0 := by
  unfold f_X1_findFault at h
  refine g_aload_n (pc' := 1) C dX1_findFault_0 rfl rfl ?_
  refine g_iconst (pc' := 2) (v := 0) C dX1_findFault_1 (by decide) rfl ?_
  refine gp_X1_1 (pc' := 5) (i := 0) C rfl hi_X1_findFault_X1 lk_X1_findFault_1 dX1_findFault_2 rfl ?_
  show G X _ [btW t (b 0) (va_up S 1 (fun _ => (0 : Int32))), bdW (gcA X) b B, txW (gcA X) x Tx] _ _ _
  refine g_aload_n (pc' := 6) C dX1_findFault_5 rfl rfl ?_
  refine g_iconst (pc' := 7) (v := 0) C dX1_findFault_6 (by decide) rfl ?_
  refine k_X1_beginNumber (pc' := 10) C t b N (va_up S 1 (fun _ => (0 : Int32))) (0 : Int32) [0] rfl (by decide) gX1_findFault_X1_beginNumber ⟨Nat.le_of_ble_eq_true rfl, Nat.le_of_ble_eq_true rfl⟩ (Nat.le_of_ble_eq_true rfl) rfl dX1_findFault_7 rfl h (fun S1 h => ?_)
  show G X _ [btW t (b 0) S1, bdW (gcA X) b B, txW (gcA X) x Tx] _ _ _
  refine g_iconst (pc' := 11) (v := 0) C dX1_findFault_10 (by decide) rfl ?_
  refine g_istore_n (pc' := 12) C dX1_findFault_11 (Nat.le_of_ble_eq_true rfl) rfl (L' := [some (.ref (t 0)), some (.ref (x 0)), some (.int p1), some (.int (0 : Int32))]) rfl ?_
  exact G_loc (lle_s (lle_s (lle_s (lle_s lle_0)))) (L_X1_findFault_12 C t b x N Tx p1 r Sz Bz N (0 : Int32) S1 B h)
set_option maxRecDepth 100000 in
set_option maxHeartbeats 4000000 in
theorem c_X1_findFault (l : Launch) (D : va_G) (cA : Nat → ClassId) (t : Nat → Nat) (b : Nat → Nat) (x : Nat → Nat) (N : Nat) (S : tS) (B : tS) (Tx : tS) (p1 : Int32) (r : Int32) (Sz : tS) (Bz : tS) (h : f_X1_findFault N S B Tx p1 = some (r, Sz, Bz)) : MI l D cA yX1_findFault wsX1_findFault 5 108 [.ref (t 0), .ref (x 0), .int p1] [btW t (b 0) S, bdW cA b B, txW cA x Tx] r [btW t (b 0) Sz, bdW cA b Bz, txW cA x Tx] := MI_of (cc := cX1_findFault) (maxL := 4) (rt := some .int) (by decide +kernel) rfl (List.forall_mem_cons.mpr ⟨rfl, List.forall_mem_cons.mpr ⟨rfl, List.forall_mem_cons.mpr ⟨rfl, List.forall_mem_nil _⟩⟩⟩) (Nat.le_of_ble_eq_true rfl) (fun X e1 e2 e3 C => by subst e1; subst e2; subst e3; exact B_X1_findFault C t b x N S B Tx p1 r Sz Bz h)
set_option maxRecDepth 100000 in
set_option maxHeartbeats 4000000 in
theorem nd_X1_findFault : nd yX1_findFault 2 := ⟨by decide +kernel, by decide +kernel, by decide +kernel⟩
set_option maxRecDepth 100000 in
set_option maxHeartbeats 4000000 in
theorem k_X1_findFault {X : gX} {own : String} {cc : ByteArray} {nL : Nat} {ret : Option FieldType} {Ts : List Cond} {fr lm : Nat} {Q : State → Prop} {ms : List va_W} {L : List (Option Value)} {st : List Value} {pc pc' idx : Nat} {ρ : Type} {T : Int32 → tS → tS → Option ρ} {res : ρ} (C : cx X own cc nL ret Ts fr lm) (t : Nat → Nat) (b : Nat → Nat) (x : Nat → Nat) (N : Nat) (S : tS) (B : tS) (Tx : tS) (p1 : Int32) (is : List Nat) (hC : is.map (fun i => ms[i]?) = [some (btW t (b 0) S), some (bdW (gcA X) b B), some (txW (gcA X) x Tx)]) (hn : is.Nodup) (hG : GoodIn Ts (wsV own idx RX1 yX1_findFault wsX1_findFault)) (hR : 5 + 1 ≤ fr ∧ 8 + (4 + 11) + 108 ≤ lm) (hst : (st.map fun v => v.category).sum ≤ 8) (hLn : L.length = nL) (d : decode cc pc = .ok (.invokevirtual idx, 3)) (hp : pc + 3 = pc') (h : bd3 (f_X1_findFault N S B Tx p1) T = some res) (kk : ∀ (r : Int32) (Sz : tS) (Bz : tS), T r Sz Bz = some res → G X Q (rpl ms is [btW t (b 0) Sz, bdW (gcA X) b Bz, txW (gcA X) x Tx]) L (.int r :: st) pc') : G X Q ms L (.int p1 :: .ref (x 0) :: .ref (t 0) :: st) pc := by
  obtain ⟨r, Sz, Bz, h1, h⟩ := ob3 h
  exact G_callVI C (As := [.ref (x 0), .int p1]) (c_X1_findFault (gl X) (gD X) (gcA X) t b x N S B Tx p1 r Sz Bz h1) hG rfl nd_X1_findFault hR (q0 := 0) rfl rfl hC hn rfl rfl hst hLn d hp (kk r Sz Bz h)
