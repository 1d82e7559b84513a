theorem inst_X0 : Cond.instantiable RX0 8 ∈ lw_tbl := wsL_law_in _ (List.mem_of_getElem? (i := 10) rfl)
theorem inst_X1 : Cond.instantiable RX1 5 ∈ lw_tbl := wsL_law_in _ (List.mem_of_getElem? (i := 33) rfl)
theorem inst_X2 : Cond.instantiable RX2 4 ∈ lw_tbl := wsL_law_in _ (List.mem_of_getElem? (i := 24) rfl)
theorem inst_X3 : Cond.instantiable RX3 2 ∈ lw_tbl := wsL_law_in _ (List.mem_of_getElem? (i := 14) rfl)
theorem inst_X4 : Cond.instantiable RX4 1 ∈ lw_tbl := wsL_law_in _ (List.mem_of_getElem? (i := 29) rfl)
theorem inst_X5 : Cond.instantiable RX5 11 ∈ lw_tbl := wsL_law_in _ (List.mem_of_getElem? (i := 1) rfl)
theorem lkL_cl_X5 : Cond.classLink RL 14 RX5 ∈ wsL_law := List.mem_of_getElem? (i := 0) rfl
theorem lkL_in_X5 : Cond.instantiable RX5 11 ∈ wsL_law := List.mem_of_getElem? (i := 1) rfl
theorem lkL_ini_X5 : Cond.initialized RX5 ∈ wsL_law := List.mem_of_getElem? (i := 2) rfl
theorem lkL_ml_X5 : Cond.methodLink RL 116 yX5_init ∈ wsL_law := List.mem_of_getElem? (i := 3) rfl
theorem lkL_im_X5 : Cond.instanceMethod yX5_init ∈ wsL_law := List.mem_of_getElem? (i := 4) rfl
set_option maxRecDepth 100000 in
set_option maxHeartbeats 8000000 in
theorem law_walk {X : gX} (C : cx X RL cL_law 13 ret wsL_law 11 420) (hf : cf X) {b n : Nat} {xs : Nat → Int32} (hF : lF X b) (hRm : gR X = room_1) (hs : sX X b n xs) (hn : n ≤ 260) : GN X 0 0 (QL X b) [] [some (.ref b), none, none, none, none, none, none, none, none, none, none, none, none] [] 0 := by
  have hkc : (gR X).cells = 600000 := by rw [hRm]; rfl
  have hks : (gR X).slots = 7302250 := by rw [hRm]; rfl
  refine g_newo (pc' := 3) (kc' := 1) (ks' := 11) (fs := [.null, .null, .null, .int 0, .null, .int 0, .null, .null, .null, .null, .null]) C (ci := 5) (Cn := RX5) (T := TX5) (N := 11) (ty := tyX5) rfl hfs_X5 tyX5_ok inlX5 lkL_cl_X5 lkL_in_X5 lkL_ini_X5 (by rw [hkc]; exact Nat.le_of_ble_eq_true rfl) (by rw [hks]; exact Nat.le_of_ble_eq_true rfl) rfl rfl dL_law_0 rfl (fun q5 => ?_)
  refine g_dup (pc' := 4) C dL_law_3 rfl rfl ?_
  refine G_callC (pc' := 7) (kc' := 62) (ks' := 1872) (rest := []) (As := []) C hf (c_X5_init (gl X) (gD X) (gcA X) q5) gL_law_X5_init rfl lkL_ini_X5 lkL_ml_X5 lkL_im_X5 rfl nd_X5_init ⟨Nat.le_of_ble_eq_true rfl, Nat.le_of_ble_eq_true rfl⟩ rfl (Nat.le_of_ble_eq_true rfl) rfl (by rw [hkc]; exact Nat.le_of_ble_eq_true rfl) (by rw [hks]; exact Nat.le_of_ble_eq_true rfl) rfl rfl dL_law_4 rfl (fun pa0 => ?_)
  refine g_astore_n (pc' := 8) C dL_law_7 (Nat.le_of_ble_eq_true rfl) rfl (L' := [some (.ref b), some (.ref q5), none, none, none, none, none, none, none, none, none, none, none]) rfl ?_
  refine GN_widen (k := (gR X).cells) (n := (gR X).slots) (by rw [hkc]; exact Nat.le_of_ble_eq_true rfl) (by rw [hks]; exact Nat.le_of_ble_eq_true rfl) ?_
  exact B_L_law C hf hF hRm hs (pz pa0 q5) 1000 iZ iB iH iB iZ iB iZ iZ iZ iK (t_law (Nat.le_refl 1000) hn xs)
/-- a static row of the class, as the premises give it -/
theorem law_row {args : Array Value} {s : State} {nm : String} {f : Nat → Int32} {v0 v1 v2 : Int32} {A : Nat → Prop} (hl : (Cond.laysStatic "NoteThemes" nm "[I").before args s = true) (hi : (Cond.initialized "NoteThemes").before args s = true) (ha : (Cond.arrayOf (.static "NoteThemes" nm "[I") .int).before args s = true) (hn : (Cond.eq (.length (.static "NoteThemes" nm "[I")) (.int 3)).before args s = true) (h0 : (Cond.eq (.elem (.static "NoteThemes" nm "[I") (.int 0)) (.int v0)).before args s = true) (h1 : (Cond.eq (.elem (.static "NoteThemes" nm "[I") (.int 1)) (.int v1)).before args s = true) (h2 : (Cond.eq (.elem (.static "NoteThemes" nm "[I") (.int 2)) (.int v2)).before args s = true) (e0 : f 0 = v0) (e1 : f 1 = v1) (e2 : f 2 = v2) (hA : ∀ a : Nat, a < s.heap.size → ¬ A a) : sFx nm f A s s.heap := by
  obtain ⟨t, ht, hT⟩ := va_Tof (N := 3) (f := fun j => .int (f j)) (A := A) (by decide) ha (va_eqt hn) (fun j hj => by
    rcases (show j = 0 ∨ j = 1 ∨ j = 2 by omega) with rfl | rfl | rfl
    · rw [show f 0 = v0 from e0]; exact va_eqt h0
    · rw [show f 1 = v1 from e1]; exact va_eqt h1
    · rw [show f 2 = v2 from e2]; exact va_eqt h2) hA
  exact ⟨t, va_Zref hl hi ht hA, hT⟩
theorem law_arr {args : Array Value} {s : State} {ty : FieldType} (h : (Cond.arrayClass ty).before args s = true) : ∃ c : ClassId, ArrOfT s c ty ∧ s.vm.findClass ("[" ++ ty.toString) = some c := by
  obtain ⟨c, k, comp, h1, h2, h3⟩ := Cond.arrayClass_spec h
  exact ⟨c, fun n z => ⟨fun k h => (by cases h), k, h2, comp, h3⟩, h1⟩
set_option maxRecDepth 100000 in
set_option maxHeartbeats 8000000 in
/-- THE LAW, from its entry -/
theorem whole_start {p : Program} {e : Env} {s : State} {m : MethodId} {below : List Frame} {meth : Method} {c : Code} (l : Launch) (hflags : l.flags = flags0) {b L : Nat} {xs : Nat → Int32} (hL : L ≤ 260) (C0 : lw_At p s m meth c b L xs) : W p l e room_1 s m #[Value.ref b] below meth c s.heap [] 0 0 (lw_Z below #[Value.ref b] s) (entryFrame m ([Value.ref b] : List Value).toArray 13) := by
  obtain ⟨hx, hb, hr, hml, hown, hts, hX, hbl, hlocks, hgv⟩ := id C0
  have hA : ∀ a : Nat, a < s.heap.size → ¬ (fun q : Nat => s.heap.size ≤ q) a := fun a h => Nat.not_le.mpr h
  have hfl := flat_of_before _ hgv
  obtain ⟨c0, s0, k0⟩ := u_known (C := RX0) (T := TX0) (N := 8) (n := 8) hts inX0 (hts _ (inst_X0))
  obtain ⟨c1, s1, k1⟩ := u_known (C := RX1) (T := TX1) (N := 5) (n := 5) hts inX1 (hts _ (inst_X1))
  obtain ⟨c2, s2, k2⟩ := u_known (C := RX2) (T := TX2) (N := 4) (n := 4) hts inX2 (hts _ (inst_X2))
  obtain ⟨c3, s3, k3⟩ := u_known (C := RX3) (T := TX3) (N := 2) (n := 2) hts inX3 (hts _ (inst_X3))
  obtain ⟨c4, s4, k4⟩ := u_known (C := RX4) (T := TX4) (N := 1) (n := 1) hts inX4 (hts _ (inst_X4))
  obtain ⟨c5, s5, k5⟩ := u_known (C := RX5) (T := TX5) (N := 11) (n := 11) hts inX5 (hts _ (inst_X5))
  obtain ⟨cI, aI, nI_⟩ := law_arr (hts (.arrayClass .int) (by decide +kernel))
  obtain ⟨cC, aC, nC_⟩ := law_arr (hts (.arrayClass .char) (by decide +kernel))
  have hov := hts (.arrayOver (.object "NoteThemes$Board")) (by decide +kernel)
  obtain ⟨compB, cB, kB, o1, -, o3, o4, o5⟩ := Cond.arrayOver_spec hov
  obtain ⟨dC, dI, hKc⟩ : ∃ (dC : Nat → ClassId) (dI : Nat → Nat → Nat), ∀ (k : Nat) (q : vw_C), vwCl[k]? = some q → u_Kn s q.1 q.2.1 q.2.2 (dC k) (dI k) := by
    refine ⟨fun k => if k = 0 then c0 else if k = 1 then c1 else if k = 2 then c2 else if k = 3 then c3 else if k = 4 then c4 else c5, fun k => if k = 0 then s0 else if k = 1 then s1 else if k = 2 then s2 else if k = 3 then s3 else if k = 4 then s4 else s5, ?_⟩
    intro k q hq
    match k, hq with
    | 0, hq => cases hq; exact k0
    | 1, hq => cases hq; exact k1
    | 2, hq => cases hq; exact k2
    | 3, hq => cases hq; exact k3
    | 4, hq => cases hq; exact k4
    | 5, hq => cases hq; exact k5
    | k + 6, hq => simp [vwCl] at hq
  have hK : va_K (dC, dI) vwCl (tyl (fun k => if k = 0 then cI else if k = 1 then cC else cB)) s := by
    refine ⟨hKc, fun k q hk => ?_⟩
    match k, hk with
    | 0, hk => cases hk; exact ⟨aI, nI_⟩
    | 1, hk => cases hk; exact ⟨aC, nC_⟩
    | 2, hk => cases hk; exact ⟨fun n z => ⟨fun k h => (by cases h), kB, o3, compB, o4⟩, kB, compB, o3, o4, o1, o5⟩
    | k + 3, hk => simp at hk
  have hsF : sF (fun q : Nat => s.heap.size ≤ q) s s.heap := by
    refine ⟨va_AO.of hov, va_Nw.of rfl (hts wNest (by decide +kernel)), ?_, ?_, ?_⟩
    · exact law_row (v0 := 3) (v1 := 4) (v2 := 2) (hts (.laysStatic "NoteThemes" "FIRST_SETTING" "[I") (by decide +kernel)) (hts (.initialized "NoteThemes") (by decide +kernel)) (hfl _ (by decide +kernel)) (hfl _ (by decide +kernel)) (hfl _ (by decide +kernel)) (hfl _ (by decide +kernel)) (hfl _ (by decide +kernel)) rfl rfl rfl hA
    · exact law_row (v0 := 0) (v1 := 1) (v2 := 1) (hts (.laysStatic "NoteThemes" "LEAST_SETTING" "[I") (by decide +kernel)) (hts (.initialized "NoteThemes") (by decide +kernel)) (hfl _ (by decide +kernel)) (hfl _ (by decide +kernel)) (hfl _ (by decide +kernel)) (hfl _ (by decide +kernel)) (hfl _ (by decide +kernel)) rfl rfl rfl hA
    · exact law_row (v0 := 20) (v1 := 9) (v2 := 9) (hts (.laysStatic "NoteThemes" "MOST_SETTING" "[I") (by decide +kernel)) (hts (.initialized "NoteThemes") (by decide +kernel)) (hfl _ (by decide +kernel)) (hfl _ (by decide +kernel)) (hfl _ (by decide +kernel)) (hfl _ (by decide +kernel)) (hfl _ (by decide +kernel)) rfl rfl rfl hA
  have hl0 := lh_entry [.ref b] 13 (List.forall_mem_cons.mpr ⟨rfl, List.forall_mem_nil _⟩) (Nat.le_of_ble_eq_true rfl)
  rw [lg_entry_eq]
  exact law_walk (X := (p, l, e, room_1, s, m, #[Value.ref b], below, meth, c, (dC, dI), (fun k => if k = 0 then cI else if k = 1 then cC else cB), (fun q : Nat => s.heap.size ≤ q), s.heap)) ⟨hx, hb, hml, hr, hown, fun w h => hts w (wsL_law_in w h), hlocks, hK, fun _ h => h, rfl, rfl, rfl⟩ hsF ⟨rfl, rfl, fun _ h => h⟩ rfl ⟨hX, hbl, Nat.not_le.mpr hbl⟩ hL s.heap [] _ (fun k q h => by simp at h) ⟨fun i j p q h => by simp at h, fun k q h => by simp at h⟩ va_S.rf hl0
set_option maxHeartbeats 4000000 in
theorem lw_walk (l : Launch) (hflags : l.flags = flags0) (b : Addr) (xs : List Int32) : MetFree l x (headSpec (Jvm.Cond.code x code maxLocals ret :: tables_1) room_1) (lw_P b xs) (fun _ _ _ _ _ => True) lw_Q := by
  refine MetFree.of_bodyS (code := code) (maxLocals := maxLocals) (ret := ret) (by decide) ?_ ?_
  · intro args s m h hn
    obtain ⟨meth, c, h1, h2, h3, h4, h5, h6, -, -⟩ := Cond.code_spec hn (atoms_spec (ws := Jvm.Cond.code x code maxLocals ret :: tables_1) h _ List.mem_cons_self)
    exact ⟨meth, c, h1, h2, h3, h4, h5, h6⟩
  · intro p e s m args below meth c s₁ B hml0 hP _
    obtain ⟨rfl, hx, hbd, hgv⟩ := hP
    obtain ⟨scr, harrAt, hlist, hof, hsmall⟩ := hx
    obtain ⟨hcb, hkn, -, -⟩ := State.arrayAt?_spec harrAt
    have hown : s.vm.findClass R_law = some m.cls := findClass_of_methodNamed B.named
    have hts0 : ∀ c ∈ (Jvm.Cond.code x code maxLocals ret :: tables_1), c.before #[Value.ref b] s = true := atoms_spec (ws := Jvm.Cond.code x code maxLocals ret :: tables_1) B.pre
    have hts : ∀ w ∈ lw_tbl, w.before #[Value.ref b] s = true := k2_hts_sels lw_privs (fun w hw => hts0 w (List.mem_cons_of_mem _ hw)) lw_privs_ok
    have hml : c.maxLocals = 13 := B.maxLocals_eq (hts0 _ List.mem_cons_self)
    have X₀ : Stand p l e room_1 s m #[Value.ref b] below meth c s₁ [] 0 0 := Stand.of_body B
    have hh0 : s₁.heap = s.heap := by rw [B.state]; rfl
    have hsz : scr.slots.size = xs.length := by rw [← Array.length_toList, hlist, List.length_map]
    have hval : ∀ j : Nat, j < xs.length → scr.slots[j]? = some (.int (xs.getD j 0)) := fun j hj => by
      rw [← Array.getElem?_toList, hlist]
      simp [hj]
    have hbl : b < s.heap.size := (Array.getElem?_eq_some_iff.mp hcb).1
    have hX : va_X b xs.length (fun j => xs.getD j 0) s s.heap := ⟨scr, hcb, hof, hkn, hsz, hval⟩
    have K : W p l e room_1 s m #[Value.ref b] below meth c s₁.heap [] 0 0 (lw_Z below #[Value.ref b] s) (entryFrame m ([Value.ref b] : List Value).toArray 13) := by
      rw [hh0]
      exact whole_start l hflags hbd ⟨B.exec, B.bytes, B.returns, hml, hown, hts, hX, hbl, B.notSynchronized, hgv⟩
    obtain ⟨t, a1, o, b1, b2, b3⟩ := K s₁ rfl X₀
    exact ⟨t, o, a1, b1, b2, b3⟩
theorem lw_pre_spec {args : Array Value} {s : State} (h : (Jvm.Cond.and given_1 narrow_1).before args s = true) (hr : rest_1_c.before args s = true) : ∃ (b : Addr) (xs : List Int32), lw_P b xs args s := by
  have hs := flat_of_before _ h
  have hq := flat_of_before _ hr
  have hc : (Cond.count 1).before args s = true := hs _ (by decide +kernel)
  have harr : (Cond.arrayOf (.arg 0) .int).before args s = true := hs _ (by decide +kernel)
  have hle : (Cond.le (.length (.arg 0)) (.int 260)).before args s = true := hs _ (by decide +kernel)
  have hlen : (Cond.isInt (.length (.arg 0))).before args s = true := hq _ (by decide +kernel)
  have hall : (Cond.all (.arg 0) (.isInt (.elem (.arg 0) (.index 0)))).before args s = true := hq _ (by decide +kernel)
  obtain ⟨b, xs, hb, hx⟩ := State.ints_of_pre rfl harr hlen hall
  have hsm : xs.length < 2 ^ 31 := hx.choose_spec.2.2.2
  have hev : (Term.length (.arg 0)).eval args s none [] s = some (.int xs.length.toInt32) := hx.length_eval hb
  have hv := Cond.le_ints hev (show (Term.int 260).eval args s none [] s = some (.int 260) from rfl)
  have hd : xs.length.toInt32 ≤ 260 := by
    simpa [Cond.before, Cond.holds, hv] using hle
  have hN : xs.length ≤ 260 := (Int32.ofNat_le_ofNat hsm (by decide)).mp (show Int32.ofNat xs.length ≤ Int32.ofNat 260 from hd)
  exact ⟨b, xs, Cond.one_arg hc (show args[0]? = some (.ref b) from hb), hx, hN, h⟩
theorem lw_comes (l : Launch) (hflags : l.flags = flags0) : Comes l x (Jvm.Cond.code x code maxLocals ret :: tables_1) room_1 (fun tb e args s => Calls_1 tb e args s ∧ rest_1 tb e args s ∧ Pre_1 tb e args s)
    (fun _ _ args s o t => lw_Q args s o t) := by
  intro p e ha hc hk s m args below hf hfit hheap happ hpre
  obtain ⟨b, xs, hP⟩ := lw_pre_spec hpre.2.2 hpre.2.1
  obtain ⟨k, o, h1, h2, h3, hQ⟩ := lw_walk l hflags b xs p e ha hc hk s m args below hf ((Spec.applies_iff_loose hf).mp happ).1 hP trivial
  exact ⟨k, o, h1, h2, h3, hQ⟩
theorem lw_frame {s t : State} {o : Outcome} {args : Array Value} (h : Framed s o t [] 600000 7302250) :
    Framed s o t (fieldLocs frame_1_writes args s ++ arrayLocs frame_1_arrays args s ++ staticLocs frame_1_statics s) 600000 7302250 := h
theorem lw_limb (L : Cond) (hL : ∀ (args : Array Value) (s t : State), L.after args s (.returned (some (.int 1))) t = true) :
    ArmFor flags0 classFile x code maxLocals ret World_1 tables_1 room_1 Calls_1 rest_1 Pre_1
      (fun tb e a s o t => postC L tb e a s o t ∧ Framed s o t (fieldLocs frame_1_writes a s ++ arrayLocs frame_1_arrays a s ++ staticLocs frame_1_statics s) 600000 7302250) := by
  intro l hflags _ _ p e ha hc hk s m args below hf hfit hheap happ hpre
  obtain ⟨k, o, h1, h2, h3, rfl, hF⟩ := lw_comes l hflags p e ha hc hk s m args below hf hfit hheap happ hpre
  exact ⟨k, _, h1, h2, h3, hL args s _, lw_frame hF⟩
theorem i_vc : Claimed_1_1 ∧ Claimed_1_2 := ⟨lw_limb limb_1_1 (fun args s t => by simp [limb_1_1, Cond.after, Cond.holds, Cond.value]), lw_limb limb_1_2 (fun args s t => Cond.after_iff.mpr (by
  first | (rw [show limb_1_2 = Cond.eq .result (.int 1) from rfl, Cond.eq_ints (x := 1) (y := 1) rfl rfl]; simp; done) | (simp [limb_1_2, Cond.value, Term.eval]; done)))⟩
