/-! making objects: constructors; the class's three static rows -/
def FSf : Nat → Int32 := fun j => if j = 0 then 3 else if j = 1 then 4 else 2
def LSf : Nat → Int32 := fun j => if j = 0 then 0 else 1
def MSf : Nat → Int32 := fun j => if j = 0 then 20 else 9
def sFx (n : String) (f : Nat → Int32) (A : Nat → Prop) (U : State) (H : Heap) : Prop := ∃ t, va_Z "NoteThemes" n "[I" (.ref t) A U H ∧ va_T .int t 3 (fun j => .int (f j)) A U H
theorem sFx.moved {n : String} {f : Nat → Int32} {A : Nat → Prop} {u U : State} {H : Heap} (hvm : u.vm.Alike U.vm) (h : sFx n f A u H) : sFx n f A U H := by
  obtain ⟨t, h1, h2⟩ := h
  exact ⟨t, h1.moved hvm, h2.moved hvm⟩
theorem sFx.kept {n : String} {f : Nat → Int32} {A : Nat → Prop} {U : State} {H H1 : Heap} (h : sFx n f A U H) (hq : ∀ a : Nat, a < H.size → ¬ A a → H1[a]? = H[a]?) : sFx n f A U H1 := by
  obtain ⟨t, h1, h2⟩ := h
  exact ⟨t, h1.kept hq, h2.kept hq⟩
theorem sFx.narrow {n : String} {f : Nat → Int32} {A B : Nat → Prop} {U : State} {H : Heap} (h : sFx n f A U H) (hAB : ∀ q, B q → A q) : sFx n f B U H := by
  obtain ⟨t, h1, h2⟩ := h
  exact ⟨t, h1.narrow hAB, h2.narrow hAB⟩
abbrev wNest : Cond := .fieldLinkNest RX0 37 "NoteThemes" "FIRST_SETTING" "[I" "NoteThemes"
def sF (A : Nat → Prop) (U : State) (H : Heap) : Prop := va_AO RX0 U ∧ va_Nw wNest U ∧ sFx "FIRST_SETTING" FSf A U H ∧ sFx "LEAST_SETTING" LSf A U H ∧ sFx "MOST_SETTING" MSf A U H
theorem sF.warm {A : Nat → Prop} {u U : State} {H : Heap} (hW : u.WarmedH U.vm) (h : sF A u H) : sF A U H := ⟨va_AO.moved hW.alike h.1, va_Nw.warmF hW h.2.1, h.2.2.1.moved hW.alike, h.2.2.2.1.moved hW.alike, h.2.2.2.2.moved hW.alike⟩
theorem sF.same {A : Nat → Prop} {u U : State} {H : Heap} (hv : u.vm = U.vm) (h : sF A u H) : sF A U H := by
  have ha : u.vm.Alike U.vm := by rw [hv]; exact Vm.Alike.refl U.vm
  exact ⟨va_AO.moved ha h.1, va_Nw.same rfl hv h.2.1, h.2.2.1.moved ha, h.2.2.2.1.moved ha, h.2.2.2.2.moved ha⟩
theorem sF.kept {A : Nat → Prop} {U : State} {H H1 : Heap} (h : sF A U H) (hq : ∀ a : Nat, a < H.size → ¬ A a → H1[a]? = H[a]?) : sF A U H1 := ⟨h.1, h.2.1, h.2.2.1.kept hq, h.2.2.2.1.kept hq, h.2.2.2.2.kept hq⟩
theorem sF.narrow {A B : Nat → Prop} {U : State} {H : Heap} (h : sF A U H) (hAB : ∀ q, B q → A q) : sF B U H := ⟨h.1, h.2.1, h.2.2.1.narrow hAB, h.2.2.2.1.narrow hAB, h.2.2.2.2.narrow hAB⟩
def cf (X : gX) : Prop :=
  match X with
  | (_, _, _, _, s, _, _, _, _, _, _, _, A, _) => sF A s s.heap
def cn (X : gX) : Prop :=
  match X with
  | (_, _, _, _, _, _, _, _, meth, _, _, _, _, _) => meth.name = "<init>"
abbrev tP : Type := Nat → Nat → Nat
def QC (X : gX) (W1 : tP → List va_W) : State → Prop :=
  match X with
  | (_, _, _, R, s, _, args, below, _, _, D, _, A, _) => MQ below (va_Qv (fun (_ : tP) => True) (fun a t => va_P D vwCl (W1 a).flatten t.heap ∧ va_D A (W1 a).flatten) A) args s R.cells R.slots A
def MC (l : Launch) (D : va_G) (cA : Nat → ClassId) (y : MethodName) (ws : List Cond) (fr lo mc mu : Nat) (args : List Value) (ms : List va_W) (W1 : tP → List va_W) : Prop :=
  ∀ sz : Nat, Met l y ws ({ frames := fr, cells := mc, slots := mu, locals := lo } : Room) (va_Pc args (fun U => U.heap.size = sz ∧ va_P D vwCl ms.flatten U.heap ∧ va_K D vwCl (tyl cA) U ∧ va_D (fun _ => True) ms.flatten ∧ sF (va_A ms.flatten sz) U U.heap)) (va_Qv (fun (_ : tP) => True) (fun a t => va_P D vwCl (W1 a).flatten t.heap ∧ va_D (va_A ms.flatten sz) (W1 a).flatten) (va_A ms.flatten sz)) mc mu (va_A ms.flatten sz)
theorem MC_of {l : Launch} {D : va_G} {cA : Nat → ClassId} {y : MethodName} {ws ws' : List Cond} {fr lo mc mu : Nat} {args : List Value} {ms : List va_W} {W1 : tP → List va_W} {cc : ByteArray} {maxL : Nat} (hy : plainName y.cls = true) (hw : ws = Cond.code y cc maxL none :: ws') (hc : ∀ v ∈ args, v.category = 1) (hn : args.length ≤ maxL) (hi : y.name = "<init>")
    (body : ∀ X : gX, gl X = l → gD X = D → gcA X = cA → (gR X).cells = mc → (gR X).slots = mu → cn X → cf X → cx X y.cls cc maxL none ws fr lo → GN X 0 0 (QC X W1) ms (args.map some ++ List.replicate (maxL - args.length) none) [] 0) : MC l D cA y ws fr lo mc mu args ms W1 := by
  intro sz
  refine Met.ofW (cc := cc) (maxL := maxL) (ret := none) hy hw ?_
  intro p e s m args0 below meth c s₁ B hml hv
  obtain ⟨rfl, hsz, hP, hK, hD0, hF⟩ := hv
  subst hsz
  have hD := hD0.self (sz := s.heap.size)
  have hin : meth.name = "<init>" := (name_of_methodNamed B.named B.method).1.trans hi
  rw [lg_entry_eq]
  exact body (p, l, e, _, s, m, args.toArray, below, meth, c, D, cA, va_A ms.flatten s.heap.size, s.heap) rfl rfl rfl rfl rfl hin hF ⟨B.exec, B.bytes, hml, B.returns, findClass_of_methodNamed B.named, atoms_spec (ws := ws) B.pre, B.notSynchronized, hK, fun q h => Or.inr h, rfl, rfl, rfl⟩ s.heap [] _ hP hD va_S.rf (lh_entry args maxL hc hn)
theorem ty_uniq {D : va_G} {cl : List vw_C} {cA : Nat → ClassId} {t : Nat} {c1 : ClassId} {ty : FieldType} {s : State} (h0 : (tyl cA)[t]? = some (cA t, ty)) (h : va_K D cl (tyl cA ++ [(c1, ty)]) s) : c1 = cA t := by
  have a1 := (h.2 t (cA t, ty) (by rw [List.getElem?_append_left (List.getElem?_eq_some_iff.mp h0).1]; exact h0)).2
  have a2 := (h.2 3 (c1, ty) rfl).2
  cases ty with
  | object C =>
    obtain ⟨_, _, _, _, _, b1⟩ := a1
    obtain ⟨_, _, _, _, _, b2⟩ := a2
    exact Option.some.inj (b2.symm.trans b1)
  | _ => exact Option.some.inj (Eq.trans (Eq.symm a2) a1)
/-- arraycopy of three ints out of a static row that nobody writes -/
theorem wt_copy {p : Program} {l : Launch} {e : Env} {R : Room} {s : State} {m : MethodId} {args : Array Value} {below : List Frame} {meth : Method} {c : Code} {H : Heap} {locs : List Loc} {cells slots : Nat} {Q : State → Prop} {cc : ByteArray} {pc : Nat} {ls : Array Slot} {rest : List Value} {D : va_G} {cl : List vw_C} {A : Nat → Prop} {tys : List (ClassId × FieldType)} {ws : va_W} {own : String} {index t a n1 q1 t1 : Nat} {c1 : ClassId} {f g : Nat → Int32} (hx : p.tables.exec = Jvm.exec) (hb : c.code = cc) (hml : c.maxLocals = ls.size) (hown : s.vm.findClass own = some m.cls) (w1 : (Cond.methodLink own index arraycopyName).before args s = true) (w2 : (Cond.native arraycopyName).before args s = true) (w3 : (Cond.static arraycopyName).before args s = true) (w4 : (Cond.initialized "java/lang/System").before args s = true)
    (hK : va_K D cl tys s) (hP : va_P D cl ws H) (hD : va_D A ws) (hS : va_S A s.heap H locs) (hT : va_T .int t 3 (fun j => .int (f j)) A s s.heap) (ha : ws[q1]? = some (a, .inl (c1, n1, .inl g))) (ht1 : tys[t1]? = some (c1, .int)) (hn : 3 ≤ n1) (hfr : 1 ≤ R.frames) (hlo : (rest.map fun v => v.category).sum + (nativeFrameWords "java/lang/System" "arraycopy" 5 + 11) ≤ R.locals) (d : decode cc pc = .ok (.invokestatic index, 3))
    (kk : ∀ (H1 : Heap) (locs1 : List Loc), va_P D cl (ws.set q1 (a, .inl (c1, n1, .inl (va_cpy f g 0 0 3)))) H1 → va_D A (ws.set q1 (a, .inl (c1, n1, .inl (va_cpy f g 0 0 3)))) → va_S A s.heap H1 locs1 → W p l e R s m args below meth c H1 locs1 cells slots Q (F0 m (pc + 3) ls rest)) : W p l e R s m args below meth c H locs cells slots Q (F0 m pc ls (.int 3 :: .int 0 :: .ref a :: .int 0 :: .ref t :: rest)) := by
  obtain ⟨src, s1, ⟨s2, kS, hkS, cS, hkS2⟩, s3, s4, -, s6, s7⟩ := hT
  have g0 : H[t]? = some src := (hS.2.1 t (Array.getElem?_eq_some_iff.mp s1).1 s7).trans s1
  have g1 : H[a]? = some (vp_cell c1 (n1, .inl g)) := hP q1 _ ha
  have gl : a < H.size := (Array.getElem?_eq_some_iff.mp g1).1
  obtain ⟨-, kD, hkD, cD, hkD2⟩ := (hK.2 t1 _ ht1).1 n1 (fun j => .int (g j))
  have sz1 : (vp_cell c1 (n1, .inl g)).slots.size = n1 := by show (arrV c1 n1 (fun j => .int (g j))).slots.size = n1; rw [arrV_size]
  have at0 : ∀ i : Nat, i < 3 → src.slots.getD ((0 : Int32).toNatClampNeg + i) .null = .int (f i) := by
    intro i hi
    rw [show (0 : Int32).toNatClampNeg + i = i from Nat.zero_add i, Array.getD_eq_getD_getElem?, s6 i hi]
    rfl
  intro T hTH X
  obtain ⟨vm', X', step⟩ := X.arraycopy hx hown w1 w2 w3 w4 (src := t) (dst := a) (cs := src) (cd := vp_cell c1 (n1, .inl g)) (srcPos := 0) (destPos := 0) (n := 3) (by rw [hTH]; exact g0) (by rw [hTH]; exact g1) s2 (fun _ h => by cases h) s3 (fun h => by cases h) hkS hkD hkS2 hkD2 (by simp [refKind]) (by decide) (by decide) (by decide)
    (by have h0 : (0 : Int32).toInt = 0 := rfl
        have h3 : (3 : Int32).toInt = 3 := rfl
        rw [h0, h3]; omega)
    (by have h0 : (0 : Int32).toInt = 0 := rfl
        have h3 : (3 : Int32).toInt = 3 := rfl
        rw [h0, h3, sz1]; omega)
    (fun vm₁ _ i hi => by
      rw [at0 i hi]
      exact ⟨rfl, trivial⟩)
    (g := F0 m pc ls (.int 3 :: .int 0 :: .ref a :: .int 0 :: .ref t :: rest)) rfl (by rw [hml]) (rest := rest) rfl (by rw [hb]; exact d) hfr (by show 2 * 0 + _ + _ ≤ _; omega)
  have ec : copied src (vp_cell c1 (n1, .inl g)) 0 0 3 = vp_cell c1 (n1, .inl (va_cpy f g 0 0 3)) := va_copiedX (n0 := 3) (fun z => .int z) src c1 f g s6 (by decide)
  rw [ec] at X' step
  have hh : ((T.setVm vm').setCell a (vp_cell c1 (n1, .inl (va_cpy f g 0 0 3)))).heap = H.setIfInBounds a (vp_cell c1 (n1, .inl (va_cpy f g 0 0 3))) := by rw [← hTH]; rfl
  have oq : ∀ q : Nat, q ≠ a → (H.setIfInBounds a (vp_cell c1 (n1, .inl (va_cpy f g 0 0 3))))[q]? = H[q]? := fun q hq => by simp [Array.getElem?_setIfInBounds, Ne.symm hq]
  have hA := hD.2 q1 _ ha
  obtain ⟨z, a1, b1⟩ := kk _ _ (hP.set hD ha (show (H.setIfInBounds a _)[a]? = some _ by simp [Array.getElem?_setIfInBounds, gl]) oq) (hD.set ha)
    ⟨by simp; exact hS.1, fun q y1 y2 => (oq q (fun e => y2 (e ▸ hA))).trans (hS.2.1 q y1 y2), fun q hq => by
      rcases List.mem_append.mp hq with h | h
      · exact hS.2.2 q h
      · obtain ⟨y, -, hy⟩ := List.mem_map.mp h
        rw [← hy]
        exact hA⟩ _ hh X'
  exact ⟨z, step z a1, b1⟩
section GA
variable {X : gX} {own : String} {cc : ByteArray} {nL : Nat} {ret : Option FieldType} {Ts : List Cond} {fr lm : Nat} {Q : State → Prop} {ms : List va_W} {L : List (Option Value)} {st : List Value} {pc pc' kc ks kc' ks' : Nat}

theorem g_vretC (C : cx X own cc nL none Ts fr lm) {W1 : tP → List va_W} (hkc : kc = (gR X).cells) (hks : ks = (gR X).slots) (a : tP) (ee : ms.flatten = (W1 a).flatten) (d : decode cc pc = .ok (.return_, 1)) : GN X kc ks (QC X W1) ms L [] pc := by
  subst hkc; subst hks
  obtain ⟨p, l, e, R, s, m, args, below, meth, c, D, cA, A, H0⟩ := X
  obtain ⟨hx, hb, -, hr, hown, hts, hlk, hK, -, -, -, h0⟩ := C
  intro H locs ls hP hD hS hl
  subst h0
  rw [ee] at hP hD
  exact W.vret hx hb hr (fun t ht hW => ⟨⟨a, rfl, trivial, by rw [ht]; exact hP, hD⟩, hS.F ht⟩) hS.2.2 d hlk
theorem g_newa (C : cx X own cc nL ret Ts fr lm) {atype : ArrayType} {n : Int32} (t N : Nat) (ht : (tyl (gcA X))[t]? = some (gcA X t, newarray.typeOf atype)) (ha : ∀ cA : ClassId, vp_cell cA (N, .inl (fun _ => 0)) = arrV cA N (fun _ => defaultValue (newarray.typeOf atype))) (harr : Cond.arrayClass (newarray.typeOf atype) ∈ Ts) (hn : ¬ n < 0) (hN : n.toNatClampNeg = N) (hbytes : N * componentBytes (newarray.typeOf atype) ≤ 536870912) (hcells : kc + 1 ≤ (gR X).cells) (hslots : ks + N ≤ (gR X).slots) (hk1 : kc + 1 = kc') (hk2 : ks + N = ks') (d : decode cc pc = .ok (.newarray atype, 2)) (hp : pc + 2 = pc') (kk : ∀ q : Nat, GN X kc' ks' Q (ms ++ [[(q, .inl (gcA X t, N, .inl (fun _ => 0)))]]) L (.ref q :: st) pc') : GN X kc ks Q ms L (.int n :: st) pc := by
  subst hp; subst hk1; subst hk2
  obtain ⟨p, l, e, R, s, m, args, below, meth, c, D, cA, A, H0⟩ := X
  obtain ⟨hx, hb, -, -, hown, hts, -, hK, hA, -⟩ := C
  intro H locs ls hP hD hS hl
  refine va_newa hx hb (hts _ harr) rfl hK hP hD hS hA ha hn hN hbytes hcells hslots d (fun q cA1 H1 hK1 hP1 hD1 hS1 => ?_)
  have e := ty_uniq ht hK1
  subst e
  refine kk q H1 locs ls ?_ ?_ hS1 hl
  · rw [List.flatten_append]; exact hP1
  · rw [List.flatten_append]; exact hD1
theorem g_newi (C : cx X own cc nL ret Ts fr lm) {n : Int32} (N : Nat) (harr : Cond.arrayClass .int ∈ Ts) (hn : ¬ n < 0) (hN : n.toNatClampNeg = N) (hbytes : N ≤ 1000) (hcells : kc + 1 ≤ (gR X).cells) (hslots : ks + N ≤ (gR X).slots) (hk1 : kc + 1 = kc') (hk2 : ks + N = ks') (d : decode cc pc = .ok (.newarray .int, 2)) (hp : pc + 2 = pc') (kk : ∀ q : Nat, GN X kc' ks' Q (ms ++ [[(q, .inl (gcA X 0, N, .inl (fun _ => 0)))]]) L (.ref q :: st) pc') : GN X kc ks Q ms L (.int n :: st) pc :=
  g_newa (atype := .int) C 0 N rfl (fun _ => rfl) harr hn hN (by have e : componentBytes (newarray.typeOf .int) = 4 := rfl; rw [e]; omega) hcells hslots hk1 hk2 d hp kk
theorem g_newch (C : cx X own cc nL ret Ts fr lm) {n : Int32} (N : Nat) (harr : Cond.arrayClass .char ∈ Ts) (hn : ¬ n < 0) (hN : n.toNatClampNeg = N) (hbytes : N ≤ 1000) (hcells : kc + 1 ≤ (gR X).cells) (hslots : ks + N ≤ (gR X).slots) (hk1 : kc + 1 = kc') (hk2 : ks + N = ks') (d : decode cc pc = .ok (.newarray .char, 2)) (hp : pc + 2 = pc') (kk : ∀ q : Nat, GN X kc' ks' Q (ms ++ [[(q, .inl (gcA X 1, N, .inl (fun _ => 0)))]]) L (.ref q :: st) pc') : GN X kc ks Q ms L (.int n :: st) pc :=
  g_newa (atype := .char) C 1 N rfl (fun _ => rfl) harr hn hN (by have e : componentBytes (newarray.typeOf .char) = 2 := rfl; rw [e]; omega) hcells hslots hk1 hk2 d hp kk
theorem g_newq (C : cx X own cc nL ret Ts fr lm) (hf : cf X) {n : Int32} {idx : Nat} (N : Nat) (hclink : Cond.classLink own idx RX0 ∈ Ts) (hn : ¬ n < 0) (hN : n.toNatClampNeg = N) (hbytes : N * 4 ≤ 536870912) (hcells : kc + 1 ≤ (gR X).cells) (hslots : ks + N ≤ (gR X).slots) (hk1 : kc + 1 = kc') (hk2 : ks + N = ks') (d : decode cc pc = .ok (.anewarray idx, 3)) (hp : pc + 3 = pc') (kk : ∀ q : Nat, GN X kc' ks' Q (ms ++ [[(q, .inl (gcA X 2, N, .inr (.inr (.inr (.inr (fun _ => none))))))]]) L (.ref q :: st) pc') : GN X kc ks Q ms L (.int n :: st) pc := by
  subst hp; subst hk1; subst hk2
  obtain ⟨p, l, e, R, s, m, args, below, meth, c, D, cA, A, H0⟩ := X
  obtain ⟨hx, hb, -, -, hown, hts, -, hK, hA, -⟩ := C
  intro H locs ls hP hD hS hl
  refine va_newq hx hb hown (hts _ hclink) hf.1 hK hP hD hS hA hn hN hbytes hcells hslots d (fun q cA1 H1 hK1 hP1 hD1 hS1 => ?_)
  have e := ty_uniq (t := 2) rfl hK1
  subst e
  refine kk q H1 locs ls ?_ ?_ hS1 hl
  · rw [List.flatten_append]; exact hP1
  · rw [List.flatten_append]; exact hD1
theorem g_newo (C : cx X own cc nL ret Ts fr lm) {ci idx N : Nat} {Cn : String} {T : u_T} {ty : Nat → FieldType} {fs : List Value} (hc : vwCl[ci]? = some (Cn, T, N)) (hfs : ∀ j, j < N → defaultValue (ty j) = vp_V fs j) (hty : ∀ k, k < N → parseFieldDescriptor (T k).2.2.1 = some (ty k)) (hin : ∀ w ∈ u_ws Cn T N, w ∈ Ts) (hcl : Cond.classLink own idx Cn ∈ Ts) (hinst : Cond.instantiable Cn N ∈ Ts) (hini : Cond.initialized Cn ∈ Ts) (hcells : kc + 1 ≤ (gR X).cells) (hslots : ks + N ≤ (gR X).slots) (hk1 : kc + 1 = kc') (hk2 : ks + N = ks') (d : decode cc pc = .ok (.new idx, 3)) (hp : pc + 3 = pc') (kk : ∀ q : Nat, GN X kc' ks' Q (ms ++ [[(q, .inr (ci, fs))]]) L (.ref q :: st) pc') : GN X kc ks Q ms L st pc := by
  subst hp; subst hk1; subst hk2
  obtain ⟨p, l, e, R, s, m, args, below, meth, c, D, cA, A, H0⟩ := X
  obtain ⟨hx, hb, -, -, hown, hts, -, hK, hA, -⟩ := C
  intro H locs ls hP hD hS hl
  refine va_new hx hb hts hin ty hty hown (hts _ hcl) (hts _ hinst) (hts _ hini) hK hP hD hS hA hc hfs hcells hslots d (fun q H1 hP1 hD1 hS1 => ?_)
  refine kk q H1 locs ls ?_ ?_ hS1 hl
  · rw [List.flatten_append]; exact hP1
  · rw [List.flatten_append]; exact hD1
theorem g_oinit (C : cx X own cc nL ret Ts fr lm) {a idx : Nat} (h1 : Cond.methodLink own idx objectInit ∈ Ts) (h2 : Cond.instanceMethod objectInit ∈ Ts) (h3 : Cond.code objectInit ⟨#[0xb1]⟩ 1 none ∈ Ts) (hR : 1 ≤ fr ∧ (st.map fun v => v.category).sum + 12 ≤ lm) (hLn : L.length = nL) (d : decode cc pc = .ok (.invokespecial idx, 3)) (hp : pc + 3 = pc') (kk : GN X kc ks Q ms L st pc') : GN X kc ks Q ms L (.ref a :: st) pc := by
  subst hp
  obtain ⟨p, l, e, R, s, m, args, below, meth, c, D, cA, A, H0⟩ := X
  obtain ⟨hx, hb, hml, hr, hown, hts, hlk, hK, hA, hfr, hlm, h0⟩ := C
  subst hfr; subst hlm
  intro H locs ls hP hD hS hl
  exact W.objInit hx hb hown (hts _ h1) (hts _ h2) (hts _ h3) rfl (hl.1.trans (hLn.trans hml.symm)) rfl d hR.1 (by show 2 * 0 + _ + 12 ≤ _; omega) (kk H locs ls hP hD hS hl)
theorem G_putF (C : cx X own cc nL ret Ts fr lm) (hcn : cn X) {i j k N ci idx : Nat} {w w' : va_W} {a : Nat} {fs : List Value} {v : Value} {Cn : String} {T : u_T} {ty : FieldType} {ty0 : Nat → FieldType} (hm : ms[i]? = some w) (hw : w[j]? = some (a, .inr (ci, fs))) (hc : vwCl[ci]? = some (Cn, T, N)) (hk : k < N) (hl0 : k < fs.length) (hw' : w.set j (a, .inr (ci, fs.set k v)) = w') (hty : ∀ k, k < N → parseFieldDescriptor (T k).2.2.1 = some (ty0 k)) (hnm : ∀ a, a < N → ∀ b, b < N → a ≠ b → (T a).2.1 ≠ (T b).2.1) (hfin : (T k).2.2.2 = true) (hdecl : (T k).1 = own) (hd : parseFieldDescriptor (T k).2.2.1 = some ty) (hn : narrow ty v = v) (hfit : fits ty v = true) (hin : ∀ w ∈ u_ws Cn T N, w ∈ Ts) (hlink : Cond.fieldLink own idx (T k).1 (T k).2.1 (T k).2.2.1 ∈ Ts) (d : decode cc pc = .ok (.putfield idx, 3)) (hp : pc + 3 = pc') (kk : GN X kc ks Q (ms.set i w') L st pc') : GN X kc ks Q ms L (v :: .ref a :: st) pc := by
  subst hp; subst hw'
  obtain ⟨p, l, e, R, s, m, args, below, meth, c, D, cA, A, H0⟩ := X
  obtain ⟨hx, hb, -, -, hown, hts, -, hK, -⟩ := C
  intro H locs ls hP hD hS hl
  obtain ⟨q, hq, hset⟩ := fl_at hm hw
  refine va_putF hx hb hts hin ty0 hty hnm hown hK hP hD hS q hq hc k hk (hts _ hlink) (fun _ h9 => h9) hfin hcn hdecl hd hn hfit hl0 d (fun H1 locs1 hP1 hD1 hS1 => ?_)
  rw [hset] at hP1 hD1
  exact kk H1 locs1 ls hP1 hD1 hS1 hl
theorem g_fcopy (C : cx X RX0 cc nL ret Ts fr lm) (hf : cf X) {i2 j2 a2 n2 : Nat} {w2 w' : va_W} {g : Nat → Int32} {idx2 : Nat} (hm2 : ms[i2]? = some w2) (hw2 : w2[j2]? = some (a2, .inl (gcA X 0, n2, .inl g))) (hw' : w2.set j2 (a2, .inl (gcA X 0, n2, .inl (va_cpy FSf g 0 0 3))) = w') (hn2 : 3 ≤ n2) (h1 : Cond.methodLink RX0 idx2 arraycopyName ∈ Ts) (h2 : Cond.native arraycopyName ∈ Ts) (h3 : Cond.static arraycopyName ∈ Ts) (h4 : Cond.initialized "java/lang/System" ∈ Ts) (hR : 1 ≤ fr ∧ (st.map fun v => v.category).sum + (nativeFrameWords "java/lang/System" "arraycopy" 5 + 11) ≤ lm) (hLn : L.length = nL) {pc2 pc3 : Nat} (d : decode cc pc = .ok (.getstatic 37, 3)) (hp : pc + 3 = pc2) (d2 : decode cc pc3 = .ok (.invokestatic idx2, 3)) (hp2 : pc3 + 3 = pc') (mid : ∀ t : Nat, GN X kc ks Q ms L (.int 3 :: .int 0 :: .ref a2 :: .int 0 :: .ref t :: st) pc3 → GN X kc ks Q ms L (.ref t :: st) pc2) (kk : GN X kc ks Q (ms.set i2 w') L st pc') : GN X kc ks Q ms L st pc := by
  subst hp; subst hp2; subst hw'
  have C0 := C
  obtain ⟨p, l, e, R, s, m, args, below, meth, c, D, cA, A, H0⟩ := X
  obtain ⟨hx, hb, hml, hr, hown, hts, hlk0, hK, hA, hfr, hlm, h0⟩ := C
  subst hfr; subst hlm
  obtain ⟨-, hN, ⟨t, hZ, hX⟩, -⟩ := hf
  intro H locs ls hP hD hS hl
  subst h0
  refine va_getsN hx hb hZ hS hown (va_Nw.use rfl hN) (fun _ h9 => h9) d ?_
  refine mid t ?_ H locs ls hP hD hS hl
  intro H locs ls hP hD hS hl
  obtain ⟨q2, hq2, hset⟩ := fl_at hm2 hw2
  refine wt_copy (t1 := 0) hx hb (hml.trans (hLn.symm.trans hl.1.symm)) hown (hts _ h1) (hts _ h2) (hts _ h3) (hts _ h4) hK hP hD hS hX hq2 rfl hn2 hR.1 hR.2 d2 (fun H1 locs1 hP1 hD1 hS1 => ?_)
  rw [hset] at hP1 hD1
  exact kk H1 locs1 ls hP1 hD1 hS1 hl
theorem g_aald (C : cx X own cc nL ret Ts fr lm) {i j a n : Nat} {w : va_W} {f : Nat → Option Nat} {x : Int32} {v : Nat} (hm : ms[i]? = some w) (hw : w[j]? = some (a, .inl (gcA X 2, n, .inr (.inr (.inr (.inr f)))))) (hg : vp_in x n) (hv : f x.toNatClampNeg = some v) (d : decode cc pc = .ok (.aaload, 1)) (hp : pc + 1 = pc') (kk : GN X kc ks Q ms L (.ref v :: st) pc') : GN X kc ks Q ms L (.int x :: .ref a :: st) pc := by
  subst hp
  obtain ⟨p, l, e, R, s, m, args, below, meth, c, D, cA, A, H0⟩ := X
  obtain ⟨hx, hb, -, -, hown, hts, -, hK, -⟩ := C
  intro H locs ls hP hD hS hl
  obtain ⟨q, hq, -⟩ := fl_at hm hw
  exact va_aldq hx hb hK hP q 2 hq rfl hg d (by rw [hv]; exact kk H locs ls hP hD hS hl)
theorem g_aast (C : cx X own cc nL ret Ts fr lm) {i j a n v : Nat} {w w' : va_W} {f : Nat → Option Nat} {x : Int32} {vs : List Value} (hm : ms[i]? = some w) (hw : w[j]? = some (a, .inl (gcA X 2, n, .inr (.inr (.inr (.inr f)))))) (hw' : w.set j (a, .inl (gcA X 2, n, .inr (.inr (.inr (.inr (va_up f x.toNatClampNeg (some v))))))) = w') (hv : (v, .inr (0, vs)) ∈ ms.flatten) (hg : vp_in x n) (d : decode cc pc = .ok (.aastore, 1)) (hp : pc + 1 = pc') (kk : GN X kc ks Q (ms.set i w') L st pc') : GN X kc ks Q ms L (.ref v :: .int x :: .ref a :: st) pc := by
  subst hp; subst hw'
  obtain ⟨p, l, e, R, s, m, args, below, meth, c, D, cA, A, H0⟩ := X
  obtain ⟨hx, hb, -, -, hown, hts, -, hK, -⟩ := C
  intro H locs ls hP hD hS hl
  obtain ⟨q, hq, hset⟩ := fl_at hm hw
  obtain ⟨qk, hqk⟩ := List.getElem?_of_mem hv
  refine va_astq hx hb hK hP hD hS q 2 qk 0 (r := (RX0, TX0, 8)) hq rfl hqk rfl hg d (fun H1 locs1 hP1 hD1 hS1 => ?_)
  rw [hset] at hP1 hD1
  exact kk H1 locs1 ls hP1 hD1 hS1 hl
theorem G_fl {ms' : List va_W} (ee : ms'.flatten = ms.flatten) (kk : GN X kc ks Q ms L st pc) : GN X kc ks Q ms' L st pc := by
  obtain ⟨p, l, e, R, s, m, args, below, meth, c, D, cA, A, H0⟩ := X
  intro H locs ls hP hD hS hl
  rw [ee] at hP hD
  exact kk H locs ls hP hD hS hl
theorem QV_fl {ms' : List va_W} (ee : ms'.flatten = ms.flatten) : QV X ms' = QV X ms := by
  obtain ⟨p, l, e, R, s, m, args, below, meth, c, D, cA, A, H0⟩ := X
  show MQ below (va_Qv (fun (_ : Unit) => True) (fun _ t => va_P D vwCl ms'.flatten t.heap) A) args s R.cells R.slots A = _
  rw [ee]
  rfl
/-- a constructor's call on the newest object -/
theorem G_callC (C : cx X own cc nL ret Ts fr lm) (hf : cf X) {rest : List va_W} {b ci n idx frc lc mc mu maxL : Nat} {fs : List Value} {As : List Value} {y : MethodName} {bytes : ByteArray} {wsy wsy' : List Cond} {W1 : tP → List va_W} (hM : MC (gl X) (gD X) (gcA X) y wsy frc lc mc mu (.ref b :: As) [[(b, .inr (ci, fs))]] W1) (hG : GoodIn Ts wsy) (hw : wsy = Cond.code y bytes maxL none :: wsy') (hini : Cond.initialized y.cls ∈ Ts) (hlink : Cond.methodLink own idx y ∈ Ts) (hinst : Cond.instanceMethod y ∈ Ts) (hy : y.name = "<init>") (hd : nd y n) (hR : frc + 1 ≤ fr ∧ 8 + (maxL + 11) + lc ≤ lm) (hAs : As.length = n) (hst : (st.map fun v => v.category).sum ≤ 8) (hLn : L.length = nL) (hcells : kc + mc ≤ (gR X).cells) (hslots : ks + mu ≤ (gR X).slots) (hk1 : kc + mc = kc') (hk2 : ks + mu = ks') (d : decode cc pc = .ok (.invokespecial idx, 3)) (hp : pc + 3 = pc') (kk : ∀ a : tP, GN X kc' ks' Q (rest ++ W1 a) L st pc') : GN X kc ks Q (rest ++ [[(b, .inr (ci, fs))]]) L (As.reverse ++ .ref b :: st) pc := by
  subst hp; subst hk1; subst hk2
  obtain ⟨p, l, e, R, s, m, args, below, meth, c, D, cA, A, H0⟩ := X
  obtain ⟨hx, hb, hml, hr, hown, hts, hlk, hK, hA, hfr, hlm, h0⟩ := C
  subst hfr; subst hlm
  intro H locs ls hP hD hS hl
  subst h0
  have e0 : (rest ++ [[(b, .inr (ci, fs))]] : List va_W).flatten = rest.flatten ++ [[(b, .inr (ci, fs))]].flatten := List.flatten_append
  rw [e0] at hP hD
  have hPc : va_P D vwCl [[(b, .inr (ci, fs))]].flatten H := P_mem.mpr (fun x hx => P_mem.mp hP x (List.mem_append_right _ hx))
  have hDc := D_right hD
  have hF : ∀ q, va_A ([[(b, .inr (ci, fs))]] : List va_W).flatten H.size q → A q := by
    intro q hq
    rcases hq with ⟨k, e, hke⟩ | hge
    · exact hDc.2 k _ hke
    · exact hA q (Nat.le_trans hS.1 hge)
  have hfH : sF (va_A ([[(b, .inr (ci, fs))]] : List va_W).flatten H.size) s H := (sF.kept hf (fun a h1 h2 => hS.2.1 a h1 h2)).narrow hF
  refine va_callv (va_runI (As := As) (rest := st) ⟨hx, hb, hml, hown, hts⟩ (hM H.size) (cwI n hts hG hw rfl rfl (hts _ hini) (hts _ hlink) (hts _ hinst) hy hd hR) ⟨fun a U g mk q => by obtain ⟨q0, q1, qP, qK, qD, qF⟩ := q; exact ⟨q0, q1, qP, va_K.moved (u := U) (U := U.calling g mk a) (Vm.Alike.refl U.vm) qK, qD, sF.same (u := U) (U := U.calling g mk a) rfl qF⟩, fun U hU hW => ⟨rfl, by rw [hU], by rw [hU]; exact hPc, va_K.moved hW.alike hK, hDc.weaken (fun _ _ _ _ => trivial), by rw [hU]; exact sF.warm hW hfH⟩⟩ rfl hAs (hl.1.trans hLn) rfl (lv_room hst) d ⟨hcells, hslots⟩) hS (fun q _ h => hF q h) hF (fun a t H1 locs1 ht hvm hw1 hB hz1 hk1 hS1 => ?_)
  obtain ⟨hP1, hD1⟩ := hB
  rw [ht] at hP1
  refine kk a H1 locs1 ls ?_ ?_ hS1 hl
  · rw [List.flatten_append]
    refine va_P.app (P_mem.mpr (fun x hx => ?_)) hP1
    have hat := P_mem.mp hP x (List.mem_append_left _ hx)
    refine hat.kept (hk1 x.1 hat.lt (fun hz => ?_))
    rcases hz with ⟨k, e, hke⟩ | hge
    · exact D_apart hD hx (List.mem_of_getElem? hke) rfl
    · have := hat.lt; omega
  · rw [List.flatten_append]
    refine va_D.app (D_left hD) (hD1.weaken (fun k q _ h => hF q.1 h)) (fun i j x y hi hj e => ?_)
    have hx := List.mem_of_getElem? hi
    have hat := P_mem.mp hP x (List.mem_append_left _ hx)
    have hy2 := hD1.2 j y hj
    rw [← e] at hy2
    rcases hy2 with ⟨k, e, hke⟩ | hge
    · exact D_apart hD hx (List.mem_of_getElem? hke) rfl
    · have := hat.lt; omega
def sT (X : gX) (t : Nat) (f : Nat → Int32) : Prop :=
  match X with
  | (_, _, _, _, s, _, _, _, _, _, _, _, A, _) => va_T .int t 3 (fun j => .int (f j)) A s s.heap
theorem g_getsL (C : cx X RX5 cc nL ret Ts fr lm) (hf : cf X) {idx : Nat} (hlink : Cond.fieldLink RX5 idx "NoteThemes" "LEAST_SETTING" "[I" ∈ Ts) (d : decode cc pc = .ok (.getstatic idx, 3)) (hp : pc + 3 = pc') (kk : ∀ t : Nat, sT X t LSf → GN X kc ks Q ms L (.ref t :: st) pc') : GN X kc ks Q ms L st pc := by
  subst hp
  obtain ⟨p, l, e, R, s, m, args, below, meth, c, D, cA, A, H0⟩ := X
  obtain ⟨hx, hb, hml, hr, hown, hts, hlk0, hK, hA, hfr, hlm, h0⟩ := C
  obtain ⟨-, -, -, ⟨t, hZ, hX⟩, -⟩ := hf
  intro H locs ls hP hD hS hl
  subst h0
  exact va_gets hx hb hZ hS hown (hts _ hlink) (fun _ h9 => h9) d (kk t hX H locs ls hP hD hS hl)
theorem g_getsM (C : cx X RX5 cc nL ret Ts fr lm) (hf : cf X) {idx : Nat} (hlink : Cond.fieldLink RX5 idx "NoteThemes" "MOST_SETTING" "[I" ∈ Ts) (d : decode cc pc = .ok (.getstatic idx, 3)) (hp : pc + 3 = pc') (kk : ∀ t : Nat, sT X t MSf → GN X kc ks Q ms L (.ref t :: st) pc') : GN X kc ks Q ms L st pc := by
  subst hp
  obtain ⟨p, l, e, R, s, m, args, below, meth, c, D, cA, A, H0⟩ := X
  obtain ⟨hx, hb, hml, hr, hown, hts, hlk0, hK, hA, hfr, hlm, h0⟩ := C
  obtain ⟨-, -, -, -, ⟨t, hZ, hX⟩⟩ := hf
  intro H locs ls hP hD hS hl
  subst h0
  exact va_gets hx hb hZ hS hown (hts _ hlink) (fun _ h9 => h9) d (kk t hX H locs ls hP hD hS hl)
theorem g_xald (C : cx X own cc nL ret Ts fr lm) {ρ : Type} {T : Option ρ} {res : ρ} {t : Nat} {f : Nat → Int32} {x : Int32} (hs : sT X t f) (d : decode cc pc = .ok (.iaload, 1)) (hp : pc + 1 = pc') (h : (if x < 0 ∨ 3 ≤ x.toNatClampNeg then none else T) = some res) (kk : T = some res → GN X kc ks Q ms L (.int (f x.toNatClampNeg) :: st) pc') : GN X kc ks Q ms L (.int x :: .ref t :: st) pc := by
  subst hp
  obtain ⟨hg, h⟩ := og h
  obtain ⟨p, l, e, R, s, m, args, below, meth, c, D, cA, A, H0⟩ := X
  obtain ⟨hx, hb, -, -, -, -, -, -, -, -, -, h0⟩ := C
  intro H locs ls hP hD hS hl
  subst h0
  exact va_ti hx hb hs hS hg rfl d (kk h H locs ls hP hD hS hl)
end GA
def MIs (l : Launch) (D : va_G) (cA : Nat → ClassId) (y : MethodName) (ws : List Cond) (fr lo : Nat) (args : List Value) (ms : List va_W) (r : Int32) (ms' : List va_W) : Prop :=
  ∀ sz : Nat, Met l y ws ({ frames := fr, cells := 0, slots := 0, locals := lo } : Room) (va_Pc args (fun U => U.heap.size = sz ∧ va_P D vwCl ms.flatten U.heap ∧ va_K D vwCl (tyl cA) U ∧ va_D (fun _ => True) ms.flatten ∧ sF (va_A ms.flatten sz) U U.heap)) (va_Qi (fun (r' : Int32) (_ : Unit) => r' = r) (fun _ t => va_P D vwCl ms'.flatten t.heap) (va_A ms.flatten sz)) 0 0 (va_A ms.flatten sz)
theorem MIs_of {l : Launch} {D : va_G} {cA : Nat → ClassId} {y : MethodName} {ws ws' : List Cond} {fr lo : Nat} {args : List Value} {ms ms' : List va_W} {r : Int32} {cc : ByteArray} {maxL : Nat} {rt : Option FieldType} (hy : plainName y.cls = true) (hw : ws = Cond.code y cc maxL rt :: ws') (hc : ∀ v ∈ args, v.category = 1) (hn : args.length ≤ maxL)
    (body : ∀ X : gX, gl X = l → gD X = D → gcA X = cA → cf X → cx X y.cls cc maxL rt ws fr lo → G X (QI X r ms') ms (args.map some ++ List.replicate (maxL - args.length) none) [] 0) : MIs l D cA y ws fr lo args ms r ms' := by
  intro sz
  refine Met.ofW (cc := cc) (maxL := maxL) (ret := rt) hy hw ?_
  intro p e s m args0 below meth c s₁ B hml hv
  obtain ⟨rfl, hsz, hP, hK, hD0, hF⟩ := hv
  subst hsz
  have hD := hD0.self (sz := s.heap.size)
  rw [lg_entry_eq]
  exact body (p, l, e, _, s, m, args.toArray, below, meth, c, D, cA, va_A ms.flatten s.heap.size, s.heap) rfl rfl rfl hF ⟨B.exec, B.bytes, hml, B.returns, findClass_of_methodNamed B.named, atoms_spec (ws := ws) B.pre, B.notSynchronized, hK, fun q h => Or.inr h, rfl, rfl, rfl⟩ s.heap [] _ hP hD va_S.rf (lh_entry args maxL hc hn)
theorem G_callVIs {X : gX} {own : String} {cc : ByteArray} {nL : Nat} {ret : Option FieldType} {Ts : List Cond} {fr lm : Nat} {Q : State → Prop} {ms mc mc' : List va_W} {L : List (Option Value)} {st : List Value} {pc pc' : Nat} {y : MethodName} {bytes : ByteArray} {maxL : Nat} {rt : Option FieldType} {wsy wsy' : List Cond} {frc lc b n idx : Nat} {As : List Value} {is : List Nat} {r : Int32} (C : cx X own cc nL ret Ts fr lm) (hf : cf X) (hM : MIs (gl X) (gD X) (gcA X) y wsy frc lc (.ref b :: As) mc r mc') (hG : GoodIn Ts (wsV own idx y.cls y wsy)) (hw : wsy = Cond.code y bytes maxL rt :: wsy') (hd : nd y n) (hR : frc + 1 ≤ fr ∧ 8 + (maxL + 11) + lc ≤ lm) {q0 ci : Nat} {fs : List Value} {T : u_T} {N : Nat} (hq : mc.flatten[q0]? = some (b, .inr (ci, fs))) (hci : vwCl[ci]? = some (y.cls, T, N)) (hC : is.map (fun i => ms[i]?) = mc.map some) (hn : is.Nodup) (ha : adr mc' = adr mc) (hAs : As.length = n) (hst : (st.map fun v => v.category).sum ≤ 8) (hLn : L.length = nL) (d : decode cc pc = .ok (.invokevirtual idx, 3)) (hp : pc + 3 = pc') (kk : G X Q (rpl ms is mc') L (.int r :: st) pc') : G X Q ms L (As.reverse ++ .ref b :: st) pc := by
  subst hp
  obtain ⟨p, l, e, R, s, m, args, below, meth, c, D, cA, A, H0⟩ := X
  obtain ⟨hx, hb, hml, hr, hown, hts, hlk, hK, hA, hfr, hlm, h0⟩ := C
  subst hfr; subst hlm
  intro H locs ls hP hD hS hl
  subst h0
  obtain ⟨hPc, hDc, hsub, hback⟩ := cut_ok hC hn ha hP hD
  have hF : ∀ q, va_A mc.flatten H.size q → A q := by
    intro q hq
    rcases hq with ⟨k, e, hke⟩ | hge
    · obtain ⟨k2, hk2⟩ := List.getElem?_of_mem (hsub _ (List.mem_of_getElem? hke))
      exact hD.2 k2 _ hk2
    · exact hA q (Nat.le_trans hS.1 hge)
  have hfH : sF (va_A mc.flatten H.size) s H := (sF.kept hf (fun a h1 h2 => hS.2.1 a h1 h2)).narrow hF
  refine va_calli (va_runV (As := As) (rest := st) ⟨hx, hb, hml, hown, hts⟩ (hM H.size) (cwV n hts hG hw rfl rfl ⟨rfl, hd⟩ hR) ⟨fun a U g mk q => by obtain ⟨q0, q1, qP, qK, qD, qF⟩ := q; exact ⟨q0, q1, qP, va_K.moved (u := U) (U := U.calling g mk a) (Vm.Alike.refl U.vm) qK, qD, sF.same (u := U) (U := U.calling g mk a) rfl qF⟩, va_recv hK hPc hci hq, fun U hU hW => ⟨rfl, by rw [hU], by rw [hU]; exact hPc, va_K.moved hW.alike hK, hDc.weaken (fun _ _ _ _ => trivial), by rw [hU]; exact sF.warm hW hfH⟩⟩ rfl hAs (hl.1.trans hLn) rfl (lv_room hst) d ⟨Nat.le_refl _, Nat.le_refl _⟩) hS (fun q _ h => hF q h) hF (fun r0 u t H1 locs1 ht hvm hw1 hB hz1 hk1 hS1 => ?_)
  subst hw1
  rw [ht] at hB
  obtain ⟨hP1, hD1⟩ := hback H1 hB hk1
  exact kk H1 locs1 ls hP1 hD1 hS1 hl

