/-! longs; calls of the law's own methods; the script -/
def bd7 {α1 α2 α3 α4 α5 α6 α7 ρ : Type} (o : Option (α1 × α2 × α3 × α4 × α5 × α6 × α7)) (f : α1 → α2 → α3 → α4 → α5 → α6 → α7 → Option ρ) : Option ρ := match o with | some (a1, a2, a3, a4, a5, a6, a7) => f a1 a2 a3 a4 a5 a6 a7 | none => none
theorem ob7 {α1 α2 α3 α4 α5 α6 α7 ρ : Type} {o : Option (α1 × α2 × α3 × α4 × α5 × α6 × α7)} {f : α1 → α2 → α3 → α4 → α5 → α6 → α7 → Option ρ} {res : ρ} (h : bd7 o f = some res) : ∃ a1 a2 a3 a4 a5 a6 a7, o = some (a1, a2, a3, a4, a5, a6, a7) ∧ f a1 a2 a3 a4 a5 a6 a7 = some res := by
  cases o with
  | none => cases h
  | some a => obtain ⟨a1, a2, a3, a4, a5, a6, a7⟩ := a; exact ⟨a1, a2, a3, a4, a5, a6, a7, rfl, h⟩
theorem bd7_some {α1 α2 α3 α4 α5 α6 α7 ρ : Type} (a1 : α1) (a2 : α2) (a3 : α3) (a4 : α4) (a5 : α5) (a6 : α6) (a7 : α7) (f : α1 → α2 → α3 → α4 → α5 → α6 → α7 → Option ρ) : bd7 (some (a1, a2, a3, a4, a5, a6, a7)) f = f a1 a2 a3 a4 a5 a6 a7 := rfl
theorem pj7 {α1 α2 α3 α4 α5 α6 α7 : Type} {a1 a1x : α1} {a2 a2x : α2} {a3 a3x : α3} {a4 a4x : α4} {a5 a5x : α5} {a6 a6x : α6} {a7 a7x : α7} (h : (a1, a2, a3, a4, a5, a6, a7) = (a1x, a2x, a3x, a4x, a5x, a6x, a7x)) : a1 = a1x ∧ a2 = a2x ∧ a3 = a3x ∧ a4 = a4x ∧ a5 = a5x ∧ a6 = a6x ∧ a7 = a7x := by cases h; exact ⟨rfl, rfl, rfl, rfl, rfl, rfl, rfl⟩
def bd9 {α1 α2 α3 α4 α5 α6 α7 α8 α9 ρ : Type} (o : Option (α1 × α2 × α3 × α4 × α5 × α6 × α7 × α8 × α9)) (f : α1 → α2 → α3 → α4 → α5 → α6 → α7 → α8 → α9 → Option ρ) : Option ρ := match o with | some (a1, a2, a3, a4, a5, a6, a7, a8, a9) => f a1 a2 a3 a4 a5 a6 a7 a8 a9 | none => none
theorem ob9 {α1 α2 α3 α4 α5 α6 α7 α8 α9 ρ : Type} {o : Option (α1 × α2 × α3 × α4 × α5 × α6 × α7 × α8 × α9)} {f : α1 → α2 → α3 → α4 → α5 → α6 → α7 → α8 → α9 → Option ρ} {res : ρ} (h : bd9 o f = some res) : ∃ a1 a2 a3 a4 a5 a6 a7 a8 a9, o = some (a1, a2, a3, a4, a5, a6, a7, a8, a9) ∧ f a1 a2 a3 a4 a5 a6 a7 a8 a9 = some res := by
  cases o with
  | none => cases h
  | some a => obtain ⟨a1, a2, a3, a4, a5, a6, a7, a8, a9⟩ := a; exact ⟨a1, a2, a3, a4, a5, a6, a7, a8, a9, rfl, h⟩
theorem bd9_some {α1 α2 α3 α4 α5 α6 α7 α8 α9 ρ : Type} (a1 : α1) (a2 : α2) (a3 : α3) (a4 : α4) (a5 : α5) (a6 : α6) (a7 : α7) (a8 : α8) (a9 : α9) (f : α1 → α2 → α3 → α4 → α5 → α6 → α7 → α8 → α9 → Option ρ) : bd9 (some (a1, a2, a3, a4, a5, a6, a7, a8, a9)) f = f a1 a2 a3 a4 a5 a6 a7 a8 a9 := rfl
theorem pj9 {α1 α2 α3 α4 α5 α6 α7 α8 α9 : Type} {a1 a1x : α1} {a2 a2x : α2} {a3 a3x : α3} {a4 a4x : α4} {a5 a5x : α5} {a6 a6x : α6} {a7 a7x : α7} {a8 a8x : α8} {a9 a9x : α9} (h : (a1, a2, a3, a4, a5, a6, a7, a8, a9) = (a1x, a2x, a3x, a4x, a5x, a6x, a7x, a8x, a9x)) : a1 = a1x ∧ a2 = a2x ∧ a3 = a3x ∧ a4 = a4x ∧ a5 = a5x ∧ a6 = a6x ∧ a7 = a7x ∧ a8 = a8x ∧ a9 = a9x := by cases h; exact ⟨rfl, rfl, rfl, rfl, rfl, rfl, rfl, rfl, rfl⟩
def bd10 {α1 α2 α3 α4 α5 α6 α7 α8 α9 α10 ρ : Type} (o : Option (α1 × α2 × α3 × α4 × α5 × α6 × α7 × α8 × α9 × α10)) (f : α1 → α2 → α3 → α4 → α5 → α6 → α7 → α8 → α9 → α10 → Option ρ) : Option ρ := match o with | some (a1, a2, a3, a4, a5, a6, a7, a8, a9, a10) => f a1 a2 a3 a4 a5 a6 a7 a8 a9 a10 | none => none
theorem ob10 {α1 α2 α3 α4 α5 α6 α7 α8 α9 α10 ρ : Type} {o : Option (α1 × α2 × α3 × α4 × α5 × α6 × α7 × α8 × α9 × α10)} {f : α1 → α2 → α3 → α4 → α5 → α6 → α7 → α8 → α9 → α10 → Option ρ} {res : ρ} (h : bd10 o f = some res) : ∃ a1 a2 a3 a4 a5 a6 a7 a8 a9 a10, o = some (a1, a2, a3, a4, a5, a6, a7, a8, a9, a10) ∧ f a1 a2 a3 a4 a5 a6 a7 a8 a9 a10 = some res := by
  cases o with
  | none => cases h
  | some a => obtain ⟨a1, a2, a3, a4, a5, a6, a7, a8, a9, a10⟩ := a; exact ⟨a1, a2, a3, a4, a5, a6, a7, a8, a9, a10, rfl, h⟩
theorem bd10_some {α1 α2 α3 α4 α5 α6 α7 α8 α9 α10 ρ : Type} (a1 : α1) (a2 : α2) (a3 : α3) (a4 : α4) (a5 : α5) (a6 : α6) (a7 : α7) (a8 : α8) (a9 : α9) (a10 : α10) (f : α1 → α2 → α3 → α4 → α5 → α6 → α7 → α8 → α9 → α10 → Option ρ) : bd10 (some (a1, a2, a3, a4, a5, a6, a7, a8, a9, a10)) f = f a1 a2 a3 a4 a5 a6 a7 a8 a9 a10 := rfl
theorem pj10 {α1 α2 α3 α4 α5 α6 α7 α8 α9 α10 : Type} {a1 a1x : α1} {a2 a2x : α2} {a3 a3x : α3} {a4 a4x : α4} {a5 a5x : α5} {a6 a6x : α6} {a7 a7x : α7} {a8 a8x : α8} {a9 a9x : α9} {a10 a10x : α10} (h : (a1, a2, a3, a4, a5, a6, a7, a8, a9, a10) = (a1x, a2x, a3x, a4x, a5x, a6x, a7x, a8x, a9x, a10x)) : a1 = a1x ∧ a2 = a2x ∧ a3 = a3x ∧ a4 = a4x ∧ a5 = a5x ∧ a6 = a6x ∧ a7 = a7x ∧ a8 = a8x ∧ a9 = a9x ∧ a10 = a10x := by cases h; exact ⟨rfl, rfl, rfl, rfl, rfl, rfl, rfl, rfl, rfl, rfl⟩
section GLo
variable {X : gX} {own : String} {cc : ByteArray} {nL : Nat} {ret : Option FieldType} {Ts : List Cond} {fr lm : Nat} {Q : State → Prop} {ms : List va_W} {L : List (Option Value)} {st : List Value} {pc pc' kc ks : Nat}
theorem g_ldc (C : cx X own cc nL ret Ts fr lm) {idx : Nat} {v : Int32} (hw : Cond.constant own idx v ∈ Ts) (d : decode cc pc = .ok (.ldc idx, 2)) (hp : pc + 2 = pc') (kk : GN X kc ks Q ms L (.int v :: st) pc') : GN X kc ks Q ms L st pc := by
  subst hp
  obtain ⟨p, l, e, R, s, m, args, below, meth, c, D, cA, A, H0⟩ := X
  obtain ⟨hx, hb, -, -, hown, hts, -⟩ := C
  intro H locs ls hP hD hS hl
  exact lv_ldc hx hb hown (hts _ hw) d (kk H locs ls hP hD hS hl)
theorem g_ldc2 (C : cx X own cc nL ret Ts fr lm) {idx : Nat} {v : Int64} (hw : Cond.constantLong own idx v ∈ Ts) (d : decode cc pc = .ok (.ldc2_w idx, 3)) (hp : pc + 3 = pc') (kk : GN X kc ks Q ms L (.long v :: st) pc') : GN X kc ks Q ms L st pc := by
  subst hp
  obtain ⟨p, l, e, R, s, m, args, below, meth, c, D, cA, A, H0⟩ := X
  obtain ⟨hx, hb, -, -, hown, hts, -⟩ := C
  intro H locs ls hP hD hS hl
  exact lv_ldc2 hx hb hown (hts _ hw) d (kk H locs ls hP hD hS hl)
theorem g_lload_n (C : cx X own cc nL ret Ts fr lm) {k : Fin 4} {x : Int64} (d : decode cc pc = .ok (.lload_n k, 1)) (hL : L[k.val]? = some (some (.long x))) (hp : pc + 1 = pc') (kk : GN X kc ks Q ms L (.long x :: st) pc') : GN X kc ks Q ms L (st) pc := by
  subst hp
  obtain ⟨p, l, e, R, s, m, args, below, meth, c, D, cA, A, H0⟩ := X
  obtain ⟨hx, hb, -⟩ := C
  intro H locs ls hP hD hS hl
  exact lv_lload_n hx hb d rfl (hl.2.2 _ _ hL).1 (kk H locs ls hP hD hS hl)
theorem g_lload (C : cx X own cc nL ret Ts fr lm) {k : Nat} {x : Int64} (d : decode cc pc = .ok (.lload k, 2)) (hL : L[k]? = some (some (.long x))) (hp : pc + 2 = pc') (kk : GN X kc ks Q ms L (.long x :: st) pc') : GN X kc ks Q ms L (st) pc := by
  subst hp
  obtain ⟨p, l, e, R, s, m, args, below, meth, c, D, cA, A, H0⟩ := X
  obtain ⟨hx, hb, -⟩ := C
  intro H locs ls hP hD hS hl
  exact lv_lload hx hb d (hl.2.2 _ _ hL).1 (kk H locs ls hP hD hS hl)
theorem g_lstore_n (C : cx X own cc nL ret Ts fr lm) {k : Fin 4} {x : Int64} (d : decode cc pc = .ok (.lstore_n k, 1)) (hi : k.val + 1 < L.length) (hp : pc + 1 = pc') {L' : List (Option Value)} (hL : stL2 L k.val (.long x) = L') (kk : GN X kc ks Q ms L' st pc') : GN X kc ks Q ms L (.long x :: st) pc := by
  subst hL
  subst hp
  obtain ⟨p, l, e, R, s, m, args, below, meth, c, D, cA, A, H0⟩ := X
  obtain ⟨hx, hb, -⟩ := C
  intro H locs ls hP hD hS hl
  exact lv_lstore_n hx hb d rfl hl.has hi rfl (fun ls' h' => kk H locs ls' hP hD hS (hl.set2 rfl hi h'))
theorem g_lstore (C : cx X own cc nL ret Ts fr lm) {k : Nat} {x : Int64} (d : decode cc pc = .ok (.lstore k, 2)) (hi : k + 1 < L.length) (hp : pc + 2 = pc') {L' : List (Option Value)} (hL : stL2 L k (.long x) = L') (kk : GN X kc ks Q ms L' st pc') : GN X kc ks Q ms L (.long x :: st) pc := by
  subst hL
  subst hp
  obtain ⟨p, l, e, R, s, m, args, below, meth, c, D, cA, A, H0⟩ := X
  obtain ⟨hx, hb, -⟩ := C
  intro H locs ls hP hD hS hl
  exact lv_lstore hx hb d hl.has hi rfl (fun ls' h' => kk H locs ls' hP hD hS (hl.set2 rfl hi h'))
theorem g_i2l (C : cx X own cc nL ret Ts fr lm) {x : Int32} {v : Int64} (d : decode cc pc = .ok (.i2l, 1)) (hv : x.toInt64 = v) (hp : pc + 1 = pc') (kk : GN X kc ks Q ms L (.long v :: st) pc') : GN X kc ks Q ms L (.int x :: st) pc := by
  subst hp
  obtain ⟨p, l, e, R, s, m, args, below, meth, c, D, cA, A, H0⟩ := X
  obtain ⟨hx, hb, -⟩ := C
  intro H locs ls hP hD hS hl
  exact lv_i2l hx hb d hv (kk H locs ls hP hD hS hl)
theorem g_lcmp (C : cx X own cc nL ret Ts fr lm) {x y : Int64} (d : decode cc pc = .ok (.lcmp, 1)) (hp : pc + 1 = pc') (kk : GN X kc ks Q ms L (.int (lg_cmp x y) :: st) pc') : GN X kc ks Q ms L (.long y :: .long x :: st) pc := by
  subst hp
  obtain ⟨p, l, e, R, s, m, args, below, meth, c, D, cA, A, H0⟩ := X
  obtain ⟨hx, hb, -⟩ := C
  intro H locs ls hP hD hS hl
  exact W.lcmp hx hb d (kk H locs ls hP hD hS hl)
theorem g_ladd (C : cx X own cc nL ret Ts fr lm) {x y : Int64} (d : decode cc pc = .ok (.ladd, 1)) (hp : pc + 1 = pc') (kk : GN X kc ks Q ms L (.long (x + y) :: st) pc') : GN X kc ks Q ms L (.long y :: .long x :: st) pc := by
  subst hp
  obtain ⟨p, l, e, R, s, m, args, below, meth, c, D, cA, A, H0⟩ := X
  obtain ⟨hx, hb, -⟩ := C
  intro H locs ls hP hD hS hl
  exact lv_ladd hx hb d (kk H locs ls hP hD hS hl)
theorem g_lmul (C : cx X own cc nL ret Ts fr lm) {x y : Int64} (d : decode cc pc = .ok (.lmul, 1)) (hp : pc + 1 = pc') (kk : GN X kc ks Q ms L (.long (x * y) :: st) pc') : GN X kc ks Q ms L (.long y :: .long x :: st) pc := by
  subst hp
  obtain ⟨p, l, e, R, s, m, args, below, meth, c, D, cA, A, H0⟩ := X
  obtain ⟨hx, hb, -⟩ := C
  intro H locs ls hP hD hS hl
  exact lv_lmul hx hb d (kk H locs ls hP hD hS hl)
def QJ (X : gX) (r : Int64) (ms : List va_W) : State → Prop :=
  match X with
  | (_, _, _, R, s, _, args, below, _, _, D, _, A, _) => MQ below (va_Ql (fun (r' : Int64) (_ : Unit) => r' = r) (fun _ t => va_P D vwCl ms.flatten t.heap) A) args s R.cells R.slots A
theorem g_lret (C : cx X own cc nL (some .long) Ts fr lm) {r : Int64} (d : decode cc pc = .ok (.lreturn, 1)) : G X (QJ X r ms) ms L [.long r] pc := by
  obtain ⟨p, l, e, R, s, m, args, below, meth, c, D, cA, A, H0⟩ := X
  obtain ⟨hx, hb, -, hr, hown, hts, hlk, hK, -, -, -, h0⟩ := C
  intro H locs ls hP hD hS hl
  subst h0
  exact W.lret hx hb hr (fun t ht hW => ⟨⟨r, (), rfl, rfl, by show va_P D vwCl ms.flatten t.heap; rw [ht]; exact hP⟩, hS.F ht⟩) hS.2.2 d hlk
end GLo
def MJ (l : Launch) (D : va_G) (cA : Nat → ClassId) (y : MethodName) (ws : List Cond) (fr lo : Nat) (args : List Value) (ms : List va_W) (r : Int64) (ms' : List va_W) : Prop :=
  ∀ sz : Nat, Met l y ws ({ frames := fr, cells := 0, slots := 0, locals := lo } : Room) (va_Pc args (fun U => U.heap.size = sz ∧ va_P D vwCl ms.flatten U.heap ∧ va_K D vwCl (tyl cA) U ∧ va_D (fun _ => True) ms.flatten)) (va_Ql (fun (r' : Int64) (_ : Unit) => r' = r) (fun _ t => va_P D vwCl ms'.flatten t.heap) (va_A ms.flatten sz)) 0 0 (va_A ms.flatten sz)
theorem MJ_of {l : Launch} {D : va_G} {cA : Nat → ClassId} {y : MethodName} {ws ws' : List Cond} {fr lo : Nat} {args : List Value} {ms ms' : List va_W} {r : Int64} {cc : ByteArray} {maxL : Nat} {rt : Option FieldType} (hy : plainName y.cls = true) (hw : ws = Cond.code y cc maxL rt :: ws') (hc : ∀ v ∈ args, v.category = 1) (hn : args.length ≤ maxL)
    (body : ∀ X : gX, gl X = l → gD X = D → gcA X = cA → cx X y.cls cc maxL rt ws fr lo → G X (QJ X r ms') ms (args.map some ++ List.replicate (maxL - args.length) none) [] 0) : MJ l D cA y ws fr lo args ms r ms' := by
  intro sz
  refine Met.ofW (cc := cc) (maxL := maxL) (ret := rt) hy hw ?_
  intro p e s m args0 below meth c s₁ B hml hv
  obtain ⟨rfl, hsz, hP, hK, hD0⟩ := hv
  subst hsz
  have hD := hD0.self (sz := s.heap.size)
  rw [lg_entry_eq]
  exact body (p, l, e, _, s, m, args.toArray, below, meth, c, D, cA, va_A ms.flatten s.heap.size, s.heap) rfl rfl rfl ⟨B.exec, B.bytes, hml, B.returns, findClass_of_methodNamed B.named, atoms_spec (ws := ws) B.pre, B.notSynchronized, hK, fun q h => Or.inr h, rfl, rfl, rfl⟩ s.heap [] _ hP hD va_S.rf (lh_entry args maxL hc hn)
/-- a method that is given the script alone -/
def MX (l : Launch) (D : va_G) (cA : Nat → ClassId) (y : MethodName) (ws : List Cond) (fr lo : Nat) (args : List Value) (b n : Nat) (xs : Nat → Int32) (r : Int32) : Prop :=
  ∀ sz : Nat, Met l y ws ({ frames := fr, cells := 0, slots := 0, locals := lo } : Room) (va_Pc args (fun U => U.heap.size = sz ∧ va_K D vwCl (tyl cA) U ∧ va_X b n xs U U.heap ∧ b < sz)) (va_Qi (fun (r' : Int32) (_ : Unit) => r' = r) (fun _ t => va_P D vwCl ([] : List va_W).flatten t.heap) (va_A ([] : List va_W).flatten sz)) 0 0 (va_A ([] : List va_W).flatten sz)
def sX (X : gX) (b n : Nat) (xs : Nat → Int32) : Prop :=
  match X with
  | (_, _, _, _, s, _, _, _, _, _, _, _, A, H0) => va_X b n xs s H0 ∧ b < H0.size ∧ ¬ A b
theorem P_nil {D : va_G} {H : Heap} : va_P D vwCl ([] : List va_W).flatten H := fun k q h => by simp at h
theorem D_nil {A : Nat → Prop} : va_D A ([] : List va_W).flatten := ⟨fun i j p q h => by simp at h, fun k q h => by simp at h⟩
theorem A_nil {sz q : Nat} (h : va_A ([] : List va_W).flatten sz q) : sz ≤ q := by
  rcases h with ⟨k, e, h⟩ | h
  · simp at h
  · exact h
theorem MX_of {l : Launch} {D : va_G} {cA : Nat → ClassId} {y : MethodName} {ws ws' : List Cond} {fr lo : Nat} {args : List Value} {b n : Nat} {xs : Nat → Int32} {r : Int32} {cc : ByteArray} {maxL : Nat} {rt : Option FieldType} (hy : plainName y.cls = true) (hw : ws = Cond.code y cc maxL rt :: ws') (hc : ∀ v ∈ args, v.category = 1) (hn : args.length ≤ maxL)
    (body : ∀ X : gX, gl X = l → gD X = D → gcA X = cA → sX X b n xs → cx X y.cls cc maxL rt ws fr lo → G X (QI X r []) [] (args.map some ++ List.replicate (maxL - args.length) none) [] 0) : MX l D cA y ws fr lo args b n xs r := by
  intro sz
  refine Met.ofW (cc := cc) (maxL := maxL) (ret := rt) hy hw ?_
  intro p e s m args0 below meth c s₁ B hml hv
  obtain ⟨rfl, hsz, hK, hX, hb⟩ := hv
  subst hsz
  rw [lg_entry_eq]
  exact body (p, l, e, _, s, m, args.toArray, below, meth, c, D, cA, va_A ([] : List va_W).flatten s.heap.size, s.heap) rfl rfl rfl ⟨hX, hb, fun hA => by have := A_nil hA; omega⟩ ⟨B.exec, B.bytes, hml, B.returns, findClass_of_methodNamed B.named, atoms_spec (ws := ws) B.pre, B.notSynchronized, hK, fun q h => Or.inr h, rfl, rfl, rfl⟩ s.heap [] _ P_nil D_nil va_S.rf (lh_entry args maxL hc hn)
section GC2
variable {X : gX} {own : String} {cc : ByteArray} {nL : Nat} {ret : Option FieldType} {Ts : List Cond} {fr lm : Nat} {Q : State → Prop} {ms mc mc' : List va_W} {L : List (Option Value)} {st : List Value} {pc pc' kc ks : Nat} {y : MethodName} {bytes : ByteArray} {maxL : Nat} {rt : Option FieldType} {wsy wsy' : List Cond} {frc lc b n idx : Nat} {As : List Value} {is : List Nat} {r : Int32} {rj : Int64} {xs : Nat → Int32}
theorem G_callSJ (C : cx X own cc nL ret Ts fr lm) (hM : MJ (gl X) (gD X) (gcA X) y wsy frc lc As mc rj mc') (hG : GoodIn Ts (va_wsS own idx y wsy)) (hw : wsy = Cond.code y bytes maxL rt :: wsy') (hd : nd y n) (hR : frc + 1 ≤ fr ∧ 8 + (maxL + 11) + lc ≤ lm) (hC : is.map (fun i => ms[i]?) = mc.map some) (hn : is.Nodup) (ha : adr mc' = adr mc) (hAs : As.length = n) (hst : (st.map fun v => v.category).sum ≤ 8) (hLn : L.length = nL) (d : decode cc pc = .ok (.invokestatic idx, 3)) (hp : pc + 3 = pc') (kk : G X Q (rpl ms is mc') L (.long rj :: st) pc') : G X Q ms L (As.reverse ++ st) pc := by
  subst hp
  obtain ⟨p, l, e, R, s, m, args, below, meth, c, D, cA, A, H0⟩ := X
  obtain ⟨hx, hb, hml, hr, hown, hts, hlk, hK, hA, hfr, hlm, h0⟩ := C
  subst hfr; subst hlm
  intro H locs ls hP hD hS hl
  obtain ⟨hPc, hDc, hsub, hback⟩ := cut_ok hC hn ha hP hD
  have hF : ∀ q, va_A mc.flatten H.size q → A q := by
    intro q hq
    rcases hq with ⟨k, e, hke⟩ | hge
    · obtain ⟨k2, hk2⟩ := List.getElem?_of_mem (hsub _ (List.mem_of_getElem? hke))
      exact hD.2 k2 _ hk2
    · exact hA q (Nat.le_trans hS.1 hge)
  refine va_calll (va_runS (As := As) (rest := st) ⟨hx, hb, hml, hown, hts⟩ (hM H.size) (va_cwS n hts hG hw rfl rfl hd hR) ⟨fun a U g mk q => by obtain ⟨q0, q1, qP, qK, qD⟩ := q; exact ⟨q0, q1, qP, va_K.moved (u := U) (U := U.calling g mk a) (Vm.Alike.refl U.vm) qK, qD⟩, fun U hU hW => ⟨rfl, by rw [hU], by rw [hU]; exact hPc, va_K.moved hW.alike hK, hDc.weaken (fun _ _ _ _ => trivial)⟩⟩ rfl hAs (hl.1.trans hLn) rfl (lv_room hst) d ⟨Nat.le_refl _, Nat.le_refl _⟩) hS (fun q _ h => hF q h) hF (fun r0 u t H1 locs1 ht hvm hw1 hB hz1 hk1 hS1 => ?_)
  subst hw1
  rw [ht] at hB
  obtain ⟨hP1, hD1⟩ := hback H1 hB hk1
  exact kk H1 locs1 ls hP1 hD1 hS1 hl
theorem G_callSIs (C : cx X own cc nL ret Ts fr lm) (hf : cf X) (hM : MIs (gl X) (gD X) (gcA X) y wsy frc lc As mc r mc') (hG : GoodIn Ts (va_wsS own idx y wsy)) (hw : wsy = Cond.code y bytes maxL rt :: wsy') (hd : nd y n) (hR : frc + 1 ≤ fr ∧ 8 + (maxL + 11) + lc ≤ lm) (hC : is.map (fun i => ms[i]?) = mc.map some) (hn : is.Nodup) (ha : adr mc' = adr mc) (hAs : As.length = n) (hst : (st.map fun v => v.category).sum ≤ 8) (hLn : L.length = nL) (d : decode cc pc = .ok (.invokestatic idx, 3)) (hp : pc + 3 = pc') (kk : G X Q (rpl ms is mc') L (.int r :: st) pc') : G X Q ms L (As.reverse ++ st) pc := by
  subst hp
  obtain ⟨p, l, e, R, s, m, args, below, meth, c, D, cA, A, H0⟩ := X
  obtain ⟨hx, hb, hml, hr, hown, hts, hlk, hK, hA, hfr, hlm, h0⟩ := C
  subst hfr; subst hlm
  intro H locs ls hP hD hS hl
  subst h0
  obtain ⟨hPc, hDc, hsub, hback⟩ := cut_ok hC hn ha hP hD
  have hF : ∀ q, va_A mc.flatten H.size q → A q := by
    intro q hq
    rcases hq with ⟨k, e, hke⟩ | hge
    · obtain ⟨k2, hk2⟩ := List.getElem?_of_mem (hsub _ (List.mem_of_getElem? hke))
      exact hD.2 k2 _ hk2
    · exact hA q (Nat.le_trans hS.1 hge)
  have hfH : sF (va_A mc.flatten H.size) s H := (sF.kept hf (fun a h1 h2 => hS.2.1 a h1 h2)).narrow hF
  refine va_calli (va_runS (As := As) (rest := st) ⟨hx, hb, hml, hown, hts⟩ (hM H.size) (va_cwS n hts hG hw rfl rfl hd hR) ⟨fun a U g mk q => by obtain ⟨q0, q1, qP, qK, qD, qF⟩ := q; exact ⟨q0, q1, qP, va_K.moved (u := U) (U := U.calling g mk a) (Vm.Alike.refl U.vm) qK, qD, sF.same (u := U) (U := U.calling g mk a) rfl qF⟩, fun U hU hW => ⟨rfl, by rw [hU], by rw [hU]; exact hPc, va_K.moved hW.alike hK, hDc.weaken (fun _ _ _ _ => trivial), by rw [hU]; exact sF.warm hW hfH⟩⟩ rfl hAs (hl.1.trans hLn) rfl (lv_room hst) d ⟨Nat.le_refl _, Nat.le_refl _⟩) hS (fun q _ h => hF q h) hF (fun r0 u t H1 locs1 ht hvm hw1 hB hz1 hk1 hS1 => ?_)
  subst hw1
  rw [ht] at hB
  obtain ⟨hP1, hD1⟩ := hback H1 hB hk1
  exact kk H1 locs1 ls hP1 hD1 hS1 hl
theorem G_callSX (C : cx X own cc nL ret Ts fr lm) (hs : sX X b n xs) (hM : MX (gl X) (gD X) (gcA X) y wsy frc lc As b n xs r) (hG : GoodIn Ts (va_wsS own idx y wsy)) (hw : wsy = Cond.code y bytes maxL rt :: wsy') {nn : Nat} (hd : nd y nn) (hR : frc + 1 ≤ fr ∧ 8 + (maxL + 11) + lc ≤ lm) (hAs : As.length = nn) (hst : (st.map fun v => v.category).sum ≤ 8) (hLn : L.length = nL) (d : decode cc pc = .ok (.invokestatic idx, 3)) (hp : pc + 3 = pc') (kk : G X Q ms L (.int r :: st) pc') : G X Q ms L (As.reverse ++ st) pc := by
  subst hp
  obtain ⟨p, l, e, R, s, m, args, below, meth, c, D, cA, A, H0⟩ := X
  obtain ⟨hx, hb, hml, hr, hown, hts, hlk, hK, hA, hfr, hlm, h0⟩ := C
  obtain ⟨hX, hlt, hnA⟩ := hs
  subst hfr; subst hlm
  intro H locs ls hP hD hS hl
  have hsz : H0.size ≤ H.size := hS.1
  have hF : ∀ q, va_A ([] : List va_W).flatten H.size q → A q := fun q hq => hA q (Nat.le_trans hS.1 (A_nil hq))
  have hXH : va_X b n xs s H := hX.kept (hS.2.1 b hlt hnA)
  have hback : ∀ H1 : Heap, (∀ q : Nat, q < H.size → ¬ va_A ([] : List va_W).flatten H.size q → H1[q]? = H[q]?) → va_P D vwCl ms.flatten H1 := fun H1 hk1 => P_mem.mpr (fun x hx => by
    have hat := P_mem.mp hP x hx
    exact hat.kept (hk1 x.1 hat.lt (fun hz => by have := A_nil hz; have := hat.lt; omega)))
  refine va_calli (va_runS (As := As) (rest := st) ⟨hx, hb, hml, hown, hts⟩ (hM H.size) (va_cwS nn hts hG hw rfl rfl hd hR) ⟨fun a U g mk q => by obtain ⟨q0, q1, qK, qX, qb⟩ := q; exact ⟨q0, q1, va_K.moved (u := U) (U := U.calling g mk a) (Vm.Alike.refl U.vm) qK, va_X.moved (u := U) (U := U.calling g mk a) (Vm.Alike.refl U.vm) qX, qb⟩, fun U hU hW => ⟨rfl, by rw [hU], va_K.moved hW.alike hK, by rw [hU]; exact va_X.moved hW.alike hXH, by omega⟩⟩ rfl hAs (hl.1.trans hLn) rfl (lv_room hst) d ⟨Nat.le_refl _, Nat.le_refl _⟩) hS (fun q _ h => hF q h) hF (fun r0 u t H1 locs1 ht hvm hw1 hB hz1 hk1 hS1 => ?_)
  subst hw1
  exact kk H1 locs1 ls (hback H1 hk1) hD hS1 hl
theorem g_sld (C : cx X own cc nL ret Ts fr lm) (hs : sX X b n xs) {x : Int32} {ρ : Type} {T : Option ρ} {res : ρ} (d : decode cc pc = .ok (.iaload, 1)) (hp : pc + 1 = pc') (h : (if x < 0 ∨ n ≤ x.toNatClampNeg then none else T) = some res) (kk : T = some res → GN X kc ks Q ms L (.int (xs x.toNatClampNeg) :: st) pc') : GN X kc ks Q ms L (.int x :: .ref b :: st) pc := by
  subst hp
  obtain ⟨hin, h⟩ := og h
  obtain ⟨p, l, e, R, s, m, args, below, meth, c, D, cA, A, H0⟩ := X
  obtain ⟨hx, hb, -⟩ := C
  obtain ⟨hX, hlt, hnA⟩ := hs
  intro H locs ls hP hD hS hl
  exact va_sld hx hb hX hlt hnA hS hin d (kk h H locs ls hP hD hS hl)
theorem g_slen (C : cx X own cc nL ret Ts fr lm) (hs : sX X b n xs) (d : decode cc pc = .ok (.arraylength, 1)) (hp : pc + 1 = pc') (kk : GN X kc ks Q ms L (.int (Int32.ofNat n) :: st) pc') : GN X kc ks Q ms L (.ref b :: st) pc := by
  subst hp
  obtain ⟨p, l, e, R, s, m, args, below, meth, c, D, cA, A, H0⟩ := X
  obtain ⟨hx, hb, -⟩ := C
  obtain ⟨hX, hlt, hnA⟩ := hs
  intro H locs ls hP hD hS hl
  exact va_slen hx hb hX hlt hnA hS d (kk H locs ls hP hD hS hl)
end GC2
/-! the first of the law's own methods: a number of the script -/
def f_L_lot (n : Nat) (xs : Nat → Int32) (k : Int32) : Option Int32 := (if Int32.ofNat n ≤ k then some ((-1176443541 : Int32) * (k + (4073 : Int32)) + (3847 : Int32)) else (if k < 0 ∨ n ≤ k.toNatClampNeg then none else some (xs k.toNatClampNeg)))
theorem lkL_lot_c : Cond.constant RL 7 (-1176443541) ∈ wsL_lot := List.mem_of_getElem? (i := 1) rfl
set_option maxRecDepth 100000 in
theorem B_L_lot {X : gX} (C : cx X RL cL_lot 2 (some .int) wsL_lot 0 0) {b n : Nat} {xs : Nat → Int32} (hs : sX X b n xs) (k r : Int32) (h : f_L_lot n xs k = some r) : G X (QI X r []) [] [some (.ref b), some (.int k)] [] 0 := by
  unfold f_L_lot at h
  refine g_iload_n (pc' := 1) C dL_lot_0 rfl rfl ?_
  refine g_aload_n (pc' := 2) C dL_lot_1 rfl rfl ?_
  refine g_slen (pc' := 3) C hs dL_lot_2 rfl ?_
  refine g_icmp_ge (pc' := 6) (tgt := 12) C dL_lot_3 (by decide) rfl h (fun c h => ?_) (fun c h => ?_)
  · refine g_ldc (pc' := 14) (v := -1176443541) C lkL_lot_c dL_lot_12 rfl ?_
    refine g_iload_n (pc' := 15) C dL_lot_14 rfl rfl ?_
    refine g_sipush (pc' := 18) (v := 4073) C dL_lot_15 (by decide) rfl ?_
    refine g_iadd (pc' := 19) C dL_lot_18 rfl ?_
    refine g_imul (pc' := 20) C dL_lot_19 rfl ?_
    refine g_sipush (pc' := 23) (v := 3847) C dL_lot_20 (by decide) rfl ?_
    refine g_iadd (pc' := 24) C dL_lot_23 rfl ?_
    obtain rfl := Option.some.inj h
    exact g_iret C dL_lot_24
  · refine g_aload_n (pc' := 7) C dL_lot_6 rfl rfl ?_
    refine g_iload_n (pc' := 8) C dL_lot_7 rfl rfl ?_
    refine g_sld (pc' := 9) C hs dL_lot_8 rfl h (fun h => ?_)
    refine g_goto (pc' := 24) C dL_lot_9 (by decide) ?_
    obtain rfl := Option.some.inj h
    exact g_iret C dL_lot_24
theorem c_L_lot (l : Launch) (D : va_G) (cA : Nat → ClassId) (b n : Nat) (xs : Nat → Int32) (k r : Int32) (h : f_L_lot n xs k = some r) : MX l D cA yL_lot wsL_lot 0 0 [.ref b, .int k] b n xs r := MX_of (cc := cL_lot) (maxL := 2) (rt := some .int) (by decide +kernel) rfl (List.forall_mem_cons.mpr ⟨rfl, List.forall_mem_cons.mpr ⟨rfl, List.forall_mem_nil _⟩⟩) (Nat.le_of_ble_eq_true rfl) (fun X e1 e2 e3 hs C => by subst e1; subst e2; subst e3; exact B_L_lot C hs k r h)
theorem nd_L_lot : nd yL_lot 2 := ⟨by decide +kernel, by decide +kernel, by decide +kernel⟩
theorem k_L_lot {X : gX} {own : String} {cc : ByteArray} {nL : Nat} {ret : Option FieldType} {Ts : List Cond} {fr lm : Nat} {Q : State → Prop} {ms : List va_W} {L : List (Option Value)} {st : List Value} {pc pc' idx b n : Nat} {xs : Nat → Int32} {k : Int32} {ρ : Type} {T : Int32 → Option ρ} {res : ρ} (C : cx X own cc nL ret Ts fr lm) (hs : sX X b n xs) (hG : GoodIn Ts (va_wsS own idx yL_lot wsL_lot)) (hR : 0 + 1 ≤ fr ∧ 8 + (2 + 11) + 0 ≤ lm) (hst : (st.map fun v => v.category).sum ≤ 8) (hLn : L.length = nL) (d : decode cc pc = .ok (.invokestatic idx, 3)) (hp : pc + 3 = pc') (h : bd (f_L_lot n xs k) T = some res) (kk : ∀ r : Int32, T r = some res → G X Q ms L (.int r :: st) pc') : G X Q ms L (.int k :: .ref b :: st) pc := by
  obtain ⟨r, h1, h⟩ := ob h
  exact G_callSX C hs (As := [.ref b, .int k]) (c_L_lot (gl X) (gD X) (gcA X) b n xs k r h1) hG rfl nd_L_lot hR rfl hst hLn d hp (kk r h)
/-! THE CLAIM OUT OF ONE WALK OF THE LAW'S BODY. Your part is whole_start (and what it stands on); all else here is the same for every law, but numbers. -/
def R_law : String := "NoteThemesLaw"
def lw_P (b : Addr) (xs : List Int32) (args : Array Value) (s : State) : Prop := args = #[.ref b] ∧ s.IntsAt b xs ∧ xs.length ≤ 260 ∧ (Jvm.Cond.and given_1 narrow_1).before args s = true
def lw_Q (_ : Array Value) (s : State) (o : Outcome) (t : State) : Prop := o = .returned (some (.int 1)) ∧ Framed s o t [] 600000 7302250
def lw_Z (below : List Frame) (a : Array Value) (s : State) : State → Prop := fun t => ∃ o, t.status = .running ∧ Ended t below o ∧ lw_Q a s o t
/-- the law's own end, with 1 on the stack, nothing written that was there before, its room as the claim has it -/
theorem lw_ret {p : Program} {l : Launch} {e : Env} {s : State} {m : MethodId} {below : List Frame} {meth : Method} {c : Code} {b : Nat} (hx : p.tables.exec = Jvm.exec) (hb : c.code = code) (hr : meth.sig.returnType = ret) (hlocks : meth.locks = false) {pc : Nat} {H : Heap} {ls : Array Slot} (hdg : decode code pc = .ok (.ireturn, 1)) : W p l e room_1 s m #[Value.ref b] below meth c H [] 600000 7302250 (lw_Z below #[Value.ref b] s) (F0 m pc ls [.int 1]) := by
  intro T hT X
  obtain ⟨fs, hret, hrun, hended, hW, hframe⟩ := X.leave (v := some (.int 1)) (hlocks := hlocks) (fun h => by rw [hr] at h; cases h)
  have hmeth' : T.vm.method? m = some meth := X.method'
  refine ⟨T.setFrames fs, ?_, .returned (some (.int 1)), hrun, hended, rfl, ⟨_, rfl⟩, hW, hframe⟩
  jvm_step X.here [X.here.top, hx, hb, hdg, hmeth', hr, ret, narrow_b1]
  (try refine ⟨rfl, ?_⟩); (try refine ⟨rfl, ?_⟩)
  first | (intro acts; rw [hret _ acts rfl rfl rfl]) | rw [hret _ _ rfl rfl rfl]
  exact Steps.refl _
/-- what holds at the law's entry: the machine, the code, the tables' words (any of lw_tbl by 'hts w (by decide +kernel)'), the script of L ints xs at the cell b, what the Statement gives of the start (any of its parts by flat_of_before) -/
def lw_At (p : Program) (s : State) (m : MethodId) (meth : Method) (c : Code) (b L : Nat) (xs : Nat → Int32) : Prop :=
  p.tables.exec = Jvm.exec ∧ c.code = code ∧ meth.sig.returnType = ret ∧ c.maxLocals = 13 ∧ s.vm.findClass R_law = some m.cls ∧ (∀ w ∈ lw_tbl, w.before #[Value.ref b] s = true) ∧ va_X b L xs s s.heap ∧ b < s.heap.size ∧ meth.locks = false ∧ (Jvm.Cond.and given_1 narrow_1).before #[Value.ref b] s = true
section GE
variable {X : gX} {own : String} {cc : ByteArray} {nL : Nat} {ret0 : Option FieldType} {Ts : List Cond} {fr lm : Nat} {Q : State → Prop} {ms : List va_W} {L : List (Option Value)} {st : List Value} {pc pc' kc ks : Nat}
def QL (X : gX) (b : Nat) : State → Prop :=
  match X with
  | (_, _, _, _, s, _, _, below, _, _, _, _, _, _) => lw_Z below #[Value.ref b] s
/-- what is fixed at the law's entry -/
def lF (X : gX) (b : Nat) : Prop :=
  match X with
  | (_, _, _, R, s, _, args, _, _, _, _, _, A, _) => R = room_1 ∧ args = #[Value.ref b] ∧ ∀ q, A q → s.heap.size ≤ q
theorem g_lawret {b : Nat} (C : cx X RL cL_law 13 ret Ts fr lm) (hF : lF X b) (d : decode code pc = .ok (.ireturn, 1)) : GN X 600000 7302250 (QL X b) ms L [.int 1] pc := by
  obtain ⟨p, l, e, R, s, m, args, below, meth, c, D, cA, A, H0⟩ := X
  obtain ⟨hx, hb, -, hr, hown, hts, hlk, hK, -, -, -, h0⟩ := C
  obtain ⟨rfl, rfl, hA⟩ := hF
  intro H locs ls hP hD hS hl
  refine va_forget (fun q hq => hA _ (hS.2.2 q hq)) ?_
  exact lw_ret hx hb hr hlk d
theorem GN_widen {k n : Nat} (h1 : kc ≤ k) (h2 : ks ≤ n) (kk : GN X k n Q ms L st pc) : GN X kc ks Q ms L st pc := by
  obtain ⟨p, l, e, R, s, m, args, below, meth, c, D, cA, A, H0⟩ := X
  intro H locs ls hP hD hS hl
  exact W.widen h1 h2 (kk H locs ls hP hD hS hl)
end GE
