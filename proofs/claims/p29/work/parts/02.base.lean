/-! base: walks over a list of modules (each a list of cells); locals as a list of known values; no heap is named -/
abbrev tyl (cA : Nat → ClassId) : List (ClassId × FieldType) := [(cA 0, .int), (cA 1, .char), (cA 2, .object RX0)]
abbrev gX : Type := Program × Launch × Env × Room × State × MethodId × Array Value × List Frame × Method × Code × va_G × (Nat → ClassId) × (Nat → Prop) × Heap
def gl (X : gX) : Launch := X.2.1
def gD (X : gX) : va_G := X.2.2.2.2.2.2.2.2.2.2.1
def gcA (X : gX) : Nat → ClassId := X.2.2.2.2.2.2.2.2.2.2.2.1
def lo (L : List (Option Value)) : List (Nat × Value) := (List.range L.length).filterMap (fun i => (L.getD i none).map (fun v => (i, v)))
theorem lo_mem {L : List (Option Value)} {j : Nat} {v : Value} : (j, v) ∈ lo L ↔ L[j]? = some (some v) := by
  simp only [lo, List.mem_filterMap, List.mem_range]
  constructor
  · rintro ⟨i, hi, h⟩
    rw [List.getD_eq_getElem?_getD, List.getElem?_eq_getElem hi, Option.getD_some] at h
    cases hx : L[i] with
    | none => rw [hx] at h; cases h
    | some z =>
      rw [hx] at h
      cases h
      rw [List.getElem?_eq_getElem hi, hx]
  · intro h
    obtain ⟨hj, e⟩ := List.getElem?_eq_some_iff.mp h
    exact ⟨j, hj, by rw [List.getD_eq_getElem?_getD, h]; rfl⟩
def lh (ls : Array Slot) (L : List (Option Value)) : Prop := ls.size = L.length ∧ lv_wf ls ∧ ∀ (i : Nat) (v : Value), L[i]? = some (some v) → ls[i]? = some (.val v) ∧ (v.category = 2 → L[i + 1]? = some none)
theorem lh.has {ls : Array Slot} {L : List (Option Value)} (h : lh ls L) : lv_has ls L.length (lo L) := ⟨h.1, h.2.1, fun q hq => (h.2.2 q.1 q.2 (lo_mem.mp hq)).1⟩
def is2 : Value → Bool
  | .long _ => true
  | .double _ => true
  | _ => false
theorem is2_f {v : Value} (h : is2 v = false) : v.category = 1 := by
  cases v with
  | long _ => cases h
  | double _ => cases h
  | _ => rfl
theorem is2_t {v : Value} (h : is2 v = true) : v.category = 2 := by
  cases v with
  | long _ => rfl
  | double _ => rfl
  | _ => cases h
/-- what a store at i does to a long that begins ahead of it -/
def clL : List (Option Value) → Nat → List (Option Value)
  | L, 0 => L
  | L, j + 1 => match L[j]? with
    | some (some w) => if is2 w = true then L.set j none else L
    | _ => L
theorem clL_len (L : List (Option Value)) (i : Nat) : (clL L i).length = L.length := by
  cases i with
  | zero => rfl
  | succ j =>
    show (match L[j]? with
      | some (some w) => if is2 w = true then L.set j none else L
      | _ => L).length = L.length
    split
    · split
      · rw [List.length_set]
      · rfl
    · rfl
theorem clL_at {L : List (Option Value)} {i k : Nat} : (clL L i)[k]? = L[k]? ∨ (clL L i)[k]? = some none := by
  cases i with
  | zero => exact Or.inl rfl
  | succ j =>
    show (match L[j]? with
      | some (some w) => if is2 w = true then L.set j none else L
      | _ => L)[k]? = L[k]? ∨ (match L[j]? with
      | some (some w) => if is2 w = true then L.set j none else L
      | _ => L)[k]? = some none
    split
    · rename_i w hw
      split
      · by_cases e : j = k
        · subst e
          right
          rw [List.getElem?_set_self (List.getElem?_eq_some_iff.mp hw).1]
        · left
          rw [List.getElem?_set_ne e]
      · exact Or.inl rfl
    · exact Or.inl rfl
theorem clL_v {L : List (Option Value)} {i k : Nat} {w : Value} (h : (clL L i)[k]? = some (some w)) : L[k]? = some (some w) := by
  rcases clL_at (L := L) (i := i) (k := k) with e | e
  · rw [← e]; exact h
  · rw [e] at h; cases h
theorem clL_1 {L : List (Option Value)} {j : Nat} {w : Value} (h : (clL L (j + 1))[j]? = some (some w)) : w.category = 1 := by
  have h0 := clL_v h
  have e : clL L (j + 1) = if is2 w = true then L.set j none else L := by
    show (match L[j]? with
    | some (some w) => if is2 w = true then L.set j none else L
    | _ => L) = _
    rw [h0]
  rw [e] at h
  cases hw : is2 w with
  | false => exact is2_f hw
  | true =>
    rw [if_pos hw, List.getElem?_set_self (List.getElem?_eq_some_iff.mp h0).1] at h
    cases h
def stL (L : List (Option Value)) (i : Nat) (v : Value) : List (Option Value) := (clL L i).set i (some v)
def stL2 (L : List (Option Value)) (i : Nat) (v : Value) : List (Option Value) := ((clL L i).set (i + 1) none).set i (some v)
theorem lh.set {ls ls' : Array Slot} {L : List (Option Value)} (h : lh ls L) {i : Nat} {v : Value} (hc : v.category = 1) (hi : i < L.length) (h' : lv_has ls' L.length ((i, v) :: (lo L).filter (fun q => !(q.1 == i) && !(q.1 + 1 == i && q.2.category == 2)))) : lh ls' (stL L i v) := by
  refine ⟨by rw [h'.1, stL, List.length_set, clL_len], h'.2.1, fun j w hj => ?_⟩
  by_cases e : j = i
  · subst e
    rw [stL, List.getElem?_set_self (by rw [clL_len]; exact hi)] at hj
    cases hj
    exact ⟨h'.2.2 (j, v) List.mem_cons_self, fun q => by rw [hc] at q; cases q⟩
  · rw [stL, List.getElem?_set_ne (Ne.symm e)] at hj
    have hj0 := clL_v hj
    have c1 : j + 1 = i → w.category = 1 := by
      intro e1
      subst e1
      exact clL_1 hj
    refine ⟨h'.2.2 (j, w) (List.mem_cons_of_mem _ (List.mem_filter.mpr ⟨lo_mem.mpr hj0, ?_⟩)), fun q => ?_⟩
    · by_cases e1 : j + 1 = i
      · simp [e, c1 e1]
      · simp [e, e1]
    · have e1 : ¬ j + 1 = i := fun e1 => by rw [c1 e1] at q; cases q
      rw [stL, List.getElem?_set_ne (Ne.symm e1)]
      have h2 := (h.2.2 j w hj0).2 q
      rcases clL_at (L := L) (i := i) (k := j + 1) with e2 | e2
      · rw [e2]; exact h2
      · exact e2
theorem lh.set2 {ls ls' : Array Slot} {L : List (Option Value)} (h : lh ls L) {i : Nat} {v : Value} (hc : v.category = 2) (hi : i + 1 < L.length) (h' : lv_has ls' L.length ((i, v) :: (lo L).filter (fun q => !(q.1 == i) && (!(q.1 == i + 1) && !(q.1 + 1 == i && q.2.category == 2))))) : lh ls' (stL2 L i v) := by
  refine ⟨by rw [h'.1, stL2, List.length_set, List.length_set, clL_len], h'.2.1, fun j w hj => ?_⟩
  by_cases e : j = i
  · subst e
    rw [stL2, List.getElem?_set_self (by rw [List.length_set, clL_len]; omega)] at hj
    cases hj
    refine ⟨h'.2.2 (j, v) List.mem_cons_self, fun _ => ?_⟩
    rw [stL2, List.getElem?_set_ne (by omega), List.getElem?_set_self (by rw [clL_len]; exact hi)]
  · rw [stL2, List.getElem?_set_ne (Ne.symm e)] at hj
    by_cases e3 : j = i + 1
    · subst e3
      rw [List.getElem?_set_self (by rw [clL_len]; exact hi)] at hj
      cases hj
    rw [List.getElem?_set_ne (Ne.symm e3)] at hj
    have hj0 := clL_v hj
    have c1 : j + 1 = i → w.category = 1 := by
      intro e1
      subst e1
      exact clL_1 hj
    refine ⟨h'.2.2 (j, w) (List.mem_cons_of_mem _ (List.mem_filter.mpr ⟨lo_mem.mpr hj0, ?_⟩)), fun q => ?_⟩
    · by_cases e1 : j + 1 = i
      · simp [e, e3, c1 e1]
      · simp [e, e3, e1]
    · have e1 : ¬ j + 1 = i := fun e1 => by rw [c1 e1] at q; cases q
      rw [stL2, List.getElem?_set_ne (Ne.symm e1)]
      have h2 := (h.2.2 j w hj0).2 q
      rw [List.getElem?_set_ne (by omega)]
      rcases clL_at (L := L) (i := i) (k := j + 1) with e2 | e2
      · rw [e2]; exact h2
      · exact e2
def lle : List (Option Value) → List (Option Value) → Prop
  | [], [] => True
  | none :: a, _ :: b => lle a b
  | some v :: a, w :: b => w = some v ∧ lle a b
  | _, _ => False
theorem lle_0 : lle [] [] := trivial
theorem lle_n {a b : List (Option Value)} {x : Option Value} (h : lle a b) : lle (none :: a) (x :: b) := h
theorem lle_s {a b : List (Option Value)} {v : Value} (h : lle a b) : lle (some v :: a) (some v :: b) := ⟨rfl, h⟩
theorem lle_ok : ∀ {a b : List (Option Value)}, lle a b → a.length = b.length ∧ ∀ (i : Nat) (v : Value), a[i]? = some (some v) → b[i]? = some (some v)
  | [], [], _ => ⟨rfl, fun i v h => by simp at h⟩
  | none :: a, x :: b, h => by
    obtain ⟨h1, h2⟩ := lle_ok (a := a) (b := b) h
    refine ⟨by simp [h1], fun i v hi => ?_⟩
    cases i with
    | zero => simp at hi
    | succ i => simpa using h2 i v (by simpa using hi)
  | some z :: a, x :: b, h => by
    obtain ⟨h0, h⟩ := h
    obtain ⟨h1, h2⟩ := lle_ok (a := a) (b := b) h
    refine ⟨by simp [h1], fun i v hi => ?_⟩
    cases i with
    | zero => simpa [h0] using hi
    | succ i => simpa using h2 i v (by simpa using hi)
  | none :: _, [], h => by cases h
  | some _ :: _, [], h => by cases h
  | [], _ :: _, h => by cases h
theorem lle_none {a b : List (Option Value)} (h : lle a b) {i : Nat} (hb : b[i]? = some none) : a[i]? = some none := by
  obtain ⟨h1, h2⟩ := lle_ok h
  have hlt : i < a.length := by rw [h1]; exact (List.getElem?_eq_some_iff.mp hb).1
  cases ha : a[i] with
  | none => rw [List.getElem?_eq_getElem hlt, ha]
  | some v =>
    have := h2 i v (by rw [List.getElem?_eq_getElem hlt, ha])
    rw [hb] at this
    cases this
theorem lh.le {ls : Array Slot} {L L' : List (Option Value)} (h : lh ls L) (hl : lle L' L) : lh ls L' := by
  obtain ⟨h1, h2⟩ := lle_ok hl
  exact ⟨h.1.trans h1.symm, h.2.1, fun i v hi => ⟨(h.2.2 i v (h2 i v hi)).1, fun q => lle_none hl ((h.2.2 i v (h2 i v hi)).2 q)⟩⟩
/-! worlds -/
theorem fl_at : ∀ {ms : List va_W} {i j : Nat} {w : va_W} {x : Nat × va_E}, ms[i]? = some w → w[j]? = some x → ∃ q, ms.flatten[q]? = some x ∧ ∀ e, ms.flatten.set q e = (ms.set i (w.set j e)).flatten
  | [], i, j, w, x, h, _ => by simp at h
  | w0 :: ms, 0, j, w, x, h, hj => by
    rw [List.getElem?_cons_zero] at h
    cases h
    have hl := (List.getElem?_eq_some_iff.mp hj).1
    refine ⟨j, ?_, fun e => ?_⟩
    · rw [List.flatten_cons, List.getElem?_append_left hl]; exact hj
    · rw [List.flatten_cons, List.set_append_left _ _ hl]; rfl
  | w0 :: ms, i + 1, j, w, x, h, hj => by
    obtain ⟨q, h1, h2⟩ := fl_at (ms := ms) (i := i) (by simpa using h) hj
    refine ⟨w0.length + q, ?_, fun e => ?_⟩
    · rw [List.flatten_cons, List.getElem?_append_right (by omega), Nat.add_sub_cancel_left]; exact h1
    · rw [List.flatten_cons, List.set_append_right _ _ (by omega), Nat.add_sub_cancel_left, h2]; rfl
def gR (X : gX) : Room := X.2.2.2.1
def GN (X : gX) (kc ks : Nat) (Q : State → Prop) (ms : List va_W) (L : List (Option Value)) (st : List Value) (pc : Nat) : Prop :=
  match X with
  | (p, l, e, R, s, m, args, below, meth, c, D, _, A, H0) => ∀ (H : Heap) (locs : List Loc) (ls : Array Slot), va_P D vwCl ms.flatten H → va_D A ms.flatten → va_S A H0 H locs → lh ls L → W p l e R s m args below meth c H locs kc ks Q (F0 m pc ls st)
abbrev G (X : gX) (Q : State → Prop) (ms : List va_W) (L : List (Option Value)) (st : List Value) (pc : Nat) : Prop := GN X (gR X).cells (gR X).slots Q ms L st pc
def cx (X : gX) (own : String) (cc : ByteArray) (nL : Nat) (ret : Option FieldType) (Ts : List Cond) (fr lo : Nat) : Prop :=
  match X with
  | (p, _, _, R, s, m, args, _, meth, c, D, cA, A, H0) => p.tables.exec = Jvm.exec ∧ c.code = cc ∧ c.maxLocals = nL ∧ meth.sig.returnType = ret ∧ s.vm.findClass own = some m.cls ∧ (∀ w ∈ Ts, w.before args s = true) ∧ meth.locks = false ∧ va_K D vwCl (tyl cA) s ∧ (∀ q, H0.size ≤ q → A q) ∧ R.frames = fr ∧ R.locals = lo ∧ H0 = s.heap
def QI (X : gX) (r : Int32) (ms : List va_W) : State → Prop :=
  match X with
  | (_, _, _, R, s, _, args, below, _, _, D, _, A, _) => MQ below (va_Qi (fun (r' : Int32) (_ : Unit) => r' = r) (fun _ t => va_P D vwCl ms.flatten t.heap) A) args s R.cells R.slots A
def QV (X : gX) (ms : List va_W) : State → Prop :=
  match X with
  | (_, _, _, R, s, _, args, below, _, _, D, _, A, _) => MQ below (va_Qv (fun (_ : Unit) => True) (fun _ t => va_P D vwCl ms.flatten t.heap) A) args s R.cells R.slots A
def MI (l : Launch) (D : va_G) (cA : Nat → ClassId) (y : MethodName) (ws : List Cond) (fr lo : Nat) (args : List Value) (ms : List va_W) (r : Int32) (ms' : List va_W) : Prop :=
  ∀ sz : Nat, Met l y ws ({ frames := fr, cells := 0, slots := 0, locals := lo } : Room) (va_Pc args (fun U => U.heap.size = sz ∧ va_P D vwCl ms.flatten U.heap ∧ va_K D vwCl (tyl cA) U ∧ va_D (fun _ => True) ms.flatten)) (va_Qi (fun (r' : Int32) (_ : Unit) => r' = r) (fun _ t => va_P D vwCl ms'.flatten t.heap) (va_A ms.flatten sz)) 0 0 (va_A ms.flatten sz)
def MV (l : Launch) (D : va_G) (cA : Nat → ClassId) (y : MethodName) (ws : List Cond) (fr lo : Nat) (args : List Value) (ms : List va_W) (ms' : List va_W) : Prop :=
  ∀ sz : Nat, Met l y ws ({ frames := fr, cells := 0, slots := 0, locals := lo } : Room) (va_Pc args (fun U => U.heap.size = sz ∧ va_P D vwCl ms.flatten U.heap ∧ va_K D vwCl (tyl cA) U ∧ va_D (fun _ => True) ms.flatten)) (va_Qv (fun (_ : Unit) => True) (fun _ t => va_P D vwCl ms'.flatten t.heap) (va_A ms.flatten sz)) 0 0 (va_A ms.flatten sz)
theorem lv_args1 : ∀ (n : Nat) (vs : List Value), (∀ v ∈ vs, v.category = 1) → ∀ (j : Nat) (v : Value), vs[j]? = some v → (n + j, v) ∈ lv_args n vs
  | n, [], _, j, v, h => by simp at h
  | n, z :: vs, hc, j, v, h => by
    have h1 : z.category = 1 := hc z List.mem_cons_self
    simp only [lv_args, h1, show ¬ ((1 : Nat) = 2) by decide, if_false]
    cases j with
    | zero => simp at h; subst h; exact List.mem_cons_self
    | succ j =>
      have := lv_args1 (n + 1) vs (fun v hv => hc v (List.mem_cons_of_mem _ hv)) j v (by simpa using h)
      refine List.mem_cons_of_mem _ ?_
      rw [show n + (j + 1) = n + 1 + j by omega]
      exact this
theorem lg_sl1 : ∀ (vs : List Value), (∀ v ∈ vs, v.category = 1) → (lg_sl vs).length = vs.length
  | [], _ => rfl
  | v :: vs, hc => by
    have h1 : v.category = 1 := hc v List.mem_cons_self
    have h2 := lg_sl1 vs (fun w hw => hc w (List.mem_cons_of_mem _ hw))
    simp only [lg_sl, List.flatMap_cons, List.length_append, List.length_cons] at h2 ⊢
    rw [h2]
    simp [h1]
    omega
theorem lh_entry (vs : List Value) (n : Nat) (hc : ∀ v ∈ vs, v.category = 1) (hn : vs.length ≤ n) : lh ((lg_sl vs ++ List.replicate (n - (lg_sl vs).length) Slot.unset).toArray) (vs.map some ++ List.replicate (n - vs.length) none) := by
  have e := lg_sl1 vs hc
  have h := lv_entry vs (n := n) (by omega)
  refine ⟨h.1.trans (by simp; omega), h.2.1, fun i v hi => ?_⟩
  by_cases hl : i < vs.length
  · rw [List.getElem?_append_left (by simpa using hl), List.getElem?_map] at hi
    cases hv : vs[i]? with
    | none => rw [hv] at hi; cases hi
    | some z =>
      rw [hv] at hi
      have e0 : z = v := by simpa using hi
      subst e0
      refine ⟨?_, fun q => by rw [hc z (List.mem_of_getElem? hv)] at q; cases q⟩
      have := h.2.2 (0 + i, z) (lv_args1 0 vs hc i z hv)
      simpa using this
  · rw [List.getElem?_append_right (by simpa using hl), List.getElem?_replicate] at hi
    split at hi <;> simp at hi
theorem MI_of {l : Launch} {D : va_G} {cA : Nat → ClassId} {y : MethodName} {ws ws' : List Cond} {fr lo : Nat} {args : List Value} {ms ms' : List va_W} {r : Int32} {cc : ByteArray} {maxL : Nat} {rt : Option FieldType} (hy : plainName y.cls = true) (hw : ws = Cond.code y cc maxL rt :: ws') (hc : ∀ v ∈ args, v.category = 1) (hn : args.length ≤ maxL)
    (body : ∀ X : gX, gl X = l → gD X = D → gcA X = cA → cx X y.cls cc maxL rt ws fr lo → G X (QI X r ms') ms (args.map some ++ List.replicate (maxL - args.length) none) [] 0) : MI l D cA y ws fr lo args ms r ms' := by
  intro sz
  refine Met.ofW (cc := cc) (maxL := maxL) (ret := rt) hy hw ?_
  intro p e s m args0 below meth c s₁ B hml hv
  obtain ⟨rfl, hsz, hP, hK, hD0⟩ := hv
  subst hsz
  have hD := hD0.self (sz := s.heap.size)
  rw [lg_entry_eq]
  exact body (p, l, e, _, s, m, args.toArray, below, meth, c, D, cA, va_A ms.flatten s.heap.size, s.heap) rfl rfl rfl ⟨B.exec, B.bytes, hml, B.returns, findClass_of_methodNamed B.named, atoms_spec (ws := ws) B.pre, B.notSynchronized, hK, fun q h => Or.inr h, rfl, rfl, rfl⟩ s.heap [] _ hP hD va_S.rf (lh_entry args maxL hc hn)
theorem MV_of {l : Launch} {D : va_G} {cA : Nat → ClassId} {y : MethodName} {ws ws' : List Cond} {fr lo : Nat} {args : List Value} {ms ms' : List va_W} {cc : ByteArray} {maxL : Nat} (hy : plainName y.cls = true) (hw : ws = Cond.code y cc maxL none :: ws') (hc : ∀ v ∈ args, v.category = 1) (hn : args.length ≤ maxL)
    (body : ∀ X : gX, gl X = l → gD X = D → gcA X = cA → cx X y.cls cc maxL none ws fr lo → G X (QV X ms') ms (args.map some ++ List.replicate (maxL - args.length) none) [] 0) : MV l D cA y ws fr lo args ms ms' := by
  intro sz
  refine Met.ofW (cc := cc) (maxL := maxL) (ret := none) hy hw ?_
  intro p e s m args0 below meth c s₁ B hml hv
  obtain ⟨rfl, hsz, hP, hK, hD0⟩ := hv
  subst hsz
  have hD := hD0.self (sz := s.heap.size)
  rw [lg_entry_eq]
  exact body (p, l, e, _, s, m, args.toArray, below, meth, c, D, cA, va_A ms.flatten s.heap.size, s.heap) rfl rfl rfl ⟨B.exec, B.bytes, hml, B.returns, findClass_of_methodNamed B.named, atoms_spec (ws := ws) B.pre, B.notSynchronized, hK, fun q h => Or.inr h, rfl, rfl, rfl⟩ s.heap [] _ hP hD va_S.rf (lh_entry args maxL hc hn)
/-! options -/
theorem og {ρ : Type} {c : Prop} [Decidable c] {T : Option ρ} {res : ρ} (h : (if c then none else T) = some res) : ¬ c ∧ T = some res := by
  by_cases hc : c
  · rw [if_pos hc] at h; cases h
  · rw [if_neg hc] at h; exact ⟨hc, h⟩
def bd {α ρ : Type} (o : Option α) (f : α → Option ρ) : Option ρ := match o with | some a => f a | none => none
theorem ob {α ρ : Type} {o : Option α} {f : α → Option ρ} {res : ρ} (h : bd o f = some res) : ∃ a, o = some a ∧ f a = some res := by
  cases o with
  | none => cases h
  | some a => exact ⟨a, rfl, h⟩
theorem bd_some {α ρ : Type} (a : α) (f : α → Option ρ) : bd (some a) f = f a := rfl
def bd2 {α β ρ : Type} (o : Option (α × β)) (f : α → β → Option ρ) : Option ρ := match o with | some (a, b) => f a b | none => none
theorem ob2 {α β ρ : Type} {o : Option (α × β)} {f : α → β → Option ρ} {res : ρ} (h : bd2 o f = some res) : ∃ a b, o = some (a, b) ∧ f a b = some res := by
  cases o with
  | none => cases h
  | some a => obtain ⟨a, b⟩ := a; exact ⟨a, b, rfl, h⟩
theorem bd2_some {α β ρ : Type} (a : α) (b : β) (f : α → β → Option ρ) : bd2 (some (a, b)) f = f a b := rfl
def bd3 {α β γ ρ : Type} (o : Option (α × β × γ)) (f : α → β → γ → Option ρ) : Option ρ := match o with | some (a, b, c) => f a b c | none => none
theorem ob3 {α β γ ρ : Type} {o : Option (α × β × γ)} {f : α → β → γ → Option ρ} {res : ρ} (h : bd3 o f = some res) : ∃ a b c, o = some (a, b, c) ∧ f a b c = some res := by
  cases o with
  | none => cases h
  | some a => obtain ⟨a, b, c⟩ := a; exact ⟨a, b, c, rfl, h⟩
theorem bd3_some {α β γ ρ : Type} (a : α) (b : β) (c : γ) (f : α → β → γ → Option ρ) : bd3 (some (a, b, c)) f = f a b c := rfl
def bd4 {α β γ δ ρ : Type} (o : Option (α × β × γ × δ)) (f : α → β → γ → δ → Option ρ) : Option ρ := match o with | some (a, b, c, d) => f a b c d | none => none
theorem ob4 {α β γ δ ρ : Type} {o : Option (α × β × γ × δ)} {f : α → β → γ → δ → Option ρ} {res : ρ} (h : bd4 o f = some res) : ∃ a b c d, o = some (a, b, c, d) ∧ f a b c d = some res := by
  cases o with
  | none => cases h
  | some a => obtain ⟨a, b, c, d⟩ := a; exact ⟨a, b, c, d, rfl, h⟩
theorem bd4_some {α β γ δ ρ : Type} (a : α) (b : β) (c : γ) (d : δ) (f : α → β → γ → δ → Option ρ) : bd4 (some (a, b, c, d)) f = f a b c d := rfl
/-! one row an instruction -/
section GI
variable {X : gX} {own : String} {cc : ByteArray} {nL : Nat} {ret : Option FieldType} {Ts : List Cond} {fr lm : Nat} {Q : State → Prop} {ms : List va_W} {L : List (Option Value)} {st : List Value} {pc pc' kc ks : Nat}
theorem cx.word (C : cx X own cc nL ret Ts fr lm) {w : Cond} (hw : w ∈ Ts) : w.before X.2.2.2.2.2.2.1 X.2.2.2.2.1 = true := by
  obtain ⟨p, l, e, R, s, m, args, below, meth, c, D, cA, A, H0⟩ := X
  exact C.2.2.2.2.2.1 w hw
theorem G_loc {L' : List (Option Value)} (hl : lle L' L) (kk : GN X kc ks Q ms L' st pc) : GN X kc ks Q ms L st pc := by
  obtain ⟨p, l, e, R, s, m, args, below, meth, c, D, cA, A, H0⟩ := X
  intro H locs ls hP hD hS h
  exact kk H locs ls hP hD hS (h.le hl)

theorem g_iconst (C : cx X own cc nL ret Ts fr lm) {n : Int} {v : Int32} (d : decode cc pc = .ok (.iconst n, 1)) (hv : Int32.ofInt n = v) (hp : pc + 1 = pc') (kk : GN X kc ks Q ms L (.int v :: st) pc') : GN X kc ks Q ms L (st) pc := by
  subst hp
  obtain ⟨p, l, e, R, s, m, args, below, meth, c, D, cA, A, H0⟩ := X
  obtain ⟨hx, hb, -⟩ := C
  intro H locs ls hP hD hS hl
  exact lv_iconst hx hb d hv (kk H locs ls hP hD hS hl)
theorem g_bipush (C : cx X own cc nL ret Ts fr lm) {n : Int} {v : Int32} (d : decode cc pc = .ok (.bipush n, 2)) (hv : (Int8.ofInt n).toInt32 = v) (hp : pc + 2 = pc') (kk : GN X kc ks Q ms L (.int v :: st) pc') : GN X kc ks Q ms L (st) pc := by
  subst hp
  obtain ⟨p, l, e, R, s, m, args, below, meth, c, D, cA, A, H0⟩ := X
  obtain ⟨hx, hb, -⟩ := C
  intro H locs ls hP hD hS hl
  exact lv_bipush hx hb d hv (kk H locs ls hP hD hS hl)
theorem g_sipush (C : cx X own cc nL ret Ts fr lm) {n : Int} {v : Int32} (d : decode cc pc = .ok (.sipush n, 3)) (hv : (Int16.ofInt n).toInt32 = v) (hp : pc + 3 = pc') (kk : GN X kc ks Q ms L (.int v :: st) pc') : GN X kc ks Q ms L (st) pc := by
  subst hp
  obtain ⟨p, l, e, R, s, m, args, below, meth, c, D, cA, A, H0⟩ := X
  obtain ⟨hx, hb, -⟩ := C
  intro H locs ls hP hD hS hl
  exact lv_sipush hx hb d hv (kk H locs ls hP hD hS hl)
theorem g_iload_n (C : cx X own cc nL ret Ts fr lm) {k : Fin 4} {x : Int32} (d : decode cc pc = .ok (.iload_n k, 1)) (hL : L[k.val]? = some (some (.int x))) (hp : pc + 1 = pc') (kk : GN X kc ks Q ms L (.int x :: st) pc') : GN X kc ks Q ms L (st) pc := by
  subst hp
  obtain ⟨p, l, e, R, s, m, args, below, meth, c, D, cA, A, H0⟩ := X
  obtain ⟨hx, hb, -⟩ := C
  intro H locs ls hP hD hS hl
  exact lv_iload_n hx hb d rfl (hl.2.2 _ _ hL).1 (kk H locs ls hP hD hS hl)
theorem g_iload (C : cx X own cc nL ret Ts fr lm) {k : Nat} {x : Int32} (d : decode cc pc = .ok (.iload k, 2)) (hL : L[k]? = some (some (.int x))) (hp : pc + 2 = pc') (kk : GN X kc ks Q ms L (.int x :: st) pc') : GN X kc ks Q ms L (st) pc := by
  subst hp
  obtain ⟨p, l, e, R, s, m, args, below, meth, c, D, cA, A, H0⟩ := X
  obtain ⟨hx, hb, -⟩ := C
  intro H locs ls hP hD hS hl
  exact lv_iload hx hb d (hl.2.2 _ _ hL).1 (kk H locs ls hP hD hS hl)
theorem g_aload_n (C : cx X own cc nL ret Ts fr lm) {k : Fin 4} {x : Nat} (d : decode cc pc = .ok (.aload_n k, 1)) (hL : L[k.val]? = some (some (.ref x))) (hp : pc + 1 = pc') (kk : GN X kc ks Q ms L (.ref x :: st) pc') : GN X kc ks Q ms L (st) pc := by
  subst hp
  obtain ⟨p, l, e, R, s, m, args, below, meth, c, D, cA, A, H0⟩ := X
  obtain ⟨hx, hb, -⟩ := C
  intro H locs ls hP hD hS hl
  exact lv_aload_n hx hb d rfl (hl.2.2 _ _ hL).1 (kk H locs ls hP hD hS hl)
theorem g_aload (C : cx X own cc nL ret Ts fr lm) {k : Nat} {x : Nat} (d : decode cc pc = .ok (.aload k, 2)) (hL : L[k]? = some (some (.ref x))) (hp : pc + 2 = pc') (kk : GN X kc ks Q ms L (.ref x :: st) pc') : GN X kc ks Q ms L (st) pc := by
  subst hp
  obtain ⟨p, l, e, R, s, m, args, below, meth, c, D, cA, A, H0⟩ := X
  obtain ⟨hx, hb, -⟩ := C
  intro H locs ls hP hD hS hl
  exact lv_aload hx hb d (hl.2.2 _ _ hL).1 (kk H locs ls hP hD hS hl)
theorem g_iadd (C : cx X own cc nL ret Ts fr lm) {x y : Int32} (d : decode cc pc = .ok (.iadd, 1)) (hp : pc + 1 = pc') (kk : GN X kc ks Q ms L (.int (x + y) :: st) pc') : GN X kc ks Q ms L (.int y :: .int x :: st) pc := by
  subst hp
  obtain ⟨p, l, e, R, s, m, args, below, meth, c, D, cA, A, H0⟩ := X
  obtain ⟨hx, hb, -⟩ := C
  intro H locs ls hP hD hS hl
  exact lv_iadd hx hb d (kk H locs ls hP hD hS hl)
theorem g_isub (C : cx X own cc nL ret Ts fr lm) {x y : Int32} (d : decode cc pc = .ok (.isub, 1)) (hp : pc + 1 = pc') (kk : GN X kc ks Q ms L (.int (x - y) :: st) pc') : GN X kc ks Q ms L (.int y :: .int x :: st) pc := by
  subst hp
  obtain ⟨p, l, e, R, s, m, args, below, meth, c, D, cA, A, H0⟩ := X
  obtain ⟨hx, hb, -⟩ := C
  intro H locs ls hP hD hS hl
  exact lv_isub hx hb d (kk H locs ls hP hD hS hl)
theorem g_imul (C : cx X own cc nL ret Ts fr lm) {x y : Int32} (d : decode cc pc = .ok (.imul, 1)) (hp : pc + 1 = pc') (kk : GN X kc ks Q ms L (.int (x * y) :: st) pc') : GN X kc ks Q ms L (.int y :: .int x :: st) pc := by
  subst hp
  obtain ⟨p, l, e, R, s, m, args, below, meth, c, D, cA, A, H0⟩ := X
  obtain ⟨hx, hb, -⟩ := C
  intro H locs ls hP hD hS hl
  exact lv_imul hx hb d (kk H locs ls hP hD hS hl)
theorem g_iand (C : cx X own cc nL ret Ts fr lm) {x y : Int32} (d : decode cc pc = .ok (.iand, 1)) (hp : pc + 1 = pc') (kk : GN X kc ks Q ms L (.int (x &&& y) :: st) pc') : GN X kc ks Q ms L (.int y :: .int x :: st) pc := by
  subst hp
  obtain ⟨p, l, e, R, s, m, args, below, meth, c, D, cA, A, H0⟩ := X
  obtain ⟨hx, hb, -⟩ := C
  intro H locs ls hP hD hS hl
  exact lv_iand hx hb d (kk H locs ls hP hD hS hl)
theorem g_ior (C : cx X own cc nL ret Ts fr lm) {x y : Int32} (d : decode cc pc = .ok (.ior, 1)) (hp : pc + 1 = pc') (kk : GN X kc ks Q ms L (.int (x ||| y) :: st) pc') : GN X kc ks Q ms L (.int y :: .int x :: st) pc := by
  subst hp
  obtain ⟨p, l, e, R, s, m, args, below, meth, c, D, cA, A, H0⟩ := X
  obtain ⟨hx, hb, -⟩ := C
  intro H locs ls hP hD hS hl
  exact lv_ior hx hb d (kk H locs ls hP hD hS hl)
theorem g_ishl (C : cx X own cc nL ret Ts fr lm) {x y : Int32} (d : decode cc pc = .ok (.ishl, 1)) (hp : pc + 1 = pc') (kk : GN X kc ks Q ms L (.int (x <<< (y &&& 31)) :: st) pc') : GN X kc ks Q ms L (.int y :: .int x :: st) pc := by
  subst hp
  obtain ⟨p, l, e, R, s, m, args, below, meth, c, D, cA, A, H0⟩ := X
  obtain ⟨hx, hb, -⟩ := C
  intro H locs ls hP hD hS hl
  exact lv_ishl hx hb d (kk H locs ls hP hD hS hl)
theorem g_ishr (C : cx X own cc nL ret Ts fr lm) {x y : Int32} (d : decode cc pc = .ok (.ishr, 1)) (hp : pc + 1 = pc') (kk : GN X kc ks Q ms L (.int (x >>> (y &&& 31)) :: st) pc') : GN X kc ks Q ms L (.int y :: .int x :: st) pc := by
  subst hp
  obtain ⟨p, l, e, R, s, m, args, below, meth, c, D, cA, A, H0⟩ := X
  obtain ⟨hx, hb, -⟩ := C
  intro H locs ls hP hD hS hl
  exact lv_ishr hx hb d (kk H locs ls hP hD hS hl)
theorem g_ineg (C : cx X own cc nL ret Ts fr lm) {x : Int32} (d : decode cc pc = .ok (.ineg, 1)) (hp : pc + 1 = pc') (kk : GN X kc ks Q ms L (.int (-x) :: st) pc') : GN X kc ks Q ms L (.int x :: st) pc := by
  subst hp
  obtain ⟨p, l, e, R, s, m, args, below, meth, c, D, cA, A, H0⟩ := X
  obtain ⟨hx, hb, -⟩ := C
  intro H locs ls hP hD hS hl
  exact lv_ineg hx hb d (kk H locs ls hP hD hS hl)
theorem g_i2c (C : cx X own cc nL ret Ts fr lm) {x v : Int32} (d : decode cc pc = .ok (.i2c, 1)) (hv : (x.toUInt32 % 65536).toInt32 = v) (hp : pc + 1 = pc') (kk : GN X kc ks Q ms L (.int v :: st) pc') : GN X kc ks Q ms L (.int x :: st) pc := by
  subst hp
  obtain ⟨p, l, e, R, s, m, args, below, meth, c, D, cA, A, H0⟩ := X
  obtain ⟨hx, hb, -⟩ := C
  intro H locs ls hP hD hS hl
  exact lv_i2c hx hb d hv (kk H locs ls hP hD hS hl)
theorem g_dup (C : cx X own cc nL ret Ts fr lm) {z : Value} (d : decode cc pc = .ok (.dup, 1)) (hz : z.category = 1) (hp : pc + 1 = pc') (kk : GN X kc ks Q ms L (z :: z :: st) pc') : GN X kc ks Q ms L (z :: st) pc := by
  subst hp
  obtain ⟨p, l, e, R, s, m, args, below, meth, c, D, cA, A, H0⟩ := X
  obtain ⟨hx, hb, -⟩ := C
  intro H locs ls hP hD hS hl
  exact lv_dup hx hb d hz (kk H locs ls hP hD hS hl)
theorem g_pop (C : cx X own cc nL ret Ts fr lm) {z : Value} (d : decode cc pc = .ok (.pop, 1)) (hz : z.category = 1) (hp : pc + 1 = pc') (kk : GN X kc ks Q ms L (st) pc') : GN X kc ks Q ms L (z :: st) pc := by
  subst hp
  obtain ⟨p, l, e, R, s, m, args, below, meth, c, D, cA, A, H0⟩ := X
  obtain ⟨hx, hb, -⟩ := C
  intro H locs ls hP hD hS hl
  exact lv_pop hx hb d hz (kk H locs ls hP hD hS hl)
theorem g_dup2 (C : cx X own cc nL ret Ts fr lm) {z y : Value} (d : decode cc pc = .ok (.dup2, 1)) (hz : z.category = 1) (hy : y.category = 1) (hp : pc + 1 = pc') (kk : GN X kc ks Q ms L (z :: y :: z :: y :: st) pc') : GN X kc ks Q ms L (z :: y :: st) pc := by
  subst hp
  obtain ⟨p, l, e, R, s, m, args, below, meth, c, D, cA, A, H0⟩ := X
  obtain ⟨hx, hb, -⟩ := C
  intro H locs ls hP hD hS hl
  exact lv_dup2_11 hx hb d hz hy (kk H locs ls hP hD hS hl)
theorem g_idiv (C : cx X own cc nL ret Ts fr lm) {ρ : Type} {T : Option ρ} {res : ρ} {x y : Int32} (d : decode cc pc = .ok (.idiv, 1)) (hp : pc + 1 = pc') (h : (if y = 0 then none else T) = some res) (kk : T = some res → GN X kc ks Q ms L (.int (x / y) :: st) pc') : GN X kc ks Q ms L (.int y :: .int x :: st) pc := by
  subst hp
  obtain ⟨hne, h⟩ := og h
  obtain ⟨p, l, e, R, s, m, args, below, meth, c, D, cA, A, H0⟩ := X
  obtain ⟨hx, hb, -⟩ := C
  intro H locs ls hP hD hS hl
  exact lv_idiv hx hb d hne (kk h H locs ls hP hD hS hl)
theorem g_irem (C : cx X own cc nL ret Ts fr lm) {ρ : Type} {T : Option ρ} {res : ρ} {x y : Int32} (d : decode cc pc = .ok (.irem, 1)) (hp : pc + 1 = pc') (h : (if y = 0 then none else T) = some res) (kk : T = some res → GN X kc ks Q ms L (.int (x - x / y * y) :: st) pc') : GN X kc ks Q ms L (.int y :: .int x :: st) pc := by
  subst hp
  obtain ⟨hne, h⟩ := og h
  obtain ⟨p, l, e, R, s, m, args, below, meth, c, D, cA, A, H0⟩ := X
  obtain ⟨hx, hb, -⟩ := C
  intro H locs ls hP hD hS hl
  exact lv_irem hx hb d hne (kk h H locs ls hP hD hS hl)
theorem g_istore_n (C : cx X own cc nL ret Ts fr lm) {k : Fin 4} {x : Int32} (d : decode cc pc = .ok (.istore_n k, 1)) (hi : k.val < L.length) (hp : pc + 1 = pc') {L' : List (Option Value)} (hL : stL L k.val (.int x) = L') (kk : GN X kc ks Q ms L' st pc') : GN X kc ks Q ms L (.int x :: st) pc := by
  subst hp; subst hL
  obtain ⟨p, l, e, R, s, m, args, below, meth, c, D, cA, A, H0⟩ := X
  obtain ⟨hx, hb, -⟩ := C
  intro H locs ls hP hD hS hl
  exact lv_istore_n hx hb d rfl hl.has hi rfl (fun ls' h' => kk H locs ls' hP hD hS (hl.set rfl hi h'))
theorem g_istore (C : cx X own cc nL ret Ts fr lm) {k : Nat} {x : Int32} (d : decode cc pc = .ok (.istore k, 2)) (hi : k < L.length) (hp : pc + 2 = pc') {L' : List (Option Value)} (hL : stL L k (.int x) = L') (kk : GN X kc ks Q ms L' st pc') : GN X kc ks Q ms L (.int x :: st) pc := by
  subst hp; subst hL
  obtain ⟨p, l, e, R, s, m, args, below, meth, c, D, cA, A, H0⟩ := X
  obtain ⟨hx, hb, -⟩ := C
  intro H locs ls hP hD hS hl
  exact lv_istore hx hb d hl.has hi rfl (fun ls' h' => kk H locs ls' hP hD hS (hl.set rfl hi h'))
theorem g_astore_n (C : cx X own cc nL ret Ts fr lm) {k : Fin 4} {x : Nat} (d : decode cc pc = .ok (.astore_n k, 1)) (hi : k.val < L.length) (hp : pc + 1 = pc') {L' : List (Option Value)} (hL : stL L k.val (.ref x) = L') (kk : GN X kc ks Q ms L' st pc') : GN X kc ks Q ms L (.ref x :: st) pc := by
  subst hp; subst hL
  obtain ⟨p, l, e, R, s, m, args, below, meth, c, D, cA, A, H0⟩ := X
  obtain ⟨hx, hb, -⟩ := C
  intro H locs ls hP hD hS hl
  exact lv_astore_n hx hb d rfl hl.has hi rfl (fun ls' h' => kk H locs ls' hP hD hS (hl.set rfl hi h'))
theorem g_iinc (C : cx X own cc nL ret Ts fr lm) {k : Nat} {n : Int} {x v : Int32} (d : decode cc pc = .ok (.iinc k n, 3)) (hx0 : L[k]? = some (some (.int x))) (hv : x + Int32.ofInt n = v) (hp : pc + 3 = pc') {L' : List (Option Value)} (hL : stL L k (.int v) = L') (kk : GN X kc ks Q ms L' st pc') : GN X kc ks Q ms L st pc := by
  subst hp; subst hL
  obtain ⟨p, l, e, R, s, m, args, below, meth, c, D, cA, A, H0⟩ := X
  obtain ⟨hx, hb, -⟩ := C
  intro H locs ls hP hD hS hl
  obtain ⟨i, hi⟩ := List.getElem?_of_mem (lo_mem.mpr hx0)
  have hk := (List.getElem?_eq_some_iff.mp hx0).1
  exact lv_iinc hx hb d hl.has hi hv hk rfl (fun ls' h' => kk H locs ls' hP hD hS (hl.set rfl hk h'))
theorem g_goto (C : cx X own cc nL ret Ts fr lm) {off : Int} (d : decode cc pc = .ok (.goto off, 3)) (ht : (pc : Int) + off = (pc' : Int)) (kk : GN X kc ks Q ms L st pc') : GN X kc ks Q ms L st pc := by
  obtain ⟨p, l, e, R, s, m, args, below, meth, c, D, cA, A, H0⟩ := X
  obtain ⟨hx, hb, -⟩ := C
  intro H locs ls hP hD hS hl
  exact lv_goto hx hb d ht (kk H locs ls hP hD hS hl)
theorem g_icmp_eq (C : cx X own cc nL ret Ts fr lm) {ρ : Type} {T F : Option ρ} {res : ρ} {x y : Int32} {off : Int} {tgt : Nat} (d : decode cc pc = .ok (.if_icmp .eq off, 3)) (ht : (pc : Int) + off = (tgt : Int)) (hp : pc + 3 = pc') (h : (if x = y then T else F) = some res) (kt : x = y → T = some res → GN X kc ks Q ms L st tgt) (kf : ¬ x = y → F = some res → GN X kc ks Q ms L st pc') : GN X kc ks Q ms L (.int y :: .int x :: st) pc := by
  subst hp
  obtain ⟨p, l, e, R, s, m, args, below, meth, c, D, cA, A, H0⟩ := X
  obtain ⟨hx, hb, -⟩ := C
  intro H locs ls hP hD hS hl
  exact lv_icmp_eq hx hb d ht (fun q => kt q ((if_pos q).symm.trans h) H locs ls hP hD hS hl) (fun q => kf q ((if_neg q).symm.trans h) H locs ls hP hD hS hl)
theorem g_icmp_ne (C : cx X own cc nL ret Ts fr lm) {ρ : Type} {T F : Option ρ} {res : ρ} {x y : Int32} {off : Int} {tgt : Nat} (d : decode cc pc = .ok (.if_icmp .ne off, 3)) (ht : (pc : Int) + off = (tgt : Int)) (hp : pc + 3 = pc') (h : (if x = y then T else F) = some res) (kt : x = y → T = some res → GN X kc ks Q ms L st pc') (kf : ¬ x = y → F = some res → GN X kc ks Q ms L st tgt) : GN X kc ks Q ms L (.int y :: .int x :: st) pc := by
  subst hp
  obtain ⟨p, l, e, R, s, m, args, below, meth, c, D, cA, A, H0⟩ := X
  obtain ⟨hx, hb, -⟩ := C
  intro H locs ls hP hD hS hl
  exact lv_icmp_ne hx hb d ht (fun q => kf q ((if_neg q).symm.trans h) H locs ls hP hD hS hl) (fun q => kt q ((if_pos q).symm.trans h) H locs ls hP hD hS hl)
theorem g_icmp_lt (C : cx X own cc nL ret Ts fr lm) {ρ : Type} {T F : Option ρ} {res : ρ} {x y : Int32} {off : Int} {tgt : Nat} (d : decode cc pc = .ok (.if_icmp .lt off, 3)) (ht : (pc : Int) + off = (tgt : Int)) (hp : pc + 3 = pc') (h : (if x < y then T else F) = some res) (kt : x < y → T = some res → GN X kc ks Q ms L st tgt) (kf : ¬ x < y → F = some res → GN X kc ks Q ms L st pc') : GN X kc ks Q ms L (.int y :: .int x :: st) pc := by
  subst hp
  obtain ⟨p, l, e, R, s, m, args, below, meth, c, D, cA, A, H0⟩ := X
  obtain ⟨hx, hb, -⟩ := C
  intro H locs ls hP hD hS hl
  exact lv_icmp_lt hx hb d ht (fun q => kt q ((if_pos q).symm.trans h) H locs ls hP hD hS hl) (fun q => kf q ((if_neg q).symm.trans h) H locs ls hP hD hS hl)
theorem g_icmp_ge (C : cx X own cc nL ret Ts fr lm) {ρ : Type} {T F : Option ρ} {res : ρ} {x y : Int32} {off : Int} {tgt : Nat} (d : decode cc pc = .ok (.if_icmp .ge off, 3)) (ht : (pc : Int) + off = (tgt : Int)) (hp : pc + 3 = pc') (h : (if y ≤ x then T else F) = some res) (kt : y ≤ x → T = some res → GN X kc ks Q ms L st tgt) (kf : ¬ y ≤ x → F = some res → GN X kc ks Q ms L st pc') : GN X kc ks Q ms L (.int y :: .int x :: st) pc := by
  subst hp
  obtain ⟨p, l, e, R, s, m, args, below, meth, c, D, cA, A, H0⟩ := X
  obtain ⟨hx, hb, -⟩ := C
  intro H locs ls hP hD hS hl
  exact lv_icmp_ge hx hb d ht (fun q => kt q ((if_pos q).symm.trans h) H locs ls hP hD hS hl) (fun q => kf q ((if_neg q).symm.trans h) H locs ls hP hD hS hl)
theorem g_icmp_gt (C : cx X own cc nL ret Ts fr lm) {ρ : Type} {T F : Option ρ} {res : ρ} {x y : Int32} {off : Int} {tgt : Nat} (d : decode cc pc = .ok (.if_icmp .gt off, 3)) (ht : (pc : Int) + off = (tgt : Int)) (hp : pc + 3 = pc') (h : (if y < x then T else F) = some res) (kt : y < x → T = some res → GN X kc ks Q ms L st tgt) (kf : ¬ y < x → F = some res → GN X kc ks Q ms L st pc') : GN X kc ks Q ms L (.int y :: .int x :: st) pc := by
  subst hp
  obtain ⟨p, l, e, R, s, m, args, below, meth, c, D, cA, A, H0⟩ := X
  obtain ⟨hx, hb, -⟩ := C
  intro H locs ls hP hD hS hl
  exact lv_icmp_gt hx hb d ht (fun q => kt q ((if_pos q).symm.trans h) H locs ls hP hD hS hl) (fun q => kf q ((if_neg q).symm.trans h) H locs ls hP hD hS hl)
theorem g_icmp_le (C : cx X own cc nL ret Ts fr lm) {ρ : Type} {T F : Option ρ} {res : ρ} {x y : Int32} {off : Int} {tgt : Nat} (d : decode cc pc = .ok (.if_icmp .le off, 3)) (ht : (pc : Int) + off = (tgt : Int)) (hp : pc + 3 = pc') (h : (if x ≤ y then T else F) = some res) (kt : x ≤ y → T = some res → GN X kc ks Q ms L st tgt) (kf : ¬ x ≤ y → F = some res → GN X kc ks Q ms L st pc') : GN X kc ks Q ms L (.int y :: .int x :: st) pc := by
  subst hp
  obtain ⟨p, l, e, R, s, m, args, below, meth, c, D, cA, A, H0⟩ := X
  obtain ⟨hx, hb, -⟩ := C
  intro H locs ls hP hD hS hl
  exact lv_icmp_le hx hb d ht (fun q => kt q ((if_pos q).symm.trans h) H locs ls hP hD hS hl) (fun q => kf q ((if_neg q).symm.trans h) H locs ls hP hD hS hl)
theorem g_if_eq (C : cx X own cc nL ret Ts fr lm) {ρ : Type} {T F : Option ρ} {res : ρ} {x : Int32} {off : Int} {tgt : Nat} (d : decode cc pc = .ok (.ifCond .eq off, 3)) (ht : (pc : Int) + off = (tgt : Int)) (hp : pc + 3 = pc') (h : (if x = 0 then T else F) = some res) (kt : x = 0 → T = some res → GN X kc ks Q ms L st tgt) (kf : ¬ x = 0 → F = some res → GN X kc ks Q ms L st pc') : GN X kc ks Q ms L (.int x :: st) pc := by
  subst hp
  obtain ⟨p, l, e, R, s, m, args, below, meth, c, D, cA, A, H0⟩ := X
  obtain ⟨hx, hb, -⟩ := C
  intro H locs ls hP hD hS hl
  exact lv_if_eq hx hb d ht (fun q => kt q ((if_pos q).symm.trans h) H locs ls hP hD hS hl) (fun q => kf q ((if_neg q).symm.trans h) H locs ls hP hD hS hl)
theorem g_if_ne (C : cx X own cc nL ret Ts fr lm) {ρ : Type} {T F : Option ρ} {res : ρ} {x : Int32} {off : Int} {tgt : Nat} (d : decode cc pc = .ok (.ifCond .ne off, 3)) (ht : (pc : Int) + off = (tgt : Int)) (hp : pc + 3 = pc') (h : (if x = 0 then T else F) = some res) (kt : x = 0 → T = some res → GN X kc ks Q ms L st pc') (kf : ¬ x = 0 → F = some res → GN X kc ks Q ms L st tgt) : GN X kc ks Q ms L (.int x :: st) pc := by
  subst hp
  obtain ⟨p, l, e, R, s, m, args, below, meth, c, D, cA, A, H0⟩ := X
  obtain ⟨hx, hb, -⟩ := C
  intro H locs ls hP hD hS hl
  exact lv_if_ne hx hb d ht (fun q => kf q ((if_neg q).symm.trans h) H locs ls hP hD hS hl) (fun q => kt q ((if_pos q).symm.trans h) H locs ls hP hD hS hl)
theorem g_if_lt (C : cx X own cc nL ret Ts fr lm) {ρ : Type} {T F : Option ρ} {res : ρ} {x : Int32} {off : Int} {tgt : Nat} (d : decode cc pc = .ok (.ifCond .lt off, 3)) (ht : (pc : Int) + off = (tgt : Int)) (hp : pc + 3 = pc') (h : (if x < 0 then T else F) = some res) (kt : x < 0 → T = some res → GN X kc ks Q ms L st tgt) (kf : ¬ x < 0 → F = some res → GN X kc ks Q ms L st pc') : GN X kc ks Q ms L (.int x :: st) pc := by
  subst hp
  obtain ⟨p, l, e, R, s, m, args, below, meth, c, D, cA, A, H0⟩ := X
  obtain ⟨hx, hb, -⟩ := C
  intro H locs ls hP hD hS hl
  exact lv_if_lt hx hb d ht (fun q => kt q ((if_pos q).symm.trans h) H locs ls hP hD hS hl) (fun q => kf q ((if_neg q).symm.trans h) H locs ls hP hD hS hl)
theorem g_if_ge (C : cx X own cc nL ret Ts fr lm) {ρ : Type} {T F : Option ρ} {res : ρ} {x : Int32} {off : Int} {tgt : Nat} (d : decode cc pc = .ok (.ifCond .ge off, 3)) (ht : (pc : Int) + off = (tgt : Int)) (hp : pc + 3 = pc') (h : (if 0 ≤ x then T else F) = some res) (kt : 0 ≤ x → T = some res → GN X kc ks Q ms L st tgt) (kf : ¬ 0 ≤ x → F = some res → GN X kc ks Q ms L st pc') : GN X kc ks Q ms L (.int x :: st) pc := by
  subst hp
  obtain ⟨p, l, e, R, s, m, args, below, meth, c, D, cA, A, H0⟩ := X
  obtain ⟨hx, hb, -⟩ := C
  intro H locs ls hP hD hS hl
  exact lv_if_ge hx hb d ht (fun q => kt q ((if_pos q).symm.trans h) H locs ls hP hD hS hl) (fun q => kf q ((if_neg q).symm.trans h) H locs ls hP hD hS hl)
theorem g_if_gt (C : cx X own cc nL ret Ts fr lm) {ρ : Type} {T F : Option ρ} {res : ρ} {x : Int32} {off : Int} {tgt : Nat} (d : decode cc pc = .ok (.ifCond .gt off, 3)) (ht : (pc : Int) + off = (tgt : Int)) (hp : pc + 3 = pc') (h : (if 0 < x then T else F) = some res) (kt : 0 < x → T = some res → GN X kc ks Q ms L st tgt) (kf : ¬ 0 < x → F = some res → GN X kc ks Q ms L st pc') : GN X kc ks Q ms L (.int x :: st) pc := by
  subst hp
  obtain ⟨p, l, e, R, s, m, args, below, meth, c, D, cA, A, H0⟩ := X
  obtain ⟨hx, hb, -⟩ := C
  intro H locs ls hP hD hS hl
  exact lv_if_gt hx hb d ht (fun q => kt q ((if_pos q).symm.trans h) H locs ls hP hD hS hl) (fun q => kf q ((if_neg q).symm.trans h) H locs ls hP hD hS hl)
theorem g_if_le (C : cx X own cc nL ret Ts fr lm) {ρ : Type} {T F : Option ρ} {res : ρ} {x : Int32} {off : Int} {tgt : Nat} (d : decode cc pc = .ok (.ifCond .le off, 3)) (ht : (pc : Int) + off = (tgt : Int)) (hp : pc + 3 = pc') (h : (if x ≤ 0 then T else F) = some res) (kt : x ≤ 0 → T = some res → GN X kc ks Q ms L st tgt) (kf : ¬ x ≤ 0 → F = some res → GN X kc ks Q ms L st pc') : GN X kc ks Q ms L (.int x :: st) pc := by
  subst hp
  obtain ⟨p, l, e, R, s, m, args, below, meth, c, D, cA, A, H0⟩ := X
  obtain ⟨hx, hb, -⟩ := C
  intro H locs ls hP hD hS hl
  exact lv_if_le hx hb d ht (fun q => kt q ((if_pos q).symm.trans h) H locs ls hP hD hS hl) (fun q => kf q ((if_neg q).symm.trans h) H locs ls hP hD hS hl)
theorem g_tabOut (C : cx X own cc nL ret Ts fr lm) {dflt lo hi : Int} {offs : Array Int} {len : Nat} {x : Int32} (d : decode cc pc = .ok (.tableswitch dflt lo hi offs, len)) (h : x.toInt < lo ∨ hi < x.toInt) (ht : (pc : Int) + dflt = (pc' : Int)) (kk : GN X kc ks Q ms L st pc') : GN X kc ks Q ms L (.int x :: st) pc := by
  obtain ⟨p, l, e, R, s, m, args, below, meth, c, D, cA, A, H0⟩ := X
  obtain ⟨hx, hb, -⟩ := C
  intro H locs ls hP hD hS hl
  exact lv_tableOut hx hb d h ht (kk H locs ls hP hD hS hl)
theorem g_tabIn (C : cx X own cc nL ret Ts fr lm) {dflt lo hi : Int} {offs : Array Int} {len : Nat} {x : Int32} {off : Int} (d : decode cc pc = .ok (.tableswitch dflt lo hi offs, len)) (h1 : ¬ x.toInt < lo) (h2 : ¬ hi < x.toInt) (ho : offs[(x.toInt - lo).toNat]? = some off) (ht : (pc : Int) + off = (pc' : Int)) (kk : GN X kc ks Q ms L st pc') : GN X kc ks Q ms L (.int x :: st) pc := by
  obtain ⟨p, l, e, R, s, m, args, below, meth, c, D, cA, A, H0⟩ := X
  obtain ⟨hx, hb, -⟩ := C
  intro H locs ls hP hD hS hl
  exact lv_tableIn hx hb d h1 h2 ho ht (kk H locs ls hP hD hS hl)
theorem g_look (C : cx X own cc nL ret Ts fr lm) {dflt : Int} {ps : Array (Int × Int)} {len : Nat} {x : Int32} {off : Int} (d : decode cc pc = .ok (.lookupswitch dflt ps, len)) (hq : (ps.toList.zip (ps.toList.drop 1)).all (fun (a, next) => a.1 < next.1) = true) (ho : Op.lookupswitch.offset ps.toList dflt x.toInt = off) (ht : (pc : Int) + off = (pc' : Int)) (kk : GN X kc ks Q ms L st pc') : GN X kc ks Q ms L (.int x :: st) pc := by
  obtain ⟨p, l, e, R, s, m, args, below, meth, c, D, cA, A, H0⟩ := X
  obtain ⟨hx, hb, -⟩ := C
  intro H locs ls hP hD hS hl
  exact lv_lookup hx hb d hq ho ht (kk H locs ls hP hD hS hl)
theorem G_get (C : cx X own cc nL ret Ts fr lm) {i j k N ci idx : Nat} {w : va_W} {a : Nat} {fs : List Value} {v : Value} {Cn : String} {T : u_T} (hm : ms[i]? = some w) (hw : w[j]? = some (a, .inr (ci, fs))) (hc : vwCl[ci]? = some (Cn, T, N)) (hk : k < N) (hv : fs[k]? = some v) (hin : ∀ w ∈ u_ws Cn T N, w ∈ Ts) (hlink : Cond.fieldLink own idx (T k).1 (T k).2.1 (T k).2.2.1 ∈ Ts) (d : decode cc pc = .ok (.getfield idx, 3)) (hp : pc + 3 = pc') (kk : GN X kc ks Q ms L (v :: st) pc') : GN X kc ks Q ms L (.ref a :: st) pc := by
  subst hp
  obtain ⟨p, l, e, R, s, m, args, below, meth, c, D, cA, A, H0⟩ := X
  obtain ⟨hx, hb, -, -, hown, hts, -, hK, -⟩ := C
  intro H locs ls hP hD hS hl
  obtain ⟨q, hq, -⟩ := fl_at hm hw
  exact va_get hx hb hts hin hown hK hP q hq hc k hk (hts _ hlink) (fun _ h9 => h9) hv d (kk H locs ls hP hD hS hl)
theorem G_put (C : cx X own cc nL ret Ts fr lm) {i j k N ci idx : Nat} {w w' : va_W} {a : Nat} {fs : List Value} {v : Value} {Cn : String} {T : u_T} {ty : FieldType} {ty0 : Nat → FieldType} (hm : ms[i]? = some w) (hw : w[j]? = some (a, .inr (ci, fs))) (hc : vwCl[ci]? = some (Cn, T, N)) (hk : k < N) (hl0 : k < fs.length) (hw' : w.set j (a, .inr (ci, fs.set k v)) = w') (hty : ∀ k, k < N → parseFieldDescriptor (T k).2.2.1 = some (ty0 k)) (hnm : ∀ a, a < N → ∀ b, b < N → a ≠ b → (T a).2.1 ≠ (T b).2.1) (hfin : (T k).2.2.2 = false) (hd : parseFieldDescriptor (T k).2.2.1 = some ty) (hn : narrow ty v = v) (hfit : fits ty v = true) (hin : ∀ w ∈ u_ws Cn T N, w ∈ Ts) (hlink : Cond.fieldLink own idx (T k).1 (T k).2.1 (T k).2.2.1 ∈ Ts) (d : decode cc pc = .ok (.putfield idx, 3)) (hp : pc + 3 = pc') (kk : GN X kc ks Q (ms.set i w') L st pc') : GN X kc ks Q ms L (v :: .ref a :: st) pc := by
  subst hp; subst hw'
  obtain ⟨p, l, e, R, s, m, args, below, meth, c, D, cA, A, H0⟩ := X
  obtain ⟨hx, hb, -, -, hown, hts, -, hK, -⟩ := C
  intro H locs ls hP hD hS hl
  obtain ⟨q, hq, hset⟩ := fl_at hm hw
  refine va_put hx hb hts hin ty0 hty hnm hown hK hP hD hS q hq hc k hk (hts _ hlink) (fun _ h9 => h9) hfin hd hn hfit hl0 d (fun H1 locs1 hP1 hD1 hS1 => ?_)
  rw [hset] at hP1 hD1
  exact kk H1 locs1 ls hP1 hD1 hS1 hl
theorem g_iald (C : cx X own cc nL ret Ts fr lm) {ρ : Type} {T : Option ρ} {res : ρ} {i j a n : Nat} {w : va_W} {f : Nat → Int32} {x : Int32} (hm : ms[i]? = some w) (hw : w[j]? = some (a, .inl (gcA X 0, n, .inl f))) (d : decode cc pc = .ok (.iaload, 1)) (hp : pc + 1 = pc') (h : (if x < 0 ∨ n ≤ x.toNatClampNeg then none else T) = some res) (kk : T = some res → GN X kc ks Q ms L (.int (f x.toNatClampNeg) :: st) pc') : GN X kc ks Q ms L (.int x :: .ref a :: st) pc := by
  subst hp
  obtain ⟨hg, h⟩ := og h
  obtain ⟨p, l, e, R, s, m, args, below, meth, c, D, cA, A, H0⟩ := X
  obtain ⟨hx, hb, -, -, hown, hts, -, hK, -⟩ := C
  intro H locs ls hP hD hS hl
  obtain ⟨q, hq, -⟩ := fl_at hm hw
  exact va_iald hx hb hK hP q 0 hq rfl hg d (kk h H locs ls hP hD hS hl)
theorem g_iald0 (C : cx X own cc nL ret Ts fr lm) {i j a n : Nat} {w : va_W} {f : Nat → Int32} {x : Int32} (hm : ms[i]? = some w) (hw : w[j]? = some (a, .inl (gcA X 0, n, .inl f))) (d : decode cc pc = .ok (.iaload, 1)) (hp : pc + 1 = pc') (hg : vp_in x n) (kk : GN X kc ks Q ms L (.int (f x.toNatClampNeg) :: st) pc') : GN X kc ks Q ms L (.int x :: .ref a :: st) pc := by
  subst hp
  obtain ⟨p, l, e, R, s, m, args, below, meth, c, D, cA, A, H0⟩ := X
  obtain ⟨hx, hb, -, -, hown, hts, -, hK, -⟩ := C
  intro H locs ls hP hD hS hl
  obtain ⟨q, hq, -⟩ := fl_at hm hw
  exact va_iald hx hb hK hP q 0 hq rfl hg d (kk H locs ls hP hD hS hl)
theorem g_cald (C : cx X own cc nL ret Ts fr lm) {ρ : Type} {T : Option ρ} {res : ρ} {i j a n : Nat} {w : va_W} {f : Nat → Int32} {x : Int32} (hm : ms[i]? = some w) (hw : w[j]? = some (a, .inl (gcA X 1, n, .inl f))) (d : decode cc pc = .ok (.caload, 1)) (hp : pc + 1 = pc') (h : (if x < 0 ∨ n ≤ x.toNatClampNeg then none else T) = some res) (kk : T = some res → GN X kc ks Q ms L (.int (f x.toNatClampNeg) :: st) pc') : GN X kc ks Q ms L (.int x :: .ref a :: st) pc := by
  subst hp
  obtain ⟨hg, h⟩ := og h
  obtain ⟨p, l, e, R, s, m, args, below, meth, c, D, cA, A, H0⟩ := X
  obtain ⟨hx, hb, -, -, hown, hts, -, hK, -⟩ := C
  intro H locs ls hP hD hS hl
  obtain ⟨q, hq, -⟩ := fl_at hm hw
  exact va_cald hx hb hK hP q 1 hq rfl hg d (kk h H locs ls hP hD hS hl)
theorem g_iast (C : cx X own cc nL ret Ts fr lm) {ρ : Type} {T : Option ρ} {res : ρ} {i j a n : Nat} {w w' : va_W} {f : Nat → Int32} {x y : Int32} (hm : ms[i]? = some w) (hw : w[j]? = some (a, .inl (gcA X 0, n, .inl f))) (hw' : w.set j (a, .inl (gcA X 0, n, .inl (upd f x.toNatClampNeg y))) = w') (d : decode cc pc = .ok (.iastore, 1)) (hp : pc + 1 = pc') (h : (if x < 0 ∨ n ≤ x.toNatClampNeg then none else T) = some res) (kk : T = some res → GN X kc ks Q (ms.set i w') L st pc') : GN X kc ks Q ms L (.int y :: .int x :: .ref a :: st) pc := by
  subst hp; subst hw'
  obtain ⟨hg, h⟩ := og h
  obtain ⟨p, l, e, R, s, m, args, below, meth, c, D, cA, A, H0⟩ := X
  obtain ⟨hx, hb, -, -, hown, hts, -, hK, -⟩ := C
  intro H locs ls hP hD hS hl
  obtain ⟨q, hq, hset⟩ := fl_at hm hw
  refine va_iast hx hb hK hP hD hS q 0 hq rfl hg d (fun H1 locs1 hP1 hD1 hS1 => ?_)
  rw [hset] at hP1 hD1
  exact kk h H1 locs1 ls hP1 hD1 hS1 hl
theorem g_cast (C : cx X own cc nL ret Ts fr lm) {ρ : Type} {T : Option ρ} {res : ρ} {i j a n : Nat} {w w' : va_W} {f : Nat → Int32} {x y : Int32} (hm : ms[i]? = some w) (hw : w[j]? = some (a, .inl (gcA X 1, n, .inl f))) (hw' : w.set j (a, .inl (gcA X 1, n, .inl (upd f x.toNatClampNeg (vp_nar .char y)))) = w') (d : decode cc pc = .ok (.castore, 1)) (hp : pc + 1 = pc') (h : (if x < 0 ∨ n ≤ x.toNatClampNeg then none else T) = some res) (kk : T = some res → GN X kc ks Q (ms.set i w') L st pc') : GN X kc ks Q ms L (.int y :: .int x :: .ref a :: st) pc := by
  subst hp; subst hw'
  obtain ⟨hg, h⟩ := og h
  obtain ⟨p, l, e, R, s, m, args, below, meth, c, D, cA, A, H0⟩ := X
  obtain ⟨hx, hb, -, -, hown, hts, -, hK, -⟩ := C
  intro H locs ls hP hD hS hl
  obtain ⟨q, hq, hset⟩ := fl_at hm hw
  refine va_cast hx hb hK hP hD hS q 1 hq rfl hg d (fun H1 locs1 hP1 hD1 hS1 => ?_)
  rw [hset] at hP1 hD1
  exact kk h H1 locs1 ls hP1 hD1 hS1 hl
theorem g_iret (C : cx X own cc nL (some .int) Ts fr lm) {r : Int32} (d : decode cc pc = .ok (.ireturn, 1)) : G X (QI X r ms) ms L [.int r] pc := by
  obtain ⟨p, l, e, R, s, m, args, below, meth, c, D, cA, A, H0⟩ := X
  obtain ⟨hx, hb, -, hr, hown, hts, hlk, hK, -, -, -, h0⟩ := C
  intro H locs ls hP hD hS hl
  subst h0
  exact W.iret hx hb hr (fun t ht hW => ⟨⟨r, (), rfl, rfl, by show va_P D vwCl ms.flatten t.heap; rw [ht]; exact hP⟩, hS.F ht⟩) hS.2.2 d hlk
theorem g_zret (C : cx X own cc nL (some .boolean) Ts fr lm) {ρ : Type} {T : Option ρ} {res : ρ} {r : Int32} (h : (if ¬ (r = 0 ∨ r = 1) then none else T) = some res) (d : decode cc pc = .ok (.ireturn, 1)) : G X (QI X r ms) ms L [.int r] pc := by
  obtain ⟨hg, h⟩ := og h
  have hg : r = 0 ∨ r = 1 := Decidable.not_not.mp hg
  have hn : narrow .boolean (.int r) = .int r := by rcases hg with rfl | rfl <;> rfl
  obtain ⟨p, l, e, R, s, m, args, below, meth, c, D, cA, A, H0⟩ := X
  obtain ⟨hx, hb, -, hr, hown, hts, hlk, hK, -, -, -, h0⟩ := C
  intro H locs ls hP hD hS hl
  subst h0
  exact W.zret hx hb hr hn (fun t ht hW => ⟨⟨r, (), rfl, rfl, by show va_P D vwCl ms.flatten t.heap; rw [ht]; exact hP⟩, hS.F ht⟩) hS.2.2 d hlk
theorem g_zret0 (C : cx X own cc nL (some .boolean) Ts fr lm) {r : Int32} (hn : narrow .boolean (.int r) = .int r) (d : decode cc pc = .ok (.ireturn, 1)) : G X (QI X r ms) ms L [.int r] pc := by
  obtain ⟨p, l, e, R, s, m, args, below, meth, c, D, cA, A, H0⟩ := X
  obtain ⟨hx, hb, -, hr, hown, hts, hlk, hK, -, -, -, h0⟩ := C
  intro H locs ls hP hD hS hl
  subst h0
  exact W.zret hx hb hr hn (fun t ht hW => ⟨⟨r, (), rfl, rfl, by show va_P D vwCl ms.flatten t.heap; rw [ht]; exact hP⟩, hS.F ht⟩) hS.2.2 d hlk
theorem g_vret (C : cx X own cc nL none Ts fr lm) (d : decode cc pc = .ok (.return_, 1)) : G X (QV X ms) ms L [] pc := by
  obtain ⟨p, l, e, R, s, m, args, below, meth, c, D, cA, A, H0⟩ := X
  obtain ⟨hx, hb, -, hr, hown, hts, hlk, hK, -, -, -, h0⟩ := C
  intro H locs ls hP hD hS hl
  subst h0
  exact W.vret hx hb hr (fun t ht hW => ⟨⟨(), rfl, trivial, by show va_P D vwCl ms.flatten t.heap; rw [ht]; exact hP⟩, hS.F ht⟩) hS.2.2 d hlk
end GI
