/-! calls: the callee's modules are cut out by their places, and put back -/
def adr (ms : List va_W) : List (List Nat) := ms.map (fun w => w.map Prod.fst)
theorem D_adr {A : Nat → Prop} {w w' : va_W} (h : w'.map Prod.fst = w.map Prod.fst) (hD : va_D A w) : va_D A w' := by
  have key : ∀ (k : Nat) (q : Nat × va_E), w'[k]? = some q → ∃ q0 : Nat × va_E, w[k]? = some q0 ∧ q0.1 = q.1 := by
    intro k q hq
    have h1 : (w'.map Prod.fst)[k]? = some q.1 := by rw [List.getElem?_map, hq]; rfl
    rw [h, List.getElem?_map] at h1
    cases hw : w[k]? with
    | none => rw [hw] at h1; cases h1
    | some q0 => rw [hw] at h1; exact ⟨q0, rfl, Option.some.inj h1⟩
  refine ⟨fun i j p q hi hj e => ?_, fun k q hk => ?_⟩
  · obtain ⟨p0, a1, a2⟩ := key i p hi
    obtain ⟨q0, b1, b2⟩ := key j q hj
    exact hD.1 i j p0 q0 a1 b1 (a2.trans (e.trans b2.symm))
  · obtain ⟨q0, a1, a2⟩ := key k q hk
    rw [← a2]
    exact hD.2 k q0 a1
theorem adr_fl {ms ms' : List va_W} (h : adr ms' = adr ms) : ms'.flatten.map Prod.fst = ms.flatten.map Prod.fst := by
  rw [List.map_flatten, List.map_flatten]
  exact congrArg List.flatten h
theorem P_mem {D : va_G} {cl : List vw_C} {ws : va_W} {H : Heap} : va_P D cl ws H ↔ ∀ x ∈ ws, va_at D cl x H := by
  constructor
  · intro h x hx
    obtain ⟨k, hk⟩ := List.getElem?_of_mem hx
    exact h k x hk
  · intro h k x hk
    exact h x (List.mem_of_getElem? hk)
theorem D_left {A : Nat → Prop} {a b : va_W} (h : va_D A (a ++ b)) : va_D A a := by
  have key : ∀ (k : Nat) (q : Nat × va_E), a[k]? = some q → (a ++ b)[k]? = some q := fun k q hk => by
    rw [List.getElem?_append_left (List.getElem?_eq_some_iff.mp hk).1]; exact hk
  exact ⟨fun i j p q hi hj e => h.1 i j p q (key i p hi) (key j q hj) e, fun k q hk => h.2 k q (key k q hk)⟩
theorem D_right {A : Nat → Prop} {a b : va_W} (h : va_D A (a ++ b)) : va_D A b := by
  have key : ∀ (k : Nat) (q : Nat × va_E), b[k]? = some q → (a ++ b)[a.length + k]? = some q := fun k q hk => by
    rw [List.getElem?_append_right (by omega), Nat.add_sub_cancel_left]; exact hk
  exact ⟨fun i j p q hi hj e => by have := h.1 _ _ p q (key i p hi) (key j q hj) e; omega, fun k q hk => h.2 _ q (key k q hk)⟩
theorem D_apart {A : Nat → Prop} {a b : va_W} (h : va_D A (a ++ b)) {x y : Nat × va_E} (hx : x ∈ a) (hy : y ∈ b) : x.1 ≠ y.1 := by
  intro e
  obtain ⟨i, hi⟩ := List.getElem?_of_mem hx
  obtain ⟨j, hj⟩ := List.getElem?_of_mem hy
  have hl := (List.getElem?_eq_some_iff.mp hi).1
  have h1 : (a ++ b)[i]? = some x := by rw [List.getElem?_append_left hl]; exact hi
  have h2 : (a ++ b)[a.length + j]? = some y := by rw [List.getElem?_append_right (by omega), Nat.add_sub_cancel_left]; exact hj
  have := h.1 _ _ x y h1 h2 e
  omega
theorem PD_of : ∀ {A : Nat → Prop} {ms : List va_W}, va_D A ms.flatten → (∀ (i : Nat) (w : va_W), ms[i]? = some w → va_D A w) ∧ (∀ (i j : Nat) (w v : va_W), i ≠ j → ms[i]? = some w → ms[j]? = some v → ∀ x ∈ w, ∀ y ∈ v, x.1 ≠ y.1)
  | A, [], _ => ⟨fun i w h => by simp at h, fun i j w v _ h => by simp at h⟩
  | A, w0 :: ms, h => by
    rw [List.flatten_cons] at h
    obtain ⟨h1, h2⟩ := PD_of (D_right h)
    have far : ∀ (j : Nat) (v : va_W), ms[j]? = some v → ∀ x ∈ w0, ∀ y ∈ v, x.1 ≠ y.1 := fun j v hj x hx y hy => D_apart h hx (List.mem_flatten.mpr ⟨v, List.mem_of_getElem? hj, hy⟩)
    refine ⟨fun i w hi => ?_, fun i j w v hne hi hj x hx y hy => ?_⟩
    · cases i with
      | zero => rw [List.getElem?_cons_zero] at hi; cases hi; exact D_left h
      | succ i => rw [List.getElem?_cons_succ] at hi; exact h1 i w hi
    · cases i with
      | zero =>
        rw [List.getElem?_cons_zero] at hi; cases hi
        cases j with
        | zero => exact absurd rfl hne
        | succ j => rw [List.getElem?_cons_succ] at hj; exact far j v hj x hx y hy
      | succ i =>
        rw [List.getElem?_cons_succ] at hi
        cases j with
        | zero => rw [List.getElem?_cons_zero] at hj; cases hj; exact fun e => far i w hi y hy x hx e.symm
        | succ j => rw [List.getElem?_cons_succ] at hj; exact h2 i j w v (fun e => hne (by rw [e])) hi hj x hx y hy
theorem of_PD : ∀ {A : Nat → Prop} {ms : List va_W}, (∀ (i : Nat) (w : va_W), ms[i]? = some w → va_D A w) → (∀ (i j : Nat) (w v : va_W), i ≠ j → ms[i]? = some w → ms[j]? = some v → ∀ x ∈ w, ∀ y ∈ v, x.1 ≠ y.1) → va_D A ms.flatten
  | A, [], _, _ => ⟨fun i j p q h => by simp at h, fun k q h => by simp at h⟩
  | A, w0 :: ms, h1, h2 => by
    rw [List.flatten_cons]
    refine va_D.app (h1 0 w0 rfl) (of_PD (fun i w hi => h1 (i + 1) w (by rw [List.getElem?_cons_succ]; exact hi)) (fun i j w v hne hi hj => h2 (i + 1) (j + 1) w v (fun e => hne (by omega)) (by rw [List.getElem?_cons_succ]; exact hi) (by rw [List.getElem?_cons_succ]; exact hj))) (fun i j p q hi hj => ?_)
    obtain ⟨v, hv, hq⟩ := List.mem_flatten.mp (List.mem_of_getElem? hj)
    obtain ⟨k, hk⟩ := List.getElem?_of_mem hv
    exact h2 0 (k + 1) w0 v (by omega) rfl (by rw [List.getElem?_cons_succ]; exact hk) p (List.mem_of_getElem? hi) q hq
def rpl : List va_W → List Nat → List va_W → List va_W
  | ms, i :: is, w :: ws => rpl (ms.set i w) is ws
  | ms, _, _ => ms
theorem rpl_spec : ∀ (is : List Nat) (mc ms : List va_W), is.length = mc.length → is.Nodup → (∀ i ∈ is, i < ms.length) → (rpl ms is mc).length = ms.length ∧ (∀ j, j ∉ is → (rpl ms is mc)[j]? = ms[j]?) ∧ ∀ (k i : Nat), is[k]? = some i → (rpl ms is mc)[i]? = mc[k]?
  | [], [], ms, _, _, _ => ⟨rfl, fun j _ => rfl, fun k i h => by simp at h⟩
  | i0 :: is, w :: ws, ms, hl, hn, hlt => by
    rw [List.nodup_cons] at hn
    obtain ⟨r1, r2, r3⟩ := rpl_spec is ws (ms.set i0 w) (by simpa using hl) hn.2 (fun i hi => by rw [List.length_set]; exact hlt i (List.mem_cons_of_mem _ hi))
    show (rpl (ms.set i0 w) is ws).length = ms.length ∧ (∀ j, j ∉ i0 :: is → (rpl (ms.set i0 w) is ws)[j]? = ms[j]?) ∧ ∀ (k i : Nat), (i0 :: is)[k]? = some i → (rpl (ms.set i0 w) is ws)[i]? = (w :: ws)[k]?
    refine ⟨by rw [r1, List.length_set], fun j hj => ?_, fun k i hk => ?_⟩
    · rw [List.mem_cons, not_or] at hj
      rw [r2 j hj.2, List.getElem?_set_ne (Ne.symm hj.1)]
    · cases k with
      | zero =>
        rw [List.getElem?_cons_zero] at hk
        cases hk
        rw [r2 i0 hn.1, List.getElem?_set_self (hlt i0 List.mem_cons_self), List.getElem?_cons_zero]
      | succ k =>
        rw [List.getElem?_cons_succ] at hk ⊢
        exact r3 k i hk
  | [], _ :: _, ms, hl, _, _ => by simp at hl
  | _ :: _, [], ms, hl, _, _ => by simp at hl
theorem cut_at {is : List Nat} {ms mc : List va_W} (hC : is.map (fun i => ms[i]?) = mc.map some) {k : Nat} {w : va_W} (hk : mc[k]? = some w) : ∃ i, is[k]? = some i ∧ ms[i]? = some w := by
  have h1 : (is.map (fun i => ms[i]?))[k]? = some (some w) := by rw [hC, List.getElem?_map, hk]; rfl
  rw [List.getElem?_map] at h1
  cases hi : is[k]? with
  | none => rw [hi] at h1; cases h1
  | some i => rw [hi] at h1; exact ⟨i, rfl, Option.some.inj h1⟩
theorem cut_in {is : List Nat} {ms mc : List va_W} (hC : is.map (fun i => ms[i]?) = mc.map some) {k i : Nat} (hk : is[k]? = some i) : ∃ w, mc[k]? = some w ∧ ms[i]? = some w := by
  have h1 : (mc.map some)[k]? = some (ms[i]?) := by rw [← hC, List.getElem?_map, hk]; rfl
  rw [List.getElem?_map] at h1
  cases hi : mc[k]? with
  | none => rw [hi] at h1; cases h1
  | some w => rw [hi] at h1; exact ⟨w, rfl, (Option.some.inj h1).symm⟩
theorem cut_ok {D : va_G} {cl : List vw_C} {A : Nat → Prop} {H : Heap} {is : List Nat} {ms mc mc' : List va_W} (hC : is.map (fun i => ms[i]?) = mc.map some) (hn : is.Nodup) (ha : adr mc' = adr mc) (hP : va_P D cl ms.flatten H) (hD : va_D A ms.flatten) :
    va_P D cl mc.flatten H ∧ va_D A mc.flatten ∧ (∀ x ∈ mc.flatten, x ∈ ms.flatten) ∧ ∀ H1 : Heap, va_P D cl mc'.flatten H1 → (∀ q : Nat, q < H.size → ¬ va_A mc.flatten H.size q → H1[q]? = H[q]?) → va_P D cl (rpl ms is mc').flatten H1 ∧ va_D A (rpl ms is mc').flatten := by
  obtain ⟨d1, d2⟩ := PD_of hD
  have hlen : is.length = mc.length := by have := congrArg List.length hC; simpa using this
  have hlen' : is.length = mc'.length := by have := congrArg List.length ha; simp only [adr, List.length_map] at this; omega
  have hlt : ∀ i ∈ is, i < ms.length := by
    intro i hi
    obtain ⟨k, hk⟩ := List.getElem?_of_mem hi
    obtain ⟨w, -, h2⟩ := cut_in hC hk
    exact (List.getElem?_eq_some_iff.mp h2).1
  have hsub : ∀ x ∈ mc.flatten, x ∈ ms.flatten := by
    intro x hx
    obtain ⟨w, hw, hxw⟩ := List.mem_flatten.mp hx
    obtain ⟨k, hk⟩ := List.getElem?_of_mem hw
    obtain ⟨i, -, h2⟩ := cut_at hC hk
    exact List.mem_flatten.mpr ⟨w, List.mem_of_getElem? h2, hxw⟩
  obtain ⟨r1, r2, r3⟩ := rpl_spec is mc' ms hlen' hn hlt
  refine ⟨P_mem.mpr (fun x hx => P_mem.mp hP x (hsub x hx)), of_PD (fun k w hk => ?_) (fun k k' w v hne hk hk' => ?_), hsub, fun H1 hP1 hk1 => ⟨P_mem.mpr (fun x hx => ?_), D_adr (adr_fl ?_) hD⟩⟩
  · obtain ⟨i, -, h2⟩ := cut_at hC hk
    exact d1 i w h2
  · obtain ⟨i, h1, h2⟩ := cut_at hC hk
    obtain ⟨i', h1', h2'⟩ := cut_at hC hk'
    refine d2 i i' w v (fun e => ?_) h2 h2'
    subst e
    have l1 := (List.getElem?_eq_some_iff.mp h1).1
    have l2 := (List.getElem?_eq_some_iff.mp h1').1
    have e1 := (List.getElem?_eq_some_iff.mp h1).2
    have e2 := (List.getElem?_eq_some_iff.mp h1').2
    have hp := List.pairwise_iff_getElem.mp hn
    rcases Nat.lt_or_gt_of_ne hne with q | q
    · exact hp k k' l1 l2 q (e1.trans e2.symm)
    · exact hp k' k l2 l1 q (e2.trans e1.symm)
  · obtain ⟨w, hw, hxw⟩ := List.mem_flatten.mp hx
    obtain ⟨j, hj⟩ := List.getElem?_of_mem hw
    by_cases hin : j ∈ is
    · obtain ⟨k, hk⟩ := List.getElem?_of_mem hin
      rw [r3 k j hk] at hj
      exact P_mem.mp hP1 x (List.mem_flatten.mpr ⟨w, List.mem_of_getElem? hj, hxw⟩)
    · rw [r2 j hin] at hj
      have hat := P_mem.mp hP x (List.mem_flatten.mpr ⟨w, List.mem_of_getElem? hj, hxw⟩)
      refine hat.kept (hk1 x.1 hat.lt (fun hA => ?_))
      rcases hA with ⟨k, e, hke⟩ | hge
      · obtain ⟨v, hv, hxv⟩ := List.mem_flatten.mp (List.mem_of_getElem? hke)
        obtain ⟨k2, hk2⟩ := List.getElem?_of_mem hv
        obtain ⟨i, h1, h2⟩ := cut_at hC hk2
        exact d2 i j v w (fun e => hin (e ▸ List.mem_of_getElem? h1)) h2 hj _ hxv x hxw rfl
      · have := hat.lt
        omega
  · apply List.ext_getElem?
    intro j
    simp only [adr, List.getElem?_map]
    by_cases hin : j ∈ is
    · obtain ⟨k, hk⟩ := List.getElem?_of_mem hin
      rw [r3 k j hk]
      obtain ⟨w, h1, h2⟩ := cut_in hC hk
      rw [h2]
      have := congrArg (fun z => z[k]?) ha
      simp only [adr, List.getElem?_map, h1] at this
      exact this
    · rw [r2 j hin]
section GC
variable {X : gX} {own : String} {cc : ByteArray} {nL : Nat} {ret : Option FieldType} {Ts : List Cond} {fr lm : Nat} {Q : State → Prop} {ms mc mc' : List va_W} {L : List (Option Value)} {st : List Value} {pc pc' : Nat} {y : MethodName} {bytes : ByteArray} {maxL : Nat} {rt : Option FieldType} {wsy wsy' : List Cond} {frc lc b n idx : Nat} {As : List Value} {is : List Nat} {r : Int32}
abbrev nd (y : MethodName) (n : Nat) : Prop := y.cls ≠ "java/lang/invoke/MethodHandle" ∧ y.cls ≠ "java/lang/invoke/VarHandle" ∧ (parseMethodDescriptor y.desc).map (fun d => d.parameters.length) = some n

theorem G_callVI (C : cx X own cc nL ret Ts fr lm) (hM : MI (gl X) (gD X) (gcA X) y wsy frc lc (.ref b :: As) mc r mc') (hG : GoodIn Ts (wsV own idx y.cls y wsy)) (hw : wsy = Cond.code y bytes maxL rt :: wsy') (hd : nd y n) (hR : frc + 1 ≤ fr ∧ 8 + (maxL + 11) + lc ≤ lm) {q0 ci : Nat} {fs : List Value} {T : u_T} {N : Nat} (hq : mc.flatten[q0]? = some (b, .inr (ci, fs))) (hci : vwCl[ci]? = some (y.cls, T, N)) (hC : is.map (fun i => ms[i]?) = mc.map some) (hn : is.Nodup) (ha : adr mc' = adr mc) (hAs : As.length = n) (hst : (st.map fun v => v.category).sum ≤ 8) (hLn : L.length = nL) (d : decode cc pc = .ok (.invokevirtual idx, 3)) (hp : pc + 3 = pc') (kk : G X Q (rpl ms is mc') L (.int r :: st) pc') : G X Q ms L (As.reverse ++ .ref b :: st) pc := by
  subst hp
  obtain ⟨p, l, e, R, s, m, args, below, meth, c, D, cA, A, H0⟩ := X
  obtain ⟨hx, hb, hml, hr, hown, hts, hlk, hK, hA, hfr, hlm, h0⟩ := C
  subst hfr; subst hlm
  intro H locs ls hP hD hS hl
  obtain ⟨hPc, hDc, hsub, hback⟩ := cut_ok hC hn ha hP hD
  have hF : ∀ q, va_A mc.flatten H.size q → A q := by
    intro q hq
    rcases hq with ⟨k, e, hke⟩ | hge
    · obtain ⟨k2, hk2⟩ := List.getElem?_of_mem (hsub _ (List.mem_of_getElem? hke))
      exact hD.2 k2 _ hk2
    · exact hA q (Nat.le_trans hS.1 hge)
  refine va_calli (va_runV (As := As) (rest := st) ⟨hx, hb, hml, hown, hts⟩ (hM H.size) (cwV n hts hG hw rfl rfl ⟨rfl, hd⟩ hR) ⟨fun a U g mk q => by obtain ⟨q0, q1, qP, qK, qD⟩ := q; exact ⟨q0, q1, qP, va_K.moved (u := U) (U := U.calling g mk a) (Vm.Alike.refl U.vm) qK, qD⟩, va_recv hK hPc hci hq, fun U hU hW => ⟨rfl, by rw [hU], by rw [hU]; exact hPc, va_K.moved hW.alike hK, hDc.weaken (fun _ _ _ _ => trivial)⟩⟩ rfl hAs (hl.1.trans hLn) rfl (lv_room hst) d ⟨Nat.le_refl _, Nat.le_refl _⟩) hS (fun q _ h => hF q h) hF (fun r0 u t H1 locs1 ht hvm hw1 hB hz1 hk1 hS1 => ?_)
  subst hw1
  rw [ht] at hB
  obtain ⟨hP1, hD1⟩ := hback H1 hB hk1
  exact kk H1 locs1 ls hP1 hD1 hS1 hl
theorem G_callVV (C : cx X own cc nL ret Ts fr lm) (hM : MV (gl X) (gD X) (gcA X) y wsy frc lc (.ref b :: As) mc mc') (hG : GoodIn Ts (wsV own idx y.cls y wsy)) (hw : wsy = Cond.code y bytes maxL rt :: wsy') (hd : nd y n) (hR : frc + 1 ≤ fr ∧ 8 + (maxL + 11) + lc ≤ lm) {q0 ci : Nat} {fs : List Value} {T : u_T} {N : Nat} (hq : mc.flatten[q0]? = some (b, .inr (ci, fs))) (hci : vwCl[ci]? = some (y.cls, T, N)) (hC : is.map (fun i => ms[i]?) = mc.map some) (hn : is.Nodup) (ha : adr mc' = adr mc) (hAs : As.length = n) (hst : (st.map fun v => v.category).sum ≤ 8) (hLn : L.length = nL) (d : decode cc pc = .ok (.invokevirtual idx, 3)) (hp : pc + 3 = pc') (kk : G X Q (rpl ms is mc') L (st) pc') : G X Q ms L (As.reverse ++ .ref b :: st) pc := by
  subst hp
  obtain ⟨p, l, e, R, s, m, args, below, meth, c, D, cA, A, H0⟩ := X
  obtain ⟨hx, hb, hml, hr, hown, hts, hlk, hK, hA, hfr, hlm, h0⟩ := C
  subst hfr; subst hlm
  intro H locs ls hP hD hS hl
  obtain ⟨hPc, hDc, hsub, hback⟩ := cut_ok hC hn ha hP hD
  have hF : ∀ q, va_A mc.flatten H.size q → A q := by
    intro q hq
    rcases hq with ⟨k, e, hke⟩ | hge
    · obtain ⟨k2, hk2⟩ := List.getElem?_of_mem (hsub _ (List.mem_of_getElem? hke))
      exact hD.2 k2 _ hk2
    · exact hA q (Nat.le_trans hS.1 hge)
  refine va_callv (va_runV (As := As) (rest := st) ⟨hx, hb, hml, hown, hts⟩ (hM H.size) (cwV n hts hG hw rfl rfl ⟨rfl, hd⟩ hR) ⟨fun a U g mk q => by obtain ⟨q0, q1, qP, qK, qD⟩ := q; exact ⟨q0, q1, qP, va_K.moved (u := U) (U := U.calling g mk a) (Vm.Alike.refl U.vm) qK, qD⟩, va_recv hK hPc hci hq, fun U hU hW => ⟨rfl, by rw [hU], by rw [hU]; exact hPc, va_K.moved hW.alike hK, hDc.weaken (fun _ _ _ _ => trivial)⟩⟩ rfl hAs (hl.1.trans hLn) rfl (lv_room hst) d ⟨Nat.le_refl _, Nat.le_refl _⟩) hS (fun q _ h => hF q h) hF (fun u t H1 locs1 ht hvm hw1 hB hz1 hk1 hS1 => ?_)
  rw [ht] at hB
  obtain ⟨hP1, hD1⟩ := hback H1 hB hk1
  exact kk H1 locs1 ls hP1 hD1 hS1 hl
theorem G_callSI (C : cx X own cc nL ret Ts fr lm) (hM : MI (gl X) (gD X) (gcA X) y wsy frc lc As mc r mc') (hG : GoodIn Ts (va_wsS own idx y wsy)) (hw : wsy = Cond.code y bytes maxL rt :: wsy') (hd : nd y n) (hR : frc + 1 ≤ fr ∧ 8 + (maxL + 11) + lc ≤ lm) (hC : is.map (fun i => ms[i]?) = mc.map some) (hn : is.Nodup) (ha : adr mc' = adr mc) (hAs : As.length = n) (hst : (st.map fun v => v.category).sum ≤ 8) (hLn : L.length = nL) (d : decode cc pc = .ok (.invokestatic idx, 3)) (hp : pc + 3 = pc') (kk : G X Q (rpl ms is mc') L (.int r :: st) pc') : G X Q ms L (As.reverse ++ st) pc := by
  subst hp
  obtain ⟨p, l, e, R, s, m, args, below, meth, c, D, cA, A, H0⟩ := X
  obtain ⟨hx, hb, hml, hr, hown, hts, hlk, hK, hA, hfr, hlm, h0⟩ := C
  subst hfr; subst hlm
  intro H locs ls hP hD hS hl
  obtain ⟨hPc, hDc, hsub, hback⟩ := cut_ok hC hn ha hP hD
  have hF : ∀ q, va_A mc.flatten H.size q → A q := by
    intro q hq
    rcases hq with ⟨k, e, hke⟩ | hge
    · obtain ⟨k2, hk2⟩ := List.getElem?_of_mem (hsub _ (List.mem_of_getElem? hke))
      exact hD.2 k2 _ hk2
    · exact hA q (Nat.le_trans hS.1 hge)
  refine va_calli (va_runS (As := As) (rest := st) ⟨hx, hb, hml, hown, hts⟩ (hM H.size) (va_cwS n hts hG hw rfl rfl hd hR) ⟨fun a U g mk q => by obtain ⟨q0, q1, qP, qK, qD⟩ := q; exact ⟨q0, q1, qP, va_K.moved (u := U) (U := U.calling g mk a) (Vm.Alike.refl U.vm) qK, qD⟩, fun U hU hW => ⟨rfl, by rw [hU], by rw [hU]; exact hPc, va_K.moved hW.alike hK, hDc.weaken (fun _ _ _ _ => trivial)⟩⟩ rfl hAs (hl.1.trans hLn) rfl (lv_room hst) d ⟨Nat.le_refl _, Nat.le_refl _⟩) hS (fun q _ h => hF q h) hF (fun r0 u t H1 locs1 ht hvm hw1 hB hz1 hk1 hS1 => ?_)
  subst hw1
  rw [ht] at hB
  obtain ⟨hP1, hD1⟩ := hback H1 hB hk1
  exact kk H1 locs1 ls hP1 hD1 hS1 hl
theorem G_callSV (C : cx X own cc nL ret Ts fr lm) (hM : MV (gl X) (gD X) (gcA X) y wsy frc lc As mc mc') (hG : GoodIn Ts (va_wsS own idx y wsy)) (hw : wsy = Cond.code y bytes maxL rt :: wsy') (hd : nd y n) (hR : frc + 1 ≤ fr ∧ 8 + (maxL + 11) + lc ≤ lm) (hC : is.map (fun i => ms[i]?) = mc.map some) (hn : is.Nodup) (ha : adr mc' = adr mc) (hAs : As.length = n) (hst : (st.map fun v => v.category).sum ≤ 8) (hLn : L.length = nL) (d : decode cc pc = .ok (.invokestatic idx, 3)) (hp : pc + 3 = pc') (kk : G X Q (rpl ms is mc') L (st) pc') : G X Q ms L (As.reverse ++ st) pc := by
  subst hp
  obtain ⟨p, l, e, R, s, m, args, below, meth, c, D, cA, A, H0⟩ := X
  obtain ⟨hx, hb, hml, hr, hown, hts, hlk, hK, hA, hfr, hlm, h0⟩ := C
  subst hfr; subst hlm
  intro H locs ls hP hD hS hl
  obtain ⟨hPc, hDc, hsub, hback⟩ := cut_ok hC hn ha hP hD
  have hF : ∀ q, va_A mc.flatten H.size q → A q := by
    intro q hq
    rcases hq with ⟨k, e, hke⟩ | hge
    · obtain ⟨k2, hk2⟩ := List.getElem?_of_mem (hsub _ (List.mem_of_getElem? hke))
      exact hD.2 k2 _ hk2
    · exact hA q (Nat.le_trans hS.1 hge)
  refine va_callv (va_runS (As := As) (rest := st) ⟨hx, hb, hml, hown, hts⟩ (hM H.size) (va_cwS n hts hG hw rfl rfl hd hR) ⟨fun a U g mk q => by obtain ⟨q0, q1, qP, qK, qD⟩ := q; exact ⟨q0, q1, qP, va_K.moved (u := U) (U := U.calling g mk a) (Vm.Alike.refl U.vm) qK, qD⟩, fun U hU hW => ⟨rfl, by rw [hU], by rw [hU]; exact hPc, va_K.moved hW.alike hK, hDc.weaken (fun _ _ _ _ => trivial)⟩⟩ rfl hAs (hl.1.trans hLn) rfl (lv_room hst) d ⟨Nat.le_refl _, Nat.le_refl _⟩) hS (fun q _ h => hF q h) hF (fun u t H1 locs1 ht hvm hw1 hB hz1 hk1 hS1 => ?_)
  rw [ht] at hB
  obtain ⟨hP1, hD1⟩ := hback H1 hB hk1
  exact kk H1 locs1 ls hP1 hD1 hS1 hl
theorem g_mabs (C : cx X own cc nL ret Ts fr lm) {x : Int32} (h1 : Cond.methodLink own idx Lib.Math.abs.name ∈ Ts) (h2 : Cond.static Lib.Math.abs.name ∈ Ts) (h3 : Cond.initialized "java/lang/Math" ∈ Ts) (h4 : Cond.code Lib.Math.abs.name Lib.Math.abs.code 1 (some .int) ∈ Ts) (hR : 1 ≤ fr ∧ (st.map fun v => v.category).sum + 13 ≤ lm) (hLn : L.length = nL) (d : decode cc pc = .ok (.invokestatic idx, 3)) (hp : pc + 3 = pc') (kk : G X Q ms L (.int (if 0 ≤ x then x else 0 - x) :: st) pc') : G X Q ms L (.int x :: st) pc := by
  subst hp
  obtain ⟨p, l, e, R, s, m, args, below, meth, c, D, cA, A, H0⟩ := X
  obtain ⟨hx, hb, hml, hr, hown, hts, hlk, hK, hA, hfr, hlm, h0⟩ := C
  subst hfr; subst hlm
  intro H locs ls hP hD hS hl
  exact va_mabs hx hb (hml.trans (hLn.symm.trans hl.1.symm)) hown (hts _ h1) (hts _ h2) (hts _ h3) (hts _ h4) hR.1 hR.2 (Nat.le_refl _) (Nat.le_refl _) d (kk H locs ls hP hD hS hl)
theorem g_mmax (C : cx X own cc nL ret Ts fr lm) {x y : Int32} (h1 : Cond.methodLink own idx Lib.Math.max.name ∈ Ts) (h2 : Cond.static Lib.Math.max.name ∈ Ts) (h3 : Cond.initialized "java/lang/Math" ∈ Ts) (h4 : Cond.code Lib.Math.max.name Lib.Math.max.code 2 (some .int) ∈ Ts) (hR : 1 ≤ fr ∧ (st.map fun v => v.category).sum + 13 ≤ lm) (hLn : L.length = nL) (d : decode cc pc = .ok (.invokestatic idx, 3)) (hp : pc + 3 = pc') (kk : G X Q ms L (.int (if x < y then y else x) :: st) pc') : G X Q ms L (.int y :: .int x :: st) pc := by
  subst hp
  obtain ⟨p, l, e, R, s, m, args, below, meth, c, D, cA, A, H0⟩ := X
  obtain ⟨hx, hb, hml, hr, hown, hts, hlk, hK, hA, hfr, hlm, h0⟩ := C
  subst hfr; subst hlm
  intro H locs ls hP hD hS hl
  exact va_mmax hx hb (hml.trans (hLn.symm.trans hl.1.symm)) hown (hts _ h1) (hts _ h2) (hts _ h3) (hts _ h4) hR.1 hR.2 (Nat.le_refl _) (Nat.le_refl _) d (kk H locs ls hP hD hS hl)
theorem g_mmin (C : cx X own cc nL ret Ts fr lm) {x y : Int32} (h1 : Cond.methodLink own idx Lib.Math.min.name ∈ Ts) (h2 : Cond.static Lib.Math.min.name ∈ Ts) (h3 : Cond.initialized "java/lang/Math" ∈ Ts) (h4 : Cond.code Lib.Math.min.name Lib.Math.min.code 2 (some .int) ∈ Ts) (hR : 1 ≤ fr ∧ (st.map fun v => v.category).sum + 13 ≤ lm) (hLn : L.length = nL) (d : decode cc pc = .ok (.invokestatic idx, 3)) (hp : pc + 3 = pc') (kk : G X Q ms L (.int (if y < x then y else x) :: st) pc') : G X Q ms L (.int y :: .int x :: st) pc := by
  subst hp
  obtain ⟨p, l, e, R, s, m, args, below, meth, c, D, cA, A, H0⟩ := X
  obtain ⟨hx, hb, hml, hr, hown, hts, hlk, hK, hA, hfr, hlm, h0⟩ := C
  subst hfr; subst hlm
  intro H locs ls hP hD hS hl
  exact va_mmin hx hb (hml.trans (hLn.symm.trans hl.1.symm)) hown (hts _ h1) (hts _ h2) (hts _ h3) (hts _ h4) hR.1 hR.2 (Nat.le_refl _) (Nat.le_refl _) d (kk H locs ls hP hD hS hl)
theorem g_copy (C : cx X own cc nL ret Ts fr lm) {i j i2 j2 a a2 n1 n2 : Nat} {w w2 w' : va_W} {f g : Nat → Int32} {k : Int32} (hm : ms[i]? = some w) (hw : w[j]? = some (a, .inl (gcA X 0, n1, .inl f))) (hm2 : ms[i2]? = some w2) (hw2 : w2[j2]? = some (a2, .inl (gcA X 0, n2, .inl g))) (hw' : w2.set j2 (a2, .inl (gcA X 0, n2, .inl (va_cpy f g 0 0 k.toNatClampNeg))) = w') (h1 : Cond.methodLink own idx arraycopyName ∈ Ts) (h2 : Cond.native arraycopyName ∈ Ts) (h3 : Cond.static arraycopyName ∈ Ts) (h4 : Cond.initialized "java/lang/System" ∈ Ts) (hk : ¬ k < 0) (hk1 : k.toNatClampNeg ≤ n1) (hk2 : k.toNatClampNeg ≤ n2) (hR : 1 ≤ fr ∧ (st.map fun v => v.category).sum + (nativeFrameWords "java/lang/System" "arraycopy" 5 + 11) ≤ lm) (hLn : L.length = nL) (d : decode cc pc = .ok (.invokestatic idx, 3)) (hp : pc + 3 = pc') (kk : G X Q (ms.set i2 w') L st pc') : G X Q ms L (.int k :: .int 0 :: .ref a2 :: .int 0 :: .ref a :: st) pc := by
  subst hp; subst hw'
  obtain ⟨p, l, e, R, s, m, args, below, meth, c, D, cA, A, H0⟩ := X
  obtain ⟨hx, hb, hml, hr, hown, hts, hlk, hK, hA, hfr, hlm, h0⟩ := C
  subst hfr; subst hlm
  intro H locs ls hP hD hS hl
  obtain ⟨q, hq, -⟩ := fl_at hm hw
  obtain ⟨q2, hq2, hset⟩ := fl_at hm2 hw2
  refine va_copyi hx hb (hml.trans (hLn.symm.trans hl.1.symm)) hown (hts _ h1) (hts _ h2) (hts _ h3) (hts _ h4) hK hP hD hS q q2 0 0 hq hq2 rfl rfl rfl (by decide) (by decide) hk (by simpa using hk1) (by simpa using hk2) (fun _ _ => rfl) hR.1 hR.2 d (fun H1 locs1 hP1 hD1 hS1 => ?_)
  rw [hset] at hP1 hD1
  exact kk H1 locs1 ls hP1 hD1 hS1 hl
end GC
