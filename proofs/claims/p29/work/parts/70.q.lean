/-! what the class answers, by the abstract board alone -/
noncomputable def LA (A : tA) (r : Nat) : Nat → Nat := Classical.epsilon (fun L => Lo (A 0 0) 1000 (eA A r) L)
noncomputable def hp (A : tA) (r i : Nat) : Nat := hpA 1000 (LA A r) i
noncomputable def nh (A : tA) (r : Nat) : Nat := nmH (A 0 0) 1000 (LA A r)
theorem lo_half {n : Nat} {E : Nat → Nat → Prop} {L L' : Nat → Nat} (hn : n ≤ 20) (h : Lo n 1000 E L) (h' : Lo n 1000 E L') {i : Nat} (hi : i < n) : L' i ≤ L i := by
  have v : ∀ {k}, k < n → nV n 1000 k := fun hk => ⟨hk, by omega⟩
  obtain ⟨a1, a2, a3⟩ := h.1 i (v hi)
  have c := (h.2 (L i) i (v (by omega)) (v hi)).mp a3
  have e := (h'.2 (L i) i (v (by omega)) (v hi)).mpr c
  have := (h'.1 (L i) (v (by omega))).1
  omega
theorem lo_uniq {n : Nat} {E : Nat → Nat → Prop} {L L' : Nat → Nat} (hn : n ≤ 20) (h : Lo n 1000 E L) (h' : Lo n 1000 E L') {i : Nat} (hi : i < n) : L i = L' i := Nat.le_antisymm (lo_half hn h' h hi) (lo_half hn h h' hi)
theorem t_find {N : Nat} (hN : 1000 ≤ N) {B : tS} {A : tA} (hB : RB B A) (ok : okA A) {r : Nat} (hr : r < 1000) (S : tS) : Lo (A 0 0) 1000 (eA A r) (LA A r) ∧ ∃ S', f_X2_find N S B (nI r) = some (nI (nh A r), S') ∧ HE S' (A 0 0) (nh A r) (hp A r) := by
  obtain ⟨S', L, e, hE, hL⟩ := s_find hN hB ok hr S
  have hA : Lo (A 0 0) 1000 (eA A r) (LA A r) := Classical.epsilon_spec (p := fun L => Lo (A 0 0) 1000 (eA A r) L) ⟨L, hL⟩
  have o1 := ok.1
  have u : ∀ i, i < A 0 0 → L i = LA A r i := fun i hi => lo_uniq o1 hL hA hi
  have rt : ∀ k, k < A 0 0 → rtB 1000 L k = rtB 1000 (LA A r) k := fun k hk => by unfold rtB; rw [u k hk]
  have e1 : nmH (A 0 0) 1000 L = nh A r := ct_congr rt
  have e2 : ∀ i, i < A 0 0 → hpA 1000 L i = hp A r i := fun i hi => by
    show ct (rtB 1000 L) (L i) = ct (rtB 1000 (LA A r)) (LA A r i)
    rw [← u i hi]
    have := (hL.1 i ⟨hi, by omega⟩).1
    exact ct_congr (fun k hk => rt k (by omega))
  exact ⟨hA, S', by rw [e, e1], by rw [← e1]; exact hE.1, hE.2.1, fun i hi => by rw [hE.2.2 i hi, e2 i hi]⟩
theorem rb_ex (A : tA) : RB (fun f j => enA f (A f j)) A := ⟨rfl, rfl, fun _ _ => rfl, fun _ _ => ⟨rfl, rfl, rfl, fun _ _ => rfl⟩, fun _ _ _ _ => rfl⟩
theorem t_lo {A : tA} (ok : okA A) {r : Nat} (hr : r < 1000) : Lo (A 0 0) 1000 (eA A r) (LA A r) := (t_find (N := 1000) (Nat.le_refl _) (rb_ex A) ok hr (fun _ _ => 0)).1
theorem nh_le (A : tA) (r : Nat) : nh A r ≤ A 0 0 := nm_le _ _ _
theorem hp_l {A : tA} (ok : okA A) {r : Nat} (hr : r < 1000) {i : Nat} (hi : i < A 0 0) : hp A r i < nh A r := hp_lt (t_lo ok hr) hi (by have := ok.1; omega)
theorem hp_b {A : tA} (ok : okA A) {r : Nat} (hr : r < 1000) : ∀ i, i < A 0 0 → hp A r i < 1000 := fun i hi => by
  have := hp_l ok hr hi
  have := nh_le A r
  have := ok.1
  omega
theorem hp_cn {A : tA} (ok : okA A) {r : Nat} (hr : r < 1000) {i j : Nat} (hi : i < A 0 0) (hj : j < A 0 0) : hp A r i = hp A r j ↔ Cn (nV (A 0 0) 1000) (eA A r) i j := by
  have o1 := ok.1
  have hL := t_lo ok hr
  exact (hp_eq hL hi hj (by omega) (by omega)).trans (hL.2 i j ⟨hi, by omega⟩ ⟨hj, by omega⟩)
theorem hp_near {A : tA} (ok : okA A) {r : Nat} (hr : r < 1000) {i j : Nat} (hi : i < A 0 0) (hj : j < A 0 0) (h : dA A i j ≤ r) : hp A r i = hp A r j := (hp_cn ok hr hi hj).mpr (cn_1 ⟨hi, by have := ok.1; omega⟩ ⟨hj, by have := ok.1; omega⟩ h)
theorem ct_sur {p : Nat → Bool} {g : Nat} : ∀ {n : Nat}, g < ct p n → ∃ i, i < n ∧ p i = true ∧ ct p i = g
  | 0, h => absurd h (Nat.not_lt_zero g)
  | n + 1, h => by
    rw [ct_succ] at h
    by_cases q : g < ct p n
    · obtain ⟨i, h1, h2, h3⟩ := ct_sur q
      exact ⟨i, by omega, h2, h3⟩
    · cases hp : p n with
      | false => rw [hp] at h; simp at h; omega
      | true =>
        rw [hp] at h
        simp at h
        exact ⟨n, by omega, hp, by omega⟩
theorem hp_sur {A : tA} {r g : Nat} (hg : g < nh A r) : ∃ i, i < A 0 0 ∧ hp A r i = g := by
  obtain ⟨i, h1, h2, h3⟩ := ct_sur hg
  have := of_decide_eq_true h2
  refine ⟨i, h1, ?_⟩
  show ct (rtB 1000 (LA A r)) (LA A r i) = g
  rw [this.2]
  exact h3
theorem nh_pos {A : tA} (ok : okA A) {r : Nat} (hr : r < 1000) (h : 0 < A 0 0) : 0 < nh A r := by
  have := hp_l ok hr h
  omega
theorem cn_b {n : Nat} {E : Nat → Nat → Prop} {i j : Nat} : Cn (nV n 1000) E i j ↔ Cn (nV n 1000) (fun a b => a < n ∧ b < n ∧ E a b) i j := ⟨cn_m (fun _ _ ha hb e => ⟨ha.1, hb.1, e⟩), cn_m (fun _ _ _ _ e => e.2.2)⟩
theorem lo_b {n : Nat} {E : Nat → Nat → Prop} {L : Nat → Nat} (h : Lo n 1000 E L) : Lo n 1000 (fun a b => a < n ∧ b < n ∧ E a b) L := ⟨h.1, fun i j hi hj => (h.2 i j hi hj).trans cn_b⟩
theorem nh_mono {A A' : tA} (ok : okA A) (ok' : okA A') {r r' : Nat} (hr : r < 1000) (hr' : r' < 1000) (hn : A' 0 0 = A 0 0) (h : ∀ a b, a < A 0 0 → b < A 0 0 → dA A a b ≤ r → dA A' a b ≤ r') : nh A' r' ≤ nh A r := by
  have h1 := t_lo ok hr
  have h2 := t_lo ok' hr'
  unfold nh
  rw [hn] at h2 ⊢
  exact nm_mono ok.1 (lo_b h1) (lo_b h2) (fun a b q => ⟨q.1, q.2.1, h a b q.1 q.2.1 q.2.2⟩)
theorem hp_mono {A A' : tA} (ok : okA A) (ok' : okA A') {r r' : Nat} (hr : r < 1000) (hr' : r' < 1000) (hn : A' 0 0 = A 0 0) (h : ∀ a b, a < A 0 0 → b < A 0 0 → dA A a b ≤ r → dA A' a b ≤ r') {i j : Nat} (hi : i < A 0 0) (hj : j < A 0 0) (e : hp A r i = hp A r j) : hp A' r' i = hp A' r' j := by
  have c := (hp_cn ok hr hi hj).mp e
  refine (hp_cn ok' hr' (by omega) (by omega)).mpr ?_
  rw [hn]
  exact cn_m (fun a b ha hb q => h a b ha.1 hb.1 q) c
/-! arguments -/
section ARG
variable {N : Nat} {B S : tS} {A : tA}
theorem hasN_t (hB : RB B A) (ok : okA A) {i : Nat} (hi : i < A 0 0) : f_X0_hasNote N B (nI i) = some 1 := by
  have o1 := ok.1
  unfold f_X0_hasNote
  rw [lt0F (by omega), hB.1, leF hi (by omega)]
theorem hasN_f (hB : RB B A) (ok : okA A) : f_X0_hasNote N B (nI (A 0 0)) = some 0 := by
  have o1 := ok.1
  unfold f_X0_hasNote
  rw [lt0F (by omega), hB.1, leT (Nat.le_refl _) (by omega)]
theorem hasT_t (hB : RB B A) (ok : okA A) {i : Nat} (hi : i < A 5 0) : f_X0_hasTheme N B (nI i) = some 1 := by
  have o1 := ok.2.1
  unfold f_X0_hasTheme
  rw [lt0F (by omega), hB.2.1, leF hi (by omega)]
theorem hasT_f (hB : RB B A) (ok : okA A) : f_X0_hasTheme N B (nI (A 5 0)) = some 0 := by
  have o1 := ok.2.1
  unfold f_X0_hasTheme
  rw [lt0F (by omega), hB.2.1, leT (Nat.le_refl _) (by omega)]
theorem hasH_t {n num : Nat} {h : Nat → Nat} (hE : HE S n num h) (hn : num ≤ 20) {g : Nat} (hg : g < num) : f_X2_has N S (nI g) = some 1 := by
  unfold f_X2_has
  rw [lt0F (by omega), hE.1, leF hg (by omega)]
theorem hasH_f {n num : Nat} {h : Nat → Nat} (hE : HE S n num h) (hn : num ≤ 20) : f_X2_has N S (nI num) = some 0 := by
  unfold f_X2_has
  rw [lt0F (by omega), hE.1, leT (Nat.le_refl _) (by omega)]
theorem wi_t {a b x : Nat} (h1 : a ≤ x) (h2 : x ≤ b) (hb : b < 1000000) : f_X5_isWithin N (nI x) (nI a) (nI b) = some 1 := by
  unfold f_X5_isWithin
  rw [ltF h1 (by omega), ltF h2 (by omega)]
theorem wi_f {a b x : Nat} (h2 : x < a ∨ b < x) (hx : x < 1000000) (hb : b < 1000000) (ha : a < 1000000) : f_X5_isWithin N (nI x) (nI a) (nI b) = some 0 := by
  unfold f_X5_isWithin
  by_cases q : x < a
  · rw [ltT q (by omega)]
  · rw [ltF (by omega) (by omega), ltT (by omega) (by omega)]
theorem isPe_t {p : Nat} (hp : p < 6) : f_X5_isPerson N (nI p) = some 1 := by
  unfold f_X5_isPerson
  rw [li_0, li_5, wi_t (by omega) (by omega) (by omega), bd_some]
  exact nn01
theorem isPe_f : f_X5_isPerson N (nI 6) = some 0 := by
  unfold f_X5_isPerson
  rw [li_0, li_5, wi_f (by omega) (by omega) (by omega) (by omega), bd_some]
  exact nn00
theorem isNa_t {p : Nat} (hp : p < 10) : f_X5_isName N (nI p) = some 1 := by
  unfold f_X5_isName
  rw [li_0, li_9, wi_t (by omega) (by omega) (by omega), bd_some]
  exact nn01
theorem isNa_f : f_X5_isName N (nI 10) = some 0 := by
  unfold f_X5_isName
  rw [li_0, li_9, wi_f (by omega) (by omega) (by omega) (by omega), bd_some]
  exact nn00
theorem isPl_t {c r : Nat} (hc : c < 30) (hr : r < 20) : f_X5_isPlace N (nI c) (nI r) = some 1 := by
  unfold f_X5_isPlace
  rw [li_0, li_29, li_19, wi_t (by omega) (by omega) (by omega), bd_some, if_neg (by decide), wi_t (by omega) (by omega) (by omega), bd_some, if_neg (by decide)]
theorem isPl_f {c r : Nat} (h : 30 ≤ c ∨ 20 ≤ r) (hc : c < 1000000) (hr : r < 1000000) : f_X5_isPlace N (nI c) (nI r) = some 0 := by
  unfold f_X5_isPlace
  rw [li_0, li_29, li_19]
  by_cases q : c ≤ 29
  · rw [wi_t (by omega) (by omega) (by omega), bd_some, if_neg (by decide), wi_f (by omega) (by omega) (by omega) (by omega), bd_some]
    rfl
  · rw [wi_f (by omega) (by omega) (by omega) (by omega), bd_some]
    rfl
end ARG
/-! the queries -/
noncomputable def cv (A : tA) : Nat → Nat
  | 0 => A 0 0
  | 1 => nh A (A 7 0)
  | 2 => A 5 0
  | 3 => sm (dtA A) (A 0 0)
  | 4 => sm (fun p => A 7 1 - dpA A p) 6
  | 5 => ntA A 0
  | 6 => ct (fun t => nmA A t != 0) (A 5 0)
  | 7 => ct (fun i => nrA A i == 0) (A 0 0)
  | k + 8 => A 7 k
section QU
variable {N : Nat} {Tn B Sn Tx Tr E F Nm Bt : tS} {Hs : tH} {A : tA}
theorem t_heaps (hN : 1000 ≤ N) (hB : RB B A) (ok : okA A) : ∃ E', f_X5_findHeaps N Tn B E = some (nI (nh A (A 7 0)), E') ∧ HE E' (A 0 0) (nh A (A 7 0)) (hp A (A 7 0)) := by
  have o3 := ok.2.2.1
  obtain ⟨-, E', e, hE⟩ := t_find hN hB ok (r := A 7 0) (by omega) E
  refine ⟨E', ?_, hE⟩
  unfold f_X5_findHeaps
  rw [cl_0, hB.2.2.1 0 (by decide), e, bd2_some]
theorem q_alone (hN : 1000 ≤ N) (hB : RB B A) (ok : okA A) : ∃ E', f_X5_notesAlone N Tn B E = some (nI (ct (fun i => nrA A i == 0) (A 0 0)), E') := by
  have o1 := ok.1
  have o3 := ok.2.2.1
  obtain ⟨E', e, hE⟩ := t_heaps (Tn := Tn) (E := E) hN hB ok
  have nml := nh_le A (A 7 0)
  have hh := hp_b ok (r := A 7 0) (by omega)
  refine ⟨E', ?_⟩
  rw [← alone_eq ok (t_lo ok (by omega))]
  unfold f_X5_notesAlone
  rw [e, bd2_some]
  show f_X5_notesAlone_9 N Tn B N (nI (nh A (A 7 0))) (nI 0) (nI 0) E' = some (nI (ct (fun g => hnA (hp A (A 7 0)) g (A 0 0) == 1) (nh A (A 7 0))), E')
  refine lp_run (F := fun k (q : Int32 × Int32) => f_X5_notesAlone_9 N Tn B k (nI (nh A (A 7 0))) q.1 q.2 E') (s := fun i => (nI (ct (fun g => hnA (hp A (A 7 0)) g (A 0 0) == 1) i), nI i)) (nh A (A 7 0)) _ ?_ ?_ N (by omega)
  · intro k
    show f_X5_notesAlone_9b N Tn B (f_X5_notesAlone_9 N Tn B k) (nI _) (nI _) (nI (nh A (A 7 0))) E' = _
    unfold f_X5_notesAlone_9b
    rw [leT (Nat.le_refl _) (by omega)]
  · intro k g hg
    show f_X5_notesAlone_9b N Tn B (f_X5_notesAlone_9 N Tn B k) (nI _) (nI _) (nI g) E' = f_X5_notesAlone_9 N Tn B k (nI (nh A (A 7 0))) (nI (ct (fun g => hnA (hp A (A 7 0)) g (A 0 0) == 1) g + (if hnA (hp A (A 7 0)) g (A 0 0) == 1 then 1 else 0))) (nI (g + 1)) E'
    have hle : hnA (hp A (A 7 0)) g (A 0 0) ≤ A 0 0 := ct_le _ _
    unfold f_X5_notesAlone_9b f_X5_notesAlone_29
    rw [leF hg (by omega), s_notesIn hN hE o1 hh (by omega), bd_some, nI_s, nI_s]
    by_cases q : hnA (hp A (A 7 0)) g (A 0 0) = 1
    · rw [if_pos (show nI (hnA (hp A (A 7 0)) g (A 0 0)) = 1 by rw [q]; rfl)]
      simp [q]
    · rw [if_neg (show ¬ nI (hnA (hp A (A 7 0)) g (A 0 0)) = 1 from fun w => q (nI_inj (by omega) (by omega) (show _ = nI 1 from w)))]
      simp [q]
theorem q_c0 (hB : RB B A) : ∃ a b, f_X5_count N Tn B Hs E Nm 0 = some (nI (A 0 0), a, b) := ⟨E, Nm, by unfold f_X5_count; rw [if_pos rfl, hB.1]⟩
theorem q_c1 (hN : 1000 ≤ N) (hB : RB B A) (ok : okA A) : ∃ a b, f_X5_count N Tn B Hs E Nm 1 = some (nI (nh A (A 7 0)), a, b) := by
  obtain ⟨E', e, -⟩ := t_heaps (Tn := Tn) (E := E) hN hB ok
  refine ⟨E', Nm, ?_⟩
  unfold f_X5_count
  rw [if_neg (by decide), if_pos rfl, e, bd2_some]
theorem q_c2 (hB : RB B A) : ∃ a b, f_X5_count N Tn B Hs E Nm 2 = some (nI (A 5 0), a, b) := ⟨E, Nm, by unfold f_X5_count; rw [if_neg (by decide), if_neg (by decide), if_pos rfl, hB.2.1]⟩
theorem q_c3 (hN : 1000 ≤ N) (hB : RB B A) (ok : okA A) : ∃ a b, f_X5_count N Tn B Hs E Nm 3 = some (nI (sm (dtA A) (A 0 0)), a, b) := ⟨E, Nm, by
  unfold f_X5_count
  rw [if_neg (by decide), if_neg (by decide), if_neg (by decide), if_pos rfl, s_stuck hN hB ok, bd_some]⟩
theorem q_c4 (hN : 1000 ≤ N) (hB : RB B A) (ok : okA A) : ∃ a b, f_X5_count N Tn B Hs E Nm 4 = some (nI (sm (fun p => A 7 1 - dpA A p) 6), a, b) := ⟨E, Nm, by
  unfold f_X5_count
  rw [if_neg (by decide), if_neg (by decide), if_neg (by decide), if_neg (by decide), if_pos rfl, s_left hN hB ok, bd_some]⟩
theorem q_c5 (hN : 1000 ≤ N) (hB : RB B A) (ok : okA A) : ∃ a b, f_X5_count N Tn B Hs E Nm 5 = some (nI (ntA A 0), a, b) := ⟨E, Nm, by
  unfold f_X5_count
  rw [if_neg (by decide), if_neg (by decide), if_neg (by decide), if_neg (by decide), if_neg (by decide), if_pos rfl, ← enc_0, s_notesOfTheme hN hB ok (by omega), bd_some]⟩
theorem q_c6 (hN : 1000 ≤ N) (hB : RB B A) (ok : okA A) : ∃ a b, f_X5_count N Tn B Hs E Nm 6 = some (nI (ct (fun t => nmA A t != 0) (A 5 0)), a, b) := by
  obtain ⟨Nm', e3, e4⟩ := s_choose hN hB ok Nm
  refine ⟨E, Nm', ?_⟩
  unfold f_X5_count
  rw [if_neg (by decide), if_neg (by decide), if_neg (by decide), if_neg (by decide), if_neg (by decide), if_neg (by decide), if_pos rfl, e3, bd2_some]
theorem q_c7 (hN : 1000 ≤ N) (hB : RB B A) (ok : okA A) : ∃ a b, f_X5_count N Tn B Hs E Nm 7 = some (nI (ct (fun i => nrA A i == 0) (A 0 0)), a, b) := by
  obtain ⟨E', e⟩ := q_alone (Tn := Tn) (E := E) hN hB ok
  refine ⟨E', Nm, ?_⟩
  unfold f_X5_count
  rw [if_neg (by decide), if_neg (by decide), if_neg (by decide), if_neg (by decide), if_neg (by decide), if_neg (by decide), if_neg (by decide), if_pos rfl, e, bd2_some]
theorem q_c8 (hB : RB B A) : ∃ a b, f_X5_count N Tn B Hs E Nm 8 = some (nI (A 7 0), a, b) := ⟨E, Nm, by
  unfold f_X5_count
  rw [if_neg (by decide), if_neg (by decide), if_neg (by decide), if_neg (by decide), if_neg (by decide), if_neg (by decide), if_neg (by decide), if_neg (by decide), if_pos rfl, if_neg (by decide), show ((8 : Int32) - 8).toNatClampNeg = 0 from rfl, hB.2.2.1 0 (by decide)]⟩
theorem q_c9 (hB : RB B A) : ∃ a b, f_X5_count N Tn B Hs E Nm 9 = some (nI (A 7 1), a, b) := ⟨E, Nm, by
  unfold f_X5_count
  rw [if_neg (by decide), if_neg (by decide), if_neg (by decide), if_neg (by decide), if_neg (by decide), if_neg (by decide), if_neg (by decide), if_neg (by decide), if_neg (by decide), if_pos rfl, if_neg (by decide), show ((9 : Int32) - 8).toNatClampNeg = 1 from rfl, hB.2.2.1 1 (by decide)]⟩
theorem q_c10 (hB : RB B A) : ∃ a b, f_X5_count N Tn B Hs E Nm 10 = some (nI (A 7 2), a, b) := ⟨E, Nm, by
  unfold f_X5_count
  rw [if_neg (by decide), if_neg (by decide), if_neg (by decide), if_neg (by decide), if_neg (by decide), if_neg (by decide), if_neg (by decide), if_neg (by decide), if_neg (by decide), if_neg (by decide), if_pos rfl, if_neg (by decide), show ((10 : Int32) - 8).toNatClampNeg = 2 from rfl, hB.2.2.1 2 (by decide)]⟩
theorem q_c11 {kn : Nat} (h : Hs.1 = nI kn) : ∃ a b, f_X5_count N Tn B Hs E Nm 11 = some (nI kn, a, b) := ⟨E, Nm, by
  unfold f_X5_count
  rw [if_neg (by decide), if_neg (by decide), if_neg (by decide), if_neg (by decide), if_neg (by decide), if_neg (by decide), if_neg (by decide), if_neg (by decide), if_neg (by decide), if_neg (by decide), if_neg (by decide), if_pos rfl, h]⟩
theorem q_c12 {n : Nat} (h : Tn 5 0 = nI n) : ∃ a b, f_X5_count N Tn B Hs E Nm 12 = some (nI n, a, b) := ⟨E, Nm, by
  unfold f_X5_count
  rw [if_neg (by decide), if_neg (by decide), if_neg (by decide), if_neg (by decide), if_neg (by decide), if_neg (by decide), if_neg (by decide), if_neg (by decide), if_neg (by decide), if_neg (by decide), if_neg (by decide), if_neg (by decide), if_pos rfl, h]⟩
theorem q_cv (hN : 1000 ≤ N) (hB : RB B A) (ok : okA A) : ∀ k, k < 11 → ∃ a b, f_X5_count N Tn B Hs E Nm (nI k) = some (nI (cv A k), a, b)
  | 0, _ => q_c0 hB
  | 1, _ => q_c1 hN hB ok
  | 2, _ => q_c2 hB
  | 3, _ => q_c3 hN hB ok
  | 4, _ => q_c4 hN hB ok
  | 5, _ => q_c5 hN hB ok
  | 6, _ => q_c6 hN hB ok
  | 7, _ => q_c7 hN hB ok
  | 8, _ => q_c8 hB
  | 9, _ => q_c9 hB
  | 10, _ => q_c10 hB
  | k + 11, h => absurd h (by omega)
theorem q_nx (hB : RB B A) (ok : okA A) (w : Int32) : ∃ a b c, f_X5_note N Tn B Tr E F (nI (A 0 0)) w = some (-1, a, b, c) := ⟨Tr, E, F, by
  unfold f_X5_note
  rw [hasN_f hB ok, bd_some, if0]⟩
theorem q_n0 (hB : RB B A) (ok : okA A) {i : Nat} (hi : i < A 0 0) : ∃ a b c, f_X5_note N Tn B Tr E F (nI i) 0 = some (nI (A 1 i), a, b, c) := ⟨Tr, E, F, by
  have o1 := ok.1
  unfold f_X5_note
  rw [hasN_t hB ok hi, bd_some, if1, if_pos rfl, gdI (by omega) (by decide), clI (by omega), (hB.2.2.2.1 i hi).1]⟩
theorem q_n1 (hB : RB B A) (ok : okA A) {i : Nat} (hi : i < A 0 0) : ∃ a b c, f_X5_note N Tn B Tr E F (nI i) 1 = some (nI (A 2 i), a, b, c) := ⟨Tr, E, F, by
  have o1 := ok.1
  unfold f_X5_note
  rw [hasN_t hB ok hi, bd_some, if1, if_neg (by decide), if_pos rfl, gdI (by omega) (by decide), clI (by omega), (hB.2.2.2.1 i hi).2.1]⟩
theorem q_n2 (hN : 1000 ≤ N) (hB : RB B A) (ok : okA A) {i : Nat} (hi : i < A 0 0) : ∃ a b c, f_X5_note N Tn B Tr E F (nI i) 2 = some (nI (dtA A i), a, b, c) := ⟨Tr, E, F, by
  unfold f_X5_note
  rw [hasN_t hB ok hi, bd_some, if1, if_neg (by decide), if_neg (by decide), if_pos rfl, s_dotsOn hN hB ok hi, bd_some]⟩
theorem q_n3 (hN : 1000 ≤ N) (hB : RB B A) (ok : okA A) {i : Nat} (hi : i < A 0 0) : ∃ a b c, f_X5_note N Tn B Tr E F (nI i) 3 = some (nI (hp A (A 7 0) i), a, b, c) := by
  have o1 := ok.1
  obtain ⟨E', e, hE⟩ := t_heaps (Tn := Tn) (E := E) hN hB ok
  refine ⟨Tr, E', F, ?_⟩
  unfold f_X5_note
  rw [hasN_t hB ok hi, bd_some, if1, if_neg (by decide), if_neg (by decide), if_neg (by decide), if_pos rfl, e, bd2_some, gdI (by omega) (by decide), clI (by omega), hE.2.2 i hi]
theorem q_n4 (hB : RB B A) (ok : okA A) {i : Nat} (hi : i < A 0 0) : ∃ a b c, f_X5_note N Tn B Tr E F (nI i) 4 = some (enc (A 3 i), a, b, c) := ⟨Tr, E, F, by
  have o1 := ok.1
  unfold f_X5_note
  rw [hasN_t hB ok hi, bd_some, if1, if_neg (by decide), if_neg (by decide), if_neg (by decide), if_neg (by decide), if_pos rfl, gdI (by omega) (by decide), clI (by omega), (hB.2.2.2.1 i hi).2.2.1]⟩
theorem q_n5 (hN : 1000 ≤ N) (hB : RB B A) (ok : okA A) {i : Nat} (hi : i < A 0 0) : ∃ a b c, f_X5_note N Tn B Tr E F (nI i) 5 = some (nI (nrA A i), a, b, c) := ⟨Tr, E, F, by
  unfold f_X5_note
  rw [hasN_t hB ok hi, bd_some, if1, if_neg (by decide), if_neg (by decide), if_neg (by decide), if_neg (by decide), if_neg (by decide), if_pos rfl, s_near hN hB ok hi, bd_some]⟩
theorem q_d (hB : RB B A) (ok : okA A) {i p : Nat} (hi : i < A 0 0) (hp : p < 6) : f_X5_dots N Tn B (nI p) (nI i) = some (nI (A 4 (i * 6 + p))) := by
  unfold f_X5_dots
  rw [isPe_t hp, bd_some, if1, hasN_t hB ok hi, bd_some, if1, s_dop hB ok hi hp, bd_some]
theorem q_hx (hN : 1000 ≤ N) (hB : RB B A) (ok : okA A) (w : Int32) : ∃ a, f_X5_heap N Tn B E (nI (nh A (A 7 0))) w = some (-1, a) := by
  have := ok.1
  have := nh_le A (A 7 0)
  obtain ⟨E', e, hE⟩ := t_heaps (Tn := Tn) (E := E) hN hB ok
  refine ⟨E', ?_⟩
  unfold f_X5_heap
  rw [e, bd2_some, hasH_f hE (by omega), bd_some, if0]
theorem q_h1 (hN : 1000 ≤ N) (hB : RB B A) (ok : okA A) {g : Nat} (hg : g < nh A (A 7 0)) : ∃ a, f_X5_heap N Tn B E (nI g) 1 = some (enc (fdA (hp A (A 7 0)) g (A 0 0) (A 0 0)), a) := by
  have := ok.1
  have o3 := ok.2.2.1
  have := nh_le A (A 7 0)
  obtain ⟨E', e, hE⟩ := t_heaps (Tn := Tn) (E := E) hN hB ok
  refine ⟨E', ?_⟩
  unfold f_X5_heap
  rw [e, bd2_some, hasH_t hE (by omega) hg, bd_some, if1, if_neg (by decide), if_pos rfl, s_lowest hN hE ok.1 (hp_b ok (by omega)) (by omega), bd_some]
theorem q_h4 (hN : 1000 ≤ N) (hB : RB B A) (ok : okA A) {g : Nat} (hg : g < nh A (A 7 0)) : ∃ a, f_X5_heap N Tn B E (nI g) 4 = some (nI (hfA A (hp A (A 7 0)) g (A 0 0)), a) := by
  have := ok.1
  have o3 := ok.2.2.1
  have := nh_le A (A 7 0)
  obtain ⟨E', e, hE⟩ := t_heaps (Tn := Tn) (E := E) hN hB ok
  refine ⟨E', ?_⟩
  unfold f_X5_heap
  rw [e, bd2_some, hasH_t hE (by omega) hg, bd_some, if1, if_neg (by decide), if_neg (by decide), if_neg (by decide), if_neg (by decide), if_pos rfl, s_free hN hB ok hE (hp_b ok (by omega)) (by omega), bd_some]
theorem q_h5 (hN : 1000 ≤ N) (hB : RB B A) (ok : okA A) {g : Nat} (hg : g < nh A (A 7 0)) : ∃ a, f_X5_heap N Tn B E (nI g) 5 = some (enc (mdA A (hp A (A 7 0)) g (A 0 0) (A 0 0)).1, a) := by
  have := ok.1
  have o3 := ok.2.2.1
  have := nh_le A (A 7 0)
  obtain ⟨E', e, hE⟩ := t_heaps (Tn := Tn) (E := E) hN hB ok
  refine ⟨E', ?_⟩
  unfold f_X5_heap
  rw [e, bd2_some, hasH_t hE (by omega) hg, bd_some, if1, if_neg (by decide), if_neg (by decide), if_neg (by decide), if_neg (by decide), if_neg (by decide), if_pos rfl, s_middle hN hB ok hE (hp_b ok (by omega)) (by omega), bd_some]
/-- the width of a heap -/
noncomputable def wd (A : tA) (g : Nat) : Nat := Classical.epsilon (fun w => wdA A (hp A (A 7 0)) g (fun _ _ => True) w)
theorem q_h6 (hN : 1000 ≤ N) (hB : RB B A) (ok : okA A) {g : Nat} (hg : g < nh A (A 7 0)) : wdA A (hp A (A 7 0)) g (fun _ _ => True) (wd A g) ∧ ∃ a, f_X5_heap N Tn B E (nI g) 6 = some (nI (wd A g), a) := by
  have := ok.1
  have o3 := ok.2.2.1
  have := nh_le A (A 7 0)
  obtain ⟨E', e, hE⟩ := t_heaps (Tn := Tn) (E := E) hN hB ok
  obtain ⟨w, w1, w2⟩ := s_width hN hB ok hE (hp_b ok (by omega)) (g := g) (by omega)
  have hw : wdA A (hp A (A 7 0)) g (fun _ _ => True) (wd A g) := Classical.epsilon_spec (p := fun w => wdA A (hp A (A 7 0)) g (fun _ _ => True) w) ⟨w, w1⟩
  refine ⟨hw, E', ?_⟩
  unfold f_X5_heap
  rw [e, bd2_some, hasH_t hE (by omega) hg, bd_some, if1, if_neg (by decide), if_neg (by decide), if_neg (by decide), if_neg (by decide), if_neg (by decide), if_neg (by decide), if_pos rfl, w2, bd_some, wd_uniq w1 hw]
theorem q_tx (hB : RB B A) (ok : okA A) (w : Int32) : ∃ a b, f_X5_theme N Tn B E Nm (nI (A 5 0)) w = some (-1, a, b) := ⟨E, Nm, by
  unfold f_X5_theme
  rw [hasT_f hB ok, bd_some, if0]⟩
theorem q_t0 (hN : 1000 ≤ N) (hB : RB B A) (ok : okA A) {t : Nat} (ht : t < A 5 0) : ∃ a b, f_X5_theme N Tn B E Nm (nI t) 0 = some (nI (ntA A (t + 1)), a, b) := ⟨E, Nm, by
  have o2 := ok.2.1
  unfold f_X5_theme
  rw [hasT_t hB ok ht, bd_some, if1, if_pos rfl, ← enc_s, s_notesOfTheme hN hB ok (by omega), bd_some]⟩
theorem q_t2 (hN : 1000 ≤ N) (hB : RB B A) (ok : okA A) {t : Nat} (ht : t < A 5 0) : ∃ a b, f_X5_theme N Tn B E Nm (nI t) 2 = some (enc (nmA A t), a, b) := by
  have o2 := ok.2.1
  obtain ⟨Nm', e3, e4⟩ := s_choose hN hB ok Nm
  refine ⟨E, Nm', ?_⟩
  unfold f_X5_theme
  rw [hasT_t hB ok ht, bd_some, if1, if_neg (by decide), if_neg (by decide), if_pos rfl, e3, bd2_some, gdI (by omega) (by decide), clI (by omega), e4 t ht]
theorem q_t3 (hN : 1000 ≤ N) (hB : RB B A) (ok : okA A) {t : Nat} (ht : t < A 5 0) : ∃ a b, f_X5_theme N Tn B E Nm (nI t) 3 = some (nI (rkA A t), a, b) := ⟨E, Nm, by
  unfold f_X5_theme
  rw [hasT_t hB ok ht, bd_some, if1, if_neg (by decide), if_neg (by decide), if_neg (by decide), if_pos rfl, s_rank hN hB ok ht, bd_some]⟩
theorem q_t5 (hN : 1000 ≤ N) (hB : RB B A) (ok : okA A) {t : Nat} (ht : t < A 5 0) : ∃ a b, f_X5_theme N Tn B E Nm (nI t) 5 = some (nI (6 - vtA A t 0), a, b) := ⟨E, Nm, by
  unfold f_X5_theme
  rw [hasT_t hB ok ht, bd_some, if1, if_neg (by decide), if_neg (by decide), if_neg (by decide), if_neg (by decide), if_neg (by decide), if_pos rfl, s_voters hN hB ok ht, bd_some]⟩
theorem q_v (hN : 1000 ≤ N) (hB : RB B A) (ok : okA A) {t k : Nat} (ht : t < A 5 0) (hk : k < 10) : f_X5_votes N Tn B (nI t) (nI k) = some (nI (vtA A t (k + 1))) := by
  unfold f_X5_votes
  rw [hasT_t hB ok ht, bd_some, if1, isNa_t hk, bd_some, if1, ← enc_s k, s_votesFor hN hB ok ht (by omega), bd_some]
theorem q_near_x (hB : RB B A) (ok : okA A) : f_X5_nearest N Tn B (nI (A 0 0)) = some (-1) := by
  unfold f_X5_nearest
  rw [hasN_f hB ok, bd_some, if0]
theorem q_near (hN : 1000 ≤ N) (hB : RB B A) (ok : okA A) {i : Nat} (hi : i < A 0 0) : ∃ b, b ≤ A 5 0 ∧ f_X5_nearest N Tn B (nI i) = some (enc b) := by
  obtain ⟨b, l, h1, -, h2⟩ := s_nearest hN hB ok (Tn := Tn) hi
  refine ⟨b, h1, ?_⟩
  unfold f_X5_nearest
  rw [hasN_t hB ok hi, bd_some, if1, h2]
end QU
