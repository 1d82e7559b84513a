/-! themes: make, merge, belong, vote -/
theorem vt_up {A : tA} {t p c k : Nat} (hp : p < 6) : vtA (upA A 6 (t * 6 + p) k) t c + (if (A 6 (t * 6 + p) == c) = true then 1 else 0) = vtA A t c + (if (k == c) = true then 1 else 0) := by
  have e : vtA (upA A 6 (t * 6 + p) k) t c = sm (fun q => if q = p then (if (k == c) = true then 1 else 0) else (if (A 6 (t * 6 + q) == c) = true then 1 else 0)) 6 := sm_congr (fun q hq => by
    show (if (upA A 6 (t * 6 + p) k 6 (t * 6 + q) == c) = true then 1 else 0) = _
    by_cases z : q = p
    · rw [if_pos z, z, upA_s]
    · rw [if_neg z, upA_o _ _ (Or.inr (by omega))])
  rw [e]
  exact sm_pt (f := fun q => if (A 6 (t * 6 + q) == c) = true then 1 else 0) hp
section TH
variable {N : Nat} {Tn B Tr E F Nm : tS} {Hs : tH} {A : tA} {kn : Nat} {As : Nat → tA} {p1 p2 : Int32}
theorem th_make (hN : 1000 ≤ N) (hB : RB B A) (hi : inv A) (hH : RHx Hs kn As) {g : Nat} (hg : g ≤ nh A (A 7 0)) {fn : Int32} (hn : (fn = 1 ∧ g = nh A (A 7 0)) ∨ (fn = 0 ∧ g < nh A (A 7 0))) : Rt (f_L_themes_71 N Tn p1 p2 (nI (A 5 0)) (nI g) fn B Hs Tr E F Nm) (fun q => q.1 = 1 ∧ oA q.2.1 q.2.2.1 A kn As) := by
  have ok := hi.1
  have o1 := ok.1
  have o2 := ok.2.1
  have g162 : ∀ B Hs Tr E F Nm, oA B Hs A kn As → Rt (f_L_themes_162 N Tn p1 p2 B Hs Tr E F Nm) (fun q => q.1 = 1 ∧ oA q.2.1 q.2.2.1 A kn As) := fun B Hs Tr E F Nm h => rt_ok ⟨rfl, h⟩
  unfold f_L_themes_71 f_L_themes_89 f_L_themes_132
  rcases hn with ⟨rfl, h⟩ | ⟨rfl, h⟩
  · subst h
    obtain ⟨E', e⟩ := t_make_x (Tn := Tn) (E := E) (Hs := Hs) hN hB ok
    rw [if1, e, bd4_some, if1, if_pos rfl, if_pos (show (-1 : Int32) < 0 by decide)]
    exact g162 _ _ _ _ _ _ (Or.inl ⟨hB, hH⟩)
  rw [if0]
  refine rt2 (q_h4 hN hB ok h) (fun E => ?_)
  have hfl : hfA A (hp A (A 7 0)) g (A 0 0) ≤ A 0 0 := ct_le _ _
  by_cases q : hfA A (hp A (A 7 0)) g (A 0 0) = 0
  · obtain ⟨E', e⟩ := t_make_0 (Tn := Tn) (E := E) (Hs := Hs) hN hB ok h q
    rw [e, bd4_some, if0, q, if_pos (show nI 0 = 0 from rfl), if_pos rfl, if_pos (show (-4 : Int32) < 0 by decide)]
    exact g162 _ _ _ _ _ _ (Or.inl ⟨hB, hH⟩)
  have nf : ¬ nI (hfA A (hp A (A 7 0)) g (A 0 0)) = 0 := fun w => q (nI_inj (by omega) (by omega) (show _ = nI 0 from w))
  by_cases q8 : A 5 0 = 8
  · obtain ⟨E', e⟩ := t_make_f (Tn := Tn) (E := E) (Hs := Hs) hN hB ok h q q8
    rw [e, bd4_some, if0, if_neg nf, if_pos (show nI (A 5 0) = 8 by rw [q8]; rfl), if_pos rfl, if_pos (show (-3 : Int32) < 0 by decide)]
    exact g162 _ _ _ _ _ _ (Or.inl ⟨hB, hH⟩)
  · obtain ⟨B', Hs', E', e, ha⟩ := t_make (Tn := Tn) (E := E) hN hB hi hH h q (by omega)
    have ha0 := ha
    obtain ⟨hB', hi', -⟩ := ha
    have hlt : A 5 0 < mkA' A (hp A (A 7 0)) g 5 0 := by rw [mkA_5]; omega
    rw [e, bd4_some, if0, if_neg nf, if_neg (show ¬ nI (A 5 0) = 8 from fun w => q8 (nI_inj (by omega) (by omega) (show _ = nI 8 from w))), if_pos rfl, lt0F (by omega)]
    refine rt3 (q_t0 hN hB' hi'.1 hlt) (fun E Nm => ?_)
    rw [nt_mk ok, if_pos rfl]
    refine rt3 (q_t5 hN hB' hi'.1 hlt) (fun E Nm => ?_)
    rw [vt_mk, if_pos (show nI (6 - 6) = 0 from rfl)]
    exact g162 _ _ _ _ _ _ (Or.inr ⟨_, ha0⟩)
theorem th_merge (hN : 1000 ≤ N) (hB : RB B A) (hi : inv A) (hH : RHx Hs kn As) {t o : Nat} (ht : t ≤ A 5 0) (ho : o ≤ A 5 0) {fn : Int32} (hn : (fn = 1 ∧ t = A 5 0) ∨ (fn = 0 ∧ t < A 5 0)) : Rt (if fn = 0 then (if nI o = nI (A 5 0) then f_L_themes_195 N Tn p1 p2 (nI (A 5 0)) (nI t) fn (nI o) B Hs Tr E F Nm else (bd3 (f_X5_theme N Tn B E Nm (nI t) 0) (fun r6 E6 Nm6 => (bd3 (f_X5_theme N Tn B E6 Nm6 (nI o) 0) (fun r7 E7 Nm7 => f_L_themes_214 N Tn p1 p2 (nI (A 5 0)) (nI t) fn (nI o) (r6 + r7) B Hs Tr E7 F Nm7))))) else f_L_themes_195 N Tn p1 p2 (nI (A 5 0)) (nI t) fn (nI o) B Hs Tr E F Nm) (fun q => q.1 = 1 ∧ oA q.2.1 q.2.2.1 A kn As) := by
  have ok := hi.1
  have o1 := ok.1
  have o2 := ok.2.1
  have same : (nI (A 5 0) : Int32) - 0 = nI (A 5 0) := by rw [li_0, pk_sub (by omega)]; rfl
  unfold f_L_themes_195
  rcases hn with ⟨rfl, h⟩ | ⟨rfl, h⟩
  · subst h
    unfold f_L_themes_214 f_L_themes_235 f_L_themes_253 f_L_themes_280 f_L_themes_285
    rw [if1, t_merge_1 hB ok, bd3_some, if1, if_pos rfl]
    refine rt3 (q_c2 hB) (fun E Nm => ?_)
    rw [if1, same, if_pos rfl]
    exact rt_ok ⟨rfl, Or.inl ⟨hB, hH⟩⟩
  rw [if0]
  by_cases qo : o = A 5 0
  · subst qo
    unfold f_L_themes_214 f_L_themes_235 f_L_themes_253 f_L_themes_280 f_L_themes_285
    rw [if_pos rfl, t_merge_2 hB ok h, bd3_some, if0, if_pos rfl, if_pos rfl]
    refine rt3 (q_c2 hB) (fun E Nm => ?_)
    rw [if0, if_pos rfl, same, if_pos rfl]
    exact rt_ok ⟨rfl, Or.inl ⟨hB, hH⟩⟩
  rw [eqF qo (by omega) (by omega)]
  refine rt3 (q_t0 hN hB ok h) (fun E Nm => ?_)
  refine rt3 (q_t0 hN hB ok (t := o) (by omega)) (fun E Nm => ?_)
  unfold f_L_themes_214 f_L_themes_253 f_L_themes_280 f_L_themes_285
  by_cases qs : t = o
  · subst qs
    rw [t_merge_s hB ok h, bd3_some, if0, eqF qo (by omega) (by omega), if_pos rfl, if_pos rfl]
    refine rt3 (q_c2 hB) (fun E Nm => ?_)
    rw [if0, eqF qo (by omega) (by omega), if_pos rfl, same, if_pos rfl]
    exact rt_ok ⟨rfl, Or.inl ⟨hB, hH⟩⟩
  · obtain ⟨B', Hs', A', e, ha, h5⟩ := t_merge (Tn := Tn) hN hB hi hH h (b := o) (by omega) qs
    have ha0 := ha
    obtain ⟨hB', hi', -⟩ := ha
    rw [e, bd3_some, if0, eqF qo (by omega) (by omega), eqF qs (by omega) (by omega), nI_add, if_pos rfl]
    refine rt3 (q_c2 hB') (fun E Nm => ?_)
    rw [if0, eqF qo (by omega) (by omega), eqF qs (by omega) (by omega), h5, li_1, pk_sub (by omega), if_pos rfl]
    exact rt_ok ⟨rfl, Or.inr ⟨_, ha0⟩⟩
theorem th_bel (hN : 1000 ≤ N) (hB : RB B A) (hi : inv A) (hH : RHx Hs kn As) {i : Nat} (hin : i ≤ A 0 0) {x8 : Int32} (hx : (∃ c, c ≤ A 5 0 ∧ x8 = enc c) ∨ x8 = nI (A 5 0)) : Rt (f_L_themes_334 N Tn p1 p2 (nI (A 5 0)) (nI i) x8 B Hs Tr E F Nm) (fun q => q.1 = 1 ∧ oA q.2.1 q.2.2.1 A kn As) := by
  have ok := hi.1
  have o1 := ok.1
  have o2 := ok.2.1
  unfold f_L_themes_334 f_L_themes_352
  refine rt3 (q_c0 hB) (fun E Nm => ?_)
  by_cases q : i = A 0 0
  · subst q
    rw [if_pos rfl]
    unfold f_L_themes_357 f_L_themes_375
    rw [if1, t_bel_n hB ok, bd3_some, if1, if_pos rfl]
    exact rt_ok ⟨rfl, Or.inl ⟨hB, hH⟩⟩
  have h : i < A 0 0 := by omega
  rw [eqF q (by omega) (by omega)]
  by_cases qx : x8 = nI (A 5 0)
  · subst qx
    rw [if_pos rfl]
    unfold f_L_themes_357 f_L_themes_375
    rw [if1, t_bel_t hB ok h, bd3_some, if1, if_pos rfl]
    exact rt_ok ⟨rfl, Or.inl ⟨hB, hH⟩⟩
  rw [if_neg qx]
  obtain ⟨c, hc, rfl⟩ := hx.resolve_right qx
  have b3 := (ok.2.2.2.2.2.1 i h).2.2.1
  unfold f_L_themes_357
  rw [if0]
  refine rt4 (q_n4 hB ok h) (fun Tr E F => ?_)
  unfold f_L_themes_375
  by_cases q3 : A 3 i = c
  · rw [t_bel_s hB ok h hc q3, bd3_some, if0, q3, if_pos rfl, if_pos rfl]
    exact rt_ok ⟨rfl, Or.inl ⟨hB, hH⟩⟩
  · obtain ⟨B', Hs', e, ha⟩ := t_bel (Tn := Tn) hN hB hi hH h hc q3
    have ha0 := ha
    obtain ⟨hB', hi', -⟩ := ha
    have h0 : drA (upA A 3 i c) (A 3 i) 0 0 = A 0 0 := by rw [drA_0, upA_o _ _ (Or.inl (by decide))]
    have h5 := drA_5 (upA A 3 i c) (A 3 i)
    rw [upA_o _ _ (Or.inl (by decide))] at h5
    obtain ⟨k1, k2⟩ := bel_3 (A := A) (i := i) (c := c) q3
    have b3' := (hi'.1.2.2.2.2.2.1 i (by omega)).2.2.1
    have o2' := hi'.1.2.1
    have fin : ∀ B Hs Tr E F Nm, oA B Hs A kn As → Rt (f_L_themes_470 N Tn p1 p2 (nI (A 5 0)) (nI (drA (upA A 3 i c) (A 3 i) 5 0)) B Hs Tr E F Nm) (fun q => q.1 = 1 ∧ oA q.2.1 q.2.2.1 A kn As) := by
      intro B Hs Tr E F Nm hh
      unfold f_L_themes_470
      rw [if_neg (fun w => by
        rw [I_lt, m1_T (by omega), nI_T (by omega)] at w
        omega)]
      exact rt_ok ⟨rfl, hh⟩
    rw [e, bd3_some, if0, if_neg (fun w => q3 ((enc_eq (by omega) (by omega)).mp w))]
    refine rt3 (q_c2 hB') (fun E Nm => ?_)
    rw [if_pos rfl]
    by_cases qc : c = 0
    · rw [if_pos (show enc c = -5 by rw [qc]; rfl)]
      refine rt4 (q_n4 hB' hi'.1 (i := i) (by omega)) (fun Tr E F => ?_)
      rw [k1 qc, if_pos (show enc 0 = -5 from rfl)]
      exact fin _ _ _ _ _ _ (Or.inr ⟨_, ha0⟩)
    · rw [if_neg (fun w => qc ((enc_n5 (by omega)).mp w))]
      refine rt4 (q_n4 hB' hi'.1 (i := i) (by omega)) (fun Tr E F => ?_)
      have := k2 qc
      rw [if_neg (show ¬ enc (drA (upA A 3 i c) (A 3 i) 3 i) < 0 by rw [I_lt, I_0, enc_T (by omega)]; split <;> omega)]
      exact fin _ _ _ _ _ _ (Or.inr ⟨_, ha0⟩)
theorem th_vote (hN : 1000 ≤ N) (hB : RB B A) (hi : inv A) (hH : RHx Hs kn As) {t p k : Nat} (ht : t ≤ A 5 0) (hp : p < 7) (hk : k < 12) {fn : Int32} (hn : (fn = 1 ∧ t = A 5 0) ∨ (fn = 0 ∧ t < A 5 0)) : Rt (if 0 ≤ (nI k - (1 : Int32)) then f_L_themes_509 N Tn p1 p2 (nI t) (nI p) fn (nI k - 1) (nI k - 1) B Hs Tr E F Nm else f_L_themes_509 N Tn p1 p2 (nI t) (nI p) fn (nI k - 1) (-5) B Hs Tr E F Nm) (fun q => q.1 = 1 ∧ oA q.2.1 q.2.2.1 A kn As) := by
  have ok := hi.1
  have o1 := ok.1
  have o2 := ok.2.1
  -- whichever name it is: refused calls
  have no : ∀ (x7 x8 x9 : Int32), x9 ≠ 0 → (t = A 5 0 ∨ p = 6) → ∀ B1 Hs1 Tr E F Nm, B1 = B → Hs1 = Hs → Rt (f_L_themes_559 N Tn p1 p2 (nI t) (nI p) fn x7 x8 x9 0 B1 Hs1 Tr E F Nm) (fun q => q.1 = 1 ∧ oA q.2.1 q.2.2.1 A kn As) := by
    intro x7 x8 x9 h9 hno B1 Hs1 Tr E F Nm eB eH
    subst eB eH
    have end_ : ∀ (z : Int32) Tr E F Nm, Rt (f_L_themes_577 N Tn p1 p2 (nI t) (nI p) x7 x8 x9 0 z B1 Hs1 Tr E F Nm) (fun q => q.1 = 1 ∧ oA q.2.1 q.2.2.1 A kn As) := by
      intro z Tr E F Nm
      unfold f_L_themes_577
      have e : f_X5_vote N Tn B1 Hs1 Nm (nI p) (nI t) x8 = some (-1, B1, Hs1, Nm) := by
        by_cases q6 : p = 6
        · subst q6
          exact t_vote_p _ _
        · have ht' : t = A 5 0 := by omega
          subst ht'
          exact t_vote_t hB ok (by omega) _
      rw [e, bd4_some, if_neg h9, if_pos rfl]
      exact rt_ok ⟨rfl, Or.inl ⟨hB, hH⟩⟩
    unfold f_L_themes_559
    rcases hn with ⟨rfl, h⟩ | ⟨rfl, h⟩
    · rw [if1]
      exact end_ _ _ _ _ _
    · rw [if0]
      refine rt3 (q_t5 hN hB ok h) (fun E Nm => ?_)
      exact end_ _ _ _ _ _
  -- the call itself
  have go : ∀ (x8 : Int32), ((k ≤ 10 ∧ x8 = enc k) ∨ (k = 11 ∧ x8 = nI 10)) → Rt (f_L_themes_509 N Tn p1 p2 (nI t) (nI p) fn (nI k - 1) x8 B Hs Tr E F Nm) (fun q => q.1 = 1 ∧ oA q.2.1 q.2.2.1 A kn As) := by
    intro x8 h8
    unfold f_L_themes_509 f_L_themes_523
    by_cases hno : t = A 5 0 ∨ p = 6
    · have n1 : Rt (f_L_themes_528 N Tn p1 p2 (nI t) (nI p) fn (nI k - 1) x8 1 B Hs Tr E F Nm) (fun q => q.1 = 1 ∧ oA q.2.1 q.2.2.1 A kn As) := by
        unfold f_L_themes_528 f_L_themes_547
        rw [if1]
        exact no _ _ _ (by decide) hno _ _ _ _ _ _ rfl rfl
      rcases hn with ⟨rfl, h⟩ | ⟨rfl, h⟩
      · rw [if1]
        exact n1
      · rw [if0, if_pos (show nI p = 6 by rw [show p = 6 by omega]; rfl)]
        exact n1
    have htl : t < A 5 0 := by omega
    have hp6 : p < 6 := by omega
    have hfn : fn = 0 := by
      rcases hn with ⟨-, h⟩ | ⟨h, -⟩
      · omega
      · exact h
    subst hfn
    rw [if0, if_neg (show ¬ nI p = 6 from fun w => by
      have := nI_inj (by omega) (by omega) (show nI p = nI 6 from w)
      omega)]
    -- behind the votes
    have k559 : ∀ (x10 : Int32), (∀ m, k = m + 1 → m < 10 → x10 = nI (vtA A t k)) → ∀ Tr E F Nm, Rt (f_L_themes_559 N Tn p1 p2 (nI t) (nI p) 0 (nI k - 1) x8 0 x10 B Hs Tr E F Nm) (fun q => q.1 = 1 ∧ oA q.2.1 q.2.2.1 A kn As) := by
      intro x10 h10 Tr E F Nm
      unfold f_L_themes_559
      rw [if0]
      refine rt3 (q_t5 hN hB ok htl) (fun E Nm => ?_)
      unfold f_L_themes_577
      rcases h8 with ⟨hk10, rfl⟩ | ⟨rfl, rfl⟩
      · have nk : ¬ (nI k - 1 : Int32) = 10 := fun w => by
          have := congrArg Int32.toInt w
          rw [m1_T (by omega)] at this
          have h1 : (10 : Int32).toInt = 10 := by decide
          omega
        by_cases qs : A 6 (t * 6 + p) = k
        · rw [t_vote_s hB ok hp6 htl hk10 qs, bd4_some, if0, if_neg nk, if_pos rfl]
          refine rt3 (q_t5 hN hB ok htl) (fun E Nm => ?_)
          rw [if_pos rfl]
          exact rt_ok ⟨rfl, Or.inl ⟨hB, hH⟩⟩
        obtain ⟨B', Hs', Nm', e, ha⟩ := t_vote (Tn := Tn) (Nm := Nm) hN hB hi hH hp6 htl hk10 qs
        have ha0 := ha
        obtain ⟨hB', hi', -⟩ := ha
        have h5 : upA A 6 (t * 6 + p) k 5 0 = A 5 0 := upA_o _ _ (Or.inl (by decide))
        have nl := nmA_le (upA A 6 (t * 6 + p) k) t
        have vu := vt_up (A := A) (t := t) (p := p) (k := k) (c := k) hp6
        rw [if_neg (show ¬ (A 6 (t * 6 + p) == k) = true by rw [beq_iff_eq]; exact qs), if_pos (show (k == k) = true by rw [beq_iff_eq])] at vu
        have v6 : vtA (upA A 6 (t * 6 + p) k) t k ≤ 6 := ct_le _ _
        have fin : ∀ (t0 : Int32) B'' Hs'' Tr E F Nm, B'' = B' → Hs'' = Hs' → Rt (f_L_themes_685 N Tn p1 p2 (nI t) (nI k - 1) x10 (nI (6 - vtA A t 0)) t0 t0 B'' Hs'' Tr E F Nm) (fun q => q.1 = 1 ∧ oA q.2.1 q.2.2.1 A kn As) := by
          intro t0 B'' Hs'' Tr E F Nm eB eH
          subst eB eH
          unfold f_L_themes_685 f_L_themes_725
          rw [if_pos rfl]
          cases k with
          | zero =>
            rw [if_neg (show ¬ (0 : Int32) ≤ nI 0 - 1 by decide)]
            refine rt3 (q_t5 hN hB' hi'.1 (t := t) (by omega)) (fun E Nm => ?_)
            rw [li_1, pk_sub (by omega), show 6 - vtA (upA A 6 (t * 6 + p) 0) t 0 = 6 - vtA A t 0 - 1 by omega, if_pos rfl]
            exact rt_ok ⟨rfl, Or.inr ⟨_, ha0⟩⟩
          | succ m =>
            rw [show nI (m + 1) - (1 : Int32) = nI m by rw [li_1, pk_sub (by omega)]; rfl, ge0T (by omega)]
            refine rt1 (q_v hN hB' hi'.1 (t := t) (k := m) (by omega) (by omega)) ?_
            rw [h10 m rfl (by omega), nI_s, show vtA (upA A 6 (t * 6 + p) (m + 1)) t (m + 1) = vtA A t (m + 1) + 1 by omega, if_pos rfl]
            exact rt_ok ⟨rfl, Or.inr ⟨_, ha0⟩⟩
        rw [e, bd4_some, if0, if_neg nk]
        by_cases qn : nmA (upA A 6 (t * 6 + p) k) t = 0
        · rw [if_pos qn, if_neg (show ¬ nI 10 = -5 by decide)]
          refine rt3 (q_t2 hN hB' hi'.1 (t := t) (by omega)) (fun E Nm => ?_)
          rw [qn, if_pos (show enc 0 = -5 from rfl)]
          exact fin _ _ _ _ _ _ _ rfl rfl
        · have n5 : ¬ enc (nmA (upA A 6 (t * 6 + p) k) t) = -5 := fun w => qn ((enc_n5 (by omega)).mp w)
          rw [if_neg qn, if_neg n5]
          refine rt3 (q_t2 hN hB' hi'.1 (t := t) (by omega)) (fun E Nm => ?_)
          rw [if_neg n5]
          refine rt3 (q_t2 hN hB' hi'.1 (t := t) (by omega)) (fun E Nm => ?_)
          exact fin _ _ _ _ _ _ _ rfl rfl
      · rw [t_vote_b hB ok hp6 htl, bd4_some, if0, if_pos (show (nI 11 - 1 : Int32) = 10 by decide), if_pos rfl]
        exact rt_ok ⟨rfl, Or.inl ⟨hB, hH⟩⟩
    unfold f_L_themes_528 f_L_themes_547
    rw [if0]
    cases k with
    | zero =>
      rw [if_pos (show (nI 0 - 1 : Int32) < 0 by decide)]
      exact k559 _ (fun m hm => by omega) _ _ _ _
    | succ m =>
      have em : nI (m + 1) - (1 : Int32) = nI m := by rw [li_1, pk_sub (by omega)]; rfl
      rw [if_neg (show ¬ (nI (m + 1) - 1 : Int32) < 0 by rw [em]; exact nI_pos (by omega))]
      by_cases q10 : m = 10
      · rw [if_pos (show (nI (m + 1) - 1 : Int32) = 10 by rw [em, q10]; rfl)]
        exact k559 _ (fun m' hm hl => by omega) _ _ _ _
      · rw [if_neg (show ¬ (nI (m + 1) - 1 : Int32) = 10 from fun w => by
          rw [em] at w
          exact q10 (nI_inj (by omega) (by omega) (show nI m = nI 10 from w)))]
        refine rt1 (show f_X5_votes N Tn B (nI t) (nI (m + 1) - 1) = some (nI (vtA A t (m + 1))) by rw [em]; exact q_v hN hB ok htl (by omega)) ?_
        exact k559 _ (fun m' hm hl => rfl) _ _ _ _
  cases k with
  | zero =>
    rw [if_neg (show ¬ (0 : Int32) ≤ nI 0 - 1 by decide)]
    exact go (-5) (Or.inl ⟨by omega, rfl⟩)
  | succ m =>
    have em : nI (m + 1) - (1 : Int32) = nI m := by rw [li_1, pk_sub (by omega)]; rfl
    rw [if_pos (show (0 : Int32) ≤ nI (m + 1) - 1 by rw [em]; exact nI_pos' (by omega))]
    refine go _ ?_
    by_cases q : m + 1 ≤ 10
    · exact Or.inl ⟨q, by rw [em, enc_s]⟩
    · have e10 : m = 10 := by omega
      subst e10
      exact Or.inr ⟨rfl, em⟩
theorem t_themes (hN : 1000 ≤ N) (hB : RB B A) (hi : inv A) (hH : RHx Hs kn As) {how : Nat} (hhow : how < 5) (y : Int32) : Rt (f_L_themes N Tn B Hs Tr E F Nm (nI how) y) (fun q => q.1 = 1 ∧ oA q.2.1 q.2.2.1 A kn As) := by
  have ok := hi.1
  have o1 := ok.1
  have o2 := ok.2.1
  have nml := nh_le A (A 7 0)
  unfold f_L_themes
  refine rt3 (q_c2 hB) (fun E Nm => ?_)
  rw [nI_s]
  have hl := lw_lt y (n := A 5 0 + 1) (by omega)
  refine rt1 (t_low N _ (by omega) (by omega)) ?_
  have h7 := lw_lt (y >>> ((4 : Int32) &&& 31)) (n := 7) (by omega)
  refine rt1 (t_low N _ (n := 7) (by omega) (by omega)) ?_
  generalize lw y (A 5 0 + 1) = t at *
  generalize lw (y >>> ((4 : Int32) &&& 31)) 7 = p at *
  have k36 : ∀ fn : Int32, ((fn = 1 ∧ t = A 5 0) ∨ (fn = 0 ∧ t < A 5 0)) → Rt (f_L_themes_36 N Tn (nI how) y (nI (A 5 0)) (nI t) (nI p) fn B Hs Tr E F Nm) (fun q => q.1 = 1 ∧ oA q.2.1 q.2.2.1 A kn As) := by
    intro fn hn
    unfold f_L_themes_36
    by_cases q2 : how < 2
    · rw [if_neg (show ¬ (2 : Int32) ≤ nI how by rw [li_2, I_le, nI_T (by omega), nI_T (by omega)]; omega)]
      refine rt3 (q_c1 hN hB ok) (fun E Nm => ?_)
      rw [nI_s]
      have hg := lw_lt y (n := nh A (A 7 0) + 1) (by omega)
      refine rt1 (t_low N _ (by omega) (by omega)) ?_
      refine rt3 (q_c1 hN hB ok) (fun E Nm => ?_)
      by_cases q : lw y (nh A (A 7 0) + 1) = nh A (A 7 0)
      · rw [eqT q]
        exact th_make hN hB hi hH (by omega) (Or.inl ⟨rfl, q⟩)
      · rw [eqF q (by omega) (by omega)]
        exact th_make hN hB hi hH (by omega) (Or.inr ⟨rfl, by omega⟩)
    rw [if_pos (show (2 : Int32) ≤ nI how by rw [li_2, I_le, nI_T (by omega), nI_T (by omega)]; omega)]
    by_cases q3 : how = 2
    · rw [if_pos (show nI how = 2 by rw [q3]; rfl), nI_s]
      have ho := lw_lt (y >>> ((4 : Int32) &&& 31)) (n := A 5 0 + 1) (by omega)
      refine rt1 (t_low N _ (by omega) (by omega)) ?_
      exact th_merge hN hB hi hH (by omega) (by omega) hn
    rw [if_neg (show ¬ nI how = 2 from fun w => q3 (nI_inj (by omega) (by omega) (show _ = nI 2 from w)))]
    by_cases q4 : how = 3
    · rw [if_pos (show nI how = 3 by rw [q4]; rfl)]
      refine rt3 (q_c0 hB) (fun E Nm => ?_)
      rw [nI_s]
      have hin := lw_lt (y >>> ((7 : Int32) &&& 31)) (n := A 0 0 + 1) (by omega)
      refine rt1 (t_low N _ (by omega) (by omega)) ?_
      refine rt1 (t_low N _ (n := 4) (by omega) (by omega)) ?_
      refine rt_if (fun _ => ?_) (fun _ => ?_)
      · exact th_bel hN hB hi hH (by omega) (Or.inl ⟨0, by omega, rfl⟩)
      · refine th_bel hN hB hi hH (by omega) ?_
        by_cases q : t = A 5 0
        · exact Or.inr (by rw [q])
        · exact Or.inl ⟨t + 1, by omega, rfl⟩
    rw [if_neg (show ¬ nI how = 3 from fun w => q4 (nI_inj (by omega) (by omega) (show _ = nI 3 from w)))]
    have h12 := lw_lt (y >>> ((7 : Int32) &&& 31)) (n := 12) (by omega)
    refine rt1 (t_low N _ (n := 12) (by omega) (by omega)) ?_
    exact th_vote hN hB hi hH (by omega) h7 h12 hn
  by_cases q : t = A 5 0
  · rw [eqT q]
    exact k36 1 (Or.inl ⟨rfl, q⟩)
  · rw [eqF q (by omega) (by omega)]
    exact k36 0 (Or.inr ⟨rfl, by omega⟩)
end TH
