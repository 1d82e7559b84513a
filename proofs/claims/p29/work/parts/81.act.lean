/-! acts -/
theorem oA_R {Tn B' Sn : tS} {Hs' : tH} {A : tA} {kn n : Nat} {As : Nat → tA} {sn : Option tA} (h : oA B' Hs' A kn As) (hi : inv A) (hK : RK Tn Sn sn) (hT : RT Tn n) : oR Tn B' Hs' Sn A kn As sn := by
  rcases h with ⟨h1, h2⟩ | ⟨A', h1, h2, h3⟩
  · exact ⟨n, Or.inl ⟨h1, hi, h2, hK, hT⟩⟩
  · exact ⟨n, Or.inr ⟨A', h1, h2, h3, hK, hT⟩⟩
section AC
variable {N : Nat} {Tn B Sn Tx Tr E F Nm Bt : tS} {Hs : tH} {A : tA} {kn n : Nat} {As : Nat → tA} {sn : Option tA} {p1 p2 : Int32}
theorem a_set (hN : 1000 ≤ N) (hR : RC Tn B Hs Sn A kn As sn n) {j v : Nat} (hj : j < 4) (hv : v < 23) {fb : Int32} (hb : j < 3 → (fb = 0 ∧ (if j = 0 then v ≤ 20 else 1 ≤ v ∧ v ≤ 9)) ∨ (fb = 1 ∧ ¬ (if j = 0 then v ≤ 20 else 1 ≤ v ∧ v ≤ 9))) : Rt (f_L_acts_361 N p1 p2 (nI j) (nI v) fb Tn B Hs Tx Tr E F Nm Bt) (fun q => q.1 = 1 ∧ oR q.2.1 q.2.2.1 q.2.2.2.1 Sn A kn As sn) := by
  obtain ⟨hB, hi, hH, hK, hT⟩ := hR
  have ok := hi.1
  unfold f_L_acts_361 f_L_acts_382 f_L_acts_426
  by_cases q : j = 3
  · subst q
    rw [if_pos (show nI 3 = 3 from rfl), t_set_w, bd3_some, if_pos (show nI 3 = 3 from rfl), if_pos rfl]
    exact rt_ok ⟨rfl, oA_R (Or.inl ⟨hB, hH⟩) hi hK hT⟩
  have n3 : ¬ nI j = 3 := fun w => q (nI_inj (by omega) (by omega) (show nI j = nI 3 from w))
  have ec : cv A (j + 8) = A 7 j := rfl
  have hcv := q_cv (Tn := Tn) (Hs := Hs) (E := E) (Nm := Nm) hN hB ok (j + 8) (by omega)
  rw [if_neg n3, show (8 : Int32) + nI j = nI (j + 8) by rw [show (8 : Int32) = nI 8 from rfl, nI_add, Nat.add_comm]]
  refine rt3 hcv (fun E Nm => ?_)
  rw [ec]
  have b7 : A 7 j ≤ 20 := by
    have o3 := ok.2.2.1
    have o4 := ok.2.2.2.1
    have o5 := ok.2.2.2.2.1
    match j, (show j < 3 by omega) with
    | 0, _ => exact o3
    | 1, _ => omega
    | 2, _ => omega
  rcases hb (by omega) with ⟨rfl, hg⟩ | ⟨rfl, hg⟩
  · by_cases qe : A 7 j = v
    · rw [t_set_s hB (by omega) (by omega) hg qe, bd3_some, if_neg n3, if0, eqT qe, if_pos rfl]
      exact rt_ok ⟨rfl, oA_R (Or.inl ⟨hB, hH⟩) hi hK hT⟩
    · obtain ⟨B', Hs', e, ha⟩ := t_setA (N := N) (Tn := Tn) hB hi hH (j := j) (by omega) (by omega) hg qe
      rw [e, bd3_some, if_neg n3, if0, eqF qe (by omega) (by omega), if_pos rfl]
      exact rt_ok ⟨rfl, oA_R (Or.inr ⟨_, ha⟩) hi hK hT⟩
  · rw [t_set_b (by omega) (by omega) hg, bd3_some, if_neg n3, if1, if_pos rfl]
    exact rt_ok ⟨rfl, oA_R (Or.inl ⟨hB, hH⟩) hi hK hT⟩
theorem a_145 (hN : 1000 ≤ N) (hR : RC Tn B Hs Sn A kn As sn n) {how i p : Nat} (hh : 18 ≤ how) (hh2 : how < 26) (hin : i ≤ A 0 0) (hp : p < 7) {fn x7 x8 : Int32} (hn : (fn = 1 ∧ (i = A 0 0 ∨ p = 6)) ∨ (fn = 0 ∧ i < A 0 0 ∧ p < 6 ∧ x7 = nI (dtA A i) ∧ x8 = nI (A 4 (i * 6 + p)))) : Rt (f_L_acts_145 N p1 p2 (nI how) (nI i) (nI p) fn x7 x8 Tn B Hs Tx Tr E F Nm Bt) (fun q => q.1 = 1 ∧ oR q.2.1 q.2.2.1 q.2.2.2.1 Sn A kn As sn) := by
  have hR0 := hR
  obtain ⟨hB, hi, hH, hK, hT⟩ := hR
  have ok := hi.1
  have o1 := ok.1
  have o4 := ok.2.2.2.1
  have o5 := ok.2.2.2.2.1
  unfold f_L_acts_145
  have stay : oR Tn B Hs Sn A kn As sn := oA_R (Or.inl ⟨hB, hH⟩) hi hK hT
  by_cases q22 : how < 22
  · rw [if_neg (show ¬ (22 : Int32) ≤ nI how by rw [show (22 : Int32) = nI 22 from rfl, I_le, nI_T (by omega), nI_T (by omega)]; omega)]
    rcases hn with ⟨rfl, hno⟩ | ⟨rfl, h, hp6, rfl, rfl⟩
    · have e : f_X5_stick N Tn B Hs (nI p) (nI i) = some (-1, B, Hs) := by
        by_cases q6 : p = 6
        · subst q6
          exact t_stick_p _
        · have hin' : i = A 0 0 := by omega
          subst hin'
          exact t_stick_n hB ok (by omega)
      have g193 : ∀ E Nm, Rt (f_L_acts_193 N p1 p2 (nI i) (nI p) 1 x7 x8 0 Tn B Hs Tx Tr E F Nm Bt) (fun q => q.1 = 1 ∧ oR q.2.1 q.2.2.1 q.2.2.2.1 Sn A kn As sn) := by
        intro E Nm
        unfold f_L_acts_193 f_L_acts_246
        rw [e, bd3_some, if1, if_pos rfl]
        exact rt_ok ⟨rfl, stay⟩
      obtain ⟨K, hK'⟩ : ∃ K, N = K + 1 := ⟨N - 1, by omega⟩
      have e159 : f_L_acts_159 N p1 p2 N (nI i) (nI p) 1 x7 x8 0 0 Tn B Hs Tx Tr E F Nm Bt = f_L_acts_159b N p1 p2 (f_L_acts_159 N p1 p2 K) (nI i) (nI p) 1 x7 x8 0 0 Tn B Hs Tx Tr E F Nm Bt := by
        rw [show f_L_acts_159 N p1 p2 N = f_L_acts_159 N p1 p2 (K + 1) by rw [← hK']]
        rfl
      rw [e159]
      unfold f_L_acts_159b
      refine rt3 (q_c0 hB) (fun E Nm => ?_)
      rw [if1]
      refine rt_if (fun _ => g193 E Nm) (fun _ => g193 E Nm)
    · have hd9 := (ok.2.2.2.2.2.1 i h).2.2.2 p hp6
      have hdp := dpA_le ok hp6
      have g193 : ∀ E Nm, Rt (f_L_acts_193 N p1 p2 (nI i) (nI p) 0 (nI (dtA A i)) (nI (A 4 (i * 6 + p))) (nI (dpA A p)) Tn B Hs Tx Tr E F Nm Bt) (fun q => q.1 = 1 ∧ oR q.2.1 q.2.2.1 q.2.2.2.1 Sn A kn As sn) := by
        intro E Nm
        unfold f_L_acts_193 f_L_acts_246
        by_cases qf : A 7 1 ≤ dpA A p
        · rw [t_stick_f hN hB ok hp6 h qf, bd3_some, if0]
          refine rt3 (q_c9 hB) (fun E Nm => ?_)
          rw [ltF qf (by omega), if_pos rfl]
          exact rt_ok ⟨rfl, stay⟩
        by_cases qm : A 7 2 ≤ A 4 (i * 6 + p)
        · rw [t_stick_m hN hB ok hp6 h (by omega) qm, bd3_some, if0]
          refine rt3 (q_c9 hB) (fun E Nm => ?_)
          rw [ltT (by omega) (by omega)]
          refine rt3 (q_c10 hB) (fun E Nm => ?_)
          rw [ltF qm (by omega), if_pos rfl]
          exact rt_ok ⟨rfl, stay⟩
        · obtain ⟨B', Hs', e, ha⟩ := t_stick (Tn := Tn) hN hB hi hH hp6 h (by omega) (by omega)
          have ha0 := ha
          obtain ⟨hB', hi', -⟩ := ha
          have e7 : ∀ k, upA A 4 (i * 6 + p) (A 4 (i * 6 + p) + 1) 7 k = A 7 k := fun k => upA_o _ _ (Or.inl (by decide))
          rw [e, bd3_some, if0]
          refine rt3 (q_c9 hB') (fun E Nm => ?_)
          rw [e7, ltT (by omega) (by omega)]
          refine rt3 (q_c10 hB') (fun E Nm => ?_)
          rw [e7, ltT (by omega) (by omega), nI_s, if_pos rfl]
          exact rt_ok ⟨rfl, oA_R (Or.inr ⟨_, ha0⟩) hi hK hT⟩
      refine rt_lp (F := fun k (q : Int32 × Int32 × tS × tS) => f_L_acts_159 N p1 p2 k (nI i) (nI p) 0 (nI (dtA A i)) (nI (A 4 (i * 6 + p))) q.1 q.2.1 Tn B Hs Tx Tr q.2.2.1 F q.2.2.2 Bt) (fun k q => q.1 = nI (sm (fun i => A 4 (i * 6 + p)) k) ∧ q.2.1 = nI k) (A 0 0) ?_ ?_ N (by omega) (0, 0, E, Nm) ⟨rfl, rfl⟩
      · rintro k ⟨x, y, E, Nm⟩ ⟨e1, e2⟩
        simp only at e1 e2
        subst e1 e2
        show Rt (f_L_acts_159b N p1 p2 (f_L_acts_159 N p1 p2 k) (nI i) (nI p) 0 _ _ _ (nI (A 0 0)) Tn B Hs Tx Tr E F Nm Bt) _
        unfold f_L_acts_159b
        refine rt3 (q_c0 hB) (fun E Nm => ?_)
        rw [leT (Nat.le_refl _) (by omega)]
        exact g193 E Nm
      · rintro k m ⟨x, y, E, Nm⟩ hm ⟨e1, e2⟩ ih
        simp only at e1 e2
        subst e1 e2
        show Rt (f_L_acts_159b N p1 p2 (f_L_acts_159 N p1 p2 k) (nI i) (nI p) 0 _ _ _ (nI m) Tn B Hs Tx Tr E F Nm Bt) _
        unfold f_L_acts_159b
        refine rt3 (q_c0 hB) (fun E Nm => ?_)
        rw [leF hm (by omega), if0]
        refine rt1 (q_d hB ok hm hp6) ?_
        exact ih (_, _, E, Nm) ⟨nI_add _ _, nI_s m⟩
  rw [if_pos (show (22 : Int32) ≤ nI how by rw [show (22 : Int32) = nI 22 from rfl, I_le, nI_T (by omega), nI_T (by omega)]; omega)]
  by_cases q : how = 22
  · rw [if_pos (show nI how = 22 by rw [q]; rfl)]
    unfold f_L_acts_292
    rcases hn with ⟨rfl, hno⟩ | ⟨rfl, h, hp6, rfl, rfl⟩
    · have e : f_X5_unstick N Tn B Hs (nI p) (nI i) = some (-1, B, Hs) := by
        by_cases q6 : p = 6
        · subst q6
          exact t_unstick_p _
        · have hin' : i = A 0 0 := by omega
          subst hin'
          exact t_unstick_n hB ok (by omega)
      rw [e, bd3_some, if1, if_pos rfl]
      exact rt_ok ⟨rfl, stay⟩
    · have hd9 := (ok.2.2.2.2.2.1 i h).2.2.2 p hp6
      by_cases q0 : A 4 (i * 6 + p) = 0
      · rw [t_unstick_0 hB ok hp6 h q0, bd3_some, if0, q0, if_pos (show nI 0 = 0 from rfl), if_pos rfl]
        exact rt_ok ⟨rfl, stay⟩
      · obtain ⟨B', Hs', e, ha⟩ := t_unstick (Tn := Tn) hN hB hi hH hp6 h q0
        have hd := dt_up (A := A) (i := i) (p := p) (v := 0) hp6
        rw [e, bd3_some, if0, if_neg (show ¬ nI (A 4 (i * 6 + p)) = 0 from fun w => q0 (nI_inj (by omega) (by omega) (show _ = nI 0 from w))), li_1, pk_sub (by omega), if_pos rfl]
        exact rt_ok ⟨rfl, oA_R (Or.inr ⟨_, ha⟩) hi hK hT⟩
  rw [if_neg (show ¬ nI how = 22 from fun w => q (nI_inj (by omega) (by omega) (show _ = nI 22 from w)))]
  by_cases q3 : how = 23
  · rw [if_pos (show nI how = 23 by rw [q3]; rfl)]
    have hj := lw_lt p2 (n := 4) (by omega)
    refine rt1 (t_low N _ (n := 4) (by omega) (by omega)) ?_
    have hv := lw_lt (p2 >>> ((2 : Int32) &&& 31)) (n := 23) (by omega)
    refine rt1 (t_low N _ (n := 23) (by omega) (by omega)) ?_
    generalize lw p2 4 = j at *
    generalize lw (p2 >>> ((2 : Int32) &&& 31)) 23 = v at *
    unfold f_L_acts_356
    by_cases j0 : j = 0
    · rw [if_pos (show nI j = 0 by rw [j0]; rfl)]
      by_cases v20 : v ≤ 20
      · rw [if_pos (show nI v ≤ 20 by rw [li_20]; exact nI_le v20 (by omega))]
        exact a_set hN hR0 hj hv (fun _ => Or.inl ⟨rfl, by rw [if_pos j0]; exact v20⟩)
      · rw [if_neg (show ¬ nI v ≤ 20 by rw [li_20]; exact nI_ge (by omega) (by omega))]
        exact a_set hN hR0 hj hv (fun _ => Or.inr ⟨rfl, by rw [if_pos j0]; exact v20⟩)
    rw [if_neg (show ¬ nI j = 0 from fun w => j0 (nI_inj (by omega) (by omega) (show _ = nI 0 from w)))]
    by_cases v0 : v = 0
    · rw [if_pos (show nI v = 0 by rw [v0]; rfl)]
      exact a_set hN hR0 hj hv (fun _ => Or.inr ⟨rfl, by rw [if_neg j0]; omega⟩)
    rw [if_neg (show ¬ nI v = 0 from fun w => v0 (nI_inj (by omega) (by omega) (show _ = nI 0 from w)))]
    by_cases v9 : v ≤ 9
    · rw [if_pos (show nI v ≤ 9 by rw [li_9]; exact nI_le v9 (by omega))]
      exact a_set hN hR0 hj hv (fun _ => Or.inl ⟨rfl, by rw [if_neg j0]; omega⟩)
    · rw [if_neg (show ¬ nI v ≤ 9 by rw [li_9]; exact nI_ge (by omega) (by omega))]
      exact a_set hN hR0 hj hv (fun _ => Or.inr ⟨rfl, by rw [if_neg j0]; omega⟩)
  rw [if_neg (show ¬ nI how = 23 from fun w => q3 (nI_inj (by omega) (by omega) (show _ = nI 23 from w)))]
  refine rb9 (t_reads hN hR0 p2) ?_
  rintro r Tn' B' Hs' Tx' Tr' E' Nm' Bt' ⟨h1, h2⟩
  have h1 : r = 1 := h1
  subst h1
  rw [nn01]
  exact rt_ok ⟨rfl, h2⟩
theorem t_acts (hN : 1000 ≤ N) (hR : RC Tn B Hs Sn A kn As sn n) (p1 p2 : Int32) : Rt (f_L_acts N Tn B Hs Tx Tr E F Nm Bt p1 p2) (fun q => q.1 = 1 ∧ oR q.2.1 q.2.2.1 q.2.2.2.1 Sn A kn As sn) := by
  have hR0 := hR
  obtain ⟨hB, hi, hH, hK, hT⟩ := hR
  have ok := hi.1
  have o1 := ok.1
  unfold f_L_acts
  have hh := lw_lt p1 (n := 26) (by omega)
  refine rt1 (t_low N _ (n := 26) (by omega) (by omega)) ?_
  generalize lw p1 26 = how at *
  have th : ∀ m, m < 5 → Rt (f_L_acts_58 N p1 p2 (nI m) Tn B Hs Tx Tr E F Nm Bt) (fun q => q.1 = 1 ∧ oR q.2.1 q.2.2.1 q.2.2.2.1 Sn A kn As sn) := by
    intro m hm
    unfold f_L_acts_58
    refine rb7 (t_themes hN hB hi hH hm p2) ?_
    rintro r B' Hs' Tr' E' F' Nm' ⟨h1, h2⟩
    have h1 : r = 1 := h1
    subst h1
    rw [nn01]
    exact rt_ok ⟨rfl, oA_R h2 hi hK hT⟩
  have le_c : ∀ c : Nat, c < 100 → ∀ {X Y : Option (Int32 × tS × tS × tH × tS × tS × tS × tS × tS × tS)} {P}, (c ≤ how → Rt X P) → (how < c → Rt Y P) → Rt (if nI c ≤ nI how then X else Y) P := by
    intro c hc X Y P h1 h2
    by_cases q : c ≤ how
    · rw [leT q (by omega)]
      exact h1 q
    · rw [leF (by omega) (by omega)]
      exact h2 (by omega)
  refine le_c 8 (by omega) (fun h8 => ?_) (fun h8 => ?_)
  · refine le_c 18 (by omega) (fun h18 => ?_) (fun h18 => ?_)
    · refine rt3 (q_c0 hB) (fun E Nm => ?_)
      rw [nI_s]
      have hl := lw_lt p2 (n := A 0 0 + 1) (by omega)
      refine rt1 (t_low N _ (by omega) (by omega)) ?_
      have h7 := lw_lt (p2 >>> ((5 : Int32) &&& 31)) (n := 7) (by omega)
      refine rt1 (t_low N _ (n := 7) (by omega) (by omega)) ?_
      generalize lw p2 (A 0 0 + 1) = i at *
      generalize lw (p2 >>> ((5 : Int32) &&& 31)) 7 = p at *
      refine rt3 (q_c0 hB) (fun E Nm => ?_)
      unfold f_L_acts_103
      have kno : (i = A 0 0 ∨ p = 6) → Rt (f_L_acts_108 N p1 p2 (nI how) (nI i) (nI p) 1 Tn B Hs Tx Tr E F Nm Bt) (fun q => q.1 = 1 ∧ oR q.2.1 q.2.2.1 q.2.2.2.1 Sn A kn As sn) := by
        intro hno
        unfold f_L_acts_108 f_L_acts_126
        rw [if1, if1]
        exact a_145 hN hR0 h18 hh (by omega) h7 (Or.inl ⟨rfl, hno⟩)
      by_cases q : i = A 0 0
      · rw [eqT q]
        exact kno (Or.inl q)
      rw [eqF q (by omega) (by omega)]
      by_cases q6 : p = 6
      · rw [if_pos (show nI p = 6 by rw [q6]; rfl)]
        exact kno (Or.inr q6)
      rw [if_neg (show ¬ nI p = 6 from fun w => q6 (nI_inj (by omega) (by omega) (show _ = nI 6 from w)))]
      unfold f_L_acts_108
      rw [if0]
      refine rt4 (q_n2 hN hB ok (i := i) (by omega)) (fun Tr E F => ?_)
      unfold f_L_acts_126
      rw [if0]
      refine rt1 (q_d hB ok (i := i) (p := p) (by omega) (by omega)) ?_
      exact a_145 hN hR0 h18 hh (by omega) h7 (Or.inr ⟨rfl, by omega, by omega, rfl, rfl⟩)
    · refine le_c 10 (by omega) (fun h10 => ?_) (fun h10 => ?_)
      · refine rt_if (fun _ => th 2 (by omega)) (fun _ => ?_)
        refine le_c 13 (by omega) (fun _ => th 4 (by omega)) (fun _ => th 3 (by omega))
      · exact th 0 (by omega)
  · refine rb7 (t_notes hN hB hi hH (how := how) (by omega) p2) ?_
    rintro r B' Hs' Tr' E' F' Nm' ⟨h1, h2⟩
    have h1 : r = 1 := h1
    subst h1
    rw [nn01]
    exact rt_ok ⟨rfl, oA_R h2 hi hK hT⟩
end AC
