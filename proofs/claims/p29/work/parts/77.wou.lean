/-! would -/
def ifV (A : tA) (out : Prop) (w : Nat) (v : Int32) : Prop := (out → v = -1) ∧ (¬ out → w = 3 → v = -2) ∧ (¬ out → w = 2 → ∃ u, v = nI u ∧ u < A 0 0) ∧ (¬ out → w ≠ 2 → w ≠ 3 → ∃ u, v = nI u ∧ 1 ≤ u ∧ u ≤ A 0 0)
def neV (A : tA) (none : Prop) (z : Int32) : Prop := (none → z = -1) ∧ (¬ none → ∃ b, b ≤ A 5 0 ∧ z = enc b)
section WO
variable {N : Nat} {Tn B Tr E F Nm : tS} {Hs : tH} {A : tA} {p1 : Int32}
theorem w_208 (hB : RB B A) (ok : okA A) {w : Nat} (hw : w < 4) {v x11 : Int32} {out : Prop} (hv : ifV A out w v) (ho : (x11 = 1 ∧ out) ∨ (x11 = 0 ∧ ¬ out)) : Rt (f_L_would_208 N Tn B Hs p1 (nI w) v x11 1 Tr E F Nm) (fun q => q.1 = 1) := by
  have o1 := ok.1
  unfold f_L_would_208 f_L_would_285
  rw [if1]
  obtain ⟨v1, v2, v3, v4⟩ := hv
  rcases ho with ⟨rfl, h⟩ | ⟨rfl, h⟩
  · rw [if1, v1 h, if_pos rfl]
    exact rt_ok rfl
  rw [if0]
  by_cases q3 : w = 3
  · rw [li_3, eqT q3, v2 h q3, if_pos rfl]
    exact rt_ok rfl
  rw [li_3, eqF q3 (by omega) (by omega)]
  by_cases q2 : w = 2
  · obtain ⟨u, rfl, hu⟩ := v3 h q2
    rw [li_2, eqT q2, lt0F (by omega)]
    refine rt3 (q_c0 hB) (fun E Nm => ?_)
    rw [leF hu (by omega)]
    exact rt_ok rfl
  · obtain ⟨u, rfl, hu1, hu2⟩ := v4 h q2 q3
    rw [li_2, eqF q2 (by omega) (by omega), li_1, ltF hu1 (by omega)]
    refine rt3 (q_c0 hB) (fun E Nm => ?_)
    rw [ltF hu2 (by omega)]
    exact rt_ok rfl
theorem w_167 (hB : RB B A) (ok : okA A) {w : Nat} (hw : w < 4) {v z x10 x11 : Int32} {out none : Prop} (hv : ifV A out w v) (ho : (x11 = 1 ∧ out) ∨ (x11 = 0 ∧ ¬ out)) (hz : neV A none z) (hn : (x10 = 1 ∧ none) ∨ (x10 = 0 ∧ ¬ none)) : Rt (f_L_would_167 N Tn B Hs p1 (nI w) v z x10 x11 Tr E F Nm) (fun q => q.1 = 1) := by
  have o2 := ok.2.1
  unfold f_L_would_167 f_L_would_203
  rcases hn with ⟨rfl, h⟩ | ⟨rfl, h⟩
  · rw [if1, hz.1 h, if_pos rfl]
    exact w_208 hB ok hw hv ho
  · obtain ⟨b, hb, rfl⟩ := hz.2 h
    rw [if0]
    cases b with
    | zero =>
      rw [if_pos (show enc 0 = -5 from rfl)]
      exact w_208 hB ok hw hv ho
    | succ b =>
      rw [if_neg (fun w => by have := (enc_n5 (a := b + 1) (by omega)).mp w; omega), enc_s, lt0F (by omega)]
      refine rt3 (q_c2 hB) (fun E Nm => ?_)
      rw [leF hb (by omega)]
      exact w_208 hB ok hw hv ho
theorem w_123 (hB : RB B A) (ok : okA A) {w wt : Nat} (hw : w < 4) (hwt : wt < 22) {x3 v z x10 x11 : Int32} {out none : Prop} (hv : ifV A out w v) (ho : (x11 = 1 ∧ out) ∨ (x11 = 0 ∧ ¬ out)) (hz : neV A none z) (hn : (x10 = 1 ∧ none) ∨ (x10 = 0 ∧ ¬ none)) (h1 : wt = 0 ∨ wt = 21 → x3 = -2) (h2 : ¬ (wt = 0 ∨ wt = 21) → ∃ R, x3 = nI R ∧ R ≤ 48 ∧ (A 0 0 ≤ wt → R = 0)) : Rt (f_L_would_123 N Tn B Hs p1 (nI wt) x3 (nI w) v z x10 x11 Tr E F Nm) (fun q => q.1 = 1) := by
  have o1 := ok.1
  unfold f_L_would_123 f_L_would_135
  by_cases q0 : wt = 0
  · rw [if_pos (show nI wt = 0 by rw [q0]; rfl), h1 (Or.inl q0), if_pos rfl]
    exact w_167 hB ok hw hv ho hz hn
  rw [if_neg (show ¬ nI wt = 0 from fun w => q0 (nI_inj (by omega) (by omega) (show nI wt = nI 0 from w)))]
  by_cases q1 : wt = 21
  · rw [if_pos (show nI wt = 21 by rw [q1]; rfl), h1 (Or.inr q1), if_pos rfl]
    exact w_167 hB ok hw hv ho hz hn
  rw [if_neg (show ¬ nI wt = 21 from fun w => q1 (nI_inj (by omega) (by omega) (show nI wt = nI 21 from w)))]
  obtain ⟨R, rfl, hR, hR0⟩ := h2 (by omega)
  rw [lt0F (by omega), show (48 : Int32) = nI 48 from rfl, ltF hR (by omega)]
  refine rt3 (q_c0 hB) (fun E Nm => ?_)
  by_cases q : wt < A 0 0
  · rw [ltT q (by omega)]
    exact w_167 hB ok hw hv ho hz hn
  · rw [ltF (by omega) (by omega), hR0 (by omega), if_pos (show nI 0 = 0 from rfl)]
    exact w_167 hB ok hw hv ho hz hn
theorem t_would (hN : 1000 ≤ N) (hB : RB B A) (ok : okA A) (p1 : Int32) : ∃ a b c d, f_L_would N Tn B Hs Tr E F Nm p1 = some (1, a, b, c, d) := by
  have o1 := ok.1
  apply ex5
  unfold f_L_would
  have h22 := lw_lt p1 (n := 22) (by omega)
  refine rt1 (t_low N _ (n := 22) (by omega) (by omega)) ?_
  have hr : ∃ x3 : Int32, (∃ a, f_X5_reachFor N Tn B F (nI (lw p1 22)) = some (x3, a)) ∧ (lw p1 22 = 0 ∨ lw p1 22 = 21 → x3 = -2) ∧ (¬ (lw p1 22 = 0 ∨ lw p1 22 = 21) → ∃ R, x3 = nI R ∧ R ≤ 48 ∧ (A 0 0 ≤ lw p1 22 → R = 0)) := by
    by_cases q : lw p1 22 = 0 ∨ lw p1 22 = 21
    · exact ⟨_, ⟨_, t_reach_b hN (by omega) (by omega)⟩, fun _ => rfl, fun w => absurd q w⟩
    · obtain ⟨R, F', e, h1, h2⟩ := t_reach (Tn := Tn) (F := F) hN hB ok (p := lw p1 22) (by omega) (by omega)
      exact ⟨_, ⟨_, e⟩, fun w => absurd w q, fun _ => ⟨R, rfl, h1, h2⟩⟩
  obtain ⟨x3, e3, r1, r2⟩ := hr
  refine rt2 e3 (fun F => ?_)
  refine rt3 (q_c0 hB) (fun E Nm => ?_)
  rw [nI_s]
  have hk := lw_lt (p1 >>> ((5 : Int32) &&& 31)) (n := A 0 0 + 1) (by omega)
  refine rt1 (t_low N _ (by omega) (by omega)) ?_
  have hc := lw_lt (p1 >>> ((9 : Int32) &&& 31)) (n := 31) (by omega)
  refine rt1 (t_low N _ (n := 31) (by omega) (by omega)) ?_
  have hrw := lw_lt (p1 >>> ((14 : Int32) &&& 31)) (n := 21) (by omega)
  refine rt1 (t_low N _ (n := 21) (by omega) (by omega)) ?_
  have hw := lw_lt (p1 >>> ((18 : Int32) &&& 31)) (n := 4) (by omega)
  refine rt1 (t_low N _ (n := 4) (by omega) (by omega)) ?_
  generalize lw (p1 >>> ((5 : Int32) &&& 31)) (A 0 0 + 1) = k at *
  generalize lw (p1 >>> ((9 : Int32) &&& 31)) 31 = c at *
  generalize lw (p1 >>> ((14 : Int32) &&& 31)) 21 = r at *
  generalize lw (p1 >>> ((18 : Int32) &&& 31)) 4 = w at *
  have hv : ∃ v : Int32, (∃ a b d, f_X5_ifDragged N Tn B Tr E F (nI k) (nI c) (nI r) (nI w) = some (v, a, b, d)) ∧ ifV A (k = A 0 0 ∨ c = 30 ∨ r = 20) w v := by
    by_cases qk : k = A 0 0
    · subst qk
      exact ⟨_, t_ifd_n hB ok _ _ _, fun _ => rfl, fun h => absurd (Or.inl rfl) h, fun h => absurd (Or.inl rfl) h, fun h => absurd (Or.inl rfl) h⟩
    by_cases qp : c = 30 ∨ r = 20
    · exact ⟨_, t_ifd_p hB ok (by omega) (by omega) (by omega) (by omega) _, fun _ => rfl, fun h => absurd (Or.inr qp) h, fun h => absurd (Or.inr qp) h, fun h => absurd (Or.inr qp) h⟩
    have nout : ¬ (k = A 0 0 ∨ c = 30 ∨ r = 20) := by omega
    by_cases q3 : w = 3
    · subst q3
      exact ⟨_, t_ifd_w hB ok (by omega) (by omega) (by omega), fun h => absurd h nout, fun _ _ => rfl, fun _ h => absurd h (by decide), fun _ _ h => absurd rfl h⟩
    · obtain ⟨v, e, h1, h2⟩ := t_ifd (Tn := Tn) (Tr := Tr) (E := E) (F := F) hN hB ok (i := k) (c := c) (r := r) (w := w) (by omega) (by omega) (by omega) (by omega)
      exact ⟨_, e, fun h => absurd h nout, fun _ h => absurd h q3, fun _ h => ⟨v, rfl, h1 h⟩, fun _ h _ => ⟨v, rfl, h2 h⟩⟩
  obtain ⟨v, ev, hv⟩ := hv
  refine rt4 ev (fun Tr E F => ?_)
  have hz : ∃ z : Int32, f_X5_nearest N Tn B (nI k) = some z ∧ neV A (k = A 0 0) z := by
    by_cases qk : k = A 0 0
    · subst qk
      exact ⟨_, q_near_x hB ok, fun _ => rfl, fun h => absurd rfl h⟩
    · obtain ⟨b, hb, e⟩ := q_near (Tn := Tn) hN hB ok (i := k) (by omega)
      exact ⟨_, e, fun h => absurd h qk, fun _ => ⟨b, hb, rfl⟩⟩
  obtain ⟨z, ez, hz⟩ := hz
  refine rt1 ez ?_
  refine rt3 (q_c0 hB) (fun E Nm => ?_)
  by_cases qk : k = A 0 0
  · rw [eqT qk]
    unfold f_L_would_97 f_L_would_118
    rw [if1]
    exact w_123 hB ok hw h22 hv (Or.inl ⟨rfl, Or.inl qk⟩) hz (Or.inl ⟨rfl, qk⟩) r1 r2
  · rw [eqF qk (by omega) (by omega)]
    unfold f_L_would_97 f_L_would_118
    rw [if0]
    by_cases qc : c = 30
    · rw [if_pos (show nI c = 30 by rw [qc]; rfl)]
      exact w_123 hB ok hw h22 hv (Or.inl ⟨rfl, Or.inr (Or.inl qc)⟩) hz (Or.inr ⟨rfl, qk⟩) r1 r2
    rw [if_neg (show ¬ nI c = 30 from fun w => qc (nI_inj (by omega) (by omega) (show nI c = nI 30 from w)))]
    by_cases qr : r = 20
    · rw [if_pos (show nI r = 20 by rw [qr]; rfl)]
      exact w_123 hB ok hw h22 hv (Or.inl ⟨rfl, Or.inr (Or.inr qr)⟩) hz (Or.inr ⟨rfl, qk⟩) r1 r2
    rw [if_neg (show ¬ nI r = 20 from fun w => qr (nI_inj (by omega) (by omega) (show nI r = nI 20 from w)))]
    exact w_123 hB ok hw h22 hv (Or.inr ⟨rfl, by omega⟩) hz (Or.inr ⟨rfl, qk⟩) r1 r2
end WO
