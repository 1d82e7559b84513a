/-! the acts, one by one: what is refused, and what an act leaves -/
theorem sm_pt {f : Nat → Nat} {v p : Nat} : ∀ {n : Nat}, p < n → sm (fun k => if k = p then v else f k) n + f p = sm f n + v
  | 0, h => absurd h (Nat.not_lt_zero p)
  | n + 1, h => by
    show sm (fun k => if k = p then v else f k) n + (if n = p then v else f n) + f p = sm f n + f n + v
    by_cases q : n = p
    · subst q
      rw [if_pos rfl, sm_congr (g := f) (fun i hi => if_neg (by omega))]
      omega
    · rw [if_neg q]
      have := sm_pt (f := f) (v := v) (p := p) (n := n) (by omega)
      omega
theorem dt_up {A : tA} {i p v : Nat} (hp : p < 6) : dtA (upA A 4 (i * 6 + p) v) i + A 4 (i * 6 + p) = dtA A i + v := by
  have e : dtA (upA A 4 (i * 6 + p) v) i = sm (fun k => if k = p then v else A 4 (i * 6 + k)) 6 := sm_congr (fun k hk => by
    by_cases q : k = p
    · rw [if_pos q, q, upA_s]
    · rw [if_neg q, upA_o _ _ (Or.inr (by omega))])
  rw [e]
  exact sm_pt (f := fun k => A 4 (i * 6 + k)) hp
theorem inv_up {A : tA} {f i v : Nat} (hi : inv A) (ok : okA (upA A f i v)) (h0 : f ≠ 0) (h3 : f ≠ 3) (h5 : f ≠ 5) : inv (upA A f i v) := by
  refine ⟨ok, fun t ht => ?_⟩
  rw [upA_o _ _ (Or.inl (Ne.symm h5))] at ht
  obtain ⟨j, a, b⟩ := hi.2 t ht
  exact ⟨j, by rw [upA_o _ _ (Or.inl (Ne.symm h0))]; exact a, by rw [upA_o _ _ (Or.inl (Ne.symm h3))]; exact b⟩
theorem addA_0 (A : tA) (c r : Nat) : addA A c r 0 0 = A 0 0 + 1 := by simp [addA]
theorem addA_5 (A : tA) (c r : Nat) : addA A c r 5 0 = A 5 0 := by simp [addA]
theorem addA_3 (A : tA) (c r : Nat) {j : Nat} (h : j ≠ A 0 0) : addA A c r 3 j = A 3 j := by simp [addA, h]
theorem inv_add {A : tA} (hi : inv A) (h : A 0 0 < 20) {c r : Nat} (hc : c < 30) (hr : r < 20) : inv (addA A c r) := by
  refine ⟨ok_add hi.1 h hc hr, fun t ht => ?_⟩
  rw [addA_5] at ht
  obtain ⟨i, h1, h2⟩ := hi.2 t ht
  exact ⟨i, by rw [addA_0]; omega, by rw [addA_3 _ _ _ (by omega)]; exact h2⟩
theorem rmA_5 (A : tA) (i j : Nat) : rmA A i 5 j = A 5 j := by simp [rmA]
theorem inv_rm {A : tA} (hi : inv A) {i : Nat} (h : i < A 0 0) : ∀ t, t < rmA A i 5 0 → t + 1 ≠ A 3 i → ∃ k, k < rmA A i 0 0 ∧ rmA A i 3 k = t + 1 := by
  intro t ht hne
  rw [rmA_5] at ht
  obtain ⟨j, h1, h2⟩ := hi.2 t ht
  have hji : j ≠ i := fun e => by rw [e] at h2; omega
  by_cases q : j < i
  · exact ⟨j, by rw [rmA_n]; omega, by rw [rmA_3, if_neg (by omega)]; exact h2⟩
  · exact ⟨j - 1, by rw [rmA_n]; omega, by rw [rmA_3, if_pos (by omega), show j - 1 + 1 = j by omega]; exact h2⟩
theorem mv_inv {A : tA} (hi : inv A) {i c r : Nat} (ok : okA (mvA A i c r)) : inv (mvA A i c r) := by
  refine ⟨ok, fun t ht => ?_⟩
  rw [mvA_0 A i c r (by decide) (by decide)] at ht
  obtain ⟨j, h1, h2⟩ := hi.2 t ht
  exact ⟨j, by rw [mvA_0 A i c r (by decide) (by decide)]; exact h1, by rw [mvA_0 A i c r (by decide) (by decide)]; exact h2⟩
section ACT
variable {N : Nat} {Tn B Sn Tr E F Nm : tS} {Hs : tH} {A : tA} {kn : Nat} {As : Nat → tA}
theorem t_put_no {c r : Nat} (h : 30 ≤ c ∨ 20 ≤ r) (hc : c < 1000000) (hr : r < 1000000) : f_X5_put N Tn B Hs (nI c) (nI r) = some (-1, B, Hs) := by
  unfold f_X5_put
  rw [isPl_f h hc hr, bd_some, if0]
theorem t_put_full (hB : RB B A) (h : A 0 0 = 20) {c r : Nat} (hc : c < 30) (hr : r < 20) : f_X5_put N Tn B Hs (nI c) (nI r) = some (-3, B, Hs) := by
  unfold f_X5_put
  rw [isPl_t hc hr, bd_some, if1, hB.1, h, if_neg (by decide)]
theorem t_put (hN : 1000 ≤ N) (hB : RB B A) (hi : inv A) (hH : RHx Hs kn As) (h : A 0 0 < 20) {c r : Nat} (hc : c < 30) (hr : r < 20) : ∃ B' Hs', f_X5_put N Tn B Hs (nI c) (nI r) = some (nI (A 0 0), B', Hs') ∧ ac B' Hs' (addA A c r) A kn As := by
  obtain ⟨Hs', r1, r2⟩ := t_rec (N := N) hH hB hi
  obtain ⟨B', e, hB'⟩ := s_add hN hB hi.1 h c r
  refine ⟨B', Hs', ?_, hB', inv_add hi h hc hr, r2⟩
  unfold f_X5_put
  rw [isPl_t hc hr, bd_some, if1, hB.1, li_20, ltT h (by omega), r1, bd_some, e, bd_some, hB'.1, addA_0, show nI (A 0 0 + 1) - 1 = nI (A 0 0) by rw [li_1, pk_sub (by omega)]; rfl]
theorem t_take_no (hB : RB B A) (ok : okA A) : f_X5_takeOff N Tn B Hs (nI (A 0 0)) = some (-1, B, Hs) := by
  unfold f_X5_takeOff
  rw [hasN_f hB ok, bd_some, if0]
theorem t_take (hN : 1000 ≤ N) (hB : RB B A) (hi : inv A) (hH : RHx Hs kn As) {i : Nat} (h : i < A 0 0) : ∃ B' Hs', f_X5_takeOff N Tn B Hs (nI i) = some (nI (dtA A i), B', Hs') ∧ ac B' Hs' (drA (rmA A i) (A 3 i)) A kn As := by
  obtain ⟨Hs', r1, r2⟩ := t_rec (N := N) hH hB hi
  obtain ⟨B1, e1, hB1⟩ := s_rm hN hB hi.1 h
  have b3 := (hi.1.2.2.2.2.2.1 i h).2.2.1
  obtain ⟨B2, e2, hB2, ok2⟩ := t_dropE hN hB1 (ok_rm hi.1 h) (c := A 3 i) (by rw [rmA_5]; exact b3)
  refine ⟨B2, Hs', ?_, hB2, inv_drA ok2 (inv_rm hi h), r2⟩
  unfold f_X5_takeOff
  rw [hasN_t hB hi.1 h, bd_some, if1, r1, bd_some, s_dotsOn hN hB hi.1 h, bd_some, e1, e2, bd_some, bd_some]
theorem t_drag_n (hB : RB B A) (ok : okA A) (c r : Int32) : f_X5_drag N Tn B Hs E (nI (A 0 0)) c r = some (-1, B, Hs, E) := by
  unfold f_X5_drag
  rw [hasN_f hB ok, bd_some, if0]
theorem t_drag_p (hB : RB B A) (ok : okA A) {i : Nat} (h : i < A 0 0) {c r : Nat} (hp : 30 ≤ c ∨ 20 ≤ r) (hc : c < 1000000) (hr : r < 1000000) : f_X5_drag N Tn B Hs E (nI i) (nI c) (nI r) = some (-1, B, Hs, E) := by
  unfold f_X5_drag
  rw [hasN_t hB ok h, bd_some, if1, isPl_f hp hc hr, bd_some, if0]
theorem t_drag_s (hB : RB B A) (ok : okA A) {i : Nat} (h : i < A 0 0) {c r : Nat} (hc : c < 30) (hr : r < 20) (h1 : A 1 i = c) (h2 : A 2 i = r) : f_X5_drag N Tn B Hs E (nI i) (nI c) (nI r) = some (-5, B, Hs, E) := by
  have o1 := ok.1
  unfold f_X5_drag
  rw [hasN_t hB ok h, bd_some, if1, isPl_t hc hr, bd_some, if1, gdI (by omega) (by decide), clI (by omega), gdJ (by omega) (by decide), (hB.2.2.2.1 i h).1, (hB.2.2.2.1 i h).2.1, eqT h1, eqT h2]
theorem t_drag (hN : 1000 ≤ N) (hB : RB B A) (hi : inv A) (hH : RHx Hs kn As) {i : Nat} (h : i < A 0 0) {c r : Nat} (hc : c < 30) (hr : r < 20) (hne : ¬ (A 1 i = c ∧ A 2 i = r)) : ∃ B' Hs' E', f_X5_drag N Tn B Hs E (nI i) (nI c) (nI r) = some (nI (nh (mvA A i c r) (mvA A i c r 7 0)), B', Hs', E') ∧ ac B' Hs' (mvA A i c r) A kn As := by
  have o1 := hi.1.1
  have b := hi.1.2.2.2.2.2.1 i h
  obtain ⟨Hs', r1, r2⟩ := t_rec (N := N) hH hB hi
  obtain ⟨B', d1, d2, d3⟩ := s_move (N := N) hB hi.1 h hc hr
  obtain ⟨E', e, -⟩ := t_heaps (Tn := Tn) (E := E) hN d2 d3
  refine ⟨B', Hs', E', ?_, d2, mv_inv hi d3, r2⟩
  have go : f_X5_drag_50 N Tn (nI i) (nI c) (nI r) B Hs E = some (nI (nh (mvA A i c r) (mvA A i c r 7 0)), B', Hs', E') := by
    unfold f_X5_drag_50
    rw [r1, bd_some, d1, bd_some, e, bd2_some]
  unfold f_X5_drag
  rw [hasN_t hB hi.1 h, bd_some, if1, isPl_t hc hr, bd_some, if1, gdI (by omega) (by decide), clI (by omega), gdJ (by omega) (by decide), (hB.2.2.2.1 i h).1, (hB.2.2.2.1 i h).2.1]
  by_cases q : A 1 i = c
  · rw [eqT q, eqF (fun z => hne ⟨q, z⟩) (by omega) (by omega), go]
  · rw [eqF q (by omega) (by omega), go]
theorem t_stick_p (x : Int32) : f_X5_stick N Tn B Hs (nI 6) x = some (-1, B, Hs) := by
  unfold f_X5_stick
  rw [isPe_f, bd_some, if0]
theorem t_stick_n (hB : RB B A) (ok : okA A) {p : Nat} (hp : p < 6) : f_X5_stick N Tn B Hs (nI p) (nI (A 0 0)) = some (-1, B, Hs) := by
  unfold f_X5_stick
  rw [isPe_t hp, bd_some, if1, hasN_f hB ok, bd_some, if0]
theorem t_stick_f (hN : 1000 ≤ N) (hB : RB B A) (ok : okA A) {p i : Nat} (hp : p < 6) (h : i < A 0 0) (q : A 7 1 ≤ dpA A p) : f_X5_stick N Tn B Hs (nI p) (nI i) = some (-3, B, Hs) := by
  unfold f_X5_stick
  rw [isPe_t hp, bd_some, if1, hasN_t hB ok h, bd_some, if1, s_dotsLeft hN hB ok hp, bd_some, show A 7 1 - dpA A p = 0 by omega, if_pos (show nI 0 = 0 from rfl)]
theorem t_stick_m (hN : 1000 ≤ N) (hB : RB B A) (ok : okA A) {p i : Nat} (hp : p < 6) (h : i < A 0 0) (q : dpA A p < A 7 1) (q2 : A 7 2 ≤ A 4 (i * 6 + p)) : f_X5_stick N Tn B Hs (nI p) (nI i) = some (-4, B, Hs) := by
  have o4 := ok.2.2.2.1
  unfold f_X5_stick
  rw [isPe_t hp, bd_some, if1, hasN_t hB ok h, bd_some, if1, s_dotsLeft hN hB ok hp, bd_some, if_neg (fun z => by
      have := nI_inj (by omega) (by omega) (show nI (A 7 1 - dpA A p) = nI 0 from z)
      omega), s_hasMost hB ok h hp, bd_some, if_pos q2, if1]
theorem ok_dot (ok : okA A) {i p v : Nat} (hv : v ≤ 9) : okA (upA A 4 (i * 6 + p) v) := ok_up ok (by decide) (by decide) (by decide) ⟨fun h => absurd h (by decide), fun h => absurd h (by decide), fun h => absurd h (by decide), fun _ => hv, fun h => absurd h (by decide)⟩
theorem t_stick (hN : 1000 ≤ N) (hB : RB B A) (hi : inv A) (hH : RHx Hs kn As) {p i : Nat} (hp : p < 6) (h : i < A 0 0) (q : dpA A p < A 7 1) (q2 : A 4 (i * 6 + p) < A 7 2) : ∃ B' Hs', f_X5_stick N Tn B Hs (nI p) (nI i) = some (nI (dtA A i + 1), B', Hs') ∧ ac B' Hs' (upA A 4 (i * 6 + p) (A 4 (i * 6 + p) + 1)) A kn As := by
  have ok := hi.1
  have o1 := ok.1
  have o4 := ok.2.2.2.1
  have o5 := ok.2.2.2.2.1
  have hd := (ok.2.2.2.2.2.1 i h).2.2.2 p hp
  obtain ⟨Hs', r1, r2⟩ := t_rec (N := N) hH hB hi
  have u1 : RB (va_up B 4 (upd (B 4) (i * 6 + p) (nI (A 4 (i * 6 + p) + 1)))) (upA A 4 (i * 6 + p) (A 4 (i * 6 + p) + 1)) := RB_up hB (by decide) (by decide) rfl
  have u3 := ok_dot ok (i := i) (p := p) (v := A 4 (i * 6 + p) + 1) (by omega)
  have hz : (upA A 4 (i * 6 + p) (A 4 (i * 6 + p) + 1)) 0 0 = A 0 0 := upA_o _ _ (Or.inl (by decide))
  have dt := dt_up (A := A) (i := i) (p := p) (v := A 4 (i * 6 + p) + 1) hp
  refine ⟨_, Hs', ?_, u1, inv_up hi u3 (by decide) (by decide) (by decide), r2⟩
  have e3 : f_X0_addDots N B (nI p) (nI i) 1 = some (va_up B 4 (upd (B 4) (i * 6 + p) (nI (A 4 (i * 6 + p) + 1)))) := by
    unfold f_X0_addDots
    rw [li_6, pk_mul, nI_add, gdI (by omega) (by decide), gdI (by omega) (by decide), clI (by omega), (hB.2.2.2.1 i h).2.2.2 p hp, nI_s]
  unfold f_X5_stick
  rw [isPe_t hp, bd_some, if1, hasN_t hB ok h, bd_some, if1, s_dotsLeft hN hB ok hp, bd_some, if_neg (fun z => by
      have := nI_inj (by omega) (by omega) (show nI (A 7 1 - dpA A p) = nI 0 from z)
      omega), s_hasMost hB ok h hp, bd_some, if_neg (show ¬ A 7 2 ≤ A 4 (i * 6 + p) by omega), if0, r1, bd_some, e3, bd_some, s_dotsOn hN u1 u3 (by rw [hz]; exact h), bd_some, show dtA (upA A 4 (i * 6 + p) (A 4 (i * 6 + p) + 1)) i = dtA A i + 1 by omega]
theorem t_unstick_p (x : Int32) : f_X5_unstick N Tn B Hs (nI 6) x = some (-1, B, Hs) := by
  unfold f_X5_unstick
  rw [isPe_f, bd_some, if0]
theorem t_unstick_n (hB : RB B A) (ok : okA A) {p : Nat} (hp : p < 6) : f_X5_unstick N Tn B Hs (nI p) (nI (A 0 0)) = some (-1, B, Hs) := by
  unfold f_X5_unstick
  rw [isPe_t hp, bd_some, if1, hasN_f hB ok, bd_some, if0]
theorem t_unstick_0 (hB : RB B A) (ok : okA A) {p i : Nat} (hp : p < 6) (h : i < A 0 0) (q : A 4 (i * 6 + p) = 0) : f_X5_unstick N Tn B Hs (nI p) (nI i) = some (-4, B, Hs) := by
  unfold f_X5_unstick
  rw [isPe_t hp, bd_some, if1, hasN_t hB ok h, bd_some, if1, s_dop hB ok h hp, bd_some, q, if_pos (show nI 0 = 0 from rfl)]
theorem t_unstick (hN : 1000 ≤ N) (hB : RB B A) (hi : inv A) (hH : RHx Hs kn As) {p i : Nat} (hp : p < 6) (h : i < A 0 0) (q : A 4 (i * 6 + p) ≠ 0) : ∃ B' Hs', f_X5_unstick N Tn B Hs (nI p) (nI i) = some (nI (dtA A i - 1), B', Hs') ∧ ac B' Hs' (upA A 4 (i * 6 + p) (A 4 (i * 6 + p) - 1)) A kn As := by
  have ok := hi.1
  have o1 := ok.1
  have hd := (ok.2.2.2.2.2.1 i h).2.2.2 p hp
  obtain ⟨Hs', r1, r2⟩ := t_rec (N := N) hH hB hi
  have u1 : RB (va_up B 4 (upd (B 4) (i * 6 + p) (nI (A 4 (i * 6 + p) - 1)))) (upA A 4 (i * 6 + p) (A 4 (i * 6 + p) - 1)) := RB_up hB (by decide) (by decide) rfl
  have u3 := ok_dot ok (i := i) (p := p) (v := A 4 (i * 6 + p) - 1) (by omega)
  have hz : (upA A 4 (i * 6 + p) (A 4 (i * 6 + p) - 1)) 0 0 = A 0 0 := upA_o _ _ (Or.inl (by decide))
  have dt := dt_up (A := A) (i := i) (p := p) (v := A 4 (i * 6 + p) - 1) hp
  refine ⟨_, Hs', ?_, u1, inv_up hi u3 (by decide) (by decide) (by decide), r2⟩
  have e3 : f_X0_addDots N B (nI p) (nI i) (-1) = some (va_up B 4 (upd (B 4) (i * 6 + p) (nI (A 4 (i * 6 + p) - 1)))) := by
    unfold f_X0_addDots
    rw [li_6, pk_mul, nI_add, gdI (by omega) (by decide), gdI (by omega) (by decide), clI (by omega), (hB.2.2.2.1 i h).2.2.2 p hp, add_m1, li_1, pk_sub (by omega)]
  unfold f_X5_unstick
  rw [isPe_t hp, bd_some, if1, hasN_t hB ok h, bd_some, if1, s_dop hB ok h hp, bd_some, if_neg (show ¬ nI (A 4 (i * 6 + p)) = 0 from fun z => q (nI_inj (by omega) (by omega) (show nI (A 4 (i * 6 + p)) = nI 0 from z))), r1, bd_some, e3, bd_some, s_dotsOn hN u1 u3 (by rw [hz]; exact h), bd_some, show dtA (upA A 4 (i * 6 + p) (A 4 (i * 6 + p) - 1)) i = dtA A i - 1 by omega]
theorem t_vote_p (t c : Int32) : f_X5_vote N Tn B Hs Nm (nI 6) t c = some (-1, B, Hs, Nm) := by
  unfold f_X5_vote
  rw [isPe_f, bd_some, if0]
theorem t_vote_t (hB : RB B A) (ok : okA A) {p : Nat} (hp : p < 6) (c : Int32) : f_X5_vote N Tn B Hs Nm (nI p) (nI (A 5 0)) c = some (-1, B, Hs, Nm) := by
  unfold f_X5_vote
  rw [isPe_t hp, bd_some, if1, hasT_f hB ok, bd_some, if0]
theorem t_vote_b (hB : RB B A) (ok : okA A) {p t : Nat} (hp : p < 6) (ht : t < A 5 0) : f_X5_vote N Tn B Hs Nm (nI p) (nI t) (nI 10) = some (-2, B, Hs, Nm) := by
  unfold f_X5_vote
  rw [isPe_t hp, bd_some, if1, hasT_t hB ok ht, bd_some, if1, if_neg (by decide), isNa_f, bd_some, if0]
theorem vote_go (hB : RB B A) (ok : okA A) {p t c : Nat} (hp : p < 6) (ht : t < A 5 0) (hc : c ≤ 10) : f_X5_vote N Tn B Hs Nm (nI p) (nI t) (enc c) = f_X5_vote_36 N Tn (nI p) (nI t) (enc c) B Hs Nm := by
  unfold f_X5_vote
  rw [isPe_t hp, bd_some, if1, hasT_t hB ok ht, bd_some, if1]
  cases c with
  | zero => rw [if_pos (show enc 0 = -5 from rfl)]
  | succ c => rw [if_neg (fun z => by have := (enc_n5 (a := c + 1) (by omega)).mp z; omega), enc_s, isNa_t (by omega), bd_some, if1]
theorem t_vote_s (hB : RB B A) (ok : okA A) {p t c : Nat} (hp : p < 6) (ht : t < A 5 0) (hc : c ≤ 10) (q : A 6 (t * 6 + p) = c) : f_X5_vote N Tn B Hs Nm (nI p) (nI t) (enc c) = some (-5, B, Hs, Nm) := by
  rw [vote_go hB ok hp ht hc]
  unfold f_X5_vote_36
  rw [s_voteOf hB ok ht hp, bd_some, q, if_pos rfl]
theorem ok_vote (ok : okA A) {j c : Nat} (hc : c ≤ 10) : okA (upA A 6 j c) := ok_up ok (by decide) (by decide) (by decide) ⟨fun h => absurd h (by decide), fun h => absurd h (by decide), fun h => absurd h (by decide), fun h => absurd h (by decide), fun _ => hc⟩
theorem t_vote (hN : 1000 ≤ N) (hB : RB B A) (hi : inv A) (hH : RHx Hs kn As) {p t c : Nat} (hp : p < 6) (ht : t < A 5 0) (hc : c ≤ 10) (q : A 6 (t * 6 + p) ≠ c) : ∃ B' Hs' Nm', f_X5_vote N Tn B Hs Nm (nI p) (nI t) (enc c) = some ((if nmA (upA A 6 (t * 6 + p) c) t = 0 then nI 10 else enc (nmA (upA A 6 (t * 6 + p) c) t)), B', Hs', Nm') ∧ ac B' Hs' (upA A 6 (t * 6 + p) c) A kn As := by
  have ok := hi.1
  have o2 := ok.2.1
  have bv := ok.2.2.2.2.2.2 t ht p hp
  obtain ⟨Hs', r1, r2⟩ := t_rec (N := N) hH hB hi
  have hB2 : RB (va_up B 6 (upd (B 6) (t * 6 + p) (enc c))) (upA A 6 (t * 6 + p) c) := RB_up hB (by decide) (by decide) rfl
  have ok2 := ok_vote ok (j := t * 6 + p) hc
  have h5 : upA A 6 (t * 6 + p) c 5 0 = A 5 0 := upA_o _ _ (Or.inl (by decide))
  have e3 : f_X0_setVote N B (nI p) (nI t) (enc c) = some (va_up B 6 (upd (B 6) (t * 6 + p) (enc c))) := by
    unfold f_X0_setVote
    rw [li_6, pk_mul, nI_add, gdI (by omega) (by decide), clI (by omega)]
  obtain ⟨Nm', e4, hNm⟩ := s_choose hN hB2 ok2 Nm
  have nl := nmA_le (upA A 6 (t * 6 + p) c) t
  refine ⟨_, Hs', Nm', ?_, hB2, inv_up hi ok2 (by decide) (by decide) (by decide), r2⟩
  rw [vote_go hB ok hp ht hc]
  unfold f_X5_vote_36
  rw [s_voteOf hB ok ht hp, bd_some, if_neg (fun z => q ((enc_eq (by omega) (by omega)).mp z)), r1, bd_some, e3, bd_some, e4, bd2_some, gdI (by omega) (by decide), clI (by omega), gdJ (by omega) (by decide), hNm t (by rw [h5]; exact ht)]
  by_cases z : nmA (upA A 6 (t * 6 + p) c) t = 0
  · rw [if_pos ((enc_n5 (by omega)).mpr z), if_pos z]
    rfl
  · rw [if_neg (fun w => z ((enc_n5 (by omega)).mp w)), if_neg z]
theorem t_set_w (v : Int32) : f_X5_set N Tn B Hs (nI 3) v = some (-1, B, Hs) := by
  unfold f_X5_set
  rw [li_0, li_2, wi_f (by omega) (by omega) (by omega) (by omega), bd_some, if_pos (show (0 : Int32) = nI 0 from rfl)]
theorem set_wi {j v : Nat} (hj : j < 3) (hv : v < 1000) : f_X5_isWithin N (nI v) (LSf j) (MSf j) = some (if (if j = 0 then v ≤ 20 else 1 ≤ v ∧ v ≤ 9) then 1 else 0) := by
  match j, hj with
  | 0, _ =>
    show f_X5_isWithin N (nI v) (nI 0) (nI 20) = _
    by_cases q : v ≤ 20
    · rw [wi_t (by omega) q (by omega), if_pos (by simpa using q)]
    · rw [wi_f (by omega) (by omega) (by omega) (by omega), if_neg (by simpa using q)]
  | 1, _ =>
    show f_X5_isWithin N (nI v) (nI 1) (nI 9) = _
    by_cases q : 1 ≤ v ∧ v ≤ 9
    · rw [wi_t q.1 q.2 (by omega), if_pos (by simpa using q)]
    · rw [wi_f (by omega) (by omega) (by omega) (by omega), if_neg (by simpa using q)]
  | 2, _ =>
    show f_X5_isWithin N (nI v) (nI 1) (nI 9) = _
    by_cases q : 1 ≤ v ∧ v ≤ 9
    · rw [wi_t q.1 q.2 (by omega), if_pos (by simpa using q)]
    · rw [wi_f (by omega) (by omega) (by omega) (by omega), if_neg (by simpa using q)]
theorem t_set_b {j v : Nat} (hj : j < 3) (hv : v < 1000) (q : ¬ (if j = 0 then v ≤ 20 else 1 ≤ v ∧ v ≤ 9)) : f_X5_set N Tn B Hs (nI j) (nI v) = some (-2, B, Hs) := by
  unfold f_X5_set
  rw [li_0, li_2, wi_t (by omega) (by omega) (by omega), bd_some, if_neg (show ¬ (1 : Int32) = nI 0 by decide), ← li_0, gdI (by omega) (by decide), gdI (by omega) (by decide), clI (by omega), set_wi hj hv, if_neg q, bd_some, if0]
theorem t_set_s (hB : RB B A) {j v : Nat} (hj : j < 3) (hv : v < 1000) (q : (if j = 0 then v ≤ 20 else 1 ≤ v ∧ v ≤ 9)) (e : A 7 j = v) : f_X5_set N Tn B Hs (nI j) (nI v) = some (-5, B, Hs) := by
  unfold f_X5_set
  rw [li_0, li_2, wi_t (by omega) (by omega) (by omega), bd_some, if_neg (show ¬ (1 : Int32) = nI 0 by decide), ← li_0, gdI (by omega) (by decide), gdI (by omega) (by decide), clI (by omega), set_wi hj hv, if_pos q, bd_some, if1, gdJ (by omega) (by decide), hB.2.2.1 j hj, eqT e]
theorem ok_set (ok : okA A) {j v : Nat} (hj : j < 3) (hv : if j = 0 then v ≤ 20 else 1 ≤ v ∧ v ≤ 9) : okA (upA A 7 j v) := by
  obtain ⟨o1, o2, o3, o4, o5, o6, o8⟩ := ok
  have u : ∀ k, upA A 7 j v 7 k = if k = j then v else A 7 k := fun k => by
    by_cases q : k = j
    · rw [if_pos q, q, upA_s]
    · rw [if_neg q, upA_o _ _ (Or.inr q)]
  have w : ∀ f k, f ≠ 7 → upA A 7 j v f k = A f k := fun f k h => upA_o _ _ (Or.inl h)
  refine ⟨by rw [w _ _ (by decide)]; exact o1, by rw [w _ _ (by decide)]; exact o2, ?_, ?_, ?_, fun i hi => ?_, fun t ht p hp => ?_⟩
  · rw [u]
    match j, hj, hv with
    | 0, _, hv => simpa using hv
    | 1, _, _ => exact o3
    | 2, _, _ => exact o3
  · rw [u]
    match j, hj, hv with
    | 0, _, _ => exact o4
    | 1, _, hv => simpa using hv
    | 2, _, _ => exact o4
  · rw [u]
    match j, hj, hv with
    | 0, _, _ => exact o5
    | 1, _, _ => exact o5
    | 2, _, hv => simpa using hv
  · rw [w _ _ (by decide)] at hi
    obtain ⟨a, b, c, d⟩ := o6 i hi
    exact ⟨by rw [w _ _ (by decide)]; exact a, by rw [w _ _ (by decide)]; exact b, by rw [w _ _ (by decide), w _ _ (by decide)]; exact c, fun p hp => by rw [w _ _ (by decide)]; exact d p hp⟩
  · rw [w _ _ (by decide)] at ht
    rw [w _ _ (by decide)]
    exact o8 t ht p hp
theorem t_setA (hB : RB B A) (hi : inv A) (hH : RHx Hs kn As) {j v : Nat} (hj : j < 3) (hv : v < 1000) (q : (if j = 0 then v ≤ 20 else 1 ≤ v ∧ v ≤ 9)) (e : A 7 j ≠ v) : ∃ B' Hs', f_X5_set N Tn B Hs (nI j) (nI v) = some (nI (A 7 j), B', Hs') ∧ ac B' Hs' (upA A 7 j v) A kn As := by
  have ok := hi.1
  obtain ⟨Hs', r1, r2⟩ := t_rec (N := N) hH hB hi
  have b7 : A 7 j ≤ 20 := by
    have o3 := ok.2.2.1
    have o4 := ok.2.2.2.1
    have o5 := ok.2.2.2.2.1
    match j, hj with
    | 0, _ => exact o3
    | 1, _ => omega
    | 2, _ => omega
  refine ⟨va_up B 7 (upd (B 7) j (nI v)), Hs', ?_, RB_up hB (by decide) (by decide) rfl, inv_up hi (ok_set ok hj q) (by decide) (by decide) (by decide), r2⟩
  unfold f_X5_set
  rw [li_0, li_2, wi_t (by omega) (by omega) (by omega), bd_some, if_neg (show ¬ (1 : Int32) = nI 0 by decide), ← li_0, gdI (by omega) (by decide), gdI (by omega) (by decide), clI (by omega), set_wi hj hv, if_pos q, bd_some, if1, gdJ (by omega) (by decide), hB.2.2.1 j hj, eqF e (by omega) (by omega), r1, bd_some, gdJ (by omega) (by decide)]
end ACT
