/-! holds: the accounts agree -/
theorem sm_fub {f : Nat → Nat → Nat} {n : Nat} : ∀ m, sm (fun p => sm (fun i => f i p) n) m = sm (fun i => sm (fun p => f i p) m) n
  | 0 => by
    have : ∀ n, sm (fun _ => 0) n = 0 := by
      intro n
      induction n with
      | zero => rfl
      | succ n ih => show sm (fun _ => 0) n + 0 = 0; omega
    exact (this n).symm
  | m + 1 => by
    show sm (fun p => sm (fun i => f i p) n) m + sm (fun i => f i m) n = sm (fun i => sm (fun p => f i p) m + f i m) n
    rw [sm_add, sm_fub m]
theorem sm_head (f : Nat → Nat) : ∀ n, sm f (n + 1) = f 0 + sm (fun i => f (i + 1)) n
  | 0 => by show 0 + f 0 = f 0 + 0; omega
  | n + 1 => by
    show sm f (n + 1) + f (n + 1) = f 0 + (sm (fun i => f (i + 1)) n + f (n + 1))
    rw [sm_head f n]
    omega
theorem sm_one {v : Nat} : ∀ {m : Nat}, v < m → sm (fun c => if (v == c) = true then 1 else 0) m = 1
  | 0, h => absurd h (Nat.not_lt_zero v)
  | m + 1, h => by
    show sm (fun c => if (v == c) = true then 1 else 0) m + (if (v == m) = true then 1 else 0) = 1
    by_cases q : v = m
    · have z : sm (fun c => if (v == c) = true then 1 else 0) m = 0 := ct_zero.mpr (fun i hi => beq_eq_false_iff_ne.mpr (by omega))
      rw [z]
      simp [q]
    · rw [sm_one (by omega)]
      simp [q]
theorem vt_sum {A : tA} (ok : okA A) {t : Nat} (ht : t < A 5 0) : sm (fun k => vtA A t (k + 1)) 10 = 6 - vtA A t 0 ∧ vtA A t 0 ≤ 6 := by
  have h : sm (fun c => vtA A t c) 11 = 6 := by
    show sm (fun c => sm (fun p => if (A 6 (t * 6 + p) == c) = true then 1 else 0) 6) 11 = 6
    rw [sm_fub]
    have e : sm (fun p => sm (fun c => if (A 6 (t * 6 + p) == c) = true then 1 else 0) 11) 6 = sm (fun _ => 1) 6 := sm_congr (fun p hp => sm_one (by have := ok.2.2.2.2.2.2 t ht p hp; omega))
    rw [e]
    rfl
  rw [sm_head] at h
  have := ct_le (fun p => A 6 (t * 6 + p) == 0) 6
  have : vtA A t 0 ≤ 6 := this
  omega
theorem dp_dt {A : tA} : sm (dpA A) 6 = sm (dtA A) (A 0 0) := sm_fub (f := fun i p => A 4 (i * 6 + p)) 6
theorem fd_le {h : Nat → Nat} {g n : Nat} : ∀ d, d ≤ n → ∀ i, n - d ≤ i → i < n → h i = g → ∃ k, fdA h g n d = k + 1 ∧ k ≤ i ∧ k < n ∧ h k = g
  | 0, _, i, h1, h2, _ => by omega
  | d + 1, hd, i, h1, h2, e => by
    show ∃ k, (if h (n - 1 - d) = g then n - 1 - d + 1 else fdA h g n d) = k + 1 ∧ _
    by_cases q : h (n - 1 - d) = g
    · rw [if_pos q]
      exact ⟨n - 1 - d, rfl, by omega, by omega, q⟩
    · rw [if_neg q]
      have : i ≠ n - 1 - d := fun w => q (by rw [← w]; exact e)
      exact fd_le d (by omega) i (by omega) h2 e
theorem md_sp {A : tA} {h : Nat → Nat} {g n : Nat} (hs : ∀ i, i < n → sdA A h i n < 1000) : ∀ i, i ≤ n → ((mdA A h g n i).1 = 0 ∧ (mdA A h g n i).2 = 1000 ∧ ∀ j, j < i → h j ≠ g) ∨ ∃ k, (mdA A h g n i).1 = k + 1 ∧ k < i ∧ h k = g ∧ (mdA A h g n i).2 = sdA A h k n ∧ ∀ j, j < i → h j = g → sdA A h k n ≤ sdA A h j n
  | 0, _ => Or.inl ⟨rfl, rfl, fun j hj => absurd hj (Nat.not_lt_zero j)⟩
  | i + 1, hi => by
    have ih := md_sp (g := g) hs i (by omega)
    have e : mdA A h g n (i + 1) = if h i = g ∧ sdA A h i n < (mdA A h g n i).2 then (i + 1, sdA A h i n) else mdA A h g n i := rfl
    rw [e]
    by_cases q : h i = g ∧ sdA A h i n < (mdA A h g n i).2
    · rw [if_pos q]
      refine Or.inr ⟨i, rfl, by omega, q.1, rfl, fun j hj hg => ?_⟩
      by_cases z : j = i
      · rw [z]
        exact Nat.le_refl _
      · rcases ih with ⟨-, -, h3⟩ | ⟨k, -, -, -, h4, h5⟩
        · exact absurd hg (h3 j (by omega))
        · have := h5 j (by omega) hg
          omega
    · rw [if_neg q]
      rcases ih with ⟨h1, h2, h3⟩ | ⟨k, h1, h2, h3, h4, h5⟩
      · left
        refine ⟨h1, h2, fun j hj => ?_⟩
        by_cases z : j = i
        · intro w
          rw [z] at w
          exact q ⟨w, by rw [h2]; exact hs i (by omega)⟩
        · exact h3 j (by omega)
      · right
        refine ⟨k, h1, by omega, h3, h4, fun j hj hg => ?_⟩
        by_cases z : j = i
        · rw [z] at hg ⊢
          rw [h4] at q
          omega
        · exact h5 j (by omega) hg
theorem sd_sym (A : tA) (h : Nat → Nat) (a n : Nat) : sm (fun k => if h k = h a then dA A k a else 0) n = sdA A h a n := sm_congr (fun k _ => by rw [dA_comm])
section HO
variable {N : Nat} {Tn B Tr E F Nm : tS} {Hs : tH} {A : tA} {p1 : Int32}
/-- its last row -/
theorem h_575 (hN : 1000 ≤ N) (hB : RB B A) (ok : okA A) : Rt (f_L_holds_575 N Tn B Hs p1 (nI (A 0 0)) (nI (nh A (A 7 0))) (nI (A 5 0)) (nI (sm (dpA A) 6)) (nI (ct (fun t => nmA A t != 0) (A 5 0))) (nI (sm (fun p => A 7 1 - dpA A p) 6)) 1 Tr E F Nm) (fun q => q.1 = 1) := by
  unfold f_L_holds_575
  rw [if1]
  refine rt3 (q_c3 hN hB ok) (fun E Nm => ?_)
  rw [dp_dt, if_pos rfl]
  refine rt3 (q_c4 hN hB ok) (fun E Nm => ?_)
  rw [if_pos rfl]
  refine rt3 (q_c6 hN hB ok) (fun E Nm => ?_)
  rw [if_pos rfl]
  refine rt4 (q_nx hB ok _) (fun Tr E F => ?_)
  rw [if_pos rfl]
  refine rt2 (q_hx hN hB ok _) (fun E => ?_)
  rw [if_pos rfl]
  refine rt3 (q_tx hB ok _) (fun E Nm => ?_)
  rw [if_pos rfl]
  exact rt_ok rfl
theorem h_556 (hN : 1000 ≤ N) (hB : RB B A) (ok : okA A) {a : Nat} (ha : a < A 0 0) : Rt (f_L_holds_556 N Tn B Hs p1 (nI (A 0 0)) (nI (nh A (A 7 0))) (nI (A 5 0)) (nI (sm (dpA A) 6)) (nI (ct (fun t => nmA A t != 0) (A 5 0))) (nI (sm (fun p => A 7 1 - dpA A p) 6)) (nI a) (nI (hp A (A 7 0) a)) Tr E F Nm) (fun q => q.1 = 1) := by
  have o1 := ok.1
  have o3 := ok.2.2.1
  unfold f_L_holds_556 f_L_holds_573
  refine rt2 (q_h1 hN hB ok (hp_l ok (by omega) ha)) (fun E => ?_)
  obtain ⟨k, e, hk, -, -⟩ := fd_le (h := hp A (A 7 0)) (g := hp A (A 7 0) a) (n := A 0 0) (A 0 0) (Nat.le_refl _) a (by omega) ha rfl
  rw [e, enc_s, ltF hk (by omega)]
  exact h_575 hN hB ok
theorem h_529 (hN : 1000 ≤ N) (hB : RB B A) (hi : inv A) {a : Nat} (ha : a < A 0 0) : Rt (f_L_holds_529 N Tn B Hs p1 (nI (A 0 0)) (nI (nh A (A 7 0))) (nI (A 5 0)) (nI (sm (dpA A) 6)) (nI (ct (fun t => nmA A t != 0) (A 5 0))) (nI (sm (fun p => A 7 1 - dpA A p) 6)) (nI a) (nI (hp A (A 7 0) a)) Tr E F Nm) (fun q => q.1 = 1) := by
  have ok := hi.1
  have o1 := ok.1
  have o2 := ok.2.1
  have b3 := (ok.2.2.2.2.2.1 a ha).2.2.1
  unfold f_L_holds_529
  refine rt4 (q_n4 hB ok ha) (fun Tr E F => ?_)
  by_cases q : A 3 a = 0
  · rw [q, if_pos (show enc 0 = -5 from rfl)]
    exact h_556 hN hB ok ha
  · obtain ⟨t, ht⟩ : ∃ t, A 3 a = t + 1 := ⟨A 3 a - 1, by omega⟩
    rw [if_neg (fun w => q ((enc_n5 (by omega)).mp w))]
    refine rt4 (q_n4 hB ok ha) (fun Tr E F => ?_)
    rw [ht, enc_s]
    refine rt3 (q_t0 hN hB ok (t := t) (by omega)) (fun E Nm => ?_)
    have hle : ntA A (t + 1) ≤ A 0 0 := ct_le _ _
    have hpos : 0 < ntA A (t + 1) := ct_pos ha (by rw [beq_iff_eq]; exact ht)
    rw [if_neg (show ¬ nI (ntA A (t + 1)) ≤ 0 by rw [I_le, I_0, nI_T (by omega)]; omega)]
    exact h_556 hN hB ok ha
theorem h_491 (hN : 1000 ≤ N) (hB : RB B A) (hi : inv A) {a b one two : Nat} (ha : a < A 0 0) (hb : b < A 0 0) (h12 : two ≤ one) (h1 : one < 100000) : Rt (f_L_holds_491 N Tn B Hs p1 (nI (A 0 0)) (nI (nh A (A 7 0))) (nI (A 5 0)) (nI (sm (dpA A) 6)) (nI (ct (fun t => nmA A t != 0) (A 5 0))) (nI (sm (fun p => A 7 1 - dpA A p) 6)) (nI a) (nI b) (nI (hp A (A 7 0) a)) (nI one) (nI two) Tr E F Nm) (fun q => q.1 = 1) := by
  have ok := hi.1
  have o1 := ok.1
  have o3 := ok.2.2.1
  have hha := hp_b ok (r := A 7 0) (by omega) a ha
  have hhb := hp_b ok (r := A 7 0) (by omega) b hb
  unfold f_L_holds_491
  rw [ltF h12 (by omega)]
  refine rt4 (q_n3 hN hB ok hb) (fun Tr E F => ?_)
  by_cases q : hp A (A 7 0) b = hp A (A 7 0) a
  · rw [eqT q]
    refine rt4 (t_far hB ok ha hb) (fun Tr E F => ?_)
    have hg := hp_l ok (r := A 7 0) (by omega) ha
    obtain ⟨w1, w2⟩ := q_h6 (Tn := Tn) (E := E) hN hB ok hg
    refine rt2 w2 (fun E => ?_)
    have hle := w1.1 a b ha hb trivial rfl q
    have hwb : wd A (hp A (A 7 0) a) ≤ 48 := by
      rcases w1.2 with z | ⟨x, y, hx, hy, -, -, z⟩
      · omega
      · rw [← z]
        exact dA_le ok hx hy
    rw [ltF hle (by omega)]
    exact h_529 hN hB hi ha
  · rw [eqF q (by omega) (by omega)]
    exact h_529 hN hB hi ha
theorem h_469 (hN : 1000 ≤ N) (hB : RB B A) (hi : inv A) {a b one two : Nat} (ha : a < A 0 0) (hb : b < A 0 0) (h12 : two ≤ one) (h1 : one < 100000) {x15 : Int32} (hx : x15 ≠ 0 → dA A a b ≤ A 7 0) : Rt (f_L_holds_469 N Tn B Hs p1 (nI (A 0 0)) (nI (nh A (A 7 0))) (nI (A 5 0)) (nI (sm (dpA A) 6)) (nI (ct (fun t => nmA A t != 0) (A 5 0))) (nI (sm (fun p => A 7 1 - dpA A p) 6)) (nI a) (nI b) (nI (hp A (A 7 0) a)) (nI one) (nI two) x15 Tr E F Nm) (fun q => q.1 = 1) := by
  have ok := hi.1
  have o1 := ok.1
  unfold f_L_holds_469
  by_cases q : a = b
  · rw [eqT q]
    exact h_491 hN hB hi ha hb h12 h1
  rw [eqF q (by omega) (by omega)]
  by_cases q2 : x15 = 0
  · rw [if_pos q2]
    exact h_491 hN hB hi ha hb h12 h1
  rw [if_neg q2]
  refine rt4 (q_n5 hN hB ok ha) (fun Tr E F => ?_)
  have hle : nrA A a ≤ A 0 0 := ct_le _ _
  have hpos : 0 < nrA A a := ct_pos hb (decide_eq_true ⟨Ne.symm q, hx q2⟩)
  rw [if_neg (show ¬ nI (nrA A a) ≤ 0 by rw [I_le, I_0, nI_T (by omega)]; omega)]
  exact h_491 hN hB hi ha hb h12 h1
theorem h_450 (hN : 1000 ≤ N) (hB : RB B A) (hi : inv A) {a b one two : Nat} (ha : a < A 0 0) (hb : b < A 0 0) (h12 : two ≤ one) (h1 : one < 100000) {x15 : Int32} (hx : x15 ≠ 0 → dA A a b ≤ A 7 0) : Rt (f_L_holds_450 N Tn B Hs p1 (nI (A 0 0)) (nI (nh A (A 7 0))) (nI (A 5 0)) (nI (sm (dpA A) 6)) (nI (ct (fun t => nmA A t != 0) (A 5 0))) (nI (sm (fun p => A 7 1 - dpA A p) 6)) (nI a) (nI b) (nI (hp A (A 7 0) a)) (nI one) (nI two) x15 Tr E F Nm) (fun q => q.1 = 1) := by
  have ok := hi.1
  have o3 := ok.2.2.1
  unfold f_L_holds_450
  by_cases q : x15 = 0
  · rw [if_pos q]
    exact h_469 hN hB hi ha hb h12 h1 hx
  rw [if_neg q]
  refine rt4 (q_n3 hN hB ok hb) (fun Tr E F => ?_)
  rw [← hp_near ok (by omega) ha hb (hx q), if_pos rfl]
  exact h_469 hN hB hi ha hb h12 h1 hx
theorem h_358 (hN : 1000 ≤ N) (hB : RB B A) (hi : inv A) {a b md : Nat} (ha : a < A 0 0) (hb : b < A 0 0) (hm : md < A 0 0) (hmg : hp A (A 7 0) md = hp A (A 7 0) a) (hmin : sdA A (hp A (A 7 0)) md (A 0 0) ≤ sdA A (hp A (A 7 0)) a (A 0 0)) : Rt (f_L_holds_358 N Tn B Hs p1 N (nI (A 0 0)) (nI (nh A (A 7 0))) (nI (A 5 0)) (nI (sm (dpA A) 6)) (nI (ct (fun t => nmA A t != 0) (A 5 0))) (nI (sm (fun p => A 7 1 - dpA A p) 6)) (nI a) (nI b) (nI (hp A (A 7 0) a)) (nI md) 0 0 0 Tr E F Nm) (fun q => q.1 = 1) := by
  have ok := hi.1
  have o1 := ok.1
  have o3 := ok.2.2.1
  refine rt_lp (F := fun k (q : Int32 × Int32 × Int32 × tS × tS × tS × tS) => f_L_holds_358 N Tn B Hs p1 k (nI (A 0 0)) (nI (nh A (A 7 0))) (nI (A 5 0)) (nI (sm (dpA A) 6)) (nI (ct (fun t => nmA A t != 0) (A 5 0))) (nI (sm (fun p => A 7 1 - dpA A p) 6)) (nI a) (nI b) (nI (hp A (A 7 0) a)) (nI md) q.1 q.2.1 q.2.2.1 q.2.2.2.1 q.2.2.2.2.1 q.2.2.2.2.2.1 q.2.2.2.2.2.2) (fun i q => q.1 = nI (sm (fun k => if hp A (A 7 0) k = hp A (A 7 0) a then dA A k a else 0) i) ∧ q.2.1 = nI (sm (fun k => if hp A (A 7 0) k = hp A (A 7 0) md then dA A k md else 0) i) ∧ q.2.2.1 = nI i) (A 0 0) ?_ ?_ N (by omega) (0, 0, 0, Tr, E, F, Nm) ⟨rfl, rfl, rfl⟩
  · rintro k ⟨x, y, z, Tr, E, F, Nm⟩ ⟨e1, e2, e3⟩
    simp only at e1 e2 e3
    subst e1 e2 e3
    show Rt (f_L_holds_358b N Tn B Hs p1 (f_L_holds_358 N Tn B Hs p1 k) (nI (A 0 0)) _ _ _ _ _ (nI a) (nI b) _ _ _ _ (nI (A 0 0)) Tr E F Nm) _
    unfold f_L_holds_358b
    rw [leT (Nat.le_refl _) (by omega), sd_sym, sd_sym]
    have hs := sdA_le (h := hp A (A 7 0)) ok ha
    refine rt4 (t_far hB ok ha hb) (fun Tr E F => ?_)
    refine rt3 (q_c8 hB) (fun E Nm => ?_)
    by_cases q : dA A a b ≤ A 7 0
    · rw [ltF q (by omega)]
      exact h_450 hN hB hi ha hb hmin (by omega) (fun _ => q)
    · have := dA_le ok ha hb
      rw [ltT (by omega) (by omega)]
      exact h_450 hN hB hi ha hb hmin (by omega) (fun w => absurd rfl w)
  · rintro k i ⟨x, y, z, Tr, E, F, Nm⟩ hi' ⟨e1, e2, e3⟩ ih
    simp only at e1 e2 e3
    subst e1 e2 e3
    show Rt (f_L_holds_358b N Tn B Hs p1 (f_L_holds_358 N Tn B Hs p1 k) (nI (A 0 0)) _ _ _ _ _ (nI a) (nI b) _ (nI md) _ _ (nI i) Tr E F Nm) _
    have hha := hp_b ok (r := A 7 0) (by omega) a ha
    have hhi := hp_b ok (r := A 7 0) (by omega) i hi'
    unfold f_L_holds_358b
    rw [leF hi' (by omega)]
    refine rt4 (q_n3 hN hB ok hi') (fun Tr E F => ?_)
    by_cases q : hp A (A 7 0) i = hp A (A 7 0) a
    · rw [eqT q]
      refine rt4 (t_far hB ok hi' ha) (fun Tr E F => ?_)
      unfold f_L_holds_390
      refine rt4 (q_n3 hN hB ok hi') (fun Tr E F => ?_)
      rw [eqT q]
      refine rt4 (t_far hB ok hi' hm) (fun Tr E F => ?_)
      unfold f_L_holds_419
      refine ih (_, _, _, Tr, E, F, Nm) ⟨?_, ?_, nI_s i⟩
      · show nI _ + nI _ = nI (_ + (if hp A (A 7 0) i = hp A (A 7 0) a then dA A i a else 0))
        rw [if_pos q, nI_add]
      · show nI _ + nI _ = nI (_ + (if hp A (A 7 0) i = hp A (A 7 0) md then dA A i md else 0))
        rw [if_pos (q.trans hmg.symm), nI_add]
    · rw [eqF q (by omega) (by omega)]
      unfold f_L_holds_390
      refine rt4 (q_n3 hN hB ok hi') (fun Tr E F => ?_)
      rw [eqF q (by omega) (by omega)]
      unfold f_L_holds_419
      refine ih (_, _, _, Tr, E, F, Nm) ⟨?_, ?_, nI_s i⟩
      · show nI _ + nI 0 = nI (_ + (if hp A (A 7 0) i = hp A (A 7 0) a then dA A i a else 0))
        rw [if_neg q, nI_add]
      · show nI _ + nI 0 = nI (_ + (if hp A (A 7 0) i = hp A (A 7 0) md then dA A i md else 0))
        rw [if_neg (fun w => q (w.trans hmg)), nI_add]
theorem h_306 (hN : 1000 ≤ N) (hB : RB B A) (hi : inv A) : Rt (f_L_holds_306 N Tn B Hs p1 (nI (A 0 0)) (nI (nh A (A 7 0))) (nI (A 5 0)) (nI (sm (dpA A) 6)) (nI (ct (fun t => nmA A t != 0) (A 5 0))) (nI (sm (fun p => A 7 1 - dpA A p) 6)) 1 Tr E F Nm) (fun q => q.1 = 1) := by
  have ok := hi.1
  have o1 := ok.1
  have o3 := ok.2.2.1
  unfold f_L_holds_306
  rw [if1]
  by_cases q : A 0 0 = 0
  · rw [if_pos (show nI (A 0 0) ≤ 0 by rw [q]; decide)]
    exact h_575 hN hB ok
  rw [if_neg (show ¬ nI (A 0 0) ≤ 0 by rw [I_le, I_0, nI_T (by omega)]; omega)]
  have ha := lw_lt p1 (n := A 0 0) (by omega)
  have hb := lw_lt (p1 >>> ((5 : Int32) &&& 31)) (n := A 0 0) (by omega)
  refine rt1 (t_low N _ (by omega) (by omega)) ?_
  refine rt1 (t_low N _ (by omega) (by omega)) ?_
  generalize lw p1 (A 0 0) = a at *
  generalize lw (p1 >>> ((5 : Int32) &&& 31)) (A 0 0) = b at *
  refine rt4 (q_n3 hN hB ok ha) (fun Tr E F => ?_)
  refine rt2 (q_h5 hN hB ok (hp_l ok (by omega) ha)) (fun E => ?_)
  rcases md_sp (A := A) (h := hp A (A 7 0)) (g := hp A (A 7 0) a) (n := A 0 0) (fun i hi' => by have := sdA_le (h := hp A (A 7 0)) ok hi'; omega) (A 0 0) (Nat.le_refl _) with ⟨-, -, h3⟩ | ⟨k, h1, h2, h3, -, h5⟩
  · exact absurd rfl (h3 a ha)
  · rw [h1, enc_s]
    exact h_358 hN hB hi ha hb h2 h3 (h5 a ha rfl)
theorem h_164 (hN : 1000 ≤ N) (hB : RB B A) (hi : inv A) : Rt (f_L_holds_164 N Tn B Hs p1 N (nI (A 0 0)) (nI (nh A (A 7 0))) (nI (A 5 0)) (nI (sm (dpA A) 6)) 0 (nI (sm (fun p => A 7 1 - dpA A p) 6)) 1 0 Tr E F Nm) (fun q => q.1 = 1) := by
  have ok := hi.1
  have o1 := ok.1
  have o2 := ok.2.1
  refine rt_lp (F := fun k (q : Int32 × Int32 × tS × tS × tS × tS) => f_L_holds_164 N Tn B Hs p1 k (nI (A 0 0)) (nI (nh A (A 7 0))) (nI (A 5 0)) (nI (sm (dpA A) 6)) q.1 (nI (sm (fun p => A 7 1 - dpA A p) 6)) 1 q.2.1 q.2.2.1 q.2.2.2.1 q.2.2.2.2.1 q.2.2.2.2.2) (fun i q => q.1 = nI (ct (fun t => nmA A t != 0) i) ∧ q.2.1 = nI i) (A 5 0) ?_ ?_ N (by omega) (0, 0, Tr, E, F, Nm) ⟨rfl, rfl⟩
  · rintro k ⟨x, y, Tr, E, F, Nm⟩ ⟨e1, e2⟩
    simp only at e1 e2
    subst e1 e2
    show Rt (f_L_holds_164b N Tn B Hs p1 (f_L_holds_164 N Tn B Hs p1 k) (nI (A 0 0)) _ (nI (A 5 0)) _ _ _ 1 (nI (A 5 0)) Tr E F Nm) _
    unfold f_L_holds_164b
    rw [leT (Nat.le_refl _) (by omega)]
    exact h_306 hN hB hi
  · rintro k t ⟨x, y, Tr, E, F, Nm⟩ ht ⟨e1, e2⟩ ih
    simp only at e1 e2
    subst e1 e2
    show Rt (f_L_holds_164b N Tn B Hs p1 (f_L_holds_164 N Tn B Hs p1 k) (nI (A 0 0)) _ (nI (A 5 0)) _ _ _ 1 (nI t) Tr E F Nm) _
    unfold f_L_holds_164b
    rw [leF ht (by omega), if1]
    obtain ⟨vs, v6⟩ := vt_sum ok ht
    -- the votes of this theme
    refine rt_lp (F := fun j (q : Int32 × Int32 × tS × tS × tS × tS) => f_L_holds_182 N Tn B Hs p1 (f_L_holds_164 N Tn B Hs p1 k) j (nI (A 0 0)) (nI (nh A (A 7 0))) (nI (A 5 0)) (nI (sm (dpA A) 6)) (nI (ct (fun t => nmA A t != 0) t)) (nI (sm (fun p => A 7 1 - dpA A p) 6)) (nI t) q.1 q.2.1 q.2.2.1 q.2.2.2.1 q.2.2.2.2.1 q.2.2.2.2.2) (fun i q => q.1 = nI (sm (fun k => vtA A t (k + 1)) i) ∧ q.2.1 = nI i) 10 ?_ ?_ N (by omega) (0, 0, Tr, E, F, Nm) ⟨rfl, rfl⟩
    · rintro j ⟨x, y, Tr, E, F, Nm⟩ ⟨e1, e2⟩
      simp only at e1 e2
      subst e1 e2
      show Rt (f_L_holds_182b N Tn B Hs p1 (f_L_holds_164 N Tn B Hs p1 k) (f_L_holds_182 N Tn B Hs p1 (f_L_holds_164 N Tn B Hs p1 k) j) (nI (A 0 0)) _ (nI (A 5 0)) _ _ _ (nI t) _ (nI 10) Tr E F Nm) _
      unfold f_L_holds_182b
      rw [li_10, leT (Nat.le_refl _) (by omega)]
      refine rt3 (q_t2 hN hB ok ht) (fun E Nm => ?_)
      have nml := nmA_le A t
      have go : ∀ c : Nat, c = (if (nmA A t != 0) = true then 1 else 0) → Rt (f_L_holds_227 N Tn B Hs p1 (f_L_holds_164 N Tn B Hs p1 k) (nI (A 0 0)) (nI (nh A (A 7 0))) (nI (A 5 0)) (nI (sm (dpA A) 6)) (nI (sm (fun p => A 7 1 - dpA A p) 6)) (nI t) (nI (sm (fun k => vtA A t (k + 1)) 10)) (nI c) (nI (ct (fun t => nmA A t != 0) t)) Tr E F Nm) (fun q => q.1 = 1) := by
        intro c hc
        unfold f_L_holds_227 f_L_holds_293 f_L_holds_298
        rw [vs]
        refine rt3 (q_t5 hN hB ok ht) (fun E Nm => ?_)
        rw [if_pos rfl]
        refine rt3 (q_t0 hN hB ok ht) (fun E Nm => ?_)
        have hle : ntA A (t + 1) ≤ A 0 0 := ct_le _ _
        have hpos : 0 < ntA A (t + 1) := by
          obtain ⟨i, h1, h2⟩ := hi.2 t ht
          exact ct_pos h1 (by rw [beq_iff_eq]; exact h2)
        rw [if_neg (show ¬ nI (ntA A (t + 1)) ≤ 0 by rw [I_le, I_0, nI_T (by omega)]; omega)]
        have hrk : rkA A t < A 5 0 := ct_lt_n ht (by simp)
        refine rt3 (q_t3 hN hB ok ht) (fun E Nm => ?_)
        rw [lt0F (by omega)]
        refine rt3 (q_t3 hN hB ok ht) (fun E Nm => ?_)
        rw [leF hrk (by omega)]
        refine rt3 (q_t2 hN hB ok ht) (fun E Nm => ?_)
        have fin : ∀ E Nm, Rt (f_L_holds_164 N Tn B Hs p1 k (nI (A 0 0)) (nI (nh A (A 7 0))) (nI (A 5 0)) (nI (sm (dpA A) 6)) (nI (ct (fun t => nmA A t != 0) t) + nI c) (nI (sm (fun p => A 7 1 - dpA A p) 6)) 1 (nI t + 1) Tr E F Nm) (fun q => q.1 = 1) := fun E Nm => ih (_, _, Tr, E, F, Nm) ⟨by
          show nI _ + nI c = nI (_ + (if (nmA A t != 0) = true then 1 else 0))
          rw [← hc, nI_add]
          rfl, nI_s t⟩
        by_cases z : enc (nmA A t) = -5
        · rw [if_pos z, li_6, ltF (by omega) (by omega)]
          exact fin E Nm
        · rw [if_neg z]
          exact fin E Nm
      by_cases z : nmA A t = 0
      · rw [z, if_pos (show enc 0 = -5 from rfl)]
        exact go 0 (by rw [z]; rfl)
      · rw [if_neg (fun w => z ((enc_n5 (by omega)).mp w))]
        exact go 1 (by
          have : (nmA A t != 0) = true := by rw [bne_iff_ne]; exact z
          rw [this]
          rfl)
    · rintro j i ⟨x, y, Tr, E, F, Nm⟩ hi' ⟨e1, e2⟩ ih2
      simp only at e1 e2
      subst e1 e2
      show Rt (f_L_holds_182b N Tn B Hs p1 (f_L_holds_164 N Tn B Hs p1 k) (f_L_holds_182 N Tn B Hs p1 (f_L_holds_164 N Tn B Hs p1 k) j) (nI (A 0 0)) _ (nI (A 5 0)) _ _ _ (nI t) _ (nI i) Tr E F Nm) _
      unfold f_L_holds_182b
      rw [li_10, leF hi' (by omega)]
      refine rt1 (q_v hN hB ok ht hi') ?_
      exact ih2 (_, _, Tr, E, F, Nm) ⟨nI_add _ _, nI_s i⟩
theorem h_81 (hN : 1000 ≤ N) (hB : RB B A) (hi : inv A) : Rt (f_L_holds_81 N Tn B Hs p1 N (nI (A 0 0)) (nI (nh A (A 7 0))) (nI (A 5 0)) 0 0 0 1 0 Tr E F Nm) (fun q => q.1 = 1) := by
  have ok := hi.1
  have o1 := ok.1
  have o4 := ok.2.2.2.1
  refine rt_lp (F := fun k (q : Int32 × Int32 × Int32 × tS × tS × tS × tS) => f_L_holds_81 N Tn B Hs p1 k (nI (A 0 0)) (nI (nh A (A 7 0))) (nI (A 5 0)) q.1 0 q.2.1 1 q.2.2.1 q.2.2.2.1 q.2.2.2.2.1 q.2.2.2.2.2.1 q.2.2.2.2.2.2) (fun i q => q.1 = nI (sm (dpA A) i) ∧ q.2.1 = nI (sm (fun p => A 7 1 - dpA A p) i) ∧ q.2.2.1 = nI i) 6 ?_ ?_ N (by omega) (0, 0, 0, Tr, E, F, Nm) ⟨rfl, rfl, rfl⟩
  · rintro k ⟨x, y, z, Tr, E, F, Nm⟩ ⟨e1, e2, e3⟩
    simp only at e1 e2 e3
    subst e1 e2 e3
    show Rt (f_L_holds_81b N Tn B Hs p1 (f_L_holds_81 N Tn B Hs p1 k) (nI (A 0 0)) _ _ _ 0 _ 1 (nI 6) Tr E F Nm) _
    unfold f_L_holds_81b
    rw [li_6, leT (Nat.le_refl _) (by omega)]
    exact h_164 hN hB hi
  · rintro k p ⟨x, y, z, Tr, E, F, Nm⟩ hp' ⟨e1, e2, e3⟩ ih
    simp only at e1 e2 e3
    subst e1 e2 e3
    show Rt (f_L_holds_81b N Tn B Hs p1 (f_L_holds_81 N Tn B Hs p1 k) (nI (A 0 0)) _ _ _ 0 _ 1 (nI p) Tr E F Nm) _
    unfold f_L_holds_81b
    rw [li_6, leF hp' (by omega)]
    refine rt_lp (F := fun j (q : Int32 × Int32 × tS × tS × tS × tS) => f_L_holds_94 N Tn B Hs p1 (f_L_holds_81 N Tn B Hs p1 k) j (nI (A 0 0)) (nI (nh A (A 7 0))) (nI (A 5 0)) (nI (sm (dpA A) p)) 0 (nI (sm (fun p => A 7 1 - dpA A p) p)) 1 (nI p) q.1 q.2.1 q.2.2.1 q.2.2.2.1 q.2.2.2.2.1 q.2.2.2.2.2) (fun i q => q.1 = nI (sm (fun i => A 4 (i * 6 + p)) i) ∧ q.2.1 = nI i) (A 0 0) ?_ ?_ N (by omega) (0, 0, Tr, E, F, Nm) ⟨rfl, rfl⟩
    · rintro j ⟨x, y, Tr, E, F, Nm⟩ ⟨e1, e2⟩
      simp only at e1 e2
      subst e1 e2
      show Rt (f_L_holds_94b N Tn B Hs p1 (f_L_holds_81 N Tn B Hs p1 k) (f_L_holds_94 N Tn B Hs p1 (f_L_holds_81 N Tn B Hs p1 k) j) (nI (A 0 0)) _ _ _ 0 _ 1 (nI p) (nI (dpA A p)) (nI (A 0 0)) Tr E F Nm) _
      unfold f_L_holds_94b f_L_holds_152
      rw [leT (Nat.le_refl _) (by omega), nI_add]
      have hd := dpA_le ok hp'
      refine rt3 (q_c9 hB) (fun E Nm => ?_)
      by_cases q : A 7 1 ≤ dpA A p
      · rw [leT q (by omega)]
        refine ih (_, _, _, Tr, E, F, Nm) ⟨rfl, ?_, nI_s p⟩
        show nI _ + nI 0 = nI (_ + (A 7 1 - dpA A p))
        rw [nI_add, show A 7 1 - dpA A p = 0 by omega]
      · rw [leF (by omega) (by omega)]
        refine rt3 (q_c9 hB) (fun E Nm => ?_)
        refine ih (_, _, _, Tr, E, F, Nm) ⟨rfl, ?_, nI_s p⟩
        show nI _ + (nI (A 7 1) - nI (dpA A p)) = nI (_ + (A 7 1 - dpA A p))
        rw [pk_sub (by omega), nI_add]
    · rintro j i ⟨x, y, Tr, E, F, Nm⟩ hi' ⟨e1, e2⟩ ih2
      simp only at e1 e2
      subst e1 e2
      show Rt (f_L_holds_94b N Tn B Hs p1 (f_L_holds_81 N Tn B Hs p1 k) (f_L_holds_94 N Tn B Hs p1 (f_L_holds_81 N Tn B Hs p1 k) j) (nI (A 0 0)) _ _ _ 0 _ 1 (nI p) _ (nI i) Tr E F Nm) _
      unfold f_L_holds_94b
      rw [leF hi' (by omega)]
      refine rt1 (q_d hB ok hi' hp') ?_
      exact ih2 (_, _, Tr, E, F, Nm) ⟨nI_add _ _, nI_s i⟩
theorem t_holds (hN : 1000 ≤ N) (hB : RB B A) (hi : inv A) (p1 : Int32) : ∃ a b c d, f_L_holds N Tn B Hs Tr E F Nm p1 = some (1, a, b, c, d) := by
  have ok := hi.1
  have o1 := ok.1
  have o2 := ok.2.1
  have o3 := ok.2.2.1
  have nml := nh_le A (A 7 0)
  apply ex5
  unfold f_L_holds
  refine rt3 (q_c0 hB) (fun E Nm => ?_)
  refine rt3 (q_c1 hN hB ok) (fun E Nm => ?_)
  refine rt3 (q_c2 hB) (fun E Nm => ?_)
  rw [ltF nml (by omega)]
  have go : ∀ E Nm (c : Int32), Rt (f_L_holds_51 N Tn B Hs p1 (nI (A 0 0)) (nI (nh A (A 7 0))) (nI (A 5 0)) 0 0 0 c c Tr E F Nm) (fun q => q.1 = 1) := by
    intro E Nm c
    unfold f_L_holds_51 f_L_holds_76
    rw [if_pos rfl]
    refine rt3 (q_c7 hN hB ok) (fun E Nm => ?_)
    have ha : ct (fun i => nrA A i == 0) (A 0 0) ≤ nh A (A 7 0) := by
      rw [← alone_eq ok (t_lo ok (by omega))]
      exact ct_le _ _
    rw [ltF ha (by omega), li_8, ltF o2 (by omega)]
    exact h_81 hN hB hi
  unfold f_L_holds_42
  by_cases q : A 0 0 = 0
  · rw [if_pos (show nI (nh A (A 7 0)) = 0 by rw [show nh A (A 7 0) = 0 by omega]; rfl), if_pos (show nI (A 0 0) = 0 by rw [q]; rfl)]
    exact go E Nm 1
  · have hp0 := nh_pos ok (r := A 7 0) (by omega) (by omega)
    rw [if_neg (show ¬ nI (nh A (A 7 0)) = 0 from fun w => by
      have := nI_inj (by omega) (by omega) (show _ = nI 0 from w)
      omega), if_neg (show ¬ nI (A 0 0) = 0 from fun w => q (nI_inj (by omega) (by omega) (show _ = nI 0 from w)))]
    exact go E Nm 0
end HO
