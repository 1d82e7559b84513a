/-! count, reachFor, ifDragged -/
theorem ct_sub (r : Nat → Bool) (G : Nat → Bool) : ∀ n, ct G (ct r n) = ct (fun k => r k && G (ct r k)) n
  | 0 => rfl
  | n + 1 => by
    rw [ct_succ r n, ct_succ _ n, ← ct_sub r G n]
    cases h : r n with
    | false => simp
    | true =>
      show ct G (ct r n + 1) = _
      rw [ct_succ]
      simp
theorem ct_single {p : Nat → Bool} {k n : Nat} (hk : k < n) (h : ∀ i, i < n → (p i = true ↔ i = k)) : ct p n = 1 := by
  have c := ct_ins (mk := fun _ => false) (b := k) rfl hk
  rw [ct_false] at c
  rw [ct_congr (q := insB (fun _ => false) k) (fun i hi => ?_), c]
  by_cases q : i = k
  · rw [q, insB_b]
    exact (h k hk).mpr rfl
  · rw [insB_o q]
    cases e : p i with
    | false => rfl
    | true => exact absurd ((h i hi).mp e) q
/-- notes alone: by heaps and by notes -/
theorem alone_eq {A : tA} (ok : okA A) {L : Nat → Nat} (hL : Lo (A 0 0) 1000 (eA A (A 7 0)) L) : ct (fun g => hnA (hpA 1000 L) g (A 0 0) == 1) (nmH (A 0 0) 1000 L) = ct (fun i => nrA A i == 0) (A 0 0) := by
  have o1 := ok.1
  unfold nmH
  rw [ct_sub]
  refine ct_congr (fun k hk => ?_)
  have vk : ∀ i, i < A 0 0 → nV (A 0 0) 1000 i := fun i hi => ⟨hi, by omega⟩
  obtain ⟨a1, a2, a3⟩ := hL.1 k (vk k hk)
  by_cases q : nrA A k = 0
  · have hn := ct_zero.mp q
    have iso : ∀ x, Cn (nV (A 0 0) 1000) (eA A (A 7 0)) k x → x = k := by
      intro x hx
      refine hx (fun y => y = k) rfl (fun a b ha hb p e => ?_)
      apply Classical.byContradiction
      intro w
      have := of_decide_eq_false (hn b hb.1)
      rw [p] at e
      exact this ⟨w, e⟩
    have hLk : L k = k := iso _ ((hL.2 k (L k) (vk k hk) (vk _ (by omega))).mp a3.symm)
    have hr : rtB 1000 L k = true := decide_eq_true ⟨by omega, hLk⟩
    have hc : ct (rtB 1000 L) k = hpA 1000 L k := by
      unfold hpA
      rw [hLk]
    rw [hr, hc, q, show hnA (hpA 1000 L) (hpA 1000 L k) (A 0 0) = 1 from ct_single hk (fun i hi => by
      rw [beq_iff_eq, hp_eq hL hi hk (by omega) (by omega)]
      constructor
      · intro e
        exact iso i ((hL.2 k i (vk k hk) (vk i hi)).mp e.symm)
      · intro e
        rw [e])]
    rfl
  · have hne : (nrA A k == 0) = false := by simp [q]
    rw [hne]
    cases hr : rtB 1000 L k with
    | false => rfl
    | true =>
      obtain ⟨-, hLk⟩ := of_decide_eq_true hr
      have hc : ct (rtB 1000 L) k = hpA 1000 L k := by
        unfold hpA
        rw [hLk]
      rw [hc]
      show (hnA (hpA 1000 L) (hpA 1000 L k) (A 0 0) == 1) = false
      cases hb : (hnA (hpA 1000 L) (hpA 1000 L k) (A 0 0) == 1) with
      | false => rfl
      | true =>
        exfalso
        have h1 := hn_one hk (beq_iff_eq.mp hb)
        refine q (ct_zero.mpr (fun j hj => decide_eq_false (fun w => ?_)))
        have := (hL.2 k j (vk k hk) (vk j hj)).mpr (cn_1 (vk k hk) (vk j hj) w.2)
        exact h1 j hj w.1 ((hp_eq hL hj hk (by omega) (by omega)).mpr this.symm)
theorem m_count {N : Nat} (hN : 1000 ≤ N) {Tn B Sn Tx Tr E F Nm Bt M : tS} {Hs : tH} (hR : Rel Tn B Hs Sn Tx Tr E F Nm Bt M) (p0 : Int32) : ∃ (r : Int32) (Ez : tS) (Nmz : tS) (Mz : tS), f_X5_count N Tn B Hs E Nm p0 = some (r, Ez, Nmz) ∧ f_X6_count N M p0 = some (r, Mz) ∧ Rel Tn B Hs Sn Tx Tr Ez F Nmz Bt Mz := by
  have hR0 := hR
  obtain ⟨⟨A, ok, hB, hS⟩, hH, hK, hT⟩ := hR
  have o1 := ok.1
  have o2 := ok.2.1
  unfold f_X5_count f_X6_count
  rw [li_8, li_10]
  rcases in_r N p0 (a := 8) (b := 10) (by decide) (by decide) with ⟨e1, hno⟩ | ⟨j, j1, j2, rfl, e1⟩
  · rw [e1, bd_some, if0]
    by_cases q0 : p0 = 0
    · rw [if_pos q0, if_pos q0, hB.1, cl_0, hS.1]
      exact ⟨_, _, _, _, rfl, rfl, hR0⟩
    rw [if_neg q0, if_neg q0]
    by_cases q1 : p0 = 1
    · obtain ⟨E', M2, L, h1, h2, h3, h4, h5, h6⟩ := m_heaps hN hB hS ok Tn E
      rw [if_pos q1, if_pos q1, h1, h2, bd2_some, bd2_some]
      exact ⟨_, _, _, _, rfl, rfl, Rel_rk hR0 (fun k hk => h5 k (by omega) (by omega) (by omega))⟩
    rw [if_neg q1, if_neg q1]
    by_cases q2 : p0 = 2
    · rw [if_pos q2, if_pos q2, hB.2.1, cl_1, hS.2.1]
      exact ⟨_, _, _, _, rfl, rfl, hR0⟩
    rw [if_neg q2, if_neg q2]
    by_cases q3 : p0 = 3
    · rw [if_pos q3, if_pos q3, s_stuck hN hB ok, g_stuck hN hS ok, bd_some, bd_some]
      exact ⟨_, _, _, _, rfl, rfl, hR0⟩
    rw [if_neg q3, if_neg q3]
    by_cases q4 : p0 = 4
    · rw [if_pos q4, if_pos q4, s_left hN hB ok, g_left hN hS ok, bd_some, bd_some]
      exact ⟨_, _, _, _, rfl, rfl, hR0⟩
    rw [if_neg q4, if_neg q4]
    by_cases q5 : p0 = 5
    · have e := g_notesOf hN hS ok (c := 0) (by omega)
      rw [show nI 0 - 1 = (-1 : Int32) from rfl] at e
      rw [if_pos q5, if_pos q5, e, ← enc_0, s_notesOfTheme hN hB ok (by omega), bd_some, bd_some]
      exact ⟨_, _, _, _, rfl, rfl, hR0⟩
    rw [if_neg q5, if_neg q5]
    by_cases q6 : p0 = 6
    · obtain ⟨Nm', e3, e4⟩ := s_choose hN hB ok Nm
      rw [if_pos q6, if_pos q6, e3, g_named hN hS ok, bd2_some, bd_some]
      exact ⟨_, _, _, _, rfl, rfl, Rel_rk hR0 (fun _ _ => rfl)⟩
    rw [if_neg q6, if_neg q6]
    by_cases q7 : p0 = 7
    · obtain ⟨E', M2, L, h1, h2, h3, h4, h5, h6⟩ := m_heaps hN hB hS ok Tn E
      have nml := nm_le (A 0 0) 1000 L
      have hh : ∀ i, i < A 0 0 → hpA 1000 L i < 1000 := fun i hi => by
        have := hp_lt h6 hi (by omega)
        omega
      have ec : f_X5_notesAlone N Tn B E = some (nI (ct (fun g => hnA (hpA 1000 L) g (A 0 0) == 1) (nmH (A 0 0) 1000 L)), E') := by
        unfold f_X5_notesAlone
        rw [h1, bd2_some]
        refine lp_run (F := fun k (q : Int32 × Int32) => f_X5_notesAlone_9 N Tn B k (nI (nmH (A 0 0) 1000 L)) q.1 q.2 E') (s := fun i => (nI (ct (fun g => hnA (hpA 1000 L) g (A 0 0) == 1) i), nI i)) (nmH (A 0 0) 1000 L) _ ?_ ?_ N (by omega)
        · intro k
          show f_X5_notesAlone_9b N Tn B (f_X5_notesAlone_9 N Tn B k) (nI _) (nI _) (nI (nmH (A 0 0) 1000 L)) E' = _
          unfold f_X5_notesAlone_9b
          rw [leT (Nat.le_refl _) (by omega)]
        · intro k g hg
          show f_X5_notesAlone_9b N Tn B (f_X5_notesAlone_9 N Tn B k) (nI _) (nI _) (nI g) E' = f_X5_notesAlone_9 N Tn B k (nI (nmH (A 0 0) 1000 L)) (nI (ct (fun g => hnA (hpA 1000 L) g (A 0 0) == 1) g + (if hnA (hpA 1000 L) g (A 0 0) == 1 then 1 else 0))) (nI (g + 1)) E'
          have hle : hnA (hpA 1000 L) g (A 0 0) ≤ A 0 0 := ct_le _ _
          unfold f_X5_notesAlone_9b f_X5_notesAlone_29
          rw [leF hg (by omega), s_notesIn hN h3 o1 hh (by omega), bd_some, nI_s, nI_s]
          by_cases q : hnA (hpA 1000 L) g (A 0 0) = 1
          · rw [if_pos (show nI (hnA (hpA 1000 L) g (A 0 0)) = 1 by rw [q]; rfl)]
            simp [q]
          · rw [if_neg (show ¬ nI (hnA (hpA 1000 L) g (A 0 0)) = 1 from fun w => q (nI_inj (by omega) (by omega) (show _ = nI 1 from w)))]
            simp [q]
      have er : f_X6_alone N M = some (nI (ct (fun i => nrA A i == 0) (A 0 0))) := by
        refine lp_run (F := fun k (q : Int32 × Int32) => f_X6_alone_4 N M k q.1 q.2) (s := fun i => (nI (ct (fun i => nrA A i == 0) i), nI i)) (A 0 0) _ ?_ ?_ N (by omega)
        · intro k
          show f_X6_alone_4b N M (f_X6_alone_4 N M k) (nI _) (nI (A 0 0)) = _
          unfold f_X6_alone_4b
          rw [cl_0, hS.1, leT (Nat.le_refl _) (by omega)]
        · intro k i hi
          show f_X6_alone_4b N M (f_X6_alone_4 N M k) (nI _) (nI i) = f_X6_alone_4 N M k (nI (ct (fun i => nrA A i == 0) i + (if nrA A i == 0 then 1 else 0))) (nI (i + 1))
          have hle : nrA A i ≤ A 0 0 := ct_le _ _
          unfold f_X6_alone_4b f_X6_alone_28
          rw [cl_0, hS.1, leF hi (by omega), g_near hN hS ok hi, bd_some, nI_s, nI_s]
          by_cases q : nrA A i = 0
          · rw [if_pos (show nI (nrA A i) = 0 by rw [q]; rfl)]
            simp [q]
          · rw [if_neg (show ¬ nI (nrA A i) = 0 from fun w => q (nI_inj (by omega) (by omega) (show _ = nI 0 from w))), li_0, nI_add]
            simp [q]
      rw [if_pos q7, if_pos q7, ec, er, alone_eq ok h6, bd2_some, bd_some]
      exact ⟨_, _, _, _, rfl, rfl, hR0⟩
    rw [if_neg q7, if_neg q7]
    have n8 : ¬ p0 = nI 8 := fun w => hno ⟨8, by omega, by omega, w⟩
    have n9 : ¬ p0 = 9 := fun w => hno ⟨9, by omega, by omega, w⟩
    have n10 : ¬ p0 = nI 10 := fun w => hno ⟨10, by omega, by omega, w⟩
    rw [if_neg n8, if_neg n8, if_neg n9, if_neg n9, if_neg n10, if_neg n10]
    by_cases q11 : p0 = 11
    · obtain ⟨kn, As, h4, a1, a2, -, -⟩ := hH
      rw [if_pos q11, if_pos q11, a1, a2]
      exact ⟨_, _, _, _, rfl, rfl, hR0⟩
    rw [if_neg q11, if_neg q11]
    by_cases q12 : p0 = 12
    · obtain ⟨n, a, t1, t2, -⟩ := hT
      rw [if_pos q12, if_pos q12, t1, t2]
      exact ⟨_, _, _, _, rfl, rfl, hR0⟩
    rw [if_neg q12, if_neg q12]
    exact ⟨_, _, _, _, rfl, rfl, hR0⟩
  · obtain ⟨i, rfl⟩ : ∃ i, j = 8 + i := ⟨j - 8, by omega⟩
    have hi : i < 3 := by omega
    have e8 : nI (8 + i) - nI 8 = nI i := by rw [pk_sub (by omega), show 8 + i - 8 = i by omega]
    have es : (2 : Int32) + nI (8 + i) - nI 8 = nI (2 + i) := by rw [li_2, nI_add, pk_sub (by omega), show 2 + (8 + i) - 8 = 2 + i by omega]
    have ne : ∀ w, w < 8 → ¬ nI (8 + i) = nI w := fun w hw z => by
      have := nI_inj (by omega) (by omega) z
      omega
    rw [e1, bd_some, if1, es, gdI (by omega) (by decide), clI (by omega), hS.2.2.1 i hi, if_neg (show ¬ nI (8 + i) = 0 from ne 0 (by omega)), if_neg (show ¬ nI (8 + i) = 1 from ne 1 (by omega)), if_neg (show ¬ nI (8 + i) = 2 from ne 2 (by omega)), if_neg (show ¬ nI (8 + i) = 3 from ne 3 (by omega)), if_neg (show ¬ nI (8 + i) = 4 from ne 4 (by omega)), if_neg (show ¬ nI (8 + i) = 5 from ne 5 (by omega)), if_neg (show ¬ nI (8 + i) = 6 from ne 6 (by omega)), if_neg (show ¬ nI (8 + i) = 7 from ne 7 (by omega)), e8, gdI hi (by decide), clI (by omega), hB.2.2.1 i hi]
    rcases (by omega : i = 0 ∨ i = 1 ∨ i = 2) with rfl | rfl | rfl
    · rw [if_pos rfl]
      exact ⟨_, _, _, _, rfl, rfl, hR0⟩
    · rw [if_neg (by decide), if_pos (by decide)]
      exact ⟨_, _, _, _, rfl, rfl, hR0⟩
    · rw [if_neg (by decide), if_neg (by decide), if_pos (by decide)]
      exact ⟨_, _, _, _, rfl, rfl, hR0⟩
/-- a greater reach never makes more heaps -/
theorem nm_mono {n : Nat} {E E' : Nat → Nat → Prop} {L L' : Nat → Nat} (hn : n ≤ 20) (h : Lo n 1000 E L) (h' : Lo n 1000 E' L') (hE : ∀ a b, E a b → E' a b) : nmH n 1000 L' ≤ nmH n 1000 L := by
  refine ct_imp (fun k hk hr => ?_)
  obtain ⟨r1, r2⟩ := of_decide_eq_true hr
  have vk : nV n 1000 k := ⟨hk, by omega⟩
  obtain ⟨a1, a2, a3⟩ := h.1 k vk
  have vj : nV n 1000 (L k) := ⟨by omega, by omega⟩
  have c := cn_m (fun a b _ _ e => hE a b e) ((h.2 k (L k) vk vj).mp a3.symm)
  have e := (h'.2 k (L k) vk vj).mpr c
  have := (h'.1 (L k) vj).1
  exact decide_eq_true ⟨by omega, by omega⟩
theorem nm_one {n : Nat} {E : Nat → Nat → Prop} {L : Nat → Nat} (hn : n ≤ 20) (h : Lo n 1000 E L) (hE : ∀ a b, a < n → b < n → E a b) : nmH n 1000 L ≤ 1 := by
  by_cases q : n = 0
  · subst q
    exact Nat.zero_le _
  have c := ct_ins (mk := fun _ => false) (b := 0) rfl (show 0 < n by omega)
  rw [ct_false] at c
  have := ct_imp (p := rtB 1000 L) (q := insB (fun _ => false) 0) (n := n) (fun k hk hr => by
    obtain ⟨r1, r2⟩ := of_decide_eq_true hr
    have e := (h.2 k 0 ⟨hk, by omega⟩ ⟨by omega, by omega⟩).mpr (cn_1 ⟨hk, by omega⟩ ⟨by omega, by omega⟩ (hE k 0 hk (by omega)))
    have := (h.1 0 ⟨by omega, by omega⟩).1
    rw [show k = 0 by omega]
    exact insB_b _ _)
  unfold nmH
  omega
theorem m_reachFor {N : Nat} (hN : 1000 ≤ N) {Tn B Sn Tx Tr E F Nm Bt M : tS} {Hs : tH} (hR : Rel Tn B Hs Sn Tx Tr E F Nm Bt M) (p0 : Int32) : ∃ (r : Int32) (Fz : tS) (Mz : tS), f_X5_reachFor N Tn B F p0 = some (r, Fz) ∧ f_X6_reachFor N M p0 = some (r, Mz) ∧ Rel Tn B Hs Sn Tx Tr E Fz Nm Bt Mz := by
  have hR0 := hR
  obtain ⟨⟨A, ok, hB, hS⟩, -, -, -⟩ := hR
  have o1 := ok.1
  unfold f_X5_reachFor f_X6_reachFor
  rw [show f_X5_isWithin N p0 1 20 = f_X6_in N p0 1 20 from rfl, li_1, li_20]
  rcases in_r N p0 (a := 1) (b := 20) (by decide) (by decide) with ⟨e1, -⟩ | ⟨p, p1, p2, rfl, e1⟩
  · rw [e1, bd_some, bd_some, if0, if0]
    exact ⟨_, _, _, rfl, rfl, hR0⟩
  rw [e1, bd_some, bd_some, if1, if1]
  -- heaps by reach
  have hex : ∀ r, ∃ L, r < 1000 → Lo (A 0 0) 1000 (eA A r) L := by
    intro r
    by_cases q : r < 1000
    · obtain ⟨S', L, -, -, hL⟩ := s_find hN hB ok q F
      exact ⟨L, fun _ => hL⟩
    · exact ⟨fun k => k, fun h => absurd h q⟩
  obtain ⟨Lf, hLf⟩ := Classical.axiomOfChoice hex
  have mono : ∀ a b, a ≤ b → b < 1000 → nmH (A 0 0) 1000 (Lf b) ≤ nmH (A 0 0) 1000 (Lf a) := fun a b hab hb => nm_mono o1 (hLf a (by omega)) (hLf b hb) (fun x y h => Nat.le_trans h hab)
  have c48 : ∀ b, 48 ≤ b → b < 1000 → nmH (A 0 0) 1000 (Lf b) ≤ p := fun b h48 hb => Nat.le_trans (nm_one o1 (hLf b hb) (fun x y hx hy => Nat.le_trans (dA_le ok hx hy) h48)) p1
  have nl : ∀ r, nmH (A 0 0) 1000 (Lf r) ≤ A 0 0 := fun r => nm_le _ _ _
  -- the class
  have sf : ∀ r, r < 1000 → ∀ F, ∃ F', f_X2_find N F B (nI r) = some (nI (nmH (A 0 0) 1000 (Lf r)), F') := by
    intro r hr F
    obtain ⟨F', L, e, -, hL⟩ := s_find hN hB ok hr F
    have : nmH (A 0 0) 1000 L = nmH (A 0 0) 1000 (Lf r) := Nat.le_antisymm (nm_mono o1 (hLf r hr) hL (fun _ _ h => h)) (nm_mono o1 hL (hLf r hr) (fun _ _ h => h))
    rw [this] at e
    exact ⟨F', e⟩
  have two : ¬ ((2 : Int32) = 0) := by decide
  have cls : ∀ j, j < 6 → ∀ K t F, j + 2 < K → t + 2 * 2 ^ j ≤ 64 → (t = 0 ∨ p < nmH (A 0 0) 1000 (Lf (t - 1))) → nmH (A 0 0) 1000 (Lf (t + 2 * 2 ^ j - 1)) ≤ p → ∃ R F', f_X5_reachFor_18 N Tn B (nI p) K (nI t - 1) (nI (2 ^ j)) F = some (nI R, F') ∧ R < 65 ∧ nmH (A 0 0) 1000 (Lf R) ≤ p ∧ (R = 0 ∨ p < nmH (A 0 0) 1000 (Lf (R - 1))) := by
    intro j
    induction j with
    | zero =>
      intro _ K t F hK ht h1 h2
      obtain ⟨k, rfl⟩ : ∃ k, K = k + 2 := ⟨K - 2, by omega⟩
      obtain ⟨F', e⟩ := sf t (by omega) F
      have e2 : nI t - 1 + nI (2 ^ 0) = nI t := by
        show nI t - 1 + 1 = nI t
        grind
      have fin : ∀ u F, f_X5_reachFor_18 N Tn B (nI p) (k + 1) (nI u - 1) (nI 1 / 2) F = some (nI u, F) := by
        intro u F
        show f_X5_reachFor_18b N Tn B (nI p) (f_X5_reachFor_18 N Tn B (nI p) k) (nI u - 1) (nI 1 / 2) F = _
        unfold f_X5_reachFor_18b
        rw [show nI 1 / 2 = nI 0 by rw [li_2, pk_div (by omega) (by omega) (by omega)], if_pos (show nI 0 ≤ 0 by decide), show nI u - 1 + 1 = nI u by grind]
      have step : f_X5_reachFor_18 N Tn B (nI p) (k + 2) (nI t - 1) (nI (2 ^ 0)) F = (if nI (nmH (A 0 0) 1000 (Lf t)) ≤ nI p then f_X5_reachFor_18 N Tn B (nI p) (k + 1) (nI t - 1) (nI 1 / 2) F' else f_X5_reachFor_18 N Tn B (nI p) (k + 1) (nI t) (nI 1 / 2) F') := by
        show f_X5_reachFor_18b N Tn B (nI p) (f_X5_reachFor_18 N Tn B (nI p) (k + 1)) (nI t - 1) (nI (2 ^ 0)) F = _
        unfold f_X5_reachFor_18b f_X5_reachFor_44
        rw [if_neg (show ¬ nI (2 ^ 0) ≤ 0 by decide), e2, e, bd2_some, if_neg two, if_neg two]
      have := nl t
      rw [step]
      by_cases q : nmH (A 0 0) 1000 (Lf t) ≤ p
      · rw [leT q (by omega), fin]
        exact ⟨t, F', rfl, by omega, q, h1⟩
      · have h2' : nmH (A 0 0) 1000 (Lf (t + 1)) ≤ p := h2
        rw [leF (by omega) (by omega), show nI t = nI (t + 1) - 1 by rw [li_1, pk_sub (by omega)]; rfl, fin]
        exact ⟨t + 1, F', rfl, by omega, h2', Or.inr (by rw [Nat.add_sub_cancel]; omega)⟩
    | succ j ih =>
      intro hj K t F hK ht h1 h2
      obtain ⟨k, rfl⟩ : ∃ k, K = k + 1 := ⟨K - 1, by omega⟩
      have pj : 2 ^ (j + 1) = 2 * 2 ^ j := by rw [Nat.pow_succ]; omega
      have pp : 0 < 2 ^ j := Nat.pow_pos (by omega)
      obtain ⟨F', e⟩ := sf (t + 2 * 2 ^ j - 1) (by omega) F
      have e2 : nI t - 1 + nI (2 ^ (j + 1)) = nI (t + 2 * 2 ^ j - 1) := by
        rw [show nI t - 1 + nI (2 ^ (j + 1)) = nI t + nI (2 ^ (j + 1)) - 1 by grind, nI_add, li_1, pk_sub (by omega), pj]
      have hdv : nI (2 ^ (j + 1)) / 2 = nI (2 ^ j) := by
        rw [li_2, pk_div (by omega) (by omega) (by omega), show 2 ^ (j + 1) / 2 = 2 ^ j by omega]
      have step : f_X5_reachFor_18 N Tn B (nI p) (k + 1) (nI t - 1) (nI (2 ^ (j + 1))) F = (if nI (nmH (A 0 0) 1000 (Lf (t + 2 * 2 ^ j - 1))) ≤ nI p then f_X5_reachFor_18 N Tn B (nI p) k (nI t - 1) (nI (2 ^ j)) F' else f_X5_reachFor_18 N Tn B (nI p) k (nI (t + 2 * 2 ^ j - 1)) (nI (2 ^ j)) F') := by
        show f_X5_reachFor_18b N Tn B (nI p) (f_X5_reachFor_18 N Tn B (nI p) k) (nI t - 1) (nI (2 ^ (j + 1))) F = _
        unfold f_X5_reachFor_18b f_X5_reachFor_44
        rw [if_neg (show ¬ nI (2 ^ (j + 1)) ≤ 0 by rw [I_le, I_0, nI_T (by omega)]; omega), e2, e, bd2_some, if_neg two, if_neg two, hdv]
      have := nl (t + 2 * 2 ^ j - 1)
      rw [step]
      by_cases q : nmH (A 0 0) 1000 (Lf (t + 2 * 2 ^ j - 1)) ≤ p
      · rw [leT q (by omega)]
        exact ih (by omega) k t F' (by omega) (by omega) h1 q
      · rw [leF (by omega) (by omega), show nI (t + 2 * 2 ^ j - 1) = nI (t + 2 * 2 ^ j) - 1 by rw [li_1, pk_sub (by omega)]]
        exact ih (by omega) k (t + 2 * 2 ^ j) F' (by omega) (by omega) (Or.inr (by omega)) (by
          rw [show t + 2 * 2 ^ j + 2 * 2 ^ j - 1 = t + 2 * 2 ^ (j + 1) - 1 by omega]
          exact h2)
  obtain ⟨R, F', c1, c2, c3, c4⟩ := cls 5 (by decide) N 0 F (by omega) (by decide) (Or.inl rfl) (c48 _ (by decide) (by decide))
  have c1' : f_X5_reachFor_18 N Tn B (nI p) N (-nI 1) 32 F = some (nI R, F') := c1
  -- the reference
  obtain ⟨y, ⟨r, M', y1, y2, y3, y4, y5⟩, e⟩ := lp_wh (F := fun n (q : Int32 × tS) => f_X6_reachFor_15 N (nI p) n q.1 q.2) (fun q => ∃ r, q.1 = nI r ∧ r ≤ 48 ∧ (∀ r', r' < r → p < nmH (A 0 0) 1000 (Lf r')) ∧ ∀ k, k < 7 → q.2 k = M k) (fun q => ∃ r M', q.1 = nI r ∧ nmH (A 0 0) 1000 (Lf r) ≤ p ∧ (∀ r', r' < r → p < nmH (A 0 0) 1000 (Lf r')) ∧ (∀ k, k < 7 → M' k = M k) ∧ (f_X6_laysHeaps N q.2 (nI r) (-5) = some (nI (nmH (A 0 0) 1000 (Lf r)), M'))) (fun q => 100 - q.1.toNatClampNeg) (fun q => bd2 (f_X6_laysHeaps N q.2 q.1 (-5)) (fun r1 M1 => some (q.1, M1))) (by
    rintro n ⟨x, T⟩ ⟨r, h1, h2, h3, h4⟩
    simp only at h1 h4
    subst h1
    have hST : RS (T 0) A := by rw [h4 0 (by decide)]; exact hS
    obtain ⟨M', e2, g2, -⟩ := g_laysH hN hST ok (r := r) (c := 1000) (bu := -5) (by omega) (fun i hi => ⟨fun h => absurd h (nI_n5 (by omega)), fun h => by omega⟩) (hLf r (by omega))
    have hf : ∀ k, k < 7 → M' k = M k := fun k hk => by rw [g2 k (by omega) (by omega) (by omega), h4 k hk]
    have := nl r
    by_cases q : nmH (A 0 0) 1000 (Lf r) ≤ p
    · left
      refine ⟨?_, r, M', rfl, q, h3, hf, e2⟩
      show f_X6_reachFor_15b N (nI p) (f_X6_reachFor_15 N (nI p) n) (nI r) T = bd2 (f_X6_laysHeaps N T (nI r) (-5)) (fun r1 M1 => some (nI r, M1))
      unfold f_X6_reachFor_15b
      rw [e2, bd2_some, bd2_some, leT q (by omega)]
    · right
      have hr48 : r < 48 := by
        apply Classical.byContradiction
        intro w
        exact q (c48 r (by omega) (by omega))
      refine ⟨(nI (r + 1), M'), ?_, ⟨r + 1, rfl, by omega, fun r' hr' => ?_, hf⟩, ?_⟩
      · show f_X6_reachFor_15b N (nI p) (f_X6_reachFor_15 N (nI p) n) (nI r) T = f_X6_reachFor_15 N (nI p) n (nI (r + 1)) M'
        unfold f_X6_reachFor_15b
        rw [e2, bd2_some, leF (by omega) (by omega), nI_s]
      · by_cases z : r' = r
        · rw [z]
          omega
        · exact h3 r' (by omega)
      · dsimp only
        rw [clI (by omega), clI (by omega)]
        omega) N (nI 0, M) ⟨0, rfl, by omega, fun r' hr' => absurd hr' (Nat.not_lt_zero r'), fun _ _ => rfl⟩ (by
      dsimp only
      rw [clI (by omega)]
      omega)
  have eq : R = r := by
    have h1 : r ≤ R := by
      apply Classical.byContradiction
      intro w
      have := y3 R (by omega)
      omega
    have h2 : R ≤ r := by
      apply Classical.byContradiction
      intro w
      rcases c4 with z | z
      · omega
      · have := mono r (R - 1) (by omega) (by omega)
        omega
    omega
  have e' : f_X6_reachFor_15 N (nI p) N 0 M = bd2 (f_X6_laysHeaps N y.2 y.1 (-5)) (fun r1 M1 => some (y.1, M1)) := e
  rw [c1', e', y1, y5, bd2_some, eq]
  exact ⟨_, _, _, rfl, rfl, Rel_rk hR0 y4⟩
theorem mv_back (A : tA) (i c r : Nat) : mvA (mvA A i c r) i (A 1 i) (A 2 i) = A := by
  funext f j
  unfold mvA upA
  by_cases q : f = 2 ∧ j = i
  · rw [if_pos q, q.1, q.2]
  · rw [if_neg q]
    by_cases q1 : f = 1 ∧ j = i
    · rw [if_pos q1, q1.1, q1.2]
    · rw [if_neg q1, if_neg q, if_neg q1]
theorem m_ifDragged {N : Nat} (hN : 1000 ≤ N) {Tn B Sn Tx Tr E F Nm Bt M : tS} {Hs : tH} (hR : Rel Tn B Hs Sn Tx Tr E F Nm Bt M) (p0 p1 p2 p3 : Int32) : ∃ (r : Int32) (Trz : tS) (Ez : tS) (Fz : tS) (Mz : tS), f_X5_ifDragged N Tn B Tr E F p0 p1 p2 p3 = some (r, Trz, Ez, Fz) ∧ f_X6_ifDragged N M p0 p1 p2 p3 = some (r, Mz) ∧ Rel Tn B Hs Sn Tx Trz Ez Fz Nm Bt Mz := by
  have hR0 := hR
  obtain ⟨⟨A, ok, hB, hS⟩, hH, hK, hT⟩ := hR
  have o1 := ok.1
  have o3 := ok.2.2.1
  unfold f_X5_ifDragged f_X6_ifDragged
  rcases note_c (N := N) hB hS ok p0 with ⟨e1, e2⟩ | ⟨i, hi, rfl, e1, e2⟩
  · rw [e1, e2, bd_some, bd_some, if0, if0]
    exact ⟨_, _, _, _, _, rfl, rfl, hR0⟩
  rw [e1, e2, bd_some, bd_some, if1, if1]
  rcases place_c N p1 p2 with ⟨e1, e2⟩ | ⟨c, r, hc, hr, rfl, rfl, e1, e2⟩
  · rw [e1, e2, bd_some, bd_some, if0, if0]
    exact ⟨_, _, _, _, _, rfl, rfl, hR0⟩
  rw [e1, e2, bd_some, bd_some, if1, if1, show f_X5_isWithin N p3 0 2 = f_X6_in N p3 0 2 from rfl, li_2]
  rcases in_b N p3 (b := 2) (by decide) with ⟨e1, -⟩ | ⟨w, hw, rfl, e1⟩
  · rw [e1, bd_some, bd_some, if0, if0]
    exact ⟨_, _, _, _, _, rfl, rfl, hR0⟩
  rw [e1, bd_some, bd_some, if1, if1]
  obtain ⟨E', M2, L, h1, h2, h3, h4, h5, h6⟩ := m_heaps hN hB hS ok Tn E
  have nml := nm_le (A 0 0) 1000 L
  have hh : ∀ j, j < A 0 0 → hpA 1000 L j < 1000 := fun j hj => by
    have := hp_lt h6 hj (by omega)
    omega
  have hS2 : RS (M2 0) A := by rw [h5 0 (by decide) (by decide) (by decide)]; exact hS
  -- the class
  obtain ⟨C, eC, hC⟩ := s_copy (N := N) (B := Tr) hB ok
  obtain ⟨C1, e3, hC1, ok1⟩ := s_move (N := N) hC ok hi hc hr
  have n1 : mvA A i c r 0 0 = A 0 0 := mvA_0 A i c r (by decide) (by decide)
  have r1 : mvA A i c r 7 0 = A 7 0 := mvA_0 A i c r (by decide) (by decide)
  obtain ⟨F', L1, e4, g1, hL1⟩ := s_find hN hC1 ok1 (r := mvA A i c r 7 0) (by omega) F
  rw [n1, r1] at hL1
  rw [n1] at e4 g1
  have nml1 := nm_le (A 0 0) 1000 L1
  have hh1 : ∀ j, j < A 0 0 → hpA 1000 L1 j < 1000 := fun j hj => by
    have := hp_lt hL1 hj (by omega)
    omega
  have ep : f_X5_notesParted N Tn B E' F' (nI i) = some (nI (ct (fun j => hpA 1000 L j == hpA 1000 L i && hpA 1000 L1 j != hpA 1000 L1 i) (A 0 0))) := by
    refine lp_run (F := fun k (q : Int32 × Int32) => f_X5_notesParted_4 N Tn B E' F' (nI i) k q.1 q.2) (s := fun j => (nI (ct (fun j => hpA 1000 L j == hpA 1000 L i && hpA 1000 L1 j != hpA 1000 L1 i) j), nI j)) (A 0 0) _ ?_ ?_ N (by omega)
    · intro k
      show f_X5_notesParted_4b N Tn B E' F' (nI i) (f_X5_notesParted_4 N Tn B E' F' (nI i) k) (nI _) (nI (A 0 0)) = _
      unfold f_X5_notesParted_4b
      rw [hB.1, leT (Nat.le_refl _) (by omega)]
    · intro k j hj
      show f_X5_notesParted_4b N Tn B E' F' (nI i) (f_X5_notesParted_4 N Tn B E' F' (nI i) k) (nI _) (nI j) = f_X5_notesParted_4 N Tn B E' F' (nI i) k (nI (ct (fun j => hpA 1000 L j == hpA 1000 L i && hpA 1000 L1 j != hpA 1000 L1 i) j + (if hpA 1000 L j == hpA 1000 L i && hpA 1000 L1 j != hpA 1000 L1 i then 1 else 0))) (nI (j + 1))
      have a1 := hh i hi
      have a2 := hh j hj
      have b1 := hh1 i hi
      have b2 := hh1 j hj
      unfold f_X5_notesParted_4b f_X5_notesParted_60
      rw [hB.1, leF hj (by omega), gdI (by omega) (by decide), gdI (by omega) (by decide), clI (by omega), clI (by omega), gdJ (by omega) (by decide), gdJ (by omega) (by decide), h3.2.2 j hj, h3.2.2 i hi, g1.2.2 j hj, g1.2.2 i hi, nI_s, nI_s]
      by_cases q : hpA 1000 L j = hpA 1000 L i
      · rw [eqT q]
        by_cases q2 : hpA 1000 L1 j = hpA 1000 L1 i
        · rw [eqT q2]
          simp [q2]
        · rw [eqF q2 (by omega) (by omega)]
          simp [q, q2]
      · rw [eqF q (by omega) (by omega)]
        simp [q]
  -- the reference
  have hc14 := lp_run (F := fun k (q : Int32 × tS) => f_X6_ifDragged_40 N (nI i) (nI c) (nI r) (nI w) k q.1 q.2) (s := fun j => (nI j, va_up M2 14 (prg (M2 14) (M2 7) j))) 20 (f_X6_ifDragged_40b N (nI i) (nI c) (nI r) (nI w) (fun _ _ => none) (nI 20) (va_up M2 14 (prg (M2 14) (M2 7) 20))) (by
    intro k
    show f_X6_ifDragged_40b N (nI i) (nI c) (nI r) (nI w) (f_X6_ifDragged_40 N (nI i) (nI c) (nI r) (nI w) k) (nI 20) (va_up M2 14 (prg (M2 14) (M2 7) 20)) = _
    unfold f_X6_ifDragged_40b
    rw [li_20, leT (by omega) (by omega), leT (by omega) (by omega)]) (by
    intro k j hj
    show f_X6_ifDragged_40b N (nI i) (nI c) (nI r) (nI w) (f_X6_ifDragged_40 N (nI i) (nI c) (nI r) (nI w) k) (nI j) (va_up M2 14 (prg (M2 14) (M2 7) j)) = f_X6_ifDragged_40 N (nI i) (nI c) (nI r) (nI w) k (nI (j + 1)) (va_up M2 14 (prg (M2 14) (M2 7) (j + 1)))
    unfold f_X6_ifDragged_40b
    rw [li_20, leF hj (by omega), gdI (by omega) (by decide), clI (by omega), gdJ (by omega) (by decide), va_up_up, va_up_self, va_up_ne _ _ (by decide : (7 : Nat) ≠ 14), prg_S, nI_s]) N (by omega)
  simp only [prg_0, va_up_id] at hc14
  have hM3 : RS ((va_up M2 14 (prg (M2 14) (M2 7) 20)) 0) A := by rw [va_up_ne _ _ (by decide)]; exact hS2
  obtain ⟨s1, d1, d2⟩ := g_comes (N := N) (M := va_up M2 14 (prg (M2 14) (M2 7) 20)) (r := r) hM3 ok hi hc
  obtain ⟨M4, f1, f2, f3⟩ := g_laysH hN (M0 := va_up (va_up M2 14 (prg (M2 14) (M2 7) 20)) 0 s1) (A := mvA A i c r) (by rw [va_up_self]; exact d2) ok1 (r := A 7 0) (c := 1000) (bu := -5) (by omega) (fun j hj => ⟨fun h => absurd h (nI_n5 (by rw [n1] at hj; omega)), fun h => by rw [n1] at hj; omega⟩) (by rw [n1]; exact hL1)
  rw [n1] at f1 f3
  have hS4 : RS (M4 0) (mvA A i c r) := by
    rw [f2 0 (by decide) (by decide) (by decide), va_up_self]
    exact d2
  have h14 : ∀ j, j < A 0 0 → M4 14 j = nI (hpA 1000 L j) := fun j hj => by
    rw [f2 14 (by decide) (by decide) (by decide), va_up_ne _ _ (by decide : (14 : Nat) ≠ 0), va_up_self]
    exact (if_pos (show j < 20 by omega)).trans (h4 j hj)
  have h7 : ∀ j, j < A 0 0 → M4 7 j = nI (hpA 1000 L1 j) := fun j hj => f3 j hj (by omega)
  have b := ok.2.2.2.2.2.1 i hi
  obtain ⟨s5, d5, d6⟩ := g_comes (N := N) (M := M4) (r := A 2 i) hS4 ok1 (by rw [n1]; exact hi) (c := A 1 i) b.1
  rw [mv_back] at d6
  have fr : ∀ k, 1 ≤ k → k < 7 → (va_up M4 0 s5) k = M k := fun k k1 k7 => by
    rw [va_up_ne _ _ (by omega), f2 k (by omega) (by omega) (by omega), va_up_ne _ _ (by omega), va_up_ne _ _ (by omega), h5 k (by omega) (by omega) (by omega)]
  have hrel : ∀ Tr' E' F', Rel Tn B Hs Sn Tx Tr' E' F' Nm Bt (va_up M4 0 s5) := fun _ _ _ => ⟨⟨A, ok, hB, by rw [va_up_self]; exact d6⟩, RelH_c hH (fr 1 (by decide) (by decide)) (fr 2 (by decide) (by decide)), RelK_c hK rfl (fr 3 (by decide) (by decide)) (fr 4 (by decide) (by decide)), RelT_c hT (fr 5 (by decide) (by decide)) (fr 6 (by decide) (by decide))⟩
  have el := lp_run (F := fun k (q : Int32 × Int32) => f_X6_ifDragged_102 N (nI i) (nI c) (nI r) (nI w) k (nI (A 1 i)) (nI (A 2 i)) (nI (nmH (A 0 0) 1000 L1)) q.1 q.2 M4) (s := fun j => (nI (ct (fun j => hpA 1000 L j == hpA 1000 L i && hpA 1000 L1 j != hpA 1000 L1 i) j), nI j)) (A 0 0) (if nI w = 0 then some (nI (nmH (A 0 0) 1000 L1), va_up M4 0 s5) else (if nI w = 1 then (bd (f_X6_notesIn N (va_up M4 0 s5) (nI (hpA 1000 L1 i))) (fun r2 => some (r2, va_up M4 0 s5))) else some (nI (ct (fun j => hpA 1000 L j == hpA 1000 L i && hpA 1000 L1 j != hpA 1000 L1 i) (A 0 0)), va_up M4 0 s5))) (by
    intro k
    show f_X6_ifDragged_102b N (nI i) (nI c) (nI r) (nI w) (f_X6_ifDragged_102 N (nI i) (nI c) (nI r) (nI w) k) (nI (A 1 i)) (nI (A 2 i)) (nI (nmH (A 0 0) 1000 L1)) (nI _) (nI (A 0 0)) M4 = _
    unfold f_X6_ifDragged_102b
    rw [cl_0, hS4.1, n1, leT (Nat.le_refl _) (by omega), d5, bd_some, gdI (by omega) (by decide), clI (by omega), va_up_ne _ _ (by decide : (7 : Nat) ≠ 0), h7 i hi]) (by
    intro k j hj
    show f_X6_ifDragged_102b N (nI i) (nI c) (nI r) (nI w) (f_X6_ifDragged_102 N (nI i) (nI c) (nI r) (nI w) k) (nI (A 1 i)) (nI (A 2 i)) (nI (nmH (A 0 0) 1000 L1)) (nI _) (nI j) M4 = f_X6_ifDragged_102 N (nI i) (nI c) (nI r) (nI w) k (nI (A 1 i)) (nI (A 2 i)) (nI (nmH (A 0 0) 1000 L1)) (nI (ct (fun j => hpA 1000 L j == hpA 1000 L i && hpA 1000 L1 j != hpA 1000 L1 i) j + (if hpA 1000 L j == hpA 1000 L i && hpA 1000 L1 j != hpA 1000 L1 i then 1 else 0))) (nI (j + 1)) M4
    have a1 := hh i hi
    have a2 := hh j hj
    have b1 := hh1 i hi
    have b2 := hh1 j hj
    unfold f_X6_ifDragged_102b f_X6_ifDragged_151 f_X6_ifDragged_152
    rw [cl_0, hS4.1, n1, leF hj (by omega), gdI (by omega) (by decide), gdI (by omega) (by decide), clI (by omega), clI (by omega), gdJ (by omega) (by decide), gdJ (by omega) (by decide), h14 j hj, h14 i hi, h7 j hj, h7 i hi, nI_s]
    by_cases q : hpA 1000 L j = hpA 1000 L i
    · rw [eqT q]
      by_cases q2 : hpA 1000 L1 j = hpA 1000 L1 i
      · rw [eqT q2, li_0, nI_add]
        simp [q2]
      · rw [eqF q2 (by omega) (by omega), li_1, nI_add]
        simp [q, q2]
    · rw [eqF q (by omega) (by omega), li_0, nI_add]
      simp [q]) N (by omega)
  have el' : f_X6_ifDragged_102 N (nI i) (nI c) (nI r) (nI w) N (nI (A 1 i)) (nI (A 2 i)) (nI (nmH (A 0 0) 1000 L1)) 0 0 M4 = (if nI w = 0 then some (nI (nmH (A 0 0) 1000 L1), va_up M4 0 s5) else (if nI w = 1 then (bd (f_X6_notesIn N (va_up M4 0 s5) (nI (hpA 1000 L1 i))) (fun r2 => some (r2, va_up M4 0 s5))) else some (nI (ct (fun j => hpA 1000 L j == hpA 1000 L i && hpA 1000 L1 j != hpA 1000 L1 i) (A 0 0)), va_up M4 0 s5))) := el
  have er : f_X6_ifDragged_40 N (nI i) (nI c) (nI r) (nI w) N 0 M2 = (if nI w = 0 then some (nI (nmH (A 0 0) 1000 L1), va_up M4 0 s5) else (if nI w = 1 then (bd (f_X6_notesIn N (va_up M4 0 s5) (nI (hpA 1000 L1 i))) (fun r2 => some (r2, va_up M4 0 s5))) else some (nI (ct (fun j => hpA 1000 L j == hpA 1000 L i && hpA 1000 L1 j != hpA 1000 L1 i) (A 0 0)), va_up M4 0 s5))) := by
    refine Eq.trans hc14 ?_
    unfold f_X6_ifDragged_40b f_X6_laysNow
    rw [li_20, leT (by omega) (by omega), g_of1 hM3 ok hi, bd_some, g_of2 hM3 ok hi, bd_some, d1, bd_some, cl_2, show (va_up (va_up M2 14 (prg (M2 14) (M2 7) 20)) 0 s1) 0 2 = nI (A 7 0) by rw [va_up_self, ← r1]; exact d2.2.2.1 0 (by decide), f1, bd2_some, bd2_some, el']
  rw [h1, h2, bd2_some, bd2_some, eC, bd_some, e3, bd_some, cl_0, hC1.2.2.1 0 (by decide), e4, bd2_some, er]
  rcases (by omega : w = 0 ∨ w = 1 ∨ w = 2) with rfl | rfl | rfl
  · rw [if_pos (show nI 0 = 0 from rfl), if_pos (show nI 0 = 0 from rfl), g1.1]
    exact ⟨_, _, _, _, _, rfl, rfl, hrel _ _ _⟩
  · rw [if_neg (show ¬ nI 1 = 0 by decide), if_neg (show ¬ nI 1 = 0 by decide), if_pos (show nI 1 = 1 from rfl), if_pos (show nI 1 = 1 from rfl), gdI (by omega) (by decide), clI (by omega), g1.2.2 i hi, s_notesIn hN g1 o1 hh1 (hh1 i hi), bd_some, g_notesIn hN (n := A 0 0) (h := hpA 1000 L1) (by rw [va_up_self]; exact d6.1) (fun j hj => by rw [va_up_ne _ _ (by decide)]; exact h7 j hj) o1 hh1 (hh1 i hi), bd_some]
    exact ⟨_, _, _, _, _, rfl, rfl, hrel _ _ _⟩
  · rw [if_neg (show ¬ nI 2 = 0 by decide), if_neg (show ¬ nI 2 = 0 by decide), if_neg (show ¬ nI 2 = 1 by decide), if_neg (show ¬ nI 2 = 1 by decide), ep, bd_some]
    exact ⟨_, _, _, _, _, rfl, rfl, hrel _ _ _⟩
