/-! count, reachFor, ifDragged -/
theorem ct_sub (r : Nat → Bool) (G : Nat → Bool) : ∀ n, ct G (ct r n) = ct (fun k => r k && G (ct r k)) n
  | 0 => rfl
  | n + 1 => by
    rw [ct_succ r n, ct_succ _ n, ← ct_sub r G n]
    cases h : r n with
    | false => simp
    | true =>
      show ct G (ct r n + 1) = _
      rw [ct_succ]
      simp
theorem ct_single {p : Nat → Bool} {k n : Nat} (hk : k < n) (h : ∀ i, i < n → (p i = true ↔ i = k)) : ct p n = 1 := by
  have c := ct_ins (mk := fun _ => false) (b := k) rfl hk
  rw [ct_false] at c
  rw [ct_congr (q := insB (fun _ => false) k) (fun i hi => ?_), c]
  by_cases q : i = k
  · rw [q, insB_b]
    exact (h k hk).mpr rfl
  · rw [insB_o q]
    cases e : p i with
    | false => rfl
    | true => exact absurd ((h i hi).mp e) q
/-- notes alone: by heaps and by notes -/
theorem alone_eq {A : tA} (ok : okA A) {L : Nat → Nat} (hL : Lo (A 0 0) 1000 (eA A (A 7 0)) L) : ct (fun g => hnA (hpA 1000 L) g (A 0 0) == 1) (nmH (A 0 0) 1000 L) = ct (fun i => nrA A i == 0) (A 0 0) := by
  have o1 := ok.1
  unfold nmH
  rw [ct_sub]
  refine ct_congr (fun k hk => ?_)
  have vk : ∀ i, i < A 0 0 → nV (A 0 0) 1000 i := fun i hi => ⟨hi, by omega⟩
  obtain ⟨a1, a2, a3⟩ := hL.1 k (vk k hk)
  by_cases q : nrA A k = 0
  · have hn := ct_zero.mp q
    have iso : ∀ x, Cn (nV (A 0 0) 1000) (eA A (A 7 0)) k x → x = k := by
      intro x hx
      refine hx (fun y => y = k) rfl (fun a b ha hb p e => ?_)
      apply Classical.byContradiction
      intro w
      have := of_decide_eq_false (hn b hb.1)
      rw [p] at e
      exact this ⟨w, e⟩
    have hLk : L k = k := iso _ ((hL.2 k (L k) (vk k hk) (vk _ (by omega))).mp a3.symm)
    have hr : rtB 1000 L k = true := decide_eq_true ⟨by omega, hLk⟩
    have hc : ct (rtB 1000 L) k = hpA 1000 L k := by
      unfold hpA
      rw [hLk]
    rw [hr, hc, q, show hnA (hpA 1000 L) (hpA 1000 L k) (A 0 0) = 1 from ct_single hk (fun i hi => by
      rw [beq_iff_eq, hp_eq hL hi hk (by omega) (by omega)]
      constructor
      · intro e
        exact iso i ((hL.2 k i (vk k hk) (vk i hi)).mp e.symm)
      · intro e
        rw [e])]
    rfl
  · have hne : (nrA A k == 0) = false := by simp [q]
    rw [hne]
    cases hr : rtB 1000 L k with
    | false => rfl
    | true =>
      obtain ⟨-, hLk⟩ := of_decide_eq_true hr
      have hc : ct (rtB 1000 L) k = hpA 1000 L k := by
        unfold hpA
        rw [hLk]
      rw [hc]
      show (hnA (hpA 1000 L) (hpA 1000 L k) (A 0 0) == 1) = false
      cases hb : (hnA (hpA 1000 L) (hpA 1000 L k) (A 0 0) == 1) with
      | false => rfl
      | true =>
        exfalso
        have h1 := hn_one hk (beq_iff_eq.mp hb)
        refine q (ct_zero.mpr (fun j hj => decide_eq_false (fun w => ?_)))
        have := (hL.2 k j (vk k hk) (vk j hj)).mpr (cn_1 (vk k hk) (vk j hj) w.2)
        exact h1 j hj w.1 ((hp_eq hL hj hk (by omega) (by omega)).mpr this.symm)
/-- a greater reach never makes more heaps -/
theorem nm_mono {n : Nat} {E E' : Nat → Nat → Prop} {L L' : Nat → Nat} (hn : n ≤ 20) (h : Lo n 1000 E L) (h' : Lo n 1000 E' L') (hE : ∀ a b, E a b → E' a b) : nmH n 1000 L' ≤ nmH n 1000 L := by
  refine ct_imp (fun k hk hr => ?_)
  obtain ⟨r1, r2⟩ := of_decide_eq_true hr
  have vk : nV n 1000 k := ⟨hk, by omega⟩
  obtain ⟨a1, a2, a3⟩ := h.1 k vk
  have vj : nV n 1000 (L k) := ⟨by omega, by omega⟩
  have c := cn_m (fun a b _ _ e => hE a b e) ((h.2 k (L k) vk vj).mp a3.symm)
  have e := (h'.2 k (L k) vk vj).mpr c
  have := (h'.1 (L k) vj).1
  exact decide_eq_true ⟨by omega, by omega⟩
theorem nm_one {n : Nat} {E : Nat → Nat → Prop} {L : Nat → Nat} (hn : n ≤ 20) (h : Lo n 1000 E L) (hE : ∀ a b, a < n → b < n → E a b) : nmH n 1000 L ≤ 1 := by
  by_cases q : n = 0
  · subst q
    exact Nat.zero_le _
  have c := ct_ins (mk := fun _ => false) (b := 0) rfl (show 0 < n by omega)
  rw [ct_false] at c
  have := ct_imp (p := rtB 1000 L) (q := insB (fun _ => false) 0) (n := n) (fun k hk hr => by
    obtain ⟨r1, r2⟩ := of_decide_eq_true hr
    have e := (h.2 k 0 ⟨hk, by omega⟩ ⟨by omega, by omega⟩).mpr (cn_1 ⟨hk, by omega⟩ ⟨by omega, by omega⟩ (hE k 0 hk (by omega)))
    have := (h.1 0 ⟨by omega, by omega⟩).1
    rw [show k = 0 by omega]
    exact insB_b _ _)
  unfold nmH
  omega
theorem mv_back (A : tA) (i c r : Nat) : mvA (mvA A i c r) i (A 1 i) (A 2 i) = A := by
  funext f j
  unfold mvA upA
  by_cases q : f = 2 ∧ j = i
  · rw [if_pos q, q.1, q.2]
  · rw [if_neg q]
    by_cases q1 : f = 1 ∧ j = i
    · rw [if_pos q1, q1.1, q1.2]
    · rw [if_neg q1, if_neg q, if_neg q1]
