/-! the easy methods -/
theorem RelH_c {Hs : tH} {M M' : tS} (h : RelH Hs M) (e1 : M' 1 = M 1) (e2 : M' 2 = M 2) : RelH Hs M' := by
  obtain ⟨kn, As, h4, a1, a2, hp, hB⟩ := h
  exact ⟨kn, As, h4, a1, by rw [e2]; exact a2, hp, fun i hi => by rw [e1]; exact hB i hi⟩
theorem RelK_c {Tn Sn M Tn' M' : tS} (h : RelK Tn Sn M) (e0 : Tn' 3 0 = Tn 3 0) (e3 : M' 3 = M 3) (e4 : M' 4 = M 4) : RelK Tn' Sn M' := by
  unfold RelK at h ⊢
  rw [e0, e3, e4]
  exact h
theorem RelT_c {Tn Tx M M' : tS} (h : RelT Tn Tx M) (e5 : M' 5 = M 5) (e6 : M' 6 = M 6) : RelT Tn Tx M' := by
  obtain ⟨n, a, b, c, d⟩ := h
  exact ⟨n, a, b, by rw [e6]; exact c, fun j hj => by rw [e5]; exact d j hj⟩
/-- after records and changes of the board and of the rows for reckoning -/
theorem Rel_mk {Tn Sn Tx Tr E F Nm Bt M M' M2 B' : tS} {Hs' : tH} {A' : tA} (hB : RelB B' (M2 0) A') (hH : RelH Hs' M') (h0 : ∀ k, k ≠ 1 → k ≠ 2 → M' k = M k) (h2 : ∀ k, 1 ≤ k → k < 7 → M2 k = M' k) (hK : RelK Tn Sn M) (hT : RelT Tn Tx M) : Rel Tn B' Hs' Sn Tx Tr E F Nm Bt M2 :=
  ⟨⟨A', hB⟩, RelH_c hH (h2 1 (by decide) (by decide)) (h2 2 (by decide) (by decide)), RelK_c hK rfl (by rw [h2 3 (by decide) (by decide), h0 3 (by decide) (by decide)]) (by rw [h2 4 (by decide) (by decide), h0 4 (by decide) (by decide)]), RelT_c hT (by rw [h2 5 (by decide) (by decide), h0 5 (by decide) (by decide)]) (by rw [h2 6 (by decide) (by decide), h0 6 (by decide) (by decide)])⟩
/-- the reference changes its rows for reckoning alone -/
theorem Rel_rk {Tn B Sn Tx Tr E F Nm Bt M Tr' E' F' Nm' Bt' M2 : tS} {Hs : tH} (h : Rel Tn B Hs Sn Tx Tr E F Nm Bt M) (h2 : ∀ k, k < 7 → M2 k = M k) : Rel Tn B Hs Sn Tx Tr' E' F' Nm' Bt' M2 := by
  obtain ⟨⟨A, hB⟩, hH, hK, hT⟩ := h
  exact ⟨⟨A, by rw [h2 0 (by decide)]; exact hB⟩, RelH_c hH (h2 1 (by decide)) (h2 2 (by decide)), RelK_c hK rfl (h2 3 (by decide)) (h2 4 (by decide)), RelT_c hT (h2 5 (by decide)) (h2 6 (by decide))⟩
def addA (A : tA) (c r : Nat) : tA := fun f j => if f = 0 then A 0 0 + 1 else if f = 1 ∧ j = A 0 0 then c else if f = 2 ∧ j = A 0 0 then r else if f = 3 ∧ j = A 0 0 then 0 else if f = 4 ∧ A 0 0 * 6 ≤ j ∧ j < A 0 0 * 6 + 6 then 0 else A f j
theorem ok_add {A : tA} (ok : okA A) (h : A 0 0 < 20) {c r : Nat} (hc : c < 30) (hr : r < 20) : okA (addA A c r) := by
  obtain ⟨o1, o2, o3, o4, o5, o6, o8⟩ := ok
  refine ⟨?_, ?_, ?_, ?_, ?_, fun i hi => ?_, fun t ht p hp => ?_⟩
  · simp [addA]; omega
  · simp [addA]; omega
  · simp [addA]; omega
  · simp [addA]; omega
  · simp [addA]; omega
  · have hi' : i < A 0 0 + 1 := hi
    by_cases q : i = A 0 0
    · subst q
      refine ⟨by simp [addA]; omega, by simp [addA]; omega, by simp [addA], fun p hp => ?_⟩
      simp [addA, hp]
    · obtain ⟨e1, e2, e3, e4⟩ := o6 i (by omega)
      refine ⟨by simp [addA, q]; omega, by simp [addA, q]; omega, by simp [addA, q]; omega, fun p hp => ?_⟩
      have := e4 p hp
      simp [addA]
      split <;> omega
  · have e := o8 t ht p hp
    simp [addA]
    omega
def addB (B : tS) (n c r i : Nat) : tS := va_up (va_up (va_up (va_up (va_up B 0 (fun _ => nI (n + 1))) 1 (upd (B 1) n (nI c))) 2 (upd (B 2) n (nI r))) 3 (upd (B 3) n (-5))) 4 (va_cpy (fun _ => 0) (B 4) 0 (n * 6) i)
theorem addB_0 (B : tS) (n c r : Nat) : va_up (va_up (va_up (va_up B 0 (fun _ => nI (n + 1))) 1 (upd (B 1) n (nI c))) 2 (upd (B 2) n (nI r))) 3 (upd (B 3) n (-5)) = addB B n c r 0 := by
  unfold addB
  exact (va_up_eq (by rw [va_cpy0, va_up_ne _ _ (by decide), va_up_ne _ _ (by decide), va_up_ne _ _ (by decide), va_up_ne _ _ (by decide)])).symm
theorem addB_s (B : tS) (n c r i : Nat) : va_up (addB B n c r i) 4 (upd (addB B n c r i 4) (n * 6 + i) 0) = addB B n c r (i + 1) := by
  unfold addB
  rw [va_up_up, va_up_self, ← va_cpyS]
theorem s_add {N : Nat} (hN : 1000 ≤ N) {B : tS} {A : tA} (hB : RB B A) (ok : okA A) (h : A 0 0 < 20) (c r : Nat) : ∃ B', f_X0_addNote N B (nI c) (nI r) = some B' ∧ RB B' (addA A c r) := by
  obtain ⟨h1, h2, h3, h4, h6⟩ := hB
  have o2 := ok.2.1
  refine ⟨addB B (A 0 0) c r 6, ?_, ?_⟩
  · unfold f_X0_addNote f_X0_moveNote
    rw [h1, gdI h (by decide), gdI h (by decide), bd_some, gdI h (by decide), clI (by omega), li_1, nI_add, va_up_ne _ _ (by decide : (1 : Nat) ≠ 0), va_up_ne _ _ (by decide : (2 : Nat) ≠ 0), va_up_ne _ _ (by decide : (3 : Nat) ≠ 2), va_up_ne _ _ (by decide : (3 : Nat) ≠ 1), va_up_ne _ _ (by decide : (3 : Nat) ≠ 0), addB_0]
    exact lp_run (F := fun k (x : Int32 × tS) => f_X0_addNote_33 N (nI c) (nI r) k (nI (A 0 0)) x.1 x.2) (s := fun i => (nI i, addB B (A 0 0) c r i)) 6 (some (addB B (A 0 0) c r 6)) (by
      intro k
      show f_X0_addNote_33b N (nI c) (nI r) (f_X0_addNote_33 N (nI c) (nI r) k) (nI (A 0 0)) (nI 6) (addB B (A 0 0) c r 6) = _
      unfold f_X0_addNote_33b
      rw [li_6, leT (by omega) (by omega)]) (by
      intro k i hi
      show f_X0_addNote_33b N (nI c) (nI r) (f_X0_addNote_33 N (nI c) (nI r) k) (nI (A 0 0)) (nI i) (addB B (A 0 0) c r i) = f_X0_addNote_33 N (nI c) (nI r) k (nI (A 0 0)) (nI (i + 1)) (addB B (A 0 0) c r (i + 1))
      unfold f_X0_addNote_33b
      rw [li_6, leF hi (by omega), pk_mul, nI_add, gdI (by omega) (by decide), clI (by omega), addB_s, nI_s]) N (by omega)
  · unfold addB
    refine ⟨by simp [va_up, addA], by simp [va_up, addA]; exact h2, fun j hj => by simp [va_up, addA]; exact h3 j hj, fun i hi => ?_, fun t ht p hp => by simp [va_up, addA]; exact h6 t ht p hp⟩
    have hi' : i < A 0 0 + 1 := hi
    by_cases q : i = A 0 0
    · subst q
      refine ⟨by simp [va_up, addA, upd], by simp [va_up, addA, upd], by simp [va_up, addA, upd]; rfl, fun p hp => ?_⟩
      rw [va_up_self, va_cpy_in (by omega) (by omega)]
      simp [addA, hp]
      rfl
    · obtain ⟨e1, e2, e3, e4⟩ := h4 i (by omega)
      refine ⟨by simp [va_up, addA, upd, q]; exact e1, by simp [va_up, addA, upd, q]; exact e2, by simp [va_up, addA, upd, q]; exact e3, fun p hp => ?_⟩
      rw [va_up_self, va_cpy_out (by omega), e4 p hp]
      simp [addA]
      rw [if_neg (by omega)]
theorem gd0 {ρ : Type} {T : Option ρ} : (if (0 : Int32) < 0 ∨ 233 ≤ (0 : Int32).toNatClampNeg then none else T) = T := if_neg (by decide)
theorem gd1 {ρ : Type} {T : Option ρ} : (if (1 : Int32) < 0 ∨ 233 ≤ (1 : Int32).toNatClampNeg then none else T) = T := if_neg (by decide)
theorem g_lays0 {N : Nat} {M : tS} {i : Nat} {v : Int32} (h : 5 + 9 * i < 233) : f_X6_lays N M (nI i) 0 v = some (va_up M 0 (upd (M 0) (5 + 9 * i) v)) := g_lays (w := 0) (by omega)
theorem g_lays1 {N : Nat} {M : tS} {i : Nat} {v : Int32} (h : 5 + 9 * i + 1 < 233) : f_X6_lays N M (nI i) 1 v = some (va_up M 0 (upd (M 0) (5 + 9 * i + 1) v)) := g_lays (w := 1) (by omega)
theorem g_lays2 {N : Nat} {M : tS} {i : Nat} {v : Int32} (h : 5 + 9 * i + 2 < 233) : f_X6_lays N M (nI i) 2 v = some (va_up M 0 (upd (M 0) (5 + 9 * i + 2) v)) := g_lays (w := 2) (by omega)
theorem zcS (g : Nat → Int32) (q i : Nat) : upd (va_cpy (fun _ => (0 : Int32)) g 0 q i) (q + i) 0 = va_cpy (fun _ => (0 : Int32)) g 0 q (i + 1) := va_cpyS (f := fun _ => (0 : Int32)) (g := g) 0 q i
theorem g_adds {N : Nat} (hN : 1000 ≤ N) {M : tS} {A : tA} (hS : RS (M 0) A) (ok : okA A) (h : A 0 0 < 20) (c r : Nat) : ∃ s', f_X6_adds N M (nI c) (nI r) = some (nI (A 0 0), va_up M 0 s') ∧ RS s' (addA A c r) := by
  obtain ⟨h1, h2, h3, h4, h6⟩ := hS
  have o2 := ok.2.1
  unfold f_X6_adds
  rw [cl_0, h1]
  refine ⟨upd (upd (upd (va_cpy (fun _ => 0) (M 0) 0 (5 + 9 * A 0 0) 9) (5 + 9 * A 0 0) (nI c)) (5 + 9 * A 0 0 + 1) (nI r)) 0 (nI (A 0 0 + 1)), ?_, ?_⟩
  · have e := lp_run (F := fun k (x : Int32 × tS) => f_X6_adds_10 N (nI c) (nI r) k (nI (A 0 0)) x.1 x.2) (s := fun i => (nI i, va_up M 0 (va_cpy (fun _ => 0) (M 0) 0 (5 + 9 * A 0 0) i))) 9 (some (nI (A 0 0), va_up M 0 (upd (upd (upd (va_cpy (fun _ => 0) (M 0) 0 (5 + 9 * A 0 0) 9) (5 + 9 * A 0 0) (nI c)) (5 + 9 * A 0 0 + 1) (nI r)) 0 (nI (A 0 0 + 1))))) (by
      intro k
      show f_X6_adds_10b N (nI c) (nI r) (f_X6_adds_10 N (nI c) (nI r) k) (nI (A 0 0)) (nI 9) (va_up M 0 (va_cpy (fun _ => 0) (M 0) 0 (5 + 9 * A 0 0) 9)) = _
      unfold f_X6_adds_10b
      rw [li_9, leT (by omega) (by omega), g_lays0 (by omega), bd_some, g_lays1 (by omega), bd_some, gd0]
      simp only [va_up_up, va_up_self, cl_0]
      rw [upd_o _ (by omega : (0 : Nat) ≠ 5 + 9 * A 0 0 + 1), upd_o _ (by omega : (0 : Nat) ≠ 5 + 9 * A 0 0), va_cpy_out (by omega), h1, nI_s]) (by
      intro k i hi
      show f_X6_adds_10b N (nI c) (nI r) (f_X6_adds_10 N (nI c) (nI r) k) (nI (A 0 0)) (nI i) (va_up M 0 (va_cpy (fun _ => 0) (M 0) 0 (5 + 9 * A 0 0) i)) = f_X6_adds_10 N (nI c) (nI r) k (nI (A 0 0)) (nI (i + 1)) (va_up M 0 (va_cpy (fun _ => 0) (M 0) 0 (5 + 9 * A 0 0) (i + 1)))
      unfold f_X6_adds_10b
      rw [li_9, leF hi (by omega), g_lays (by omega), bd_some, va_up_up, va_up_self, nI_s, zcS]) N (by omega)
    simp only [va_cpy0, va_up_id] at e
    exact e
  · have lo : ∀ k, k < 5 + 9 * A 0 0 → k ≠ 0 → upd (upd (upd (va_cpy (fun _ => 0) (M 0) 0 (5 + 9 * A 0 0) 9) (5 + 9 * A 0 0) (nI c)) (5 + 9 * A 0 0 + 1) (nI r)) 0 (nI (A 0 0 + 1)) k = M 0 k := by
      intro k hk h0
      rw [upd_o _ h0, upd_o _ (by omega), upd_o _ (by omega), va_cpy_out (by omega)]
    have hi2 : ∀ k, 5 + 9 * A 0 0 + 9 ≤ k → upd (upd (upd (va_cpy (fun _ => 0) (M 0) 0 (5 + 9 * A 0 0) 9) (5 + 9 * A 0 0) (nI c)) (5 + 9 * A 0 0 + 1) (nI r)) 0 (nI (A 0 0 + 1)) k = M 0 k := by
      intro k hk
      rw [upd_o _ (by omega), upd_o _ (by omega), upd_o _ (by omega), va_cpy_out (by omega)]
    refine ⟨by rw [upd_s]; rfl, by rw [lo 1 (by omega) (by omega), h2]; rfl, fun j hj => by rw [lo _ (by omega) (by omega), h3 j hj]; rfl, fun i hi => ?_, fun t ht p hp => ?_⟩
    · have hi' : i < A 0 0 + 1 := hi
      by_cases q : i = A 0 0
      · subst q
        refine ⟨?_, ?_, ?_, fun p hp => ?_⟩
        · rw [upd_o _ (by omega), upd_o _ (by omega), upd_s]
          simp [addA]
        · rw [upd_o _ (by omega), upd_s]
          simp [addA]
        · rw [upd_o _ (by omega), upd_o _ (by omega), upd_o _ (by omega), va_cpy_in (by omega) (by omega)]
          simp [addA]
          rfl
        · rw [upd_o _ (by omega), upd_o _ (by omega), upd_o _ (by omega), va_cpy_in (by omega) (by omega)]
          simp [addA, hp]
          rfl
      · obtain ⟨e1, e2, e3, e4⟩ := h4 i (by omega)
        refine ⟨?_, ?_, ?_, fun p hp => ?_⟩
        · rw [lo _ (by omega) (by omega), e1]
          simp [addA, q]
        · rw [lo _ (by omega) (by omega), e2]
          simp [addA, q]
        · rw [lo _ (by omega) (by omega), e3]
          simp [addA, q]
        · rw [lo _ (by omega) (by omega), e4 p hp]
          simp [addA]
          rw [if_neg (by omega)]
    · have ht' : t < A 5 0 := ht
      rw [hi2 _ (by omega), h6 t ht' p hp]
      simp [addA]
section EASY
variable {N : Nat} {Tn B Sn Tx Tr E F Nm Bt M : tS} {Hs : tH}
theorem m_put (hN : 1000 ≤ N) (hR : Rel Tn B Hs Sn Tx Tr E F Nm Bt M) (p0 p1 : Int32) : ∃ (r : Int32) (Bz : tS) (Hsz : tH) (Mz : tS), f_X5_put N Tn B Hs p0 p1 = some (r, Bz, Hsz) ∧ f_X6_put N M p0 p1 = some (r, Mz) ∧ Rel Tn Bz Hsz Sn Tx Tr E F Nm Bt Mz := by
  obtain ⟨⟨A, ok, hB, hS⟩, hH, hK, hT⟩ := hR
  have o1 := ok.1
  unfold f_X5_put f_X6_put
  rcases place_c N p0 p1 with ⟨e1, e2⟩ | ⟨c, r, hc, hr, rfl, rfl, e1, e2⟩
  · rw [e1, e2, bd_some, bd_some, if0, if0]
    exact ⟨_, _, _, _, rfl, rfl, ⟨A, ok, hB, hS⟩, hH, hK, hT⟩
  · rw [e1, e2, bd_some, bd_some, if1, if1, hB.1, cl_0, hS.1, li_20]
    rcases Nat.lt_or_ge (A 0 0) 20 with q | q
    · rw [ltT q (by omega), eqF (by omega) (by omega) (by omega)]
      obtain ⟨Hs', M', r1, r2, r3, r4⟩ := m_rec hN hH ⟨ok, hB, hS⟩
      obtain ⟨B', e3, hB'⟩ := s_add hN hB ok q c r
      obtain ⟨s', e4, hS'⟩ := g_adds hN (M := M') (by rw [r4 0 (by decide) (by decide)]; exact hS) ok q c r
      have e5 : nI (A 0 0 + 1) - 1 = nI (A 0 0) := by rw [li_1, pk_sub (by omega)]; rfl
      rw [r1, r2, bd_some, bd_some, e3, e4, bd_some, bd2_some, hB'.1, show addA A c r 0 0 = A 0 0 + 1 from rfl, e5]
      exact ⟨_, _, _, _, rfl, rfl, Rel_mk (M := M) ⟨ok_add ok q hc hr, hB', by rw [va_up_self]; exact hS'⟩ r3 r4 (fun k k1 k2 => va_up_ne _ _ (by omega)) hK hT⟩
    · rw [ltF q (by omega), eqT (by omega)]
      exact ⟨_, _, _, _, rfl, rfl, ⟨A, ok, hB, hS⟩, hH, hK, hT⟩
theorem m_type (hN : 1000 ≤ N) (hR : Rel Tn B Hs Sn Tx Tr E F Nm Bt M) (p0 : Int32) : ∃ (r : Int32) (Tnz : tS) (Txz : tS) (Mz : tS), f_X5_type N Tn Tx p0 = some (r, Tnz, Txz) ∧ f_X6_type N M p0 = some (r, Mz) ∧ Rel Tnz B Hs Sn Txz Tr E F Nm Bt Mz := by
  obtain ⟨hB, hH, hK, n, hn, t1, t2, t3⟩ := hR
  unfold f_X5_type f_X6_type
  rw [t1, t2, li_80]
  rcases Nat.lt_or_ge n 80 with q | q
  · rw [ltT q (by omega), eqF (by omega) (by omega) (by omega), gdI q (by decide), gdI q (by decide), clI (by omega), nI_s]
    refine ⟨_, _, _, _, rfl, rfl, ?_, RelH_c hH ?_ ?_, RelK_c hK ?_ ?_ ?_, n + 1, by omega, by rw [va_up_self], by rw [va_up_self], fun j hj => ?_⟩
    · obtain ⟨A, hA⟩ := hB
      exact ⟨A, by rw [va_up_ne _ _ (by decide), va_up_ne _ _ (by decide)]; exact hA⟩
    · rw [va_up_ne _ _ (by decide), va_up_ne _ _ (by decide)]
    · rw [va_up_ne _ _ (by decide), va_up_ne _ _ (by decide)]
    · rw [va_up_ne _ _ (by decide)]
    · rw [va_up_ne _ _ (by decide), va_up_ne _ _ (by decide)]
    · rw [va_up_ne _ _ (by decide), va_up_ne _ _ (by decide)]
    · rw [va_up_self, va_up_ne _ _ (by decide), va_up_self]
      by_cases z : j = n
      · subst z
        rw [upd_s, upd_s]
      · rw [upd_o _ z, upd_o _ z]
        exact t3 j (by omega)
  · rw [ltF q (by omega), eqT (by omega)]
    exact ⟨_, _, _, _, rfl, rfl, hB, hH, hK, n, hn, t1, t2, t3⟩
theorem m_clearText (hN : 1000 ≤ N) (hR : Rel Tn B Hs Sn Tx Tr E F Nm Bt M) : ∃ (r : Int32) (Tnz : tS) (Mz : tS), f_X5_clearText N Tn  = some (r, Tnz) ∧ f_X6_clearText N M  = some (r, Mz) ∧ Rel Tnz B Hs Sn Tx Tr E F Nm Bt Mz := by
  obtain ⟨⟨A, hB⟩, hH, hK, n, hn, t1, t2, t3⟩ := hR
  unfold f_X5_clearText f_X6_clearText
  rw [t1, t2]
  refine ⟨_, _, _, rfl, rfl, ⟨A, ?_⟩, RelH_c hH ?_ ?_, RelK_c hK ?_ ?_ ?_, 0, by omega, by rw [va_up_self]; rfl, by rw [va_up_self]; rfl, fun j hj => absurd hj (Nat.not_lt_zero j)⟩
  · rw [va_up_ne _ _ (by decide)]
    exact hB
  · rw [va_up_ne _ _ (by decide)]
  · rw [va_up_ne _ _ (by decide)]
  · rw [va_up_ne _ _ (by decide)]
  · rw [va_up_ne _ _ (by decide)]
  · rw [va_up_ne _ _ (by decide)]
theorem m_undo (hN : 1000 ≤ N) (hR : Rel Tn B Hs Sn Tx Tr E F Nm Bt M) : ∃ (r : Int32) (Bz : tS) (Hsz : tH) (Mz : tS), f_X5_undo N Tn B Hs  = some (r, Bz, Hsz) ∧ f_X6_undo N M  = some (r, Mz) ∧ Rel Tn Bz Hsz Sn Tx Tr E F Nm Bt Mz := by
  obtain ⟨⟨A, hB⟩, ⟨kn, As, h4, e1, e2, hp, hB2⟩, hK, hT⟩ := hR
  unfold f_X5_undo f_X6_undo f_X3_takeBack
  rw [e1, e2]
  cases kn with
  | zero =>
    rw [show nI 0 = 0 from rfl, if0, if0]
    exact ⟨_, _, _, _, rfl, rfl, ⟨A, hB⟩, ⟨0, As, h4, e1, e2, hp, hB2⟩, hK, hT⟩
  | succ kn =>
    have m1 : nI (kn + 1) - 1 = nI kn := by rw [li_1, pk_sub (by omega)]; rfl
    have ne : ¬ (nI (kn + 1) = 0) := fun z => by
      have := nI_inj (by omega) (by omega) (show nI (kn + 1) = nI 0 from z)
      omega
    rw [if_neg ne, if_neg ne, m1, gdI (by omega) (by decide), clI (by omega), if_pos (hp.1 kn (by omega)), li_233, pk_mul, li_0, g_cp10 hN _ (by omega) (by omega), bd_some]
    obtain ⟨C, eC, hC⟩ := rel_copy (N := N) (B := B) (s' := va_cpy (M 1) (M 0) (233 * kn) 0 233) (hB2 kn (by omega)) (by
      intro k hk
      rw [va_cpy_in (by omega) (by omega)]
      congr 1)
    rw [eC, bd_some, bd2_some, va_up_ne _ _ (by decide : (1 : Nat) ≠ 2), va_up_ne _ _ (by decide : (0 : Nat) ≠ 2), va_up_ne _ _ (by decide : (2 : Nat) ≠ 0), va_up_self]
    refine ⟨_, _, _, _, rfl, rfl, ⟨As kn, ?_⟩, ⟨kn, As, by omega, rfl, ?_, hp, fun i hi => ?_⟩, RelK_c hK rfl ?_ ?_, RelT_c hT ?_ ?_⟩
    · rw [va_up_self]
      exact hC
    · rw [va_up_ne _ _ (by decide), va_up_self]
    · rw [va_up_ne _ _ (by decide), va_up_ne _ _ (by decide)]
      exact hB2 i (by omega)
    · rw [va_up_ne _ _ (by decide), va_up_ne _ _ (by decide)]
    · rw [va_up_ne _ _ (by decide), va_up_ne _ _ (by decide)]
    · rw [va_up_ne _ _ (by decide), va_up_ne _ _ (by decide)]
    · rw [va_up_ne _ _ (by decide), va_up_ne _ _ (by decide)]
theorem m_keep (hN : 1000 ≤ N) (hR : Rel Tn B Hs Sn Tx Tr E F Nm Bt M) : ∃ (r : Int32) (Tnz : tS) (Snz : tS) (Mz : tS), f_X5_keep N Tn B Sn  = some (r, Tnz, Snz) ∧ f_X6_keep N M  = some (r, Mz) ∧ Rel Tnz B Hs Snz Tx Tr E F Nm Bt Mz := by
  obtain ⟨⟨A, ok, hB, hS⟩, hH, hK, hT⟩ := hR
  unfold f_X5_keep f_X6_keep
  obtain ⟨C, eC, hC⟩ := rel_copy (N := N) (B := Sn) (s' := va_cpy (M 0) (M 3) 0 0 233) (A := A) ⟨ok, hB, hS⟩ (by
    intro k hk
    rw [va_cpy_in (by omega) (by omega)]
    congr 1
    omega)
  rw [eC, bd_some, li_0, g_cp03 hN _ (by omega) (by omega), bd_some, ← li_0, cl_0, va_up_ne _ _ (by decide), hB.1, hS.1]
  refine ⟨_, _, _, _, rfl, rfl, ⟨A, ok, hB, ?_⟩, RelH_c hH ?_ ?_, ⟨?_, Or.inr ⟨?_, A, ?_⟩⟩, RelT_c (by
    obtain ⟨n, a, b, c⟩ := hT
    exact ⟨n, a, by rw [va_up_ne _ _ (by decide)]; exact b, c⟩) ?_ ?_⟩
  · rw [va_up_ne _ _ (by decide), va_up_ne _ _ (by decide)]
    exact hS
  · rw [va_up_ne _ _ (by decide), va_up_ne _ _ (by decide)]
  · rw [va_up_ne _ _ (by decide), va_up_ne _ _ (by decide)]
  · rw [va_up_self, va_up_self]
  · rw [va_up_self]
  · rw [va_up_ne _ _ (by decide), va_up_self]
    exact hC
  · rw [va_up_ne _ _ (by decide), va_up_ne _ _ (by decide)]
  · rw [va_up_ne _ _ (by decide), va_up_ne _ _ (by decide)]
theorem m_restore (hN : 1000 ≤ N) (hR : Rel Tn B Hs Sn Tx Tr E F Nm Bt M) : ∃ (r : Int32) (Bz : tS) (Hsz : tH) (Mz : tS), f_X5_restore N Tn B Hs Sn  = some (r, Bz, Hsz) ∧ f_X6_restore N M  = some (r, Mz) ∧ Rel Tn Bz Hsz Sn Tx Tr E F Nm Bt Mz := by
  obtain ⟨⟨A, hB⟩, hH, hK, hT⟩ := hR
  unfold f_X5_restore f_X6_restore
  rw [hK.1]
  rcases hK.2 with h0 | ⟨h1, A2, hA2⟩
  · rw [h0, if0, if0]
    exact ⟨_, _, _, _, rfl, rfl, ⟨A, hB⟩, hH, hK, hT⟩
  · rw [h1, if1, if1]
    obtain ⟨Hs', M', r1, r2, r3, r4⟩ := m_rec hN hH hB
    obtain ⟨C, eC, hC⟩ := rel_copy (N := N) (B := B) (s' := va_cpy (M' 3) (M' 0) 0 0 233) hA2 (by
      intro k hk
      rw [va_cpy_in (by omega) (by omega), r4 3 (by decide) (by decide)]
      congr 1
      omega)
    rw [r1, r2, bd_some, bd_some, eC, bd_some, li_0, g_cp30 hN _ (by omega) (by omega), bd_some, ← li_0, cl_0, va_up_self, hC.2.1.1, hC.2.2.1]
    exact ⟨_, _, _, _, rfl, rfl, Rel_mk (M := M) (by rw [va_up_self]; exact hC) r3 r4 (fun k k1 k2 => va_up_ne _ _ (by omega)) hK hT⟩
theorem m_dots (hN : 1000 ≤ N) (hR : Rel Tn B Hs Sn Tx Tr E F Nm Bt M) (p0 p1 : Int32) : ∃ (r : Int32), f_X5_dots N Tn B p0 p1 = some r ∧ f_X6_dots N M p0 p1 = some r ∧ Rel Tn B Hs Sn Tx Tr E F Nm Bt M := by
  have hR0 := hR
  obtain ⟨⟨A, ok, hB, hS⟩, -, -, -⟩ := hR
  unfold f_X5_dots f_X6_dots
  rcases pers_c N p0 with ⟨e1, e2⟩ | ⟨p, hp, rfl, e1, e2⟩
  · rw [e1, e2, bd_some, bd_some, if0, if0]
    exact ⟨_, rfl, rfl, hR0⟩
  rw [e1, e2, bd_some, bd_some, if1, if1]
  rcases note_c (N := N) hB hS ok p1 with ⟨e1, e2⟩ | ⟨i, hi, rfl, e1, e2⟩
  · rw [e1, e2, bd_some, bd_some, if0, if0]
    exact ⟨_, rfl, rfl, hR0⟩
  rw [e1, e2, bd_some, bd_some, if1, if1, s_dop hB ok hi hp, g_of4 hS ok hi hp]
  exact ⟨_, rfl, rfl, hR0⟩
theorem up_dot {M' : tS} {A : tA} (hB : RB B A) (hS : RS (M' 0) A) (ok : okA A) {i p : Nat} (hi : i < A 0 0) (hp : p < 6) {v : Nat} (hv : v ≤ 9) : RB (va_up B 4 (upd (B 4) (i * 6 + p) (nI v))) (upA A 4 (i * 6 + p) v) ∧ RS (upd (M' 0) (5 + 9 * i + (3 + p)) (nI v)) (upA A 4 (i * 6 + p) v) ∧ okA (upA A 4 (i * 6 + p) v) := by
  have o1 := ok.1
  refine ⟨RB_up hB (by decide) (by decide) rfl, ?_, ok_up ok (by decide) (by decide) (by decide) ⟨fun h => absurd h (by decide), fun h => absurd h (by decide), fun h => absurd h (by decide), fun _ => hv, fun h => absurd h (by decide)⟩⟩
  have := RS_up (v := v) ok hS (f := 4) (i := i * 6 + p) (by decide) (by decide) (by unfold vaf; omega)
  rw [ixf4 hp, Nat.add_assoc (5 + 9 * i) 3 p] at this
  exact this
theorem add_m1 (x : Int32) : x + (-1) = x - 1 := by grind
theorem m_stick (hN : 1000 ≤ N) (hR : Rel Tn B Hs Sn Tx Tr E F Nm Bt M) (p0 p1 : Int32) : ∃ (r : Int32) (Bz : tS) (Hsz : tH) (Mz : tS), f_X5_stick N Tn B Hs p0 p1 = some (r, Bz, Hsz) ∧ f_X6_stick N M p0 p1 = some (r, Mz) ∧ Rel Tn Bz Hsz Sn Tx Tr E F Nm Bt Mz := by
  have hR0 := hR
  obtain ⟨⟨A, ok, hB, hS⟩, hH, hK, hT⟩ := hR
  have o1 := ok.1
  have o4 := ok.2.2.2.1
  have o5 := ok.2.2.2.2.1
  unfold f_X5_stick f_X6_stick
  rcases pers_c N p0 with ⟨e1, e2⟩ | ⟨p, hp, rfl, e1, e2⟩
  · rw [e1, e2, bd_some, bd_some, if0, if0]
    exact ⟨_, _, _, _, rfl, rfl, hR0⟩
  rw [e1, e2, bd_some, bd_some, if1, if1]
  rcases note_c (N := N) hB hS ok p1 with ⟨e1, e2⟩ | ⟨i, hi, rfl, e1, e2⟩
  · rw [e1, e2, bd_some, bd_some, if0, if0]
    exact ⟨_, _, _, _, rfl, rfl, hR0⟩
  have hd := (ok.2.2.2.2.2.1 i hi).2.2.2 p hp
  have hdp : dpA A p ≤ 180 := by
    have := sm_le (f := fun i => A 4 (i * 6 + p)) (c := 9) (n := A 0 0) (fun j hj => (ok.2.2.2.2.2.1 j (by omega)).2.2.2 p hp)
    show sm _ _ ≤ _
    omega
  rw [e1, e2, bd_some, bd_some, if1, if1, s_dotsLeft hN hB ok hp, g_stuckBy hN hS ok hp, bd_some, bd_some, cl_3, show M 0 3 = nI (A 7 1) from hS.2.2.1 1 (by decide)]
  by_cases q : dpA A p < A 7 1
  · rw [if_neg (fun z => by
      have := nI_inj (by omega) (by omega) (show nI (A 7 1 - dpA A p) = nI 0 from z)
      omega), ltT q (by omega), s_hasMost hB ok hi hp, g_of4 hS ok hi hp, bd_some, bd_some, cl_4, show M 0 4 = nI (A 7 2) from hS.2.2.1 2 (by decide)]
    by_cases q2 : A 4 (i * 6 + p) < A 7 2
    · rw [if_neg (show ¬ A 7 2 ≤ A 4 (i * 6 + p) by omega), if0, ltT q2 (by omega)]
      obtain ⟨Hs', M', r1, r2, r3, r4⟩ := m_rec hN hH ⟨ok, hB, hS⟩
      have hS' : RS (M' 0) A := by rw [r4 0 (by decide) (by decide)]; exact hS
      obtain ⟨u1, u2, u3⟩ := up_dot (v := A 4 (i * 6 + p) + 1) hB hS' ok hi hp (by omega)
      have e3 : f_X0_addDots N B (nI p) (nI i) 1 = some (va_up B 4 (upd (B 4) (i * 6 + p) (nI (A 4 (i * 6 + p) + 1)))) := by
        unfold f_X0_addDots
        rw [li_6, pk_mul, nI_add, gdI (by omega) (by decide), gdI (by omega) (by decide), clI (by omega), (hB.2.2.2.1 i hi).2.2.2 p hp, nI_s]
      have e4 : f_X6_lays N M' (nI i) (3 + nI p) (nI (A 4 (i * 6 + p)) + 1) = some (va_up M' 0 (upd (M' 0) (5 + 9 * i + (3 + p)) (nI (A 4 (i * 6 + p) + 1)))) := by
        rw [li_3, nI_add, g_lays (by omega), nI_s]
      have hz : (upA A 4 (i * 6 + p) (A 4 (i * 6 + p) + 1)) 0 0 = A 0 0 := upA_o _ _ (Or.inl (by decide))
      rw [r1, r2, bd_some, bd_some, e3, bd_some, g_of4 hS' ok hi hp, bd_some, e4, bd_some, s_dotsOn hN u1 u3 (by rw [hz]; exact hi), bd_some, g_dotsOf hN (by rw [va_up_self]; exact u2) u3 (by rw [hz]; exact hi), bd_some]
      exact ⟨_, _, _, _, rfl, rfl, Rel_mk (M := M) ⟨u3, u1, by rw [va_up_self]; exact u2⟩ r3 r4 (fun k k1 k2 => va_up_ne _ _ (by omega)) hK hT⟩
    · rw [if_pos (show A 7 2 ≤ A 4 (i * 6 + p) by omega), if1, ltF (by omega) (by omega)]
      exact ⟨_, _, _, _, rfl, rfl, hR0⟩
  · rw [if_pos (show nI (A 7 1 - dpA A p) = 0 by rw [show A 7 1 - dpA A p = 0 by omega]; rfl), ltF (by omega) (by omega)]
    exact ⟨_, _, _, _, rfl, rfl, hR0⟩
theorem m_unstick (hN : 1000 ≤ N) (hR : Rel Tn B Hs Sn Tx Tr E F Nm Bt M) (p0 p1 : Int32) : ∃ (r : Int32) (Bz : tS) (Hsz : tH) (Mz : tS), f_X5_unstick N Tn B Hs p0 p1 = some (r, Bz, Hsz) ∧ f_X6_unstick N M p0 p1 = some (r, Mz) ∧ Rel Tn Bz Hsz Sn Tx Tr E F Nm Bt Mz := by
  have hR0 := hR
  obtain ⟨⟨A, ok, hB, hS⟩, hH, hK, hT⟩ := hR
  have o1 := ok.1
  unfold f_X5_unstick f_X6_unstick
  rcases pers_c N p0 with ⟨e1, e2⟩ | ⟨p, hp, rfl, e1, e2⟩
  · rw [e1, e2, bd_some, bd_some, if0, if0]
    exact ⟨_, _, _, _, rfl, rfl, hR0⟩
  rw [e1, e2, bd_some, bd_some, if1, if1]
  rcases note_c (N := N) hB hS ok p1 with ⟨e1, e2⟩ | ⟨i, hi, rfl, e1, e2⟩
  · rw [e1, e2, bd_some, bd_some, if0, if0]
    exact ⟨_, _, _, _, rfl, rfl, hR0⟩
  have hd := (ok.2.2.2.2.2.1 i hi).2.2.2 p hp
  rw [e1, e2, bd_some, bd_some, if1, if1, s_dop hB ok hi hp, g_of4 hS ok hi hp, bd_some, bd_some]
  by_cases q : A 4 (i * 6 + p) = 0
  · rw [q, show nI 0 = 0 from rfl, if0, if0]
    exact ⟨_, _, _, _, rfl, rfl, hR0⟩
  have ne : ¬ (nI (A 4 (i * 6 + p)) = 0) := fun z => q (nI_inj (by omega) (by omega) (show _ = nI 0 from z))
  obtain ⟨Hs', M', r1, r2, r3, r4⟩ := m_rec hN hH ⟨ok, hB, hS⟩
  have hS' : RS (M' 0) A := by rw [r4 0 (by decide) (by decide)]; exact hS
  obtain ⟨u1, u2, u3⟩ := up_dot (v := A 4 (i * 6 + p) - 1) hB hS' ok hi hp (by omega)
  have em : nI (A 4 (i * 6 + p)) - 1 = nI (A 4 (i * 6 + p) - 1) := by rw [li_1, pk_sub (by omega)]
  have e3 : f_X0_addDots N B (nI p) (nI i) (-1) = some (va_up B 4 (upd (B 4) (i * 6 + p) (nI (A 4 (i * 6 + p) - 1)))) := by
    unfold f_X0_addDots
    rw [li_6, pk_mul, nI_add, gdI (by omega) (by decide), gdI (by omega) (by decide), clI (by omega), (hB.2.2.2.1 i hi).2.2.2 p hp, add_m1, em]
  have e4 : f_X6_lays N M' (nI i) (3 + nI p) (nI (A 4 (i * 6 + p)) - 1) = some (va_up M' 0 (upd (M' 0) (5 + 9 * i + (3 + p)) (nI (A 4 (i * 6 + p) - 1)))) := by
    rw [li_3, nI_add, g_lays (by omega), em]
  have hz : (upA A 4 (i * 6 + p) (A 4 (i * 6 + p) - 1)) 0 0 = A 0 0 := upA_o _ _ (Or.inl (by decide))
  rw [if_neg ne, if_neg ne, r1, r2, bd_some, bd_some, e3, bd_some, g_of4 hS' ok hi hp, bd_some, e4, bd_some, s_dotsOn hN u1 u3 (by rw [hz]; exact hi), bd_some, g_dotsOf hN (by rw [va_up_self]; exact u2) u3 (by rw [hz]; exact hi), bd_some]
  exact ⟨_, _, _, _, rfl, rfl, Rel_mk (M := M) ⟨u3, u1, by rw [va_up_self]; exact u2⟩ r3 r4 (fun k k1 k2 => va_up_ne _ _ (by omega)) hK hT⟩
theorem up_set {M' : tS} {A : tA} (hB : RB B A) (hS : RS (M' 0) A) (ok : okA A) {j v : Nat} (hj : j < 3) (hv : if j = 0 then v ≤ 20 else 1 ≤ v ∧ v ≤ 9) : RB (va_up B 7 (upd (B 7) j (nI v))) (upA A 7 j v) ∧ RS (upd (M' 0) (2 + j) (nI v)) (upA A 7 j v) ∧ okA (upA A 7 j v) := by
  refine ⟨RB_up hB (by decide) (by decide) rfl, ?_, ?_⟩
  · have := RS_up (v := v) ok hS (f := 7) (i := j) (by decide) (by decide) (by unfold vaf; omega)
    rw [show ixf 7 j = 2 + j from rfl] at this
    exact this
  · obtain ⟨o1, o2, o3, o4, o5, o6, o8⟩ := ok
    refine ⟨o1, o2, ?_, ?_, ?_, fun i hi => ?_, fun t ht p hp => ?_⟩
    · unfold upA
      split
      · next q =>
        rw [if_pos q.2.symm] at hv
        exact hv
      · exact o3
    · unfold upA
      split
      · next q =>
        rw [if_neg (by omega)] at hv
        exact hv
      · exact o4
    · unfold upA
      split
      · next q =>
        rw [if_neg (by omega)] at hv
        exact hv
      · exact o5
    · obtain ⟨a, b, c, d⟩ := o6 i hi
      exact ⟨a, b, c, d⟩
    · exact o8 t ht p hp
theorem m_set (hN : 1000 ≤ N) (hR : Rel Tn B Hs Sn Tx Tr E F Nm Bt M) (p0 p1 : Int32) : ∃ (r : Int32) (Bz : tS) (Hsz : tH) (Mz : tS), f_X5_set N Tn B Hs p0 p1 = some (r, Bz, Hsz) ∧ f_X6_set N M p0 p1 = some (r, Mz) ∧ Rel Tn Bz Hsz Sn Tx Tr E F Nm Bt Mz := by
  have hR0 := hR
  obtain ⟨⟨A, ok, hB, hS⟩, hH, hK, hT⟩ := hR
  have o3 := ok.2.2.1
  have o4 := ok.2.2.2.1
  have o5 := ok.2.2.2.2.1
  unfold f_X5_set f_X6_set
  rw [show f_X5_isWithin N p0 0 2 = f_X6_in N p0 0 2 from rfl, li_2]
  rcases in_b N p0 (b := 2) (by decide) with ⟨e1, _⟩ | ⟨j, hj, rfl, e1⟩
  · rw [e1, bd_some, bd_some, if0, if0]
    exact ⟨_, _, _, _, rfl, rfl, hR0⟩
  have hj3 : j < 3 := by omega
  have eb : A 7 j ≤ 20 := by
    match j, hj3 with
    | 0, _ => exact o3
    | 1, _ => omega
    | 2, _ => omega
  have key : ∀ lo hi : Nat, lo ≤ hi → hi ≤ 20 → (∀ v, lo ≤ v → v ≤ hi → (if j = 0 then v ≤ 20 else 1 ≤ v ∧ v ≤ 9)) → ∃ (r : Int32) (Bz : tS) (Hsz : tH) (Mz : tS), (bd (f_X5_isWithin N p1 (nI lo) (nI hi)) (fun r4 => (if r4 = 0 then some ((-2 : Int32), B, Hs) else (if (nI j) < 0 ∨ 3 ≤ (nI j).toNatClampNeg then none else (if (B 7 (nI j).toNatClampNeg) = p1 then some ((-5 : Int32), B, Hs) else (bd (f_X3_remember N Hs B) (fun Hs5 => (if (nI j) < 0 ∨ 3 ≤ (nI j).toNatClampNeg then none else some ((B 7 (nI j).toNatClampNeg), (va_up B 7 (upd (B 7) (nI j).toNatClampNeg p1)), Hs5))))))))) = some (r, Bz, Hsz) ∧ f_X6_set_32 N (nI j) p1 (nI hi) (nI lo) p1 M = some (r, Mz) ∧ Rel Tn Bz Hsz Sn Tx Tr E F Nm Bt Mz := by
    intro lo hi hlh hhi hv
    unfold f_X6_set_32
    rw [show f_X5_isWithin N p1 (nI lo) (nI hi) = f_X6_in N p1 (nI lo) (nI hi) from rfl]
    rcases in_r N p1 hlh (by omega) with ⟨e2, _⟩ | ⟨v, v1, v2, rfl, e2⟩
    · rw [e2, bd_some, bd_some, if0, if0]
      exact ⟨_, _, _, _, rfl, rfl, hR0⟩
    rw [e2, bd_some, bd_some, if1, if1, gdI hj3 (by decide), li_2, nI_add, gdI (by omega) (by decide), clI (by omega), clI (by omega), hB.2.2.1 j hj3, hS.2.2.1 j hj3]
    by_cases q : A 7 j = v
    · rw [eqT q, eqT q]
      exact ⟨_, _, _, _, rfl, rfl, hR0⟩
    obtain ⟨Hs', M', r1, r2, r3, r4⟩ := m_rec hN hH ⟨ok, hB, hS⟩
    have hS' : RS (M' 0) A := by rw [r4 0 (by decide) (by decide)]; exact hS
    obtain ⟨u1, u2, u3⟩ := up_set hB hS' ok hj3 (hv v v1 v2)
    rw [eqF q (by omega) (by omega), eqF q (by omega) (by omega), r1, r2, bd_some, bd_some, gdJ hj3 (by decide), gdJ (by omega) (by decide)]
    exact ⟨_, _, _, _, rfl, rfl, Rel_mk (M := M) ⟨u3, u1, by rw [va_up_self]; exact u2⟩ r3 r4 (fun k k1 k2 => va_up_ne _ _ (by omega)) hK hT⟩
  rw [e1, bd_some, bd_some, if1, if1, gdI hj3 (by decide), gdI hj3 (by decide)]
  unfold f_X6_set_21
  by_cases j0 : j = 0
  · subst j0
    have := key 0 20 (by decide) (by decide) (fun v a b => by simpa using b)
    rw [show nI 0 = 0 from rfl, if0, if0]
    exact this
  · have ne : ¬ (nI j = 0) := fun z => j0 (nI_inj (by omega) (by omega) (show nI j = nI 0 from z))
    have := key 1 9 (by decide) (by decide) (fun v a b => by rw [if_neg j0]; exact ⟨a, b⟩)
    rw [if_neg ne, if_neg ne, show LSf (nI j).toNatClampNeg = nI 1 by rw [clI (by omega)]; simp [LSf, j0]; rfl, show MSf (nI j).toNatClampNeg = nI 9 by rw [clI (by omega)]; simp [MSf, j0]; rfl]
    exact this
end EASY
