/-! heaps found by both; drag, dragHeap, make -/
theorem ct_mono {p : Nat → Bool} {m : Nat} : ∀ {n : Nat}, m ≤ n → ct p m ≤ ct p n
  | 0, h => by rw [show m = 0 by omega]; exact Nat.le_refl _
  | n + 1, h => by
    by_cases q : m = n + 1
    · rw [q]; exact Nat.le_refl _
    · rw [ct_succ]
      have := ct_mono (p := p) (m := m) (n := n) (by omega)
      omega
theorem ct_lt {p : Nat → Bool} {k n : Nat} (h : k < n) (e : p k = true) : ct p k < ct p n := by
  have h1 : ct p (k + 1) ≤ ct p n := ct_mono h
  rw [ct_succ, e] at h1
  exact h1
theorem hp_lt {n : Nat} {E : Nat → Nat → Prop} {L : Nat → Nat} {c : Nat} (hL : Lo n c E L) {i : Nat} (hi : i < n) (hc : i ≠ c) : hpA c L i < nmH n c L := by
  obtain ⟨a, b, d⟩ := hL.1 i ⟨hi, hc⟩
  exact ct_lt (by omega) (decide_eq_true ⟨b, d⟩)
theorem hp_eq {n : Nat} {E : Nat → Nat → Prop} {L : Nat → Nat} {c : Nat} (hL : Lo n c E L) {i j : Nat} (hi : i < n) (hj : j < n) (hci : i ≠ c) (hcj : j ≠ c) : hpA c L i = hpA c L j ↔ L i = L j := by
  constructor
  · intro h
    obtain ⟨a, b, d⟩ := hL.1 i ⟨hi, hci⟩
    obtain ⟨a', b', d'⟩ := hL.1 j ⟨hj, hcj⟩
    unfold hpA at h
    rcases Nat.lt_trichotomy (L i) (L j) with q | q | q
    · have := ct_lt q (show rtB c L (L i) = true from decide_eq_true ⟨b, d⟩)
      omega
    · exact q
    · have := ct_lt q (show rtB c L (L j) = true from decide_eq_true ⟨b', d'⟩)
      omega
  · intro h
    unfold hpA
    rw [h]
theorem nm_le (n c : Nat) (L : Nat → Nat) : nmH n c L ≤ n := ct_le _ _
/-- both find the heaps -/
theorem m_heaps {N : Nat} (hN : 1000 ≤ N) {B M : tS} {A : tA} (hB : RB B A) (hS : RS (M 0) A) (ok : okA A) (Tn E : tS) : ∃ E' M' L, f_X5_findHeaps N Tn B E = some (nI (nmH (A 0 0) 1000 L), E') ∧ f_X6_laysNow N M = some (nI (nmH (A 0 0) 1000 L), M') ∧ HE E' (A 0 0) (nmH (A 0 0) 1000 L) (hpA 1000 L) ∧ (∀ i, i < A 0 0 → M' 7 i = nI (hpA 1000 L i)) ∧ (∀ k, k ≠ 7 → k ≠ 8 → k ≠ 9 → M' k = M k) ∧ Lo (A 0 0) 1000 (eA A (A 7 0)) L := by
  have o1 := ok.1
  have o3 := ok.2.2.1
  obtain ⟨E', L, e1, h1, hL⟩ := s_find hN hB ok (r := A 7 0) (by omega) E
  obtain ⟨M', e2, h2, h3⟩ := g_laysH hN hS ok (r := A 7 0) (c := 1000) (bu := -5) (by omega) (fun i hi => ⟨fun h => absurd h (nI_n5 (by omega)), fun h => by omega⟩) hL
  refine ⟨E', M', L, ?_, ?_, h1, fun i hi => h3 i hi (by omega), h2, hL⟩
  · unfold f_X5_findHeaps
    rw [cl_0, hB.2.2.1 0 (by decide), e1, bd2_some]
  · unfold f_X6_laysNow
    rw [cl_2, show M 0 2 = nI (A 7 0) from hS.2.2.1 0 (by decide), e2, bd2_some]
/-- is there such a heap -/
theorem heap_c {N : Nat} {S : tS} {n num : Nat} {h : Nat → Nat} (hE : HE S n num h) (hn : num ≤ 20) (x : Int32) : (f_X2_has N S x = some 0 ∧ f_X6_in N x 0 (nI num - 1) = some 0) ∨ ∃ g, g < num ∧ x = nI g ∧ f_X2_has N S x = some 1 ∧ f_X6_in N x 0 (nI num - 1) = some 1 := by
  unfold f_X2_has
  rw [hE.1]
  rcases in_c N x (n := num) (by omega) with ⟨h1, h2⟩ | ⟨j, h1, h2, h3⟩
  · rcases has_c (n := num) (by omega) x with ⟨k1, _⟩ | ⟨j, k1, k2, _⟩
    · exact Or.inl ⟨k1, h1⟩
    · exact absurd ⟨j, k1, k2⟩ h2
  · rcases has_c (n := num) (by omega) x with ⟨_, k2⟩ | ⟨i, k1, k2, k3⟩
    · exact absurd ⟨j, h1, h2⟩ k2
    · exact Or.inr ⟨j, h1, h2, k3, h3⟩
def mvA (A : tA) (i c r : Nat) : tA := upA (upA A 1 i c) 2 i r
theorem mvA_0 (A : tA) (i c r : Nat) {f j : Nat} (h1 : f ≠ 1) (h2 : f ≠ 2) : mvA A i c r f j = A f j := by
  unfold mvA
  rw [upA_o _ _ (Or.inl h2), upA_o _ _ (Or.inl h1)]
theorem s_move {N : Nat} {B : tS} {A : tA} (hB : RB B A) (ok : okA A) {i c r : Nat} (hi : i < A 0 0) (hc : c < 30) (hr : r < 20) : ∃ B', f_X0_moveNote N B (nI i) (nI c) (nI r) = some B' ∧ RB B' (mvA A i c r) ∧ okA (mvA A i c r) := by
  have o1 := ok.1
  refine ⟨va_up (va_up B 1 (upd (B 1) i (nI c))) 2 (upd (B 2) i (nI r)), ?_, ?_, ?_⟩
  · unfold f_X0_moveNote
    rw [gdI (by omega) (by decide), gdI (by omega) (by decide), clI (by omega)]
  · have h1 := RB_up (f := 1) (i := i) (v := c) hB (by decide) (by decide) rfl
    have h2 := RB_up (f := 2) (i := i) (v := r) h1 (by decide) (by decide) rfl
    rw [va_up_ne _ _ (by decide : (2 : Nat) ≠ 1)] at h2
    exact h2
  · have h1 := ok_up (f := 1) (i := i) (v := c) ok (by decide) (by decide) (by decide) ⟨fun _ => hc, fun h => absurd h (by decide), fun h => absurd h (by decide), fun h => absurd h (by decide), fun h => absurd h (by decide)⟩
    exact ok_up (f := 2) (i := i) (v := r) h1 (by decide) (by decide) (by decide) ⟨fun h => absurd h (by decide), fun _ => hr, fun h => absurd h (by decide), fun h => absurd h (by decide), fun h => absurd h (by decide)⟩
theorem g_comes {N : Nat} {M : tS} {A : tA} (hS : RS (M 0) A) (ok : okA A) {i c r : Nat} (hi : i < A 0 0) (hc : c < 30) : ∃ s', f_X6_comes N M (nI i) (nI c) (nI r) = some (va_up M 0 s') ∧ RS s' (mvA A i c r) := by
  have o1 := ok.1
  refine ⟨upd (upd (M 0) (5 + 9 * i) (nI c)) (5 + 9 * i + 1) (nI r), ?_, ?_⟩
  · unfold f_X6_comes
    rw [g_lays0 (by omega), bd_some, g_lays1 (by omega), bd_some, va_up_up, va_up_self]
  · have k1 := ok_up (f := 1) (i := i) (v := c) ok (by decide) (by decide) (by decide) ⟨fun _ => hc, fun h => absurd h (by decide), fun h => absurd h (by decide), fun h => absurd h (by decide), fun h => absurd h (by decide)⟩
    have h1 := RS_up (f := 1) (i := i) (v := c) ok hS (by decide) (by decide) (by unfold vaf; omega)
    have h2 := RS_up (f := 2) (i := i) (v := r) k1 h1 (by decide) (by decide) (by unfold vaf; omega)
    exact h2
theorem m_drag {N : Nat} (hN : 1000 ≤ N) {Tn B Sn Tx Tr E F Nm Bt M : tS} {Hs : tH} (hR : Rel Tn B Hs Sn Tx Tr E F Nm Bt M) (p0 p1 p2 : Int32) : ∃ (r : Int32) (Bz : tS) (Hsz : tH) (Ez : tS) (Mz : tS), f_X5_drag N Tn B Hs E p0 p1 p2 = some (r, Bz, Hsz, Ez) ∧ f_X6_drag N M p0 p1 p2 = some (r, Mz) ∧ Rel Tn Bz Hsz Sn Tx Tr Ez F Nm Bt Mz := by
  have hR0 := hR
  obtain ⟨⟨A, ok, hB, hS⟩, hH, hK, hT⟩ := hR
  have o1 := ok.1
  unfold f_X5_drag f_X6_drag
  rcases note_c (N := N) hB hS ok p0 with ⟨e1, e2⟩ | ⟨i, hi, rfl, e1, e2⟩
  · rw [e1, e2, bd_some, bd_some, if0, if0]
    exact ⟨_, _, _, _, _, rfl, rfl, hR0⟩
  rw [e1, e2, bd_some, bd_some, if1, if1]
  rcases place_c N p1 p2 with ⟨e1, e2⟩ | ⟨c, r, hc, hr, rfl, rfl, e1, e2⟩
  · rw [e1, e2, bd_some, bd_some, if0, if0]
    exact ⟨_, _, _, _, _, rfl, rfl, hR0⟩
  have b := ok.2.2.2.2.2.1 i hi
  rw [e1, e2, bd_some, bd_some, if1, if1, gdI (by omega) (by decide), clI (by omega), gdJ (by omega) (by decide), (hB.2.2.2.1 i hi).1, (hB.2.2.2.1 i hi).2.1, g_of1 hS ok hi, bd_some, g_of2 hS ok hi, bd_some]
  have go : ∃ (r' : Int32) (Bz : tS) (Hsz : tH) (Ez : tS) (Mz : tS), f_X5_drag_50 N Tn (nI i) (nI c) (nI r) B Hs E = some (r', Bz, Hsz, Ez) ∧ f_X6_drag_41 N (nI i) (nI c) (nI r) M = some (r', Mz) ∧ Rel Tn Bz Hsz Sn Tx Tr Ez F Nm Bt Mz := by
    unfold f_X5_drag_50 f_X6_drag_41
    obtain ⟨Hs', M', r1, r2, r3, r4⟩ := m_rec hN hH ⟨ok, hB, hS⟩
    have hS' : RS (M' 0) A := by rw [r4 0 (by decide) (by decide)]; exact hS
    obtain ⟨B', d1, d2, d3⟩ := s_move (N := N) hB ok hi hc hr
    obtain ⟨s', d4, d5⟩ := g_comes (N := N) (r := r) hS' ok hi hc
    obtain ⟨E', M2, L, h1, h2, h3, h4, h5, h6⟩ := m_heaps hN (M := va_up M' 0 s') d2 (by rw [va_up_self]; exact d5) d3 Tn E
    rw [r1, r2, bd_some, bd_some, d1, d4, bd_some, bd_some, h1, h2, bd2_some, bd2_some]
    refine ⟨_, _, _, _, _, rfl, rfl, Rel_mk (M := M) ⟨d3, d2, ?_⟩ r3 r4 (fun k k1 k2 => ?_) hK hT⟩
    · rw [h5 0 (by decide) (by decide) (by decide), va_up_self]
      exact d5
    · rw [h5 k (by omega) (by omega) (by omega), va_up_ne _ _ (by omega)]
  by_cases q : A 1 i = c
  · rw [eqT q, eqT q]
    by_cases q2 : A 2 i = r
    · rw [eqT q2, eqT q2]
      exact ⟨_, _, _, _, _, rfl, rfl, hR0⟩
    · rw [eqF q2 (by omega) (by omega), eqF q2 (by omega) (by omega)]
      exact go
  · rw [eqF q (by omega) (by omega), eqF q (by omega) (by omega)]
    exact go
/-- the heap that is dragged -/
def shN (x : Int32) : Nat := x.toInt.toNat
def mhA (A : tA) (h : Nat → Nat) (g : Nat) (p1 p2 : Int32) (m : Nat) : tA := fun f j => if f = 1 ∧ j < m ∧ h j = g then shN (nI (A 1 j) + p1) else if f = 2 ∧ j < m ∧ h j = g then shN (nI (A 2 j) + p2) else A f j
theorem mhA_0 (A : tA) (h : Nat → Nat) (g : Nat) (p1 p2 : Int32) : mhA A h g p1 p2 0 = A := by
  funext f j
  simp [mhA]
theorem mhA_n {A : tA} {h : Nat → Nat} {g : Nat} {p1 p2 : Int32} {m : Nat} (q : h m ≠ g) : mhA A h g p1 p2 (m + 1) = mhA A h g p1 p2 m := by
  funext f j
  unfold mhA
  by_cases z : j = m
  · subst z
    rw [if_neg (fun w => q w.2.2), if_neg (fun w => q w.2.2), if_neg (fun w => q w.2.2), if_neg (fun w => q w.2.2)]
  · by_cases w : j < m
    · have : j < m + 1 := by omega
      simp [w, this]
    · have : ¬ j < m + 1 := by omega
      simp [w, this]
theorem mhA_s {A : tA} {h : Nat → Nat} {g : Nat} {p1 p2 : Int32} {m : Nat} (q : h m = g) : mhA A h g p1 p2 (m + 1) = mvA (mhA A h g p1 p2 m) m (shN (nI (A 1 m) + p1)) (shN (nI (A 2 m) + p2)) := by
  funext f j
  unfold mvA upA mhA
  by_cases z : j = m
  · subst z
    by_cases f1 : f = 1
    · subst f1
      simp [q]
    · by_cases f2 : f = 2
      · subst f2
        simp [q]
      · simp [f1, f2]
  · by_cases w : j < m
    · have : j < m + 1 := by omega
      simp [w, this, z]
    · have : ¬ j < m + 1 := by omega
      simp [w, this, z]
theorem mhA_c {A : tA} {h : Nat → Nat} {g : Nat} {p1 p2 : Int32} {m f j : Nat} (q : (f ≠ 1 ∧ f ≠ 2) ∨ m ≤ j) : mhA A h g p1 p2 m f j = A f j := by
  unfold mhA
  rw [if_neg (by omega), if_neg (by omega)]
theorem m_dragHeap {N : Nat} (hN : 1000 ≤ N) {Tn B Sn Tx Tr E F Nm Bt M : tS} {Hs : tH} (hR : Rel Tn B Hs Sn Tx Tr E F Nm Bt M) (p0 p1 p2 : Int32) : ∃ (r : Int32) (Bz : tS) (Hsz : tH) (Ez : tS) (Mz : tS), f_X5_dragHeap N Tn B Hs E p0 p1 p2 = some (r, Bz, Hsz, Ez) ∧ f_X6_dragHeap N M p0 p1 p2 = some (r, Mz) ∧ Rel Tn Bz Hsz Sn Tx Tr Ez F Nm Bt Mz := by
  have hR0 := hR
  obtain ⟨⟨A, ok, hB, hS⟩, hH, hK, hT⟩ := hR
  have o1 := ok.1
  unfold f_X5_dragHeap f_X6_dragHeap
  obtain ⟨E', M2, L, h1, h2, h3, h4, h5, h6⟩ := m_heaps hN hB hS ok Tn E
  have hR2 : Rel Tn B Hs Sn Tx Tr E' F Nm Bt M2 := Rel_rk hR0 (fun k hk => h5 k (by omega) (by omega) (by omega))
  have hS2 : RS (M2 0) A := by rw [h5 0 (by decide) (by decide) (by decide)]; exact hS
  have nml := nm_le (A 0 0) 1000 L
  rw [h1, h2, bd2_some, bd2_some]
  rcases heap_c (N := N) h3 (by omega) p0 with ⟨e1, e2⟩ | ⟨g, hg, rfl, e1, e2⟩
  · rw [e1, e2, bd_some, bd_some, if0, if0]
    exact ⟨_, _, _, _, _, rfl, rfl, hR2⟩
  rw [e1, e2, bd_some, bd_some, if1, if1, show f_X5_isWithin N p1 (-29) 29 = f_X6_in N p1 (-29) 29 from rfl, show f_X5_isWithin N p2 (-19) 19 = f_X6_in N p2 (-19) 19 from rfl]
  have in_z : ∀ x a b : Int32, f_X6_in N x a b = some 0 ∨ f_X6_in N x a b = some 1 := by
    intro x a b
    unfold f_X6_in
    split
    · exact Or.inl rfl
    · split
      · exact Or.inl rfl
      · exact Or.inr rfl
  rcases in_z p1 (-29) 29 with e | e
  · rw [e, bd_some, bd_some, if0, if0]
    exact ⟨_, _, _, _, _, rfl, rfl, hR2⟩
  rw [e, bd_some, bd_some, if1, if1]
  rcases in_z p2 (-19) 19 with e | e
  · rw [e, bd_some, bd_some, if0, if0]
    exact ⟨_, _, _, _, _, rfl, rfl, hR2⟩
  rw [e, bd_some, bd_some, if1, if1]
  -- may it be dragged
  have cs : f_X5_staysOnBoard N Tn B E' (nI g) p1 p2 = some (if anyB (fun j => decide (hpA 1000 L j = g ∧ f_X6_isPlace N (nI (A 1 j) + p1) (nI (A 2 j) + p2) = some 0)) (A 0 0) = true then 0 else 1) := by
    have h := lp_any (F := fun n x => f_X5_staysOnBoard_3 N Tn B E' (nI g) p1 p2 n x) (fun j => decide (hpA 1000 L j = g ∧ f_X6_isPlace N (nI (A 1 j) + p1) (nI (A 2 j) + p2) = some 0)) (A 0 0) (some (0 : Int32)) (some (1 : Int32)) (by
      intro n
      show f_X5_staysOnBoard_3b N Tn B E' (nI g) p1 p2 (f_X5_staysOnBoard_3 N Tn B E' (nI g) p1 p2 n) (nI (A 0 0)) = _
      unfold f_X5_staysOnBoard_3b
      rw [hB.1, leT (Nat.le_refl _) (by omega)]) (by
      intro n j hj
      show f_X5_staysOnBoard_3b N Tn B E' (nI g) p1 p2 (f_X5_staysOnBoard_3 N Tn B E' (nI g) p1 p2 n) (nI j) = _
      have hl := hp_lt h6 hj (by omega)
      unfold f_X5_staysOnBoard_3b f_X5_staysOnBoard_61
      rw [hB.1, leF hj (by omega), gdI (by omega) (by decide), clI (by omega), gdJ (by omega) (by decide), gdJ (by omega) (by decide), h3.2.2 j hj, (hB.2.2.2.1 j hj).1, (hB.2.2.2.1 j hj).2.1, nI_s]
      by_cases q : hpA 1000 L j = g
      · rw [eqT q]
        rcases place_c N (nI (A 1 j) + p1) (nI (A 2 j) + p2) with ⟨e1, e2⟩ | ⟨c, r, hc, hr, ec, er, e1, e2⟩
        · rw [e1, bd_some, if0, if_pos (decide_eq_true ⟨q, e2⟩)]
        · rw [e1, bd_some, if1, if_neg (fun w => by
            have := (of_decide_eq_true w).2
            rw [e2] at this
            cases this)]
      · rw [eqF q (by omega) (by omega), if_neg (fun w => q (of_decide_eq_true w).1)]) N (by omega)
    refine Eq.trans (show f_X5_staysOnBoard N Tn B E' (nI g) p1 p2 = _ from h) ?_
    split <;> rfl
  have cr : f_X6_canDrag N M2 (nI g) p1 p2 = some (if anyB (fun j => decide (hpA 1000 L j = g ∧ f_X6_isPlace N (nI (A 1 j) + p1) (nI (A 2 j) + p2) = some 0)) (A 0 0) = true then 0 else 1) := by
    refine lp_run (F := fun k (q : Int32 × Int32) => f_X6_canDrag_6 N M2 (nI g) p1 p2 k q.1 q.2) (s := fun i => ((if anyB (fun j => decide (hpA 1000 L j = g ∧ f_X6_isPlace N (nI (A 1 j) + p1) (nI (A 2 j) + p2) = some 0)) i = true then 0 else 1), nI i)) (A 0 0) _ ?_ ?_ N (by omega)
    · intro k
      show f_X6_canDrag_6b N M2 (nI g) p1 p2 (f_X6_canDrag_6 N M2 (nI g) p1 p2 k) (if anyB (fun j => decide (hpA 1000 L j = g ∧ f_X6_isPlace N (nI (A 1 j) + p1) (nI (A 2 j) + p2) = some 0)) (A 0 0) = true then 0 else 1) (nI (A 0 0)) = _
      unfold f_X6_canDrag_6b
      rw [cl_0, hS2.1, leT (Nat.le_refl _) (by omega)]
      split
      · exact nn00
      · exact nn01
    · intro k j hj
      show f_X6_canDrag_6b N M2 (nI g) p1 p2 (f_X6_canDrag_6 N M2 (nI g) p1 p2 k) (if anyB (fun j => decide (hpA 1000 L j = g ∧ f_X6_isPlace N (nI (A 1 j) + p1) (nI (A 2 j) + p2) = some 0)) j = true then 0 else 1) (nI j) = f_X6_canDrag_6 N M2 (nI g) p1 p2 k (if (anyB (fun j => decide (hpA 1000 L j = g ∧ f_X6_isPlace N (nI (A 1 j) + p1) (nI (A 2 j) + p2) = some 0)) j || decide (hpA 1000 L j = g ∧ f_X6_isPlace N (nI (A 1 j) + p1) (nI (A 2 j) + p2) = some 0)) = true then 0 else 1) (nI (j + 1))
      have hl := hp_lt h6 hj (by omega)
      unfold f_X6_canDrag_6b f_X6_canDrag_61 f_X6_canDrag_57 f_X6_canDrag_62
      rw [cl_0, hS2.1, leF hj (by omega), nI_s]
      cases z : anyB (fun j => decide (hpA 1000 L j = g ∧ f_X6_isPlace N (nI (A 1 j) + p1) (nI (A 2 j) + p2) = some 0)) j with
      | true =>
        rw [tT, if0]
        rfl
      | false =>
        rw [tF, if1, gdI (by omega) (by decide), clI (by omega), h4 j hj, g_of1 hS2 ok hj, bd_some, g_of2 hS2 ok hj, bd_some]
        by_cases q : hpA 1000 L j = g
        · rw [eqT q]
          rcases place_c N (nI (A 1 j) + p1) (nI (A 2 j) + p2) with ⟨e1, e2⟩ | ⟨c, r, hc, hr, ec, er, e1, e2⟩
          · rw [e2, bd_some, if0, if_pos (show (false || decide _) = true by rw [decide_eq_true ⟨q, rfl⟩]; rfl)]
          · rw [e2, bd_some, if1, if_neg (show ¬ (false || decide _) = true by rw [decide_eq_false (fun w => by cases w.2)]; decide)]
        · rw [eqF q (by omega) (by omega), if_neg (show ¬ (false || decide _) = true by rw [decide_eq_false (fun w => q w.1)]; decide)]
  rw [cs, cr, bd_some, bd_some]
  cases z : anyB (fun j => decide (hpA 1000 L j = g ∧ f_X6_isPlace N (nI (A 1 j) + p1) (nI (A 2 j) + p2) = some 0)) (A 0 0) with
  | true =>
    rw [tT, if0, if0]
    exact ⟨_, _, _, _, _, rfl, rfl, hR2⟩
  | false =>
    rw [tF, if1, if1]
    have hpl : ∀ j, j < A 0 0 → hpA 1000 L j = g → shN (nI (A 1 j) + p1) < 30 ∧ shN (nI (A 2 j) + p2) < 20 ∧ nI (A 1 j) + p1 = nI (shN (nI (A 1 j) + p1)) ∧ nI (A 2 j) + p2 = nI (shN (nI (A 2 j) + p2)) := by
      intro j hj q
      have zj := of_decide_eq_false (anyB_f.mp z j hj)
      rcases place_c N (nI (A 1 j) + p1) (nI (A 2 j) + p2) with ⟨e1, e2⟩ | ⟨c, r, hc, hr, ec, er, e1, e2⟩
      · exact absurd ⟨q, e2⟩ zj
      · have c1 : shN (nI c) = c := by unfold shN; rw [nI_T (by omega)]; omega
        have c2 : shN (nI r) = r := by unfold shN; rw [nI_T (by omega)]; omega
        rw [ec, er, c1, c2]
        exact ⟨hc, hr, rfl, rfl⟩
    have go : ∃ (r' : Int32) (Bz : tS) (Hsz : tH) (Ez : tS) (Mz : tS), f_X5_dragHeap_67 N Tn (nI g) p1 p2 B Hs E' = some (r', Bz, Hsz, Ez) ∧ f_X6_dragHeap_65 N (nI g) p1 p2 M2 = some (r', Mz) ∧ Rel Tn Bz Hsz Sn Tx Tr Ez F Nm Bt Mz := by
      unfold f_X5_dragHeap_67 f_X6_dragHeap_65
      have hH2 : RelH Hs M2 := RelH_c hH (h5 1 (by decide) (by decide) (by decide)) (h5 2 (by decide) (by decide) (by decide))
      obtain ⟨Hs', M', r1, r2, r3, r4⟩ := m_rec hN hH2 ⟨ok, hB, hS2⟩
      have hS' : RS (M' 0) A := by rw [r4 0 (by decide) (by decide)]; exact hS2
      have h7' : ∀ i, i < A 0 0 → M' 7 i = nI (hpA 1000 L i) := fun i hi => by rw [r4 7 (by decide) (by decide)]; exact h4 i hi
      -- the class
      obtain ⟨y, ⟨y1, y2, y3⟩, ey⟩ := lp_to (F := fun k (q : Int32 × tS) => f_X5_moveHeap_3 N Tn E' (nI g) p1 p2 k q.1 q.2) (fun m q => q.1 = nI m ∧ RB q.2 (mhA A (hpA 1000 L) g p1 p2 m) ∧ okA (mhA A (hpA 1000 L) g p1 p2 m)) (A 0 0) (fun q => some q.2) (by
        rintro k ⟨x, T⟩ ⟨g1, g2, g3⟩
        simp only at g1 g2
        subst g1
        show f_X5_moveHeap_3b N Tn E' (nI g) p1 p2 (f_X5_moveHeap_3 N Tn E' (nI g) p1 p2 k) (nI (A 0 0)) T = some T
        unfold f_X5_moveHeap_3b
        rw [g2.1, mhA_c (Or.inl ⟨by decide, by decide⟩), leT (Nat.le_refl _) (by omega)]) (by
        rintro k m ⟨x, T⟩ hm ⟨g1, g2, g3⟩
        simp only at g1 g2
        subst g1
        have hl := hp_lt h6 hm (by omega)
        have hm' : m < mhA A (hpA 1000 L) g p1 p2 m 0 0 := by rw [mhA_c (Or.inl ⟨by decide, by decide⟩)]; exact hm
        obtain ⟨c1, c2, -, -⟩ := g2.2.2.2.1 m hm'
        rw [mhA_c (Or.inr (Nat.le_refl _))] at c1 c2
        by_cases q : hpA 1000 L m = g
        · obtain ⟨a1, a2, a3, a4⟩ := hpl m hm q
          obtain ⟨B', d1, d2, d3⟩ := s_move (N := N) g2 g3 hm' a1 a2
          rw [← mhA_s q] at d2 d3
          refine ⟨(nI (m + 1), B'), ?_, rfl, d2, d3⟩
          show f_X5_moveHeap_3b N Tn E' (nI g) p1 p2 (f_X5_moveHeap_3 N Tn E' (nI g) p1 p2 k) (nI m) T = f_X5_moveHeap_3 N Tn E' (nI g) p1 p2 k (nI (m + 1)) B'
          unfold f_X5_moveHeap_3b f_X5_moveHeap_62
          rw [g2.1, mhA_c (Or.inl ⟨by decide, by decide⟩), leF hm (by omega), gdI (by omega) (by decide), clI (by omega), h3.2.2 m hm, eqT q, gdJ (by omega) (by decide), gdJ (by omega) (by decide), c1, c2, a3, a4, d1, bd_some, nI_s]
        · refine ⟨(nI (m + 1), T), ?_, rfl, by rw [mhA_n q]; exact g2, by rw [mhA_n q]; exact g3⟩
          show f_X5_moveHeap_3b N Tn E' (nI g) p1 p2 (f_X5_moveHeap_3 N Tn E' (nI g) p1 p2 k) (nI m) T = f_X5_moveHeap_3 N Tn E' (nI g) p1 p2 k (nI (m + 1)) T
          unfold f_X5_moveHeap_3b f_X5_moveHeap_62
          rw [g2.1, mhA_c (Or.inl ⟨by decide, by decide⟩), leF hm (by omega), gdI (by omega) (by decide), clI (by omega), h3.2.2 m hm, eqF q (by omega) (by omega), nI_s]) N (by omega) (nI 0, B) ⟨rfl, by rw [mhA_0]; exact hB, by rw [mhA_0]; exact ok⟩
      -- the reference
      obtain ⟨z, ⟨s', z0, z1, z2⟩, ez⟩ := lp_to (F := fun k (q : Int32 × tS) => f_X6_dragHeap_72 N (nI g) p1 p2 k q.1 q.2) (fun m q => ∃ s', q.2 = va_up M' 0 s' ∧ q.1 = nI m ∧ RS s' (mhA A (hpA 1000 L) g p1 p2 m)) (A 0 0) (fun q => bd2 (f_X6_laysNow N q.2) (fun r1 M1 => some (r1, M1))) (by
        rintro k ⟨x, T⟩ ⟨s', g0, g1, g2⟩
        simp only at g0 g1
        subst g0 g1
        show f_X6_dragHeap_72b N (nI g) p1 p2 (f_X6_dragHeap_72 N (nI g) p1 p2 k) (nI (A 0 0)) (va_up M' 0 s') = _
        unfold f_X6_dragHeap_72b
        rw [cl_0, va_up_self, g2.1, mhA_c (Or.inl ⟨by decide, by decide⟩), leT (Nat.le_refl _) (by omega)]) (by
        rintro k m ⟨x, T⟩ hm ⟨s', g0, g1, g2⟩
        simp only at g0 g1
        subst g0 g1
        have hl := hp_lt h6 hm (by omega)
        have okm : okA (mhA A (hpA 1000 L) g p1 p2 m) := by
          have : ∀ m, m ≤ A 0 0 → okA (mhA A (hpA 1000 L) g p1 p2 m) := by
            intro m
            induction m with
            | zero => intro _; rw [mhA_0]; exact ok
            | succ m ih =>
              intro hm
              by_cases q : hpA 1000 L m = g
              · rw [mhA_s q]
                obtain ⟨a1, a2, -, -⟩ := hpl m hm q
                have k1 := ok_up (f := 1) (i := m) (v := shN (nI (A 1 m) + p1)) (ih (by omega)) (by decide) (by decide) (by decide) ⟨fun _ => a1, fun h => absurd h (by decide), fun h => absurd h (by decide), fun h => absurd h (by decide), fun h => absurd h (by decide)⟩
                exact ok_up (f := 2) (i := m) (v := shN (nI (A 2 m) + p2)) k1 (by decide) (by decide) (by decide) ⟨fun h => absurd h (by decide), fun _ => a2, fun h => absurd h (by decide), fun h => absurd h (by decide), fun h => absurd h (by decide)⟩
              · rw [mhA_n q]
                exact ih (by omega)
          exact this m (by omega)
        have hm' : m < mhA A (hpA 1000 L) g p1 p2 m 0 0 := by rw [mhA_c (Or.inl ⟨by decide, by decide⟩)]; exact hm
        have g2' : RS ((va_up M' 0 s') 0) (mhA A (hpA 1000 L) g p1 p2 m) := by rw [va_up_self]; exact g2
        have i1 := g_of1 (N := N) g2' okm hm'
        have i2 := g_of2 (N := N) g2' okm hm'
        rw [mhA_c (Or.inr (Nat.le_refl _))] at i1 i2
        have i7 : (va_up M' 0 s') 7 m = nI (hpA 1000 L m) := by rw [va_up_ne _ _ (by decide)]; exact h7' m hm
        by_cases q : hpA 1000 L m = g
        · obtain ⟨a1, a2, a3, a4⟩ := hpl m hm q
          obtain ⟨s2, d1, d2⟩ := g_comes (N := N) (r := shN (nI (A 2 m) + p2)) g2' okm hm' a1
          rw [← mhA_s q] at d2
          rw [va_up_up] at d1
          refine ⟨(nI (m + 1), va_up M' 0 s2), ?_, s2, rfl, rfl, d2⟩
          show f_X6_dragHeap_72b N (nI g) p1 p2 (f_X6_dragHeap_72 N (nI g) p1 p2 k) (nI m) (va_up M' 0 s') = f_X6_dragHeap_72 N (nI g) p1 p2 k (nI (m + 1)) (va_up M' 0 s2)
          unfold f_X6_dragHeap_72b f_X6_dragHeap_118
          rw [cl_0, g2'.1, mhA_c (Or.inl ⟨by decide, by decide⟩), leF hm (by omega), gdI (by omega) (by decide), clI (by omega), i7, eqT q, i1, bd_some, i2, bd_some, a3, a4, d1, bd_some, nI_s]
        · refine ⟨(nI (m + 1), va_up M' 0 s'), ?_, s', rfl, rfl, by rw [mhA_n q]; exact g2⟩
          show f_X6_dragHeap_72b N (nI g) p1 p2 (f_X6_dragHeap_72 N (nI g) p1 p2 k) (nI m) (va_up M' 0 s') = f_X6_dragHeap_72 N (nI g) p1 p2 k (nI (m + 1)) (va_up M' 0 s')
          unfold f_X6_dragHeap_72b f_X6_dragHeap_118
          rw [cl_0, g2'.1, mhA_c (Or.inl ⟨by decide, by decide⟩), leF hm (by omega), gdI (by omega) (by decide), clI (by omega), i7, eqF q (by omega) (by omega), nI_s]) N (by omega) (nI 0, M') ⟨M' 0, by rw [va_up_id], rfl, by rw [mhA_0]; exact hS'⟩
      obtain ⟨E3, M3, L3, k1, k2, k3, k4, k5, k6⟩ := m_heaps hN (M := z.2) y2 (by rw [z0, va_up_self]; exact z2) y3 Tn E'
      have ey' : f_X5_moveHeap N Tn B E' (nI g) p1 p2 = some y.2 := ey
      have ez' : f_X6_dragHeap_72 N (nI g) p1 p2 N 0 M' = bd2 (f_X6_laysNow N z.2) (fun r1 M1 => some (r1, M1)) := ez
      rw [r1, r2, bd_some, bd_some, ey', bd_some, k1, bd2_some, ez', k2, bd2_some]
      refine ⟨_, _, _, _, _, rfl, rfl, Rel_mk (M := M2) ⟨y3, y2, ?_⟩ r3 r4 (fun k k1 k2 => ?_) (RelK_c hK rfl (h5 3 (by decide) (by decide) (by decide)) (h5 4 (by decide) (by decide) (by decide))) (RelT_c hT (h5 5 (by decide) (by decide) (by decide)) (h5 6 (by decide) (by decide) (by decide)))⟩
      · rw [k5 0 (by decide) (by decide) (by decide), z0, va_up_self]
        exact z2
      · rw [k5 k (by omega) (by omega) (by omega), z0, va_up_ne _ _ (by omega)]
    by_cases q1 : p1 = 0
    · rw [if_pos q1, if_pos q1]
      by_cases q2 : p2 = 0
      · rw [if_pos q2, if_pos q2]
        exact ⟨_, _, _, _, _, rfl, rfl, hR2⟩
      · rw [if_neg q2, if_neg q2]
        exact go
    · rw [if_neg q1, if_neg q1]
      exact go
