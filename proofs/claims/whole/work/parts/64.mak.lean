/-! heap, make, note -/
theorem m_heap {N : Nat} (hN : 1000 ≤ N) {Tn B Sn Tx Tr E F Nm Bt M : tS} {Hs : tH} (hR : Rel Tn B Hs Sn Tx Tr E F Nm Bt M) (p0 p1 : Int32) : ∃ (r : Int32) (Ez : tS) (Mz : tS), f_X5_heap N Tn B E p0 p1 = some (r, Ez) ∧ f_X6_heap N M p0 p1 = some (r, Mz) ∧ Rel Tn B Hs Sn Tx Tr Ez F Nm Bt Mz := by
  have hR0 := hR
  obtain ⟨⟨A, ok, hB, hS⟩, -, -, -⟩ := hR
  have o1 := ok.1
  unfold f_X5_heap f_X6_heap
  obtain ⟨E', M2, L, h1, h2, h3, h4, h5, h6⟩ := m_heaps hN hB hS ok Tn E
  have hR2 : Rel Tn B Hs Sn Tx Tr E' F Nm Bt M2 := Rel_rk hR0 (fun k hk => h5 k (by omega) (by omega) (by omega))
  have hS2 : RS (M2 0) A := by rw [h5 0 (by decide) (by decide) (by decide)]; exact hS
  have nml := nm_le (A 0 0) 1000 L
  have hh : ∀ i, i < A 0 0 → hpA 1000 L i < 1000 := fun i hi => by
    have := hp_lt h6 hi (by omega)
    omega
  rw [h1, h2, bd2_some, bd2_some]
  rcases heap_c (N := N) h3 (by omega) p0 with ⟨e1, e2⟩ | ⟨g, hg, rfl, e1, e2⟩
  · rw [e1, e2, bd_some, bd_some, if0, if0]
    exact ⟨_, _, _, rfl, rfl, hR2⟩
  rw [e1, e2, bd_some, bd_some, if1, if1]
  by_cases q0 : p1 = 0
  · rw [if_pos q0, if_pos q0, s_notesIn hN h3 o1 hh (by omega), g_notesIn hN hS2.1 h4 o1 hh (by omega), bd_some, bd_some]
    exact ⟨_, _, _, rfl, rfl, hR2⟩
  rw [if_neg q0, if_neg q0]
  by_cases q1 : p1 = 1
  · rw [if_pos q1, if_pos q1, s_lowest hN h3 o1 hh (by omega), g_lowest hN hS2.1 h4 o1 hh (by omega), bd_some, bd_some]
    exact ⟨_, _, _, rfl, rfl, hR2⟩
  rw [if_neg q1, if_neg q1]
  by_cases q2 : p1 = 2
  · rw [if_pos q2, if_pos q2, s_dotsIn hN hB ok h3 hh (by omega), g_dotsIn hN hS2 ok h4 hh (by omega), bd_some, bd_some]
    exact ⟨_, _, _, rfl, rfl, hR2⟩
  rw [if_neg q2, if_neg q2]
  by_cases q3 : p1 = 3
  · rw [if_pos q3, if_pos q3, s_themesIn hN hB ok h3 hh (by omega), g_themesIn hN hS2 ok h4 hh (by omega), bd_some, bd_some]
    exact ⟨_, _, _, rfl, rfl, hR2⟩
  rw [if_neg q3, if_neg q3]
  by_cases q4 : p1 = 4
  · rw [if_pos q4, if_pos q4, s_free hN hB ok h3 hh (by omega), g_free hN hS2 ok h4 hh (by omega), bd_some, bd_some]
    exact ⟨_, _, _, rfl, rfl, hR2⟩
  rw [if_neg q4, if_neg q4]
  by_cases q5 : p1 = 5
  · rw [if_pos q5, if_pos q5, s_middle hN hB ok h3 hh (by omega), g_middle hN hS2 ok h4 hh (by omega), bd_some, bd_some]
    exact ⟨_, _, _, rfl, rfl, hR2⟩
  rw [if_neg q5, if_neg q5]
  by_cases q6 : p1 = 6
  · obtain ⟨w, w1, w2⟩ := s_width hN hB ok h3 hh (g := g) (by omega)
    obtain ⟨w', w3, w4⟩ := g_width hN hS2 ok h4 hh (g := g) (by omega)
    rw [if_pos q6, if_pos q6, w2, w4, wd_uniq w1 w3, bd_some, bd_some]
    exact ⟨_, _, _, rfl, rfl, hR2⟩
  rw [if_neg q6, if_neg q6]
  exact ⟨_, _, _, rfl, rfl, hR2⟩
def mkA' (A : tA) (h : Nat → Nat) (g : Nat) : tA := fun f j => if f = 5 then A 5 0 + 1 else if f = 3 then (if h j = g ∧ A 3 j = 0 then A 5 0 + 1 else A 3 j) else if f = 6 ∧ A 5 0 * 6 ≤ j ∧ j < A 5 0 * 6 + 6 then 0 else A f j
theorem mkA'_3 (A : tA) (h : Nat → Nat) (g j : Nat) : mkA' A h g 3 j = if h j = g ∧ A 3 j = 0 then A 5 0 + 1 else A 3 j := rfl
theorem mkA'_6 (A : tA) (h : Nat → Nat) (g j : Nat) : mkA' A h g 6 j = if A 5 0 * 6 ≤ j ∧ j < A 5 0 * 6 + 6 then 0 else A 6 j := by simp [mkA']
theorem mkA'_o (A : tA) (h : Nat → Nat) (g : Nat) {f j : Nat} (h3 : f ≠ 3) (h5 : f ≠ 5) (h6 : f ≠ 6) : mkA' A h g f j = A f j := by simp [mkA', h3, h5, h6]
theorem ok_mk {A : tA} (ok : okA A) (h : Nat → Nat) (g : Nat) (h8 : A 5 0 < 8) : okA (mkA' A h g) := by
  obtain ⟨o1, o2, o3, o4, o5, o6, o8⟩ := ok
  refine ⟨o1, ?_, o3, o4, o5, fun i hi => ?_, fun t ht p hp => ?_⟩
  · show A 5 0 + 1 ≤ 8
    omega
  · obtain ⟨x, y, z, w⟩ := o6 i hi
    refine ⟨x, y, ?_, w⟩
    show _ ≤ A 5 0 + 1
    rw [mkA'_3]
    split <;> omega
  · have ht' : t < A 5 0 + 1 := ht
    rw [mkA'_6]
    split
    · omega
    · exact o8 t (by omega) p hp
def mkB (S B : tS) (g th : Nat) : Nat → Int32 := fun j => if S 2 j = nI g ∧ B 3 j = -5 then nI th else B 3 j
def mkS (h : Nat → Nat) (g th : Nat) (s : Nat → Int32) (m : Nat) : Nat → Int32 := fun k => if (7 ≤ k ∧ k < 7 + 9 * m ∧ (k - 7) % 9 = 0) ∧ h ((k - 7) / 9) = g ∧ s k - 1 < 0 then nI (th + 1) else s k
theorem mkS_0 (h : Nat → Nat) (g th : Nat) (s : Nat → Int32) : mkS h g th s 0 = s := by
  funext k
  unfold mkS
  rw [if_neg (fun w => by have := w.1; omega)]
theorem m_make {N : Nat} (hN : 1000 ≤ N) {Tn B Sn Tx Tr E F Nm Bt M : tS} {Hs : tH} (hR : Rel Tn B Hs Sn Tx Tr E F Nm Bt M) (p0 : Int32) : ∃ (r : Int32) (Bz : tS) (Hsz : tH) (Ez : tS) (Mz : tS), f_X5_make N Tn B Hs E p0 = some (r, Bz, Hsz, Ez) ∧ f_X6_make N M p0 = some (r, Mz) ∧ Rel Tn Bz Hsz Sn Tx Tr Ez F Nm Bt Mz := by
  have hR0 := hR
  obtain ⟨⟨A, ok, hB, hS⟩, hH, hK, hT⟩ := hR
  have o1 := ok.1
  have o2 := ok.2.1
  unfold f_X5_make f_X6_make
  obtain ⟨E', M2, L, h1, h2, h3, h4, h5, h6⟩ := m_heaps hN hB hS ok Tn E
  have hR2 : Rel Tn B Hs Sn Tx Tr E' F Nm Bt M2 := Rel_rk hR0 (fun k hk => h5 k (by omega) (by omega) (by omega))
  have hS2 : RS (M2 0) A := by rw [h5 0 (by decide) (by decide) (by decide)]; exact hS
  have nml := nm_le (A 0 0) 1000 L
  have hh : ∀ i, i < A 0 0 → hpA 1000 L i < 1000 := fun i hi => by
    have := hp_lt h6 hi (by omega)
    omega
  rw [h1, h2, bd2_some, bd2_some]
  rcases heap_c (N := N) h3 (by omega) p0 with ⟨e1, e2⟩ | ⟨g, hg, rfl, e1, e2⟩
  · rw [e1, e2, bd_some, bd_some, if0, if0]
    exact ⟨_, _, _, _, _, rfl, rfl, hR2⟩
  have hfl : hfA A (hpA 1000 L) g (A 0 0) ≤ A 0 0 := ct_le _ _
  rw [e1, e2, bd_some, bd_some, if1, if1, s_free hN hB ok h3 hh (by omega), g_free hN hS2 ok h4 hh (by omega), bd_some, bd_some]
  by_cases qf : hfA A (hpA 1000 L) g (A 0 0) = 0
  · rw [qf, if_pos (show nI 0 = 0 from rfl), if_pos (show nI 0 = 0 from rfl)]
    exact ⟨_, _, _, _, _, rfl, rfl, hR2⟩
  have nf : ¬ nI (hfA A (hpA 1000 L) g (A 0 0)) = 0 := fun w => qf (nI_inj (by omega) (by omega) (show _ = nI 0 from w))
  rw [if_neg nf, if_neg nf, hB.2.1, cl_1, hS2.2.1, li_8]
  by_cases q8 : A 5 0 < 8
  · rw [ltT q8 (by omega), eqF (by omega) (by omega) (by omega)]
    have hH2 : RelH Hs M2 := RelH_c hH (h5 1 (by decide) (by decide) (by decide)) (h5 2 (by decide) (by decide) (by decide))
    obtain ⟨Hs', M', r1, r2, r3, r4⟩ := m_rec hN hH2 ⟨ok, hB, hS2⟩
    have hS' : RS (M' 0) A := by rw [r4 0 (by decide) (by decide)]; exact hS2
    have h7' : ∀ i, i < A 0 0 → M' 7 i = nI (hpA 1000 L i) := fun i hi => by rw [r4 7 (by decide) (by decide)]; exact h4 i hi
    have okm := ok_mk ok (hpA 1000 L) g q8
    -- the class
    have ea : f_X0_addTheme N B = some (nI (A 5 0), va_up (va_up B 5 (fun _ => nI (A 5 0 + 1))) 6 (va_cpy (fun _ => -5) (B 6) 0 (A 5 0 * 6) 6)) := by
      have hr := lp_run (F := fun k (q : Int32 × tS) => f_X0_addTheme_17 N k (nI (A 5 0)) q.1 q.2) (s := fun p => (nI p, va_up (va_up B 5 (fun _ => nI (A 5 0 + 1))) 6 (va_cpy (fun _ => -5) (B 6) 0 (A 5 0 * 6) p))) 6 (some (nI (A 5 0), va_up (va_up B 5 (fun _ => nI (A 5 0 + 1))) 6 (va_cpy (fun _ => -5) (B 6) 0 (A 5 0 * 6) 6))) (by
        intro k
        show f_X0_addTheme_17b N (f_X0_addTheme_17 N k) (nI (A 5 0)) (nI 6) (va_up (va_up B 5 (fun _ => nI (A 5 0 + 1))) 6 (va_cpy (fun _ => -5) (B 6) 0 (A 5 0 * 6) 6)) = _
        unfold f_X0_addTheme_17b
        rw [li_6, leT (by omega) (by omega)]) (by
        intro k p hp
        show f_X0_addTheme_17b N (f_X0_addTheme_17 N k) (nI (A 5 0)) (nI p) (va_up (va_up B 5 (fun _ => nI (A 5 0 + 1))) 6 (va_cpy (fun _ => -5) (B 6) 0 (A 5 0 * 6) p)) = f_X0_addTheme_17 N k (nI (A 5 0)) (nI (p + 1)) (va_up (va_up B 5 (fun _ => nI (A 5 0 + 1))) 6 (va_cpy (fun _ => -5) (B 6) 0 (A 5 0 * 6) (p + 1)))
        unfold f_X0_addTheme_17b f_X0_setVote
        rw [li_6, leF hp (by omega), pk_mul, nI_add, gdI (by omega) (by decide), clI (by omega), bd_some, va_up_up, va_up_self, ← va_cpyS, nI_s]) N (by omega)
      have e0 : va_up (va_up B 5 (fun _ => nI (A 5 0 + 1))) 6 (va_cpy (fun _ => -5) (B 6) 0 (A 5 0 * 6) 0) = va_up B 5 (fun _ => nI (A 5 0 + 1)) := va_up_eq (by rw [va_cpy0, va_up_ne _ _ (by decide)])
      simp only [e0] at hr
      unfold f_X0_addTheme
      rw [hB.2.1, nI_s]
      exact hr
    have ec := lp_run (F := fun k (q : Int32 × tS) => f_X5_make_72 N Tn (nI g) k (nI (A 5 0)) q.1 q.2 Hs' E') (s := fun i => (nI i, va_up (va_up (va_up B 5 (fun _ => nI (A 5 0 + 1))) 6 (va_cpy (fun _ => -5) (B 6) 0 (A 5 0 * 6) 6)) 3 (prg (B 3) (mkB E' B g (A 5 0)) i))) (A 0 0) (some (nI (A 5 0), va_up (va_up (va_up B 5 (fun _ => nI (A 5 0 + 1))) 6 (va_cpy (fun _ => -5) (B 6) 0 (A 5 0 * 6) 6)) 3 (prg (B 3) (mkB E' B g (A 5 0)) (A 0 0)), Hs', E')) (by
      intro k
      show f_X5_make_72b N Tn (nI g) (f_X5_make_72 N Tn (nI g) k) (nI (A 5 0)) (nI (A 0 0)) (va_up (va_up (va_up B 5 (fun _ => nI (A 5 0 + 1))) 6 (va_cpy (fun _ => -5) (B 6) 0 (A 5 0 * 6) 6)) 3 (prg (B 3) (mkB E' B g (A 5 0)) (A 0 0))) Hs' E' = _
      unfold f_X5_make_72b
      rw [va_up_ne _ _ (by decide : (0 : Nat) ≠ 3), va_up_ne _ _ (by decide : (0 : Nat) ≠ 6), va_up_ne _ _ (by decide : (0 : Nat) ≠ 5), hB.1, leT (by omega) (by omega)]) (by
      intro k i hi
      show f_X5_make_72b N Tn (nI g) (f_X5_make_72 N Tn (nI g) k) (nI (A 5 0)) (nI i) (va_up (va_up (va_up B 5 (fun _ => nI (A 5 0 + 1))) 6 (va_cpy (fun _ => -5) (B 6) 0 (A 5 0 * 6) 6)) 3 (prg (B 3) (mkB E' B g (A 5 0)) i)) Hs' E' = f_X5_make_72 N Tn (nI g) k (nI (A 5 0)) (nI (i + 1)) (va_up (va_up (va_up B 5 (fun _ => nI (A 5 0 + 1))) 6 (va_cpy (fun _ => -5) (B 6) 0 (A 5 0 * 6) 6)) 3 (prg (B 3) (mkB E' B g (A 5 0)) (i + 1))) Hs' E'
      unfold f_X5_make_72b f_X5_make_120
      rw [va_up_ne _ _ (by decide : (0 : Nat) ≠ 3), va_up_ne _ _ (by decide : (0 : Nat) ≠ 6), va_up_ne _ _ (by decide : (0 : Nat) ≠ 5), hB.1, leF hi (by omega), gdI (by omega) (by decide), clI (by omega), gdJ (by omega) (by decide), gdJ (by omega) (by decide), va_up_self, va_up_up, prg_at, nI_s]
      by_cases q : E' 2 i = nI g
      · by_cases q2 : B 3 i = -5
        · rw [if_pos q, if_pos q2, ← show mkB E' B g (A 5 0) i = nI (A 5 0) from if_pos ⟨q, q2⟩, prg_S]
        · rw [if_pos q, if_neg q2, ← prg_N (show mkB E' B g (A 5 0) i = B 3 i from if_neg (fun w => q2 w.2))]
      · rw [if_neg q, ← prg_N (show mkB E' B g (A 5 0) i = B 3 i from if_neg (fun w => q w.1))]) N (by omega)
    have e0 : va_up (va_up (va_up B 5 (fun _ => nI (A 5 0 + 1))) 6 (va_cpy (fun _ => -5) (B 6) 0 (A 5 0 * 6) 6)) 3 (prg (B 3) (mkB E' B g (A 5 0)) 0) = va_up (va_up B 5 (fun _ => nI (A 5 0 + 1))) 6 (va_cpy (fun _ => -5) (B 6) 0 (A 5 0 * 6) 6) := va_up_eq (by rw [prg_0, va_up_ne _ _ (by decide : (3 : Nat) ≠ 6), va_up_ne _ _ (by decide : (3 : Nat) ≠ 5)])
    simp only [e0] at ec
    have hB' : RB (va_up (va_up (va_up B 5 (fun _ => nI (A 5 0 + 1))) 6 (va_cpy (fun _ => -5) (B 6) 0 (A 5 0 * 6) 6)) 3 (prg (B 3) (mkB E' B g (A 5 0)) (A 0 0))) (mkA' A (hpA 1000 L) g) := by
      obtain ⟨b1, b2, b3, b4, b6⟩ := hB
      refine ⟨by simp [va_up, mkA']; exact b1, by simp [va_up, mkA'], fun j hj => by simp [va_up, mkA']; exact b3 j hj, fun i hi => ?_, fun t ht p hp => ?_⟩
      · have hi' : i < A 0 0 := hi
        obtain ⟨x, y, c, d⟩ := b4 i hi'
        have t3 := (ok.2.2.2.2.2.1 i hi').2.2.1
        have l := hh i hi'
        refine ⟨by simp [va_up, mkA']; exact x, by simp [va_up, mkA']; exact y, ?_, fun p hp => by simp [va_up, mkA']; exact d p hp⟩
        rw [va_up_self, mkA'_3]
        show (if i < A 0 0 then mkB E' B g (A 5 0) i else B 3 i) = _
        rw [if_pos hi']
        unfold mkB
        rw [c, h3.2.2 i hi']
        by_cases q : hpA 1000 L i = g ∧ A 3 i = 0
        · rw [if_pos q, if_pos ⟨by rw [q.1], (enc_n5 (by omega)).mpr q.2⟩, enc_s]
        · rw [if_neg q, if_neg (fun w => q ⟨nI_inj (by omega) (by omega) w.1, (enc_n5 (by omega)).mp w.2⟩)]
      · have ht' : t < A 5 0 + 1 := ht
        rw [va_up_ne _ _ (by decide : (6 : Nat) ≠ 3), va_up_self, mkA'_6]
        by_cases q : t = A 5 0
        · rw [va_cpy_in (by omega) (by omega), if_pos (by omega)]
          rfl
        · rw [va_cpy_out (by omega), if_neg (by omega), b6 t (by omega) p hp]
    -- the reference
    have er : ∃ s', f_X6_make_47 N (nI g) N 0 M' = some (nI (A 5 0), va_up M' 0 s') ∧ RS s' (mkA' A (hpA 1000 L) g) := by
      refine ⟨upd (va_cpy (fun _ => 0) (mkS (hpA 1000 L) g (A 5 0) (M' 0) (A 0 0)) 0 (185 + 6 * A 5 0) 6) 1 (nI (A 5 0 + 1)), ?_, ?_⟩
      · have hr := lp_run (F := fun k (q : Int32 × tS) => f_X6_make_97 N (nI g) k q.1 q.2) (s := fun p => (nI p, va_up M' 0 (va_cpy (fun _ => 0) (mkS (hpA 1000 L) g (A 5 0) (M' 0) (A 0 0)) 0 (185 + 6 * A 5 0) p))) 6 (some (nI (A 5 0), va_up M' 0 (upd (va_cpy (fun _ => 0) (mkS (hpA 1000 L) g (A 5 0) (M' 0) (A 0 0)) 0 (185 + 6 * A 5 0) 6) 1 (nI (A 5 0 + 1))))) (by
          intro k
          show f_X6_make_97b N (nI g) (f_X6_make_97 N (nI g) k) (nI 6) (va_up M' 0 (va_cpy (fun _ => 0) (mkS (hpA 1000 L) g (A 5 0) (M' 0) (A 0 0)) 0 (185 + 6 * A 5 0) 6)) = _
          have e1 : mkS (hpA 1000 L) g (A 5 0) (M' 0) (A 0 0) 1 = nI (A 5 0) := (if_neg (fun w => by have := w.1; omega)).trans hS'.2.1
          unfold f_X6_make_97b
          rw [li_6, leT (by omega) (by omega), gd1, cl_1, va_up_self, va_up_up, va_cpy_out (by omega), e1, nI_s, upd_s, show nI (A 5 0 + 1) - 1 = nI (A 5 0) by rw [li_1, pk_sub (by omega)]; rfl]) (by
          intro k p hp
          show f_X6_make_97b N (nI g) (f_X6_make_97 N (nI g) k) (nI p) (va_up M' 0 (va_cpy (fun _ => 0) (mkS (hpA 1000 L) g (A 5 0) (M' 0) (A 0 0)) 0 (185 + 6 * A 5 0) p)) = f_X6_make_97 N (nI g) k (nI (p + 1)) (va_up M' 0 (va_cpy (fun _ => 0) (mkS (hpA 1000 L) g (A 5 0) (M' 0) (A 0 0)) 0 (185 + 6 * A 5 0) (p + 1)))
          have e1 : mkS (hpA 1000 L) g (A 5 0) (M' 0) (A 0 0) 1 = nI (A 5 0) := (if_neg (fun w => by have := w.1; omega)).trans hS'.2.1
          unfold f_X6_make_97b
          rw [li_6, leF hp (by omega), cl_1, va_up_self, va_up_up, va_cpy_out (by omega), e1, li_185, pk_mul, nI_add, nI_add, gdI (by omega) (by decide), clI (by omega), zcS, nI_s]) N (by omega)
        simp only [va_cpy0] at hr
        have hw := lp_run (F := fun k (q : Int32 × tS) => f_X6_make_47 N (nI g) k q.1 q.2) (s := fun i => (nI i, va_up M' 0 (mkS (hpA 1000 L) g (A 5 0) (M' 0) i))) (A 0 0) (f_X6_make_97 N (nI g) N (nI 0) (va_up M' 0 (mkS (hpA 1000 L) g (A 5 0) (M' 0) (A 0 0)))) (by
          intro k
          show f_X6_make_47b N (nI g) (f_X6_make_47 N (nI g) k) (nI (A 0 0)) (va_up M' 0 (mkS (hpA 1000 L) g (A 5 0) (M' 0) (A 0 0))) = _
          unfold f_X6_make_47b
          rw [va_up_self, cl_0, show mkS (hpA 1000 L) g (A 5 0) (M' 0) (A 0 0) 0 = nI (A 0 0) from (if_neg (fun w => by have := w.1; omega)).trans hS'.1, leT (by omega) (by omega)]
          rfl) (by
          intro k i hi
          show f_X6_make_47b N (nI g) (f_X6_make_47 N (nI g) k) (nI i) (va_up M' 0 (mkS (hpA 1000 L) g (A 5 0) (M' 0) i)) = f_X6_make_47 N (nI g) k (nI (i + 1)) (va_up M' 0 (mkS (hpA 1000 L) g (A 5 0) (M' 0) (i + 1)))
          have l := hh i hi
          have t3 := (ok.2.2.2.2.2.1 i hi).2.2.1
          have eo : f_X6_of N (va_up M' 0 (mkS (hpA 1000 L) g (A 5 0) (M' 0) i)) (nI i) 2 = some (M' 0 (5 + 9 * i + 2)) := by
            rw [li_2, g_of (by omega), va_up_self]
            congr 1
            exact if_neg (fun w => by have := w.1; omega)
          have es3 := (hS'.2.2.2.1 i hi).2.2.1
          unfold f_X6_make_47b f_X6_make_89 f_X6_themeOf
          rw [eo, bd_some, bd_some, va_up_self, cl_0, cl_1, show mkS (hpA 1000 L) g (A 5 0) (M' 0) i 0 = nI (A 0 0) from (if_neg (fun w => by have := w.1; omega)).trans hS'.1, show mkS (hpA 1000 L) g (A 5 0) (M' 0) i 1 = nI (A 5 0) from (if_neg (fun w => by have := w.1; omega)).trans hS'.2.1, leF hi (by omega), gdI (by omega) (by decide), clI (by omega), va_up_ne _ _ (by decide : (7 : Nat) ≠ 0), h7' i hi, nI_s, nI_s, g_lays2 (by omega), bd_some, va_up_up, va_up_self]
          have keep : ¬ (hpA 1000 L i = g ∧ M' 0 (5 + 9 * i + 2) - 1 < 0) → mkS (hpA 1000 L) g (A 5 0) (M' 0) i = mkS (hpA 1000 L) g (A 5 0) (M' 0) (i + 1) := by
            intro hq
            funext k
            unfold mkS
            by_cases q : k = 5 + 9 * i + 2
            · rw [if_neg (fun w => by have := w.1; omega), if_neg (fun w => hq (by
                have w2 := w.2
                rw [q, show (5 + 9 * i + 2 - 7) / 9 = i by omega] at w2
                exact w2))]
            · by_cases q2 : (7 ≤ k ∧ k < 7 + 9 * i ∧ (k - 7) % 9 = 0) ∧ hpA 1000 L ((k - 7) / 9) = g ∧ M' 0 k - 1 < 0
              · rw [if_pos q2, if_pos ⟨by have := q2.1; omega, q2.2⟩]
              · rw [if_neg q2, if_neg (fun w => q2 ⟨by have := w.1; omega, w.2⟩)]
          have put : hpA 1000 L i = g ∧ M' 0 (5 + 9 * i + 2) - 1 < 0 → upd (mkS (hpA 1000 L) g (A 5 0) (M' 0) i) (5 + 9 * i + 2) (nI (A 5 0 + 1)) = mkS (hpA 1000 L) g (A 5 0) (M' 0) (i + 1) := by
            intro hq
            funext k
            simp only [mkS, upd]
            by_cases q : k = 5 + 9 * i + 2
            · rw [if_pos q, if_pos ⟨by omega, by rw [q, show (5 + 9 * i + 2 - 7) / 9 = i by omega]; exact hq⟩]
            · rw [if_neg q]
              by_cases q2 : (7 ≤ k ∧ k < 7 + 9 * i ∧ (k - 7) % 9 = 0) ∧ hpA 1000 L ((k - 7) / 9) = g ∧ M' 0 k - 1 < 0
              · rw [if_pos q2, if_pos ⟨by have := q2.1; omega, q2.2⟩]
              · rw [if_neg q2, if_neg (fun w => q2 ⟨by have := w.1; omega, w.2⟩)]
          by_cases q : hpA 1000 L i = g
          · rw [eqT q]
            by_cases q2 : M' 0 (5 + 9 * i + 2) - 1 < 0
            · rw [if_neg (by rw [I_lt, I_0] at q2; rw [I_le, I_0]; omega), put ⟨q, q2⟩]
            · rw [if_pos (by rw [I_lt, I_0] at q2; rw [I_le, I_0]; omega), keep (fun w => q2 w.2)]
          · rw [eqF q (by omega) (by omega), keep (fun w => q w.1)]) N (by omega)
        simp only [mkS_0, va_up_id] at hw
        exact hw.trans hr
      · obtain ⟨g1, g2, g3, g4, g6⟩ := hS'
        have lo : ∀ k, k < 185 → k ≠ 1 → upd (va_cpy (fun _ => 0) (mkS (hpA 1000 L) g (A 5 0) (M' 0) (A 0 0)) 0 (185 + 6 * A 5 0) 6) 1 (nI (A 5 0 + 1)) k = mkS (hpA 1000 L) g (A 5 0) (M' 0) (A 0 0) k := by
          intro k hk h
          rw [upd_o _ h, va_cpy_out (by omega)]
        refine ⟨?_, by rw [upd_s]; rfl, fun j hj => ?_, fun i hi => ?_, fun u hu p hp => ?_⟩
        · rw [lo 0 (by omega) (by omega), mkA'_o A _ g (by decide) (by decide) (by decide)]
          exact (if_neg (fun w => by have := w.1; omega)).trans g1
        · rw [lo _ (by omega) (by omega), mkA'_o A _ g (by decide) (by decide) (by decide)]
          exact (if_neg (fun w => by have := w.1; omega)).trans (g3 j hj)
        · have hi' : i < A 0 0 := hi
          obtain ⟨x, y, c, d⟩ := g4 i hi'
          have t3 := (ok.2.2.2.2.2.1 i hi').2.2.1
          refine ⟨?_, ?_, ?_, fun p hp => ?_⟩
          · rw [lo _ (by omega) (by omega), mkA'_o A _ g (by decide) (by decide) (by decide)]
            exact (if_neg (fun w => by have := w.1; omega)).trans x
          · rw [lo _ (by omega) (by omega), mkA'_o A _ g (by decide) (by decide) (by decide)]
            exact (if_neg (fun w => by have := w.1; omega)).trans y
          · rw [lo _ (by omega) (by omega), mkA'_3]
            unfold mkS
            rw [show (5 + 9 * i + 2 - 7) / 9 = i by omega, c]
            by_cases q : hpA 1000 L i = g ∧ A 3 i = 0
            · rw [if_pos q, if_pos ⟨by omega, q.1, (m1_lt0 (by omega)).mpr q.2⟩]
            · rw [if_neg q, if_neg (fun w => q ⟨w.2.1, (m1_lt0 (by omega)).mp w.2.2⟩)]
          · rw [lo _ (by omega) (by omega), mkA'_o A _ g (by decide) (by decide) (by decide)]
            exact (if_neg (fun w => by have := w.1; omega)).trans (d p hp)
        · have hu' : u < A 5 0 + 1 := hu
          rw [upd_o _ (by omega), mkA'_6]
          by_cases q : u = A 5 0
          · rw [va_cpy_in (by omega) (by omega), if_pos (by omega)]
            rfl
          · rw [va_cpy_out (by omega), if_neg (by omega)]
            exact (if_neg (fun w => by have := w.1; omega)).trans (g6 u (by omega) p hp)
    obtain ⟨s', er1, er2⟩ := er
    rw [r1, r2, bd_some, bd_some, ea, bd2_some, er1]
    refine ⟨nI (A 5 0), _, Hs', E', va_up M' 0 s', ec, rfl, Rel_mk (M := M2) ⟨okm, hB', by rw [va_up_self]; exact er2⟩ r3 r4 (fun k k1 k2 => va_up_ne _ _ (by omega)) (RelK_c hK rfl (h5 3 (by decide) (by decide) (by decide)) (h5 4 (by decide) (by decide) (by decide))) (RelT_c hT (h5 5 (by decide) (by decide) (by decide)) (h5 6 (by decide) (by decide) (by decide)))⟩
  · rw [ltF (by omega) (by omega), eqT (by omega)]
    exact ⟨_, _, _, _, _, rfl, rfl, hR2⟩
