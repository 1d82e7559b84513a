/-! load: the reference lays the board; the method -/
theorem RS_em {s s' : Nat → Int32} {A : tA} (h : RS s A) (e0 : s' 0 = 0) (e1 : s' 1 = 0) (e2 : ∀ j, j < 3 → s' (2 + j) = s (2 + j)) : RS s' (emA A) := by
  refine ⟨e0, e1, fun j hj => ?_, fun i hi => absurd (show i < 0 from hi) (Nat.not_lt_zero i), fun t ht => absurd (show t < 0 from ht) (Nat.not_lt_zero t)⟩
  rw [e2 j hj]
  exact h.2.2.1 j hj
theorem RB_em {N : Nat} {B : tS} {A : tA} (h : RB B A) : ∃ B', f_X0_removeAll N B = some B' ∧ RB B' (emA A) := by
  refine ⟨_, rfl, ?_, ?_, fun j hj => ?_, fun i hi => absurd (show i < 0 from hi) (Nat.not_lt_zero i), fun t ht => absurd (show t < 0 from ht) (Nat.not_lt_zero t)⟩
  · rw [va_up_ne _ _ (by decide), va_up_self]
    rfl
  · rw [va_up_self]
    rfl
  · rw [va_up_ne _ _ (by decide), va_up_ne _ _ (by decide)]
    exact h.2.2.1 j hj
/-- the notes that were read are laid -/
theorem g_69 {N : Nat} (hN : 1000 ≤ N) {A : tA} {rd : Nat → Nat} {t : Nat} (okA0 : okA A) (ht : t ≤ 20) (hb : rdB rd t) {M : tS} (hS : RS (M 0) (emA A)) (h11 : M 11 0 = nI t) (h12 : ∀ j, j < 3 * t → M 12 j = nI (rd j)) : ∃ M', f_X6_load_69 N N 0 M = some (nI t, M') ∧ RS (M' 0) (bdS A rd t) ∧ ∀ f, f ≠ 0 → M' f = M f := by
  obtain ⟨y, ⟨y1, y2, y3⟩, e⟩ := lp_to (F := fun k (x : Int32 × tS) => f_X6_load_69 N k x.1 x.2) (fun i x => x.1 = nI i ∧ RS (x.2 0) (bdS A rd i) ∧ ∀ f, f ≠ 0 → x.2 f = M f) t (fun x => some (nI t, x.2)) (by
    rintro k ⟨x, T⟩ ⟨y1, y2, y3⟩
    dsimp only at y1 y2 y3 ⊢
    subst y1
    show f_X6_load_69b N (f_X6_load_69 N k) (nI t) T = _
    unfold f_X6_load_69b
    rw [y3 11 (by decide), h11, leT (Nat.le_refl _) (by omega), cl_0, y2.1, bdS_n]) (by
    rintro k i ⟨x, T⟩ hi ⟨y1, y2, y3⟩
    dsimp only at y1 y2 y3 ⊢
    subst y1
    have hbi := hb i hi
    have oki : okA (bdS A rd i) := ok_bdS okA0 (by omega) (fun j hj => hb j (by omega))
    obtain ⟨s', e1, hs'⟩ := g_adds hN y2 oki (by rw [bdS_n]; omega) (rd (3 * i)) (rd (3 * i + 1))
    rw [bdS_n] at e1
    have oka : okA (addA (bdS A rd i) (rd (3 * i)) (rd (3 * i + 1))) := ok_add oki (by rw [bdS_n]; omega) hbi.1 hbi.2.1
    have hs2 := RS_up (f := 4) (i := i * 6 + 0) (v := rd (3 * i + 2)) oka hs' (by decide) (by decide) (by unfold vaf; omega)
    rw [ixf4 (by decide)] at hs2
    refine ⟨(nI (i + 1), va_up (va_up T 0 s') 0 (upd s' (5 + 9 * i + 3 + 0) (nI (rd (3 * i + 2))))), ?_, rfl, ?_, fun f hf => ?_⟩
    · show f_X6_load_69b N (f_X6_load_69 N k) (nI i) T = f_X6_load_69 N k (nI (i + 1)) _
      unfold f_X6_load_69b
      rw [y3 11 (by decide), h11, leF hi (by omega), li_3, pk_mul, nI_s, gdI (by omega) (by decide), gdI (by omega) (by decide), clI (by omega), clI (by omega), y3 12 (by decide), h12 _ (by omega), h12 _ (by omega), e1, bd2_some, li_2, nI_add, gdI (by omega) (by decide), clI (by omega), va_up_ne _ _ (by decide : (12 : Nat) ≠ 0), y3 12 (by decide), h12 _ (by omega), g_lays (by omega), bd_some, va_up_self, nI_s]
    · dsimp only
      rw [va_up_self]
      show RS _ (noA _ _ _ _)
      unfold noA
      rw [bdS_n]
      exact hs2
    · dsimp only
      rw [va_up_ne _ _ hf, va_up_ne _ _ hf]
      exact y3 f hf) N (by omega) (nI 0, M) ⟨rfl, hS, fun _ _ => rfl⟩
  exact ⟨y.2, e, y2, y3⟩
theorem g_33 {N : Nat} (hN : 1000 ≤ N) {A : tA} {rd : Nat → Nat} {t : Nat} (okA0 : okA A) (ht : t ≤ 20) (hb : rdB rd t) {M : tS} (hS : RS (M 0) A) (h11 : M 11 0 = nI t) (h12 : ∀ j, j < 3 * t → M 12 j = nI (rd j)) : ∃ M', f_X6_load_33 N N 5 M = some (nI t, M') ∧ RS (M' 0) (bdS A rd t) ∧ ∀ f, f ≠ 0 → M' f = M f := by
  have hz := g_69 (M := va_up (va_up (va_up M 0 (va_cpy (fun _ => 0) (M 0) 0 5 228)) 0 (upd (va_cpy (fun _ => 0) (M 0) 0 5 228) 0 0)) 0 (upd (upd (va_cpy (fun _ => 0) (M 0) 0 5 228) 0 0) 1 0)) hN okA0 ht hb (by
    rw [va_up_self]
    refine RS_em hS ?_ ?_ fun j hj => ?_
    · rw [upd_o _ (by decide), upd_s]
    · rw [upd_s]
    · rw [upd_o _ (by omega), upd_o _ (by omega), va_cpy_out (by omega)]) (by
    rw [va_up_ne _ _ (by decide), va_up_ne _ _ (by decide), va_up_ne _ _ (by decide)]
    exact h11) (by
    rw [va_up_ne _ _ (by decide), va_up_ne _ _ (by decide), va_up_ne _ _ (by decide)]
    exact h12)
  obtain ⟨M', e, h1, h2⟩ := hz
  refine ⟨M', ?_, h1, fun f hf => ?_⟩
  · have k := lp_run (F := fun k (x : Int32 × tS) => f_X6_load_33 N k x.1 x.2) (s := fun i => (nI (5 + i), va_up M 0 (va_cpy (fun _ => 0) (M 0) 0 5 i))) 228 (some (nI t, M')) (by
      intro k
      show f_X6_load_33b N (f_X6_load_33 N k) (nI 233) (va_up M 0 (va_cpy (fun _ => 0) (M 0) 0 5 228)) = _
      unfold f_X6_load_33b
      rw [li_233, leT (Nat.le_refl _) (by omega), gd0, lt_eq, gd1, cl_0, cl_1]
      simp only [va_up_self] at e ⊢
      exact e) (by
      intro k i hi
      show f_X6_load_33b N (f_X6_load_33 N k) (nI (5 + i)) (va_up M 0 (va_cpy (fun _ => 0) (M 0) 0 5 i)) = f_X6_load_33 N k (nI (5 + i + 1)) (va_up M 0 (va_cpy (fun _ => 0) (M 0) 0 5 (i + 1)))
      unfold f_X6_load_33b
      rw [li_233, leF (by omega) (by omega), gdI (by omega) (by decide), clI (by omega), va_up_up, va_up_self, nI_s, zcS]) N (by omega)
    simp only [va_cpy0, va_up_id] at k
    exact k
  · rw [h2 f hf, va_up_ne _ _ hf, va_up_ne _ _ hf, va_up_ne _ _ hf]
theorem m_load {N : Nat} (hN : 1000 ≤ N) {Tn B Sn Tx Tr E F Nm Bt M : tS} {Hs : tH} (hR : Rel Tn B Hs Sn Tx Tr E F Nm Bt M) : ∃ (r : Int32) (Bz : tS) (Hsz : tH) (Trz : tS) (Btz : tS) (Mz : tS), f_X5_load N Tn B Hs Tx Tr Bt  = some (r, Bz, Hsz, Trz, Btz) ∧ f_X6_load N M  = some (r, Mz) ∧ Rel Tn Bz Hsz Sn Tx Trz E F Nm Btz Mz := by
  have hR0 := hR
  obtain ⟨⟨A, ok, hB, hS⟩, hH, hK, hT⟩ := hR
  have hT0 := hT
  obtain ⟨n, hn, t1, t2, t3⟩ := hT
  obtain ⟨Tr1, e1, hTr1⟩ := s_copy (N := N) (B := Tr) hB ok
  obtain ⟨Tr2, e2, hTr2⟩ := RB_em (N := N) hTr1
  have c1 : va_up (va_up (va_up Bt 1 (fun _ => 0)) 2 (fun _ => 0)) 3 (fun _ => -1) 1 0 = nI 0 := by
    rw [va_up_ne _ _ (by decide), va_up_ne _ _ (by decide), va_up_self]
    rfl
  have c2 : va_up (va_up (va_up Bt 1 (fun _ => 0)) 2 (fun _ => 0)) 3 (fun _ => -1) 2 0 = nI 0 := by
    rw [va_up_ne _ _ (by decide), va_up_self]
    rfl
  have c3 : va_up (va_up (va_up Bt 1 (fun _ => 0)) 2 (fun _ => 0)) 3 (fun _ => -1) 3 0 = -1 := by rw [va_up_self]
  have hff : ∀ res, rsT N Tx n 0 (va_up (va_up (va_up Bt 1 (fun _ => 0)) 2 (fun _ => 0)) 3 (fun _ => -1)) Tr2 res → f_X1_findFault N Bt Tr2 Tx (Tn 5 0) = some res := by
    intro res h
    unfold f_X1_findFault f_X1_beginNumber
    rw [bd_some, t1]
    exact h N (by omega)
  obtain ⟨M1, ⟨k1, p, S', B', k2, k3, k4, k5⟩ | ⟨k1, t, q, rd, p, S', B', k2, k3, k4, k5, k6, k7⟩⟩ := tk_board hN hn hS ok t2 (fun j hj => (t3 j hj).symm) c1 c2 c3 hTr2
  · have hf := hff _ k5
    have hne : ¬ nI p = -1 := by
      rw [← Int32.toInt_inj, nI_T (by omega)]
      intro w
      have : (-1 : Int32).toInt = -1 := rfl
      omega
    refine ⟨-100 - nI p, B, Hs, B', S', M1, ?_, ?_, Rel_rk hR0 (fun k hk => k4 k (by omega))⟩
    · unfold f_X5_load
      rw [e1, bd_some, e2, bd_some, hf, bd3_some, if_neg hne]
    · unfold f_X6_load
      rw [k1, bd2_some, if0, k3]
  · have hf := hff _ k7
    have l10 := lo10 k3
    have hB' : RelB B (M1 0) A := ⟨ok, hB, by rw [l10 0 (by decide)]; exact hS⟩
    obtain ⟨Hs', M2, r1, r2, r3, r4⟩ := m_rec hN (RelH_c hH (l10 1 (by decide)) (l10 2 (by decide))) hB'
    obtain ⟨M3, g1, g2, g3⟩ := g_33 (rd := rd) (t := t + 1) hN ok (by omega) k4 (M := M2) (A := A) (by rw [r4 0 (by decide) (by decide), l10 0 (by decide)]; exact hS) (by rw [r4 11 (by decide) (by decide)]; exact k3.2.2.1) (by rw [r4 12 (by decide) (by decide)]; exact k3.2.2.2.2)
    have okb : okA (bdS A rd (t + 1)) := ok_bdS ok (by omega) k4
    obtain ⟨B5, b1, b2⟩ := s_copy (N := N) (B := B) k6 okb
    refine ⟨nI (t + 1), B5, Hs', B', S', M3, ?_, ?_, Rel_mk (M' := M2) (M := M1) (A' := bdS A rd (t + 1)) ⟨okb, b2, g2⟩ r3 r4 (fun k h1 h2 => g3 k (by omega)) (RelK_c hK rfl (l10 3 (by decide)) (l10 4 (by decide))) (RelT_c hT0 (l10 5 (by decide)) (l10 6 (by decide)))⟩
    · unfold f_X5_load
      rw [e1, bd_some, e2, bd_some, hf, bd3_some, if_pos rfl, k5, li_20, leT (by omega) (by omega), r1, bd_some, b1, bd_some, b2.1, bdS_n]
    · unfold f_X6_load
      rw [k1, bd2_some, if1, k3.2.2.1, li_20, leT (by omega) (by omega), r2, bd_some, g1]
