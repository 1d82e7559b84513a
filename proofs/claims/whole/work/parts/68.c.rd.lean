/-! load: a whole note, the whole text, the method -/
def rdB (rd : Nat → Nat) (t : Nat) : Prop := ∀ i, i < t → rd (3 * i) < 30 ∧ rd (3 * i + 1) < 20 ∧ rd (3 * i + 2) ≤ 9
theorem ok_bdS {A : tA} (ok : okA A) {rd : Nat → Nat} : ∀ {t : Nat}, t ≤ 20 → rdB rd t → okA (bdS A rd t)
  | 0, _, _ => ok_em ok
  | t + 1, h, hb => ok_no (ok_bdS ok (by omega) (fun i hi => hb i (by omega))) (by rw [bdS_n]; omega) (hb t (by omega)).1 (hb t (by omega)).2.1 (hb t (by omega)).2.2
def rdU (rd : Nat → Nat) (t c r d : Nat) : Nat → Nat := fun j => if j = 3 * t + 2 then d else if j = 3 * t + 1 then r else if j = 3 * t then c else rd j
section RU
variable {rd : Nat → Nat} {t c r d : Nat} {A : tA}
theorem rdU_0 : rdU rd t c r d (3 * t) = c := by
  unfold rdU
  rw [if_neg (by omega), if_neg (by omega), if_pos rfl]
theorem rdU_1 : rdU rd t c r d (3 * t + 1) = r := by
  unfold rdU
  rw [if_neg (by omega), if_pos rfl]
theorem rdU_2 : rdU rd t c r d (3 * t + 2) = d := by
  unfold rdU
  rw [if_pos rfl]
theorem rdU_o {j : Nat} (h : j < 3 * t) : rdU rd t c r d j = rd j := by
  unfold rdU
  rw [if_neg (by omega), if_neg (by omega), if_neg (by omega)]
theorem bdS_U : bdS A (rdU rd t c r d) t = bdS A rd t := bdS_c (fun _ hj => rdU_o hj)
theorem bdS_U1 : bdS A (rdU rd t c r d) (t + 1) = noA (bdS A rd t) c r d := by
  show noA (bdS A (rdU rd t c r d) t) (rdU rd t c r d (3 * t)) (rdU rd t c r d (3 * t + 1)) (rdU rd t c r d (3 * t + 2)) = _
  rw [bdS_U, rdU_0, rdU_1, rdU_2]
theorem rdB_U (h : rdB rd t) (hc : c < 30) (hr : r < 20) (hd : d ≤ 9) : rdB (rdU rd t c r d) (t + 1) := by
  intro i hi
  by_cases q : i = t
  · subst q
    rw [rdU_0, rdU_1, rdU_2]
    exact ⟨hc, hr, hd⟩
  · rw [rdU_o (by omega), rdU_o (by omega), rdU_o (by omega)]
    exact h i (by omega)
end RU
theorem g_89 {N p t q : Nat} {M0 M : tS} {rd : Nat → Nat} (h : rdS M0 M p t q rd) (ht : t < 20) (c r d : Nat) : ∃ M', f_X6_takesNote_89 N (nI c) (nI r) (nI d) M = some (1, M') ∧ rdS M0 M' p (t + 1) q (rdU rd t c r d) := by
  obtain ⟨h1, h2, h3, h4, h5⟩ := h
  refine ⟨va_up (va_up M 12 (upd (upd (upd (M 12) (3 * t) (nI c)) (3 * t + 1) (nI r)) (3 * t + 2) (nI d))) 11 (fun _ => nI (t + 1)), ?_, ?_, ?_, ?_, ?_, ?_⟩
  · unfold f_X6_takesNote_89
    simp only [lt_eq, va_up_self, va_up_up, va_up_ne _ _ (by decide : (11 : Nat) ≠ 12)]
    rw [h3, li_3, pk_mul, nI_s, li_2, nI_add, gdI (by omega) (by decide), gdI (by omega) (by decide), gdI (by omega) (by decide), clI (by omega), clI (by omega), clI (by omega), nI_s]
  · intro k k0 k1 k2 k3
    rw [va_up_ne _ _ k1, va_up_ne _ _ k2]
    exact h1 k k0 k1 k2 k3
  · rw [va_up_ne _ _ (by decide), va_up_ne _ _ (by decide)]
    exact h2
  · rw [va_up_self]
  · rw [va_up_ne _ _ (by decide), va_up_ne _ _ (by decide)]
    exact h4
  · intro j hj
    rw [va_up_ne _ _ (by decide), va_up_self]
    unfold rdU
    by_cases a : j = 3 * t + 2
    · rw [a, upd_s, if_pos rfl]
    rw [upd_o _ a, if_neg a]
    by_cases b : j = 3 * t + 1
    · rw [b, upd_s, if_pos rfl]
    rw [upd_o _ b, if_neg b]
    by_cases e : j = 3 * t
    · rw [e, upd_s, if_pos rfl]
    rw [upd_o _ e, if_neg e]
    exact h5 j (by omega)
section NOTE
variable {N n p t q : Nat} {Tx M0 M S B : tS} {rd : Nat → Nat} {A : tA}
def fbN (N : Nat) (Tx M0 : tS) (n p : Nat) (S B M' : tS) : Prop := ∃ p' S' B', p' ≤ n ∧ M' 10 0 = nI p' ∧ (∀ k, k < 10 → M' k = M0 k) ∧ rsT N Tx n p S B (nI p', S', B')
theorem lo10 (h : rdS M0 M p t q rd) : ∀ k, k < 10 → M k = M0 k := fun k hk => h.1 k (by omega) (by omega) (by omega) (by omega)
theorem tk_note (hN : 1000 ≤ N) (hn : n ≤ 80) (hS : RS (M0 0) A) (okA0 : okA A) (h6 : M0 6 0 = nI n) (h5 : ∀ j, j < n → M0 5 j = Tx 0 j) (hb : rdB rd t) (hq : q = dpA (bdS A rd t) 0) (hp : p ≤ n) (htp : 4 * t ≤ p) (hm : rdS M0 M p t q rd) (s1 : S 1 0 = nI t) (s2 : S 2 0 = nI 0) (s3 : S 3 0 = -1) (hB : RB B (bdS A rd t)) : (∃ M', f_X6_takesNote N M = some (0, M') ∧ fbN N Tx M0 n p S B M') ∨ (∃ p' q' rd' S' B' M', f_X6_takesNote N M = some (1, M') ∧ p + 3 ≤ p' ∧ p' ≤ n ∧ t < 20 ∧ rdS M0 M' p' (t + 1) q' rd' ∧ rdB rd' (t + 1) ∧ anS A Tx n p' t q' rd' S' B' ∧ goT N Tx n p S B p' S' B') := by
  rcases dg_c (hcT Tx n p) with ⟨d, hd⟩ | hno
  case inr =>
    left
    refine ⟨M, ?_, p, S, B, hp, hm.2.1, lo10 hm, f_nodig hn hp (pt := 0) s2 (by decide) s3 hno⟩
    unfold f_X6_takesNote
    rw [g_num0 hn hp h6 h5 hm hno, bd2_some, if_pos rfl]
  have hd10 := hd.1
  obtain ⟨v, p1, en, hpn, hv⟩ := g_num1 (N := N) (most := 29) hn h6 h5 hm (by decide) hd
  have hv30 : v < 30 := by
    rcases hv with ⟨-, e, -⟩ | ⟨-, -, e, -, -, -, e4⟩ <;> omega
  have hp1 : p1 ≤ n := by
    rcases hv with ⟨e, -⟩ | ⟨e, e2, -⟩ <;> omega
  have hpp : p + 1 ≤ p1 := by
    rcases hv with ⟨e, -⟩ | ⟨e, e2, -⟩ <;> omega
  have hstop : ∀ e, dgN (hcT Tx n p1) e → v = 0 ∨ 29 < 10 * v + e := by
    rcases hv with ⟨e, -, e2⟩ | ⟨e, e2, e3, e4, e5, e6, e7⟩
    · rw [e]
      exact e2
    · intro e8 _
      right
      omega
  have g1 : goT N Tx n p S B p1 (va_up S 3 (fun _ => nI v)) B := c_num hn (pt := 0) (most := 29) rfl s2 (by decide) s3 hd hpn (hv.imp (fun h => ⟨h.1, h.2.1⟩) id)
  have hm1 : rdS M0 (va_up M 10 (fun _ => nI p1)) p1 t q rd := rdS_p hm
  have nv5 : ¬ nI v = -5 := nI_n5 (by omega)
  have w2 : va_up S 3 (fun _ => nI v) 2 0 = nI 0 := by rw [va_up_ne _ _ (by decide)]; exact s2
  have w3 : va_up S 3 (fun _ => nI v) 3 0 = nI v := by rw [va_up_self]
  have w1 : va_up S 3 (fun _ => nI v) 1 0 = nI t := by rw [va_up_ne _ _ (by decide)]; exact s1
  by_cases h44 : hcT Tx n p1 = 44
  case neg =>
    left
    refine ⟨_, ?_, p1, _, _, hp1, (rdS_p hm1).2.1, lo10 (rdS_p hm1), g1 _ (f_nocomma hn hp1 w2 w3 (by omega) h44 hstop)⟩
    unfold f_X6_takesNote
    rw [show (29 : Int32) = nI 29 from rfl, en, bd2_some, if_neg nv5, g_takes0 (N := N) hn hp1 h6 h5 hm1 h44, bd2_some, if0]
  obtain ⟨hp1n, hx, ek⟩ := g_takes1 (N := N) hn hp1 h6 h5 hm1 (x := 44) (by decide) h44
  have hm2 : rdS M0 (va_up (va_up M 10 (fun _ => nI p1)) 10 (fun _ => nI (p1 + 1))) (p1 + 1) t q rd := rdS_p hm1
  have g2 := go_t g1 (go_step hn hp1n (by rw [hx]; exact tk_c1 w2 w3 (by omega)))
  have x2 : va_up (va_up (va_up (va_up S 3 (fun _ => nI v)) 4 (fun _ => nI v)) 2 (fun _ => 1)) 3 (fun _ => -1) 2 0 = nI 1 := by
    rw [va_up_ne _ _ (by decide), va_up_self]
    rfl
  have x3 : va_up (va_up (va_up (va_up S 3 (fun _ => nI v)) 4 (fun _ => nI v)) 2 (fun _ => 1)) 3 (fun _ => -1) 3 0 = -1 := by
    rw [va_up_self]
  have x4 : va_up (va_up (va_up (va_up S 3 (fun _ => nI v)) 4 (fun _ => nI v)) 2 (fun _ => 1)) 3 (fun _ => -1) 4 0 = nI v := by
    rw [va_up_ne _ _ (by decide), va_up_ne _ _ (by decide), va_up_self]
  have x1 : va_up (va_up (va_up (va_up S 3 (fun _ => nI v)) 4 (fun _ => nI v)) 2 (fun _ => 1)) 3 (fun _ => -1) 1 0 = nI t := by
    rw [va_up_ne _ _ (by decide), va_up_ne _ _ (by decide), va_up_ne _ _ (by decide)]
    exact w1
  generalize va_up (va_up (va_up (va_up S 3 (fun _ => nI v)) 4 (fun _ => nI v)) 2 (fun _ => 1)) 3 (fun _ => -1) = S2 at g2 x1 x2 x3 x4
  generalize hM2 : va_up (va_up M 10 (fun _ => nI p1)) 10 (fun _ => nI (p1 + 1)) = M2 at ek hm2
  rcases dg_c (hcT Tx n (p1 + 1)) with ⟨d2, hd2⟩ | hno
  case inr =>
    left
    refine ⟨M2, ?_, p1 + 1, _, _, by omega, hm2.2.1, lo10 hm2, g2 _ (f_nodig hn (by omega) (pt := 1) x2 (by decide) x3 hno)⟩
    unfold f_X6_takesNote
    rw [show (29 : Int32) = nI 29 from rfl, en, bd2_some, if_neg nv5, ek, bd2_some, if1, g_num0 hn (by omega) h6 h5 hm2 hno, bd2_some, if_pos rfl]
  have hd20 := hd2.1
  obtain ⟨r, p2, en2, hpn2, hr⟩ := g_num1 (N := N) (most := 19) hn h6 h5 hm2 (by decide) hd2
  have hr20 : r < 20 := by
    rcases hr with ⟨-, e, -⟩ | ⟨-, -, e, -, -, -, e4⟩ <;> omega
  have hp2 : p2 ≤ n := by
    rcases hr with ⟨e, -⟩ | ⟨e, e2, -⟩ <;> omega
  have hpp2 : p1 + 2 ≤ p2 := by
    rcases hr with ⟨e, -⟩ | ⟨e, e2, -⟩ <;> omega
  have hstop2 : ∀ e, dgN (hcT Tx n p2) e → r = 0 ∨ 19 < 10 * r + e := by
    rcases hr with ⟨e, -, e2⟩ | ⟨e, e2, e3, e4, e5, e6, e7⟩
    · rw [e]
      exact e2
    · intro e8 _
      right
      omega
  have g3 : goT N Tx n (p1 + 1) S2 B p2 (va_up S2 3 (fun _ => nI r)) B := c_num hn (pt := 1) (most := 19) rfl x2 (by decide) x3 hd2 hpn2 (hr.imp (fun h => ⟨h.1, h.2.1⟩) id)
  have hm3 : rdS M0 (va_up M2 10 (fun _ => nI p2)) p2 t q rd := rdS_p hm2
  have nr5 : ¬ nI r = -5 := nI_n5 (by omega)
  have ht : t < 20 := by omega
  have hok : okA (bdS A rd t) := ok_bdS okA0 (by omega) hb
  have y1 : va_up S2 3 (fun _ => nI r) 1 0 = nI t := by rw [va_up_ne _ _ (by decide)]; exact x1
  have y2 : va_up S2 3 (fun _ => nI r) 2 0 = nI 1 := by rw [va_up_ne _ _ (by decide)]; exact x2
  have y3 : va_up S2 3 (fun _ => nI r) 3 0 = nI r := by rw [va_up_self]
  have y4 : va_up S2 3 (fun _ => nI r) 4 0 = nI v := by rw [va_up_ne _ _ (by decide)]; exact x4
  obtain ⟨p', dd, M', S', B', z1, z2, z3, z4, z5, z6, z7, z8⟩ := m_stars (S := va_up S2 3 (fun _ => nI r)) (B := B) hN hn hS okA0 h6 h5 hv30 hr20 ht hok hq hp2 hm3 (va_up_self _ _ _) (Or.inl ⟨rfl, y2, y1, y3, y4, hB, hstop2⟩)
  obtain ⟨M'', e9, hm9⟩ := g_89 (N := N) z4 ht v r dd
  right
  refine ⟨p', q + dd, rdU rd t v r dd, S', B', M'', ?_, by omega, z2, ht, hm9, rdB_U hb hv30 hr20 z3, ⟨?_, ?_, ?_, ?_⟩, go_t g2 (go_t g3 z6)⟩
  · unfold f_X6_takesNote
    rw [show (29 : Int32) = nI 29 from rfl, en, bd2_some, if_neg nv5, ek, bd2_some, if1, show (19 : Int32) = nI 19 from rfl, en2, bd2_some, if_neg nr5, z8, e9]
  · exact ok_bdS okA0 (by omega) (rdB_U hb hv30 hr20 z3)
  · rw [bdS_U1, dp_no, hq]
  · rcases z5 with ⟨a0, a1, a2, a3, a4, a5, a6⟩ | ⟨a0, a1, a2, a3⟩
    · left
      rw [bdS_U, rdU_0, rdU_1, rdU_2]
      exact ⟨a1, a2, a3, a4, a5, hok, a0, a6, ht, hr20⟩
    · right
      rw [bdS_U1]
      exact ⟨a1, a2, a3⟩
  · rw [rdU_2]
    exact z7
/-- the whole text -/
def gbN (N : Nat) (A : tA) (Tx M0 : tS) (n : Nat) (S B M' : tS) : Prop := ∃ t q rd p S' B', t < 20 ∧ rdS M0 M' p (t + 1) q rd ∧ rdB rd (t + 1) ∧ S' 1 0 = nI (t + 1) ∧ RB B' (bdS A rd (t + 1)) ∧ rsT N Tx n 0 S B (-1, S', B')
def lbN (N : Nat) (A : tA) (Tx M0 : tS) (n : Nat) (S B M' : tS) : Prop := ∃ p t q rd S' B', 4 * t + 3 ≤ p ∧ p ≤ n ∧ t < 20 ∧ rdS M0 M' p (t + 1) q rd ∧ rdB rd (t + 1) ∧ anS A Tx n p t q rd S' B' ∧ goT N Tx n 0 S B p S' B'
theorem tk_board (hN : 1000 ≤ N) (hn : n ≤ 80) (hS : RS (M0 0) A) (okA0 : okA A) (h6 : M0 6 0 = nI n) (h5 : ∀ j, j < n → M0 5 j = Tx 0 j) (s1 : S 1 0 = nI 0) (s2 : S 2 0 = nI 0) (s3 : S 3 0 = -1) (hB : RB B (emA A)) : ∃ M', (f_X6_isBoard N M0 = some (0, M') ∧ fbN N Tx M0 n 0 S B M') ∨ (f_X6_isBoard N M0 = some (1, M') ∧ gbN N A Tx M0 n S B M') := by
  have hm : rdS M0 (va_up (va_up (va_up M0 10 (fun _ => 0)) 11 (fun _ => 0)) 13 (fun _ => 0)) 0 0 0 (fun _ => 0) := by
    refine ⟨fun k k0 k1 k2 k3 => by rw [va_up_ne _ _ k3, va_up_ne _ _ k1, va_up_ne _ _ k0], ?_, ?_, ?_, fun j hj => absurd hj (by omega)⟩
    · rw [va_up_ne _ _ (by decide), va_up_ne _ _ (by decide), va_up_self]
      rfl
    · rw [va_up_ne _ _ (by decide), va_up_self]
      rfl
    · rw [va_up_self]
      rfl
  have key : ∀ (x : Int32) (T : tS), ((x = 0 ∧ fbN N Tx M0 n 0 S B T) ∨ (x = 1 ∧ lbN N A Tx M0 n S B T)) → ∃ M', (f_X6_isBoard_20 N N x T = some (0, M') ∧ fbN N Tx M0 n 0 S B M') ∨ (f_X6_isBoard_20 N N x T = some (1, M') ∧ gbN N A Tx M0 n S B M') := by
    intro x T hx
    obtain ⟨y, hy, e⟩ := lp_wh (F := fun k (x : Int32 × tS) => f_X6_isBoard_20 N k x.1 x.2) (fun x => (x.1 = 0 ∧ fbN N Tx M0 n 0 S B x.2) ∨ (x.1 = 1 ∧ lbN N A Tx M0 n S B x.2)) (fun x => (x.1 = 0 ∧ fbN N Tx M0 n 0 S B x.2) ∨ (x.1 = 1 ∧ gbN N A Tx M0 n S B x.2)) (fun x => if x.1 = 0 then 0 else 200 - (x.2 10 0).toNatClampNeg) (fun x => some x) (by
      rintro k ⟨x, T⟩ hx
      dsimp only at hx ⊢
      rcases hx with ⟨rfl, hf⟩ | ⟨rfl, p, t, q, rd, S', B', a1, a2, a3, a4, a5, a6, a7⟩
      · left
        refine ⟨?_, Or.inl ⟨rfl, hf⟩⟩
        show f_X6_isBoard_20b N (f_X6_isBoard_20 N k) 0 T = _
        unfold f_X6_isBoard_20b
        rw [if0, nn00]
      have e6 : T 6 0 = nI n := by rw [lo10 a4 6 (by decide)]; exact h6
      have e10 : T 10 0 = nI p := a4.2.1
      by_cases z : p < n
      case neg =>
        have zz : p = n := by omega
        subst zz
        left
        obtain ⟨S1, B1, en, b1, b2, b3⟩ := an_en hN a6
        refine ⟨?_, Or.inr ⟨rfl, t, q, rd, p, S1, B1, a3, a4, a5, b1, b3, a7 _ (rs_end1 hn en)⟩⟩
        show f_X6_isBoard_20b N (f_X6_isBoard_20 N k) 1 T = _
        unfold f_X6_isBoard_20b
        rw [if1, e6, e10, leT (Nat.le_refl _) (by omega), nn01]
      right
      have en : ∀ K, f_X6_isBoard_20b N K 1 T = bd2 (f_X6_takes N T 59) (fun r1 M1 => if r1 = 0 then f_X6_isBoard_55 N K M1 else bd2 (f_X6_takesNote N M1) (fun r2 M2 => if r2 = 0 then f_X6_isBoard_55 N K M2 else f_X6_isBoard_56 N K 1 M2)) := by
        intro K
        unfold f_X6_isBoard_20b
        rw [if1, e6, e10, leF z (by omega)]
      by_cases z59 : hcT Tx n p = 59
      case neg =>
        have ex : hcT Tx n p = Tx 0 p := if_pos z
        obtain ⟨S1, B1, hr⟩ := an_fault hN hn z a6 (by rw [← ex]; exact z59)
        refine ⟨(0, va_up T 10 (fun _ => nI p)), ?_, Or.inl ⟨rfl, p, S1, B1, by omega, (rdS_p a4).2.1, lo10 (rdS_p a4), a7 _ hr⟩, ?_⟩
        · show f_X6_isBoard_20b N (f_X6_isBoard_20 N k) 1 T = _
          rw [en, g_takes0 (N := N) hn a2 h6 h5 a4 z59, bd2_some, if0]
          rfl
        · dsimp only
          rw [e10, clI (by omega), if0, if1]
          omega
      obtain ⟨-, hx, ek⟩ := g_takes1 (N := N) hn a2 h6 h5 a4 (x := 59) (by decide) z59
      obtain ⟨S1, B1, ee, b1, b2, b3⟩ := an_en hN a6
      have go2 := go_t a7 (go_step hn z (by rw [hx]; exact tk_m1 ee))
      have c1 : va_up (va_up S1 2 (fun _ => 0)) 3 (fun _ => -1) 1 0 = nI (t + 1) := by
        rw [va_up_ne _ _ (by decide), va_up_ne _ _ (by decide)]
        exact b1
      have c2 : va_up (va_up S1 2 (fun _ => 0)) 3 (fun _ => -1) 2 0 = nI 0 := by
        rw [va_up_ne _ _ (by decide), va_up_self]
        rfl
      have c3 : va_up (va_up S1 2 (fun _ => 0)) 3 (fun _ => -1) 3 0 = -1 := by rw [va_up_self]
      rcases tk_note hN hn hS okA0 h6 h5 a5 a6.2.1 (by omega : p + 1 ≤ n) (by omega) (rdS_p a4) c1 c2 c3 b3 with ⟨M', k1, p', S', B', k2, k3, k4, k5⟩ | ⟨p', q', rd', S', B', M', k1, k2, k3, k4, k5, k6, k7, k8⟩
      · refine ⟨(0, M'), ?_, Or.inl ⟨rfl, p', S', B', k2, k3, k4, go2 _ k5⟩, ?_⟩
        · show f_X6_isBoard_20b N (f_X6_isBoard_20 N k) 1 T = _
          rw [en, ek, bd2_some, if1, k1, bd2_some, if0]
          rfl
        · dsimp only
          rw [e10, clI (by omega), if0, if1]
          omega
      · refine ⟨(1, M'), ?_, Or.inr ⟨rfl, p', t + 1, q', rd', S', B', by omega, k3, k4, k5, k6, k7, go_t go2 k8⟩, ?_⟩
        · show f_X6_isBoard_20b N (f_X6_isBoard_20 N k) 1 T = _
          rw [en, ek, bd2_some, if1, k1, bd2_some, if1]
          rfl
        · dsimp only
          rw [e10, k5.2.1, clI (by omega), clI (by omega), if1, if1]
          omega) N (x, T) hx (by
      dsimp only
      split <;> omega)
    obtain ⟨y1, y2⟩ := y
    dsimp only at hy e
    rcases hy with ⟨rfl, hy⟩ | ⟨rfl, hy⟩
    · exact ⟨y2, Or.inl ⟨e, hy⟩⟩
    · exact ⟨y2, Or.inr ⟨e, hy⟩⟩
  have start : ∀ r T, f_X6_takesNote N (va_up (va_up (va_up M0 10 (fun _ => 0)) 11 (fun _ => 0)) 13 (fun _ => 0)) = some (r, T) → f_X6_isBoard N M0 = f_X6_isBoard_20 N N r T := by
    intro r T e
    unfold f_X6_isBoard
    rw [lt_eq, lt_eq, e, bd2_some]
  rcases tk_note hN hn hS okA0 h6 h5 (rd := fun _ => 0) (t := 0) (q := 0) (fun i hi => absurd hi (Nat.not_lt_zero i)) rfl (Nat.zero_le n) (by omega) hm s1 s2 s3 hB with ⟨M', k1, k2⟩ | ⟨p', q', rd', S', B', M', k1, k2, k3, k4, k5, k6, k7, k8⟩
  · rw [start _ _ k1]
    exact key 0 M' (Or.inl ⟨rfl, k2⟩)
  · rw [start _ _ k1]
    exact key 1 M' (Or.inr ⟨rfl, p', 0, q', rd', S', B', by omega, k3, k4, k5, k6, k7, k8⟩)
end NOTE
