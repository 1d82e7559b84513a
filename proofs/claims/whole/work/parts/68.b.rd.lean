/-! load: the reference's reader, and both together -/
def rdS (M0 M : tS) (p t q : Nat) (rd : Nat → Nat) : Prop := (∀ k, k ≠ 10 → k ≠ 11 → k ≠ 12 → k ≠ 13 → M k = M0 k) ∧ M 10 0 = nI p ∧ M 11 0 = nI t ∧ M 13 0 = nI q ∧ ∀ j, j < 3 * t → M 12 j = nI (rd j)
def hcT (Tx : tS) (n p : Nat) : Int32 := if p < n then Tx 0 p else -5
section GR
variable {N n p t q : Nat} {Tx M0 M : tS} {rd : Nat → Nat}
theorem rdS_p (h : rdS M0 M p t q rd) {p' : Nat} : rdS M0 (va_up M 10 (fun _ => nI p')) p' t q rd := by
  obtain ⟨h1, h2, h3, h4, h5⟩ := h
  refine ⟨fun k k0 k1 k2 k3 => by rw [va_up_ne _ _ k0]; exact h1 k k0 k1 k2 k3, by rw [va_up_self], by rw [va_up_ne _ _ (by decide)]; exact h3, by rw [va_up_ne _ _ (by decide)]; exact h4, fun j hj => by rw [va_up_ne _ _ (by decide)]; exact h5 j hj⟩
theorem rdS_q (h : rdS M0 M p t q rd) {q' : Nat} : rdS M0 (va_up M 13 (fun _ => nI q')) p t q' rd := by
  obtain ⟨h1, h2, h3, h4, h5⟩ := h
  exact ⟨fun k k0 k1 k2 k3 => by rw [va_up_ne _ _ k3]; exact h1 k k0 k1 k2 k3, by rw [va_up_ne _ _ (by decide)]; exact h2, by rw [va_up_ne _ _ (by decide)]; exact h3, by rw [va_up_self], fun j hj => by rw [va_up_ne _ _ (by decide)]; exact h5 j hj⟩
theorem g_here (hn : n ≤ 80) (hp : p ≤ n) (h6 : M0 6 0 = nI n) (h5 : ∀ j, j < n → M0 5 j = Tx 0 j) (h : rdS M0 M p t q rd) : f_X6_here N M = some (hcT Tx n p) := by
  unfold f_X6_here hcT
  rw [h.1 6 (by decide) (by decide) (by decide) (by decide), h6, h.2.1, h.1 5 (by decide) (by decide) (by decide) (by decide)]
  by_cases z : p < n
  · rw [leF z (by omega), gdI (by omega) (by decide), clI (by omega), if_pos z, h5 p z]
  · rw [leT (by omega) (by omega), if_neg z]
theorem g_takes1 (hn : n ≤ 80) (hp : p ≤ n) (h6 : M0 6 0 = nI n) (h5 : ∀ j, j < n → M0 5 j = Tx 0 j) (h : rdS M0 M p t q rd) {x : Int32} (hx : ¬ x = -5) (e : hcT Tx n p = x) : p < n ∧ Tx 0 p = x ∧ f_X6_takes N M x = some (1, va_up M 10 (fun _ => nI (p + 1))) := by
  have hpn : p < n := by
    apply Classical.byContradiction
    intro w
    unfold hcT at e
    rw [if_neg w] at e
    exact hx e.symm
  refine ⟨hpn, ?_, ?_⟩
  · unfold hcT at e
    rw [if_pos hpn] at e
    exact e
  · unfold f_X6_takes f_X6_takes_13 f_X6_takes_28
    rw [g_here hn hp h6 h5 h, bd_some, if_pos e, if1, nn01, h.2.1, nI_s]
theorem g_takes0 (hn : n ≤ 80) (hp : p ≤ n) (h6 : M0 6 0 = nI n) (h5 : ∀ j, j < n → M0 5 j = Tx 0 j) (h : rdS M0 M p t q rd) {x : Int32} (e : ¬ hcT Tx n p = x) : f_X6_takes N M x = some (0, va_up M 10 (fun _ => nI p)) := by
  unfold f_X6_takes f_X6_takes_13 f_X6_takes_28
  rw [g_here hn hp h6 h5 h, bd_some, if_neg e, if0, nn00, h.2.1, li_0, nI_add]
  rfl
theorem hc_dg {x : Int32} (h : hcT Tx n p = x) {d : Nat} (hd : dgN x d) : p < n ∧ Tx 0 p = x := by
  have hpn : p < n := by
    apply Classical.byContradiction
    intro w
    unfold hcT at h
    rw [if_neg w] at h
    rw [← h] at hd
    exact nI_n5 (a := 48 + d) (by have := hd.1; omega) hd.2.symm
  refine ⟨hpn, ?_⟩
  unfold hcT at h
  rw [if_pos hpn] at h
  exact h
theorem g_num0 (hn : n ≤ 80) (hp : p ≤ n) (h6 : M0 6 0 = nI n) (h5 : ∀ j, j < n → M0 5 j = Tx 0 j) (h : rdS M0 M p t q rd) {mo : Int32} (hd : ¬ ∃ d, dgN (hcT Tx n p) d) : f_X6_number N M mo = some (-5, M) := by
  unfold f_X6_number
  rw [g_here hn hp h6 h5 h, bd_some, in_nd hd, bd_some, if0]
theorem g_num1 (hn : n ≤ 80) (h6 : M0 6 0 = nI n) (h5 : ∀ j, j < n → M0 5 j = Tx 0 j) (h : rdS M0 M p t q rd) {most d : Nat} (hm : most < 1000) (hd : dgN (hcT Tx n p) d) : ∃ v p', f_X6_number N M (nI most) = some (nI v, va_up M 10 (fun _ => nI p')) ∧ p < n ∧ ((p' = p + 1 ∧ v = d ∧ ∀ e, dgN (hcT Tx n (p + 1)) e → v = 0 ∨ most < 10 * v + e) ∨ (p' = p + 2 ∧ p + 1 < n ∧ ∃ e, dgN (hcT Tx n (p + 1)) e ∧ v = 10 * d + e ∧ 0 < d ∧ v ≤ most)) := by
  have hd10 := hd.1
  obtain ⟨hpn, -⟩ := hc_dg rfl hd
  have hp1 := rdS_p (p' := p + 1) h
  have here1 := g_here (N := N) hn (by omega) h6 h5 hp1
  unfold f_X6_number
  rw [g_here hn (by omega) h6 h5 h, bd_some, bd_some, in_dg hd, bd_some, if1, dg_sub hd, h.2.1, nI_s, here1, bd_some, bd_some, bd_some]
  by_cases z : d = 0
  · refine ⟨d, p + 1, ?_, hpn, Or.inl ⟨rfl, rfl, fun e he => Or.inl z⟩⟩
    rw [if_pos (show nI d ≤ 0 by rw [z]; decide)]
  · rw [if_neg (show ¬ nI d ≤ 0 by rw [I_le, I_0, nI_T (by omega)]; omega)]
    rcases dg_c (hcT Tx n (p + 1)) with ⟨e, he⟩ | hno
    · have he10 := he.1
      rw [in_dg he, bd_some, if1]
      have ev : (10 : Int32) * nI d + hcT Tx n (p + 1) - 48 = nI (10 * d + e) := by
        rw [he.2, li_10, pk_mul, nI_add, show (48 : Int32) = nI 48 from rfl, pk_sub (by omega), show 10 * d + (48 + e) - 48 = 10 * d + e by omega]
      rw [ev]
      by_cases z2 : most < 10 * d + e
      · refine ⟨d, p + 1, ?_, hpn, Or.inl ⟨rfl, rfl, fun e' he' => Or.inr ?_⟩⟩
        · rw [ltT z2 (by omega)]
        · have := he'.2.symm.trans he.2
          have := nI_inj (by have := he'.1; omega) (by omega) this
          omega
      · obtain ⟨hp1n, -⟩ := hc_dg rfl he
        refine ⟨10 * d + e, p + 2, ?_, hpn, Or.inr ⟨rfl, hp1n, e, he, rfl, by omega, by omega⟩⟩
        rw [ltF (by omega) (by omega), lt_eq, va_up_up, nI_s]
    · refine ⟨d, p + 1, ?_, hpn, Or.inl ⟨rfl, rfl, fun e he => absurd ⟨e, he⟩ hno⟩⟩
      rw [in_nd hno, bd_some, if0]
end GR
section SIM
variable {N n p t q : Nat} {Tx M0 M S B : tS} {rd : Nat → Nat} {A : tA}
/-- no digit where a number must begin -/
theorem f_nodig (hn : n ≤ 80) (hp : p ≤ n) {pt : Nat} (h2 : S 2 0 = nI pt) (hpt : pt < 2) (h3 : S 3 0 = -1) (hd : ¬ ∃ d, dgN (hcT Tx n p) d) : rsT N Tx n p S B (nI p, S, B) := by
  have e0 := en_0 (N := N) (S := S) (B := B) h2 hpt (Or.inr h3)
  by_cases z : p < n
  · have ex : hcT Tx n p = Tx 0 p := if_pos z
    rw [ex] at hd
    refine rs_fault hn z ?_
    by_cases q42 : Tx 0 p = 42
    · rw [q42]
      exact tk_s0 e0
    by_cases q44 : Tx 0 p = 44
    · rw [q44]
      exact tk_c0 h2 (by omega) (Or.inr h3)
    by_cases q59 : Tx 0 p = 59
    · rw [q59]
      exact tk_m0 e0
    exact tk_other q42 q44 q59 hd
  · have : p = n := by omega
    subst this
    exact rs_end0 hn e0
/-- the class reads the same number -/
theorem c_num (hn : n ≤ 80) {pt most d v p' : Nat} (hmost : most = if pt = 0 then 29 else 19) (h2 : S 2 0 = nI pt) (hpt : pt < 2) (h3 : S 3 0 = -1) (hd : dgN (hcT Tx n p) d) (hpn : p < n) (h : (p' = p + 1 ∧ v = d) ∨ (p' = p + 2 ∧ p + 1 < n ∧ ∃ e, dgN (hcT Tx n (p + 1)) e ∧ v = 10 * d + e ∧ 0 < d ∧ v ≤ most)) : goT N Tx n p S B p' (va_up S 3 (fun _ => nI v)) B := by
  have ex : hcT Tx n p = Tx 0 p := if_pos hpn
  rw [ex] at hd
  have hd10 := hd.1
  have g1 := go_step (N := N) (S := S) (B := B) hn hpn (tk_d0 hd h2 hpt h3)
  rcases h with ⟨rfl, rfl⟩ | ⟨rfl, hp1, e, he, rfl, hd0, hv⟩
  · exact g1
  · have ex1 : hcT Tx n (p + 1) = Tx 0 (p + 1) := if_pos hp1
    rw [ex1] at he
    have k := tk_d1 (N := N) (S := va_up S 3 (fun _ => nI d)) (B := B) (pt := pt) (v := d) he (by rw [va_up_ne _ _ (by decide)]; exact h2) hpt (by rw [va_up_self]) (by omega)
    rw [if_neg (by rw [← hmost]; omega), va_up_up] at k
    exact go_t g1 (go_step hn hp1 k)
/-- no comma behind the column -/
theorem f_nocomma (hn : n ≤ 80) (hp : p ≤ n) {v : Nat} (h2 : S 2 0 = nI 0) (h3 : S 3 0 = nI v) (hv : v < 1000) (h44 : ¬ hcT Tx n p = 44) (hs : ∀ e, dgN (hcT Tx n p) e → v = 0 ∨ 29 < 10 * v + e) : rsT N Tx n p S B (nI p, S, B) := by
  have e0 := en_0 (N := N) (S := S) (B := B) h2 (by decide) (Or.inl rfl)
  by_cases z : p < n
  · have ex : hcT Tx n p = Tx 0 p := if_pos z
    rw [ex] at hs h44
    refine rs_fault hn z ?_
    rcases dg_c (Tx 0 p) with ⟨d, hd⟩ | hd
    · rw [tk_d1 hd h2 (by decide) h3 hv, if_pos (by simpa using hs d hd)]
    by_cases q42 : Tx 0 p = 42
    · rw [q42]
      exact tk_s0 e0
    by_cases q59 : Tx 0 p = 59
    · rw [q59]
      exact tk_m0 e0
    exact tk_other q42 h44 q59 hd
  · have : p = n := by omega
    subst this
    exact rs_end0 hn e0
/-- behind a note -/
def anS (A : tA) (Tx : tS) (n p t q : Nat) (rd : Nat → Nat) (S B : tS) : Prop := okA (bdS A rd (t + 1)) ∧ q = dpA (bdS A rd (t + 1)) 0 ∧ ((S 2 0 = nI 1 ∧ S 1 0 = nI t ∧ S 3 0 = nI (rd (3 * t + 1)) ∧ S 4 0 = nI (rd (3 * t)) ∧ RB B (bdS A rd t) ∧ okA (bdS A rd t) ∧ rd (3 * t + 2) = 0 ∧ (∀ e, dgN (hcT Tx n p) e → rd (3 * t + 1) = 0 ∨ 19 < 10 * rd (3 * t + 1) + e) ∧ t < 20 ∧ rd (3 * t + 1) < 20) ∨ (S 2 0 = nI 2 ∧ S 1 0 = nI (t + 1) ∧ RB B (bdS A rd (t + 1)))) ∧ (hcT Tx n p = 42 → A 7 1 ≤ q ∨ A 7 2 ≤ rd (3 * t + 2))
theorem an_en (hN : 1000 ≤ N) (h : anS A Tx n p t q rd S B) : ∃ S' B', f_X1_endsNote N S B = some (1, S', B') ∧ S' 1 0 = nI (t + 1) ∧ S' 2 0 = nI 2 ∧ RB B' (bdS A rd (t + 1)) := by
  obtain ⟨h1, h2, h3, h4⟩ := h
  rcases h3 with ⟨a1, a2, a3, a4, a5, a6, a7, a8, a9, a10⟩ | ⟨a1, a2, a3⟩
  · obtain ⟨S', B', e, b1, b2, b3⟩ := en_1 hN a2 a1 a3 a4 a5 a6 (by rw [bdS_n]; exact a9) (by omega)
    refine ⟨S', B', e, b1, b2, ?_⟩
    show RB B' (noA _ _ _ _)
    rw [a7, noA_0]
    exact b3
  · exact ⟨S, B, en_2 a1, a2, a1, a3⟩
theorem an_fault (hN : 1000 ≤ N) (hn : n ≤ 80) (hp : p < n) (h : anS A Tx n p t q rd S B) (h59 : ¬ Tx 0 p = 59) : ∃ S' B', rsT N Tx n p S B (nI p, S', B') := by
  obtain ⟨S', B', e, b1, b2, b3⟩ := an_en hN h
  obtain ⟨h1, h2, h3, h4⟩ := h
  have ex : hcT Tx n p = Tx 0 p := if_pos hp
  rw [ex] at h4
  by_cases q42 : Tx 0 p = 42
  · have hl := h4 q42
    rw [h2, ← bdS_7 A rd 1 t, ← bdS_7 A rd 2 t] at hl
    obtain ⟨B2, k⟩ := tk_s2 (N := N) (A := bdS A rd t) (c := rd (3 * t)) (r := rd (3 * t + 1)) (d := rd (3 * t + 2)) hN e b3 h1 hl
    exact ⟨_, _, rs_fault hn hp (by rw [q42]; exact k)⟩
  have hsd : ∀ d, dgN (Tx 0 p) d → f_X1_takes N S B (Tx 0 p) = some (0, S, B) := by
    intro d hd
    rcases h3 with ⟨a1, a2, a3, a4, a5, a6, a7, a8, a9, a10⟩ | ⟨a1, a2, a3⟩
    · rw [tk_d1 hd a1 (by decide) a3 (by omega), if_neg (show ¬ (1 : Nat) = 0 by decide), if_pos (a8 d (by rw [ex]; exact hd))]
    · exact tk_d2 hd a1
  rcases dg_c (Tx 0 p) with ⟨d, hd⟩ | hd
  · exact ⟨_, _, rs_fault hn hp (hsd d hd)⟩
  by_cases q44 : Tx 0 p = 44
  · refine ⟨_, _, rs_fault hn hp (S1 := S) (B1 := B) ?_⟩
    rw [q44]
    rcases h3 with ⟨a1, -⟩ | ⟨a1, -⟩
    · exact tk_c0 a1 (by decide) (Or.inl (by decide))
    · exact tk_c0 a1 (by decide) (Or.inl (by decide))
  exact ⟨_, _, rs_fault hn hp (tk_other q42 q44 h59 hd)⟩
/-- the state while stars are read -/
def stS (A : tA) (Tx : tS) (n p t c r d : Nat) (rd : Nat → Nat) (S B : tS) : Prop := (d = 0 ∧ S 2 0 = nI 1 ∧ S 1 0 = nI t ∧ S 3 0 = nI r ∧ S 4 0 = nI c ∧ RB B (bdS A rd t) ∧ ∀ e, dgN (hcT Tx n p) e → r = 0 ∨ 19 < 10 * r + e) ∨ (0 < d ∧ S 2 0 = nI 2 ∧ S 1 0 = nI (t + 1) ∧ RB B (noA (bdS A rd t) c r d))
theorem m_stars (hN : 1000 ≤ N) (hn : n ≤ 80) (hS : RS (M0 0) A) (okA0 : okA A) (h6 : M0 6 0 = nI n) (h5 : ∀ j, j < n → M0 5 j = Tx 0 j) {c r : Nat} (hc : c < 30) (hr : r < 20) (ht : t < 20) (hok : okA (bdS A rd t)) (hq : q = dpA (bdS A rd t) 0) (hp : p ≤ n) (hm : rdS M0 M p t q rd) (hM : M 10 = fun _ => nI p) (hst : stS A Tx n p t c r 0 rd S B) : ∃ p' d M' S' B', p ≤ p' ∧ p' ≤ n ∧ d ≤ 9 ∧ rdS M0 M' p' t (q + d) rd ∧ stS A Tx n p' t c r d rd S' B' ∧ goT N Tx n p S B p' S' B' ∧ (hcT Tx n p' = 42 → A 7 1 ≤ q + d ∨ A 7 2 ≤ d) ∧ f_X6_takesNote_41 N N (nI c) (nI r) 0 M = f_X6_takesNote_89 N (nI c) (nI r) (nI d) M' := by
  have o4 := okA0.2.2.2.1
  have o5 := okA0.2.2.2.2.1
  have hq180 : q ≤ 180 := by rw [hq]; exact dpA_le hok (by decide)
  obtain ⟨y, ⟨p', d, S', B', y1, y2, y3, y4, y5, y6, y7, y8⟩, e⟩ := lp_wh (F := fun k (x : Int32 × tS) => f_X6_takesNote_41 N k (nI c) (nI r) x.1 x.2) (fun x => ∃ p' d S' B', x.1 = nI d ∧ p ≤ p' ∧ p' ≤ n ∧ d ≤ A 7 2 ∧ rdS M0 x.2 p' t (q + d) rd ∧ stS A Tx n p' t c r d rd S' B' ∧ goT N Tx n p S B p' S' B' ∧ x.2 10 = fun _ => nI p') (fun x => ∃ p' d S' B', x.1 = nI d ∧ p ≤ p' ∧ p' ≤ n ∧ d ≤ A 7 2 ∧ rdS M0 x.2 p' t (q + d) rd ∧ stS A Tx n p' t c r d rd S' B' ∧ goT N Tx n p S B p' S' B' ∧ (hcT Tx n p' = 42 → A 7 1 ≤ q + d ∨ A 7 2 ≤ d)) (fun x => 100 - x.1.toNatClampNeg) (fun x => f_X6_takesNote_89 N (nI c) (nI r) x.1 x.2) (by
    rintro k ⟨x, T⟩ ⟨p', d, S', B', y1, y2, y3, y4, y5, y6, y7, y8⟩
    simp only at y1 y5 y8
    subst y1
    have hT0 : RS (T 0) A := by rw [y5.1 0 (by decide) (by decide) (by decide) (by decide)]; exact hS
    have e4 : T 0 4 = nI (A 7 2) := hT0.2.2.1 2 (by decide)
    have e3 : T 0 3 = nI (A 7 1) := hT0.2.2.1 1 (by decide)
    have e13 : T 13 0 = nI (q + d) := y5.2.2.2.1
    by_cases z1 : A 7 2 ≤ d
    · left
      refine ⟨?_, p', d, S', B', rfl, y2, y3, y4, y5, y6, y7, fun _ => Or.inr z1⟩
      show f_X6_takesNote_41b N (f_X6_takesNote_41 N k) (nI c) (nI r) (nI d) T = _
      unfold f_X6_takesNote_41b
      rw [cl_4, e4, leT z1 (by omega)]
    by_cases z2 : A 7 1 ≤ q + d
    · left
      refine ⟨?_, p', d, S', B', rfl, y2, y3, y4, y5, y6, y7, fun _ => Or.inl z2⟩
      show f_X6_takesNote_41b N (f_X6_takesNote_41 N k) (nI c) (nI r) (nI d) T = _
      unfold f_X6_takesNote_41b
      rw [cl_4, e4, leF (by omega) (by omega), cl_3, e3, e13, leT z2 (by omega)]
    by_cases z3 : hcT Tx n p' = 42
    · right
      obtain ⟨hpn, hx, ek⟩ := g_takes1 (N := N) hn y3 h6 h5 y5 (x := 42) (by decide) z3
      have hen : ∃ S1 B1, f_X1_endsNote N S' B' = some (1, S1, B1) ∧ S1 1 0 = nI (t + 1) ∧ S1 2 0 = nI 2 ∧ RB B1 (noA (bdS A rd t) c r d) := by
        rcases y6 with ⟨a0, a1, a2, a3, a4, a5, a6⟩ | ⟨a0, a1, a2, a3⟩
        · subst a0
          obtain ⟨S1, B1, en, b1, b2, b3⟩ := en_1 hN a2 a1 a3 a4 a5 hok (by rw [bdS_n]; exact ht) (by omega)
          exact ⟨S1, B1, en, b1, b2, by rw [noA_0]; exact b3⟩
        · exact ⟨S', B', en_2 a1, a2, a1, a3⟩
      obtain ⟨S1, B1, en, s1, s2, b1⟩ := hen
      obtain ⟨B2, k1, k2⟩ := tk_s1 (A := bdS A rd t) (c := c) (r := r) (d := d) hN en b1 (ok_no hok (by rw [bdS_n]; exact ht) hc hr (by omega)) (by rw [dp_no, ← hq, bdS_7]; omega) (by rw [bdS_7]; omega)
      refine ⟨(nI (d + 1), va_up (va_up T 10 (fun _ => nI (p' + 1))) 13 (fun _ => nI (q + (d + 1)))), ?_, ⟨p' + 1, d + 1, S1, B2, rfl, by omega, by omega, by omega, rdS_q (rdS_p y5), Or.inr ⟨by omega, s2, s1, k2⟩, go_t y7 (go_step hn hpn (by rw [hx]; exact k1)), ?_⟩, ?_⟩
      · show f_X6_takesNote_41b N (f_X6_takesNote_41 N k) (nI c) (nI r) (nI d) T = f_X6_takesNote_41 N k (nI c) (nI r) (nI (d + 1)) (va_up (va_up T 10 (fun _ => nI (p' + 1))) 13 (fun _ => nI (q + (d + 1))))
        unfold f_X6_takesNote_41b
        rw [cl_4, e4, leF (by omega) (by omega), cl_3, e3, e13, leF (by omega) (by omega), ek, bd2_some, if1, va_up_ne _ _ (by decide : (13 : Nat) ≠ 10), e13, nI_s, nI_s]
        rfl
      · dsimp only
        rw [va_up_ne _ _ (by decide : (10 : Nat) ≠ 13), va_up_self]
      · dsimp only
        rw [clI (by omega), clI (by omega)]
        omega
    · left
      refine ⟨?_, p', d, S', B', rfl, y2, y3, y4, y5, y6, y7, fun h => absurd h z3⟩
      show f_X6_takesNote_41b N (f_X6_takesNote_41 N k) (nI c) (nI r) (nI d) T = _
      unfold f_X6_takesNote_41b
      rw [cl_4, e4, leF (by omega) (by omega), cl_3, e3, e13, leF (by omega) (by omega), g_takes0 (N := N) hn y3 h6 h5 y5 z3, bd2_some, if0, va_up_eq y8.symm]) N (nI 0, M) ⟨p, 0, S, B, rfl, Nat.le_refl _, hp, by omega, hm, hst, go_r, hM⟩ (by
      dsimp only
      rw [clI (by omega)]
      omega)
  refine ⟨p', d, y.2, S', B', y2, y3, by omega, y5, y6, y7, y8, ?_⟩
  rw [← y1]
  exact e
end SIM
