/-! whether a note holds its heap; note -/
theorem ct_imp {p q : Nat → Bool} : ∀ {n : Nat}, (∀ i, i < n → p i = true → q i = true) → ct p n ≤ ct q n
  | 0, _ => Nat.le_refl _
  | n + 1, h => by
    rw [ct_succ, ct_succ]
    have h1 := ct_imp (n := n) (fun i hi => h i (by omega))
    have h2 := h n (by omega)
    cases hp : p n with
    | false => simp; omega
    | true => rw [h2 hp]; omega
def upN (i j : Nat) : Nat := if j < i then j else j + 1
def dnN (i j : Nat) : Nat := if j < i then j else j - 1
theorem up_dn {i j : Nat} (h : j ≠ i) : upN i (dnN i j) = j := by
  unfold upN dnN
  by_cases q : j < i
  · rw [if_pos q, if_pos q]
  · rw [if_neg q, if_neg (by omega)]
    omega
theorem dn_up (i j : Nat) : dnN i (upN i j) = j := by
  unfold upN dnN
  by_cases q : j < i
  · rw [if_pos q, if_pos q]
  · rw [if_neg q, if_neg (by omega)]
    omega
theorem up_ne (i j : Nat) : upN i j ≠ i := by
  unfold upN
  split <;> omega
theorem up_lt {i j n : Nat} (hi : i < n) (h : j < n - 1) : upN i j < n := by
  unfold upN
  split <;> omega
theorem dn_lt {i j n : Nat} (hi : i < n) (h : j < n) (hj : j ≠ i) : dnN i j < n - 1 := by
  unfold dnN
  split <;> omega
theorem up_mono {i a b : Nat} (h : a ≤ b) : upN i a ≤ upN i b := by
  unfold upN
  split <;> split <;> omega
theorem ct_skip {p : Nat → Bool} {i : Nat} (hp : p i = false) : ∀ {m : Nat}, i ≤ m → ct p (m + 1) = ct (fun k => p (upN i k)) m
  | 0, h => by
    have : i = 0 := by omega
    subst this
    rw [ct_succ, hp]
    rfl
  | m + 1, h => by
    rw [ct_succ p (m + 1)]
    by_cases q : i = m + 1
    · subst q
      rw [hp]
      show ct p (m + 1) + 0 = _
      rw [Nat.add_zero]
      refine ct_congr (fun k hk => ?_)
      unfold upN
      rw [if_pos hk]
    · rw [ct_skip hp (by omega), ct_succ]
      have : upN i m = m + 1 := by
        unfold upN
        rw [if_neg (by omega)]
      rw [this]
theorem cn_map {V V' : Nat → Prop} {E E' : Nat → Nat → Prop} {i j : Nat} (φ : Nat → Nat) (h : Cn V E i j) (hE : ∀ a b, V a → V b → E a b → V' (φ a) ∧ V' (φ b) ∧ E' (φ a) (φ b)) : Cn V' E' (φ i) (φ j) :=
  h (fun x => Cn V' E' (φ i) (φ x)) cn_r (fun a b ha hb p e => by
    obtain ⟨x, y, z⟩ := hE a b ha hb e
    exact cn_t p (cn_1 x y z))
/-- the labels without a note -/
theorem lo_skip {n i : Nat} {E E' : Nat → Nat → Prop} {L1 : Nat → Nat} (hi : i < n) (hn : n ≤ 20) (h : Lo (n - 1) 1000 E' L1) (hE : ∀ a b, a < n - 1 → b < n - 1 → (E' a b ↔ E (upN i a) (upN i b))) : Lo n i E (fun j => upN i (L1 (dnN i j))) ∧ nmH n i (fun j => upN i (L1 (dnN i j))) = nmH (n - 1) 1000 L1 := by
  have v1 : ∀ j, j < n → j ≠ i → nV (n - 1) 1000 (dnN i j) := fun j hj hji => ⟨dn_lt hi hj hji, by have := dn_lt hi hj hji; omega⟩
  refine ⟨⟨fun j hj => ?_, fun a b ha hb => ?_⟩, ?_⟩
  · obtain ⟨x, y, z⟩ := h.1 _ (v1 j hj.1 hj.2)
    refine ⟨?_, up_ne _ _, ?_⟩
    · have := up_mono (i := i) x
      rw [up_dn hj.2] at this
      exact this
    · show upN i (L1 (dnN i (upN i (L1 (dnN i j))))) = upN i (L1 (dnN i j))
      rw [dn_up, z]
  · have key := h.2 _ _ (v1 a ha.1 ha.2) (v1 b hb.1 hb.2)
    constructor
    · intro e
      have e2 : L1 (dnN i a) = L1 (dnN i b) := by
        have := congrArg (dnN i) e
        simp only [dn_up] at this
        exact this
      have := cn_map (V' := nV n i) (E' := E) (upN i) (key.mp e2) (fun x y hx hy he => ⟨⟨up_lt hi hx.1, up_ne _ _⟩, ⟨up_lt hi hy.1, up_ne _ _⟩, (hE x y hx.1 hy.1).mp he⟩)
      rw [up_dn ha.2, up_dn hb.2] at this
      exact this
    · intro c
      show upN i (L1 (dnN i a)) = upN i (L1 (dnN i b))
      rw [key.mpr (cn_map (V' := nV (n - 1) 1000) (E' := E') (dnN i) c (fun x y hx hy he => ⟨v1 x hx.1 hx.2, v1 y hy.1 hy.2, (hE _ _ (dn_lt hi hx.1 hx.2) (dn_lt hi hy.1 hy.2)).mpr (by rw [up_dn hx.2, up_dn hy.2]; exact he)⟩))]
  · obtain ⟨m, rfl⟩ : ∃ m, n = m + 1 := ⟨n - 1, by omega⟩
    unfold nmH
    rw [ct_skip (show rtB i (fun j => upN i (L1 (dnN i j))) i = false from decide_eq_false (fun w => w.1 rfl)) (by omega)]
    refine ct_congr (fun k hk => ?_)
    unfold rtB
    simp only [dn_up]
    have hk' : k < m := hk
    by_cases q : L1 k = k
    · rw [decide_eq_true ⟨up_ne _ _, by rw [q]⟩, decide_eq_true ⟨by omega, q⟩]
    · rw [decide_eq_false (fun w => q (by
        have := congrArg (dnN i) w.2
        rw [dn_up, dn_up] at this
        exact this)), decide_eq_false (fun w => q w.2)]
/-- a note that is alone in its heap parts nothing -/
theorem lo_alone {n i : Nat} {E : Nat → Nat → Prop} {L L2 : Nat → Nat} (hi : i < n) (hn : n ≤ 20) (h : Lo n 1000 E L) (h2 : Lo n i E L2) (ha : ∀ k, k < n → k ≠ i → L k ≠ L i) : nmH n i L2 ≤ nmH n 1000 L := by
  refine ct_imp (fun k hk hr => ?_)
  obtain ⟨r1, r2⟩ := of_decide_eq_true hr
  refine decide_eq_true ⟨by omega, ?_⟩
  have vk : nV n 1000 k := ⟨hk, by omega⟩
  have vi : nV n 1000 i := ⟨hi, by omega⟩
  obtain ⟨a1, a2, a3⟩ := h.1 k vk
  have vj : nV n 1000 (L k) := ⟨by omega, by omega⟩
  have hcn := (h.2 k (L k) vk vj).mp a3.symm
  have hji : Cn (nV n 1000) E k (L k) ∧ L k ≠ i ∧ Cn (nV n i) E k (L k) := by
    refine hcn (fun x => Cn (nV n 1000) E k x ∧ x ≠ i ∧ Cn (nV n i) E k x) ⟨cn_r, r1, cn_r⟩ (fun a b ha' hb p e => ?_)
    have c1 := cn_t p.1 (cn_1 ha' hb e)
    have bi : b ≠ i := by
      intro w
      subst w
      exact ha k hk r1 ((h.2 k b vk vi).mpr c1)
    exact ⟨c1, bi, cn_t p.2.2 (cn_1 ⟨ha'.1, p.2.1⟩ ⟨hb.1, bi⟩ e)⟩
  have e2 := (h2.2 k (L k) ⟨hk, r1⟩ ⟨by omega, hji.2.1⟩).mpr hji.2.2
  have := (h2.1 (L k) ⟨by omega, hji.2.1⟩).1
  omega
theorem hn_one {h : Nat → Nat} {i n : Nat} (hi : i < n) (h1 : hnA h (h i) n = 1) : ∀ k, k < n → k ≠ i → h k ≠ h i := by
  intro k hk hki e
  have c1 := ct_ins (mk := fun _ => false) (b := i) rfl hi
  have c2 := ct_ins (mk := insB (fun _ => false) i) (b := k) (by rw [insB_o hki]) hk
  rw [ct_false] at c1
  have := ct_imp (p := insB (insB (fun _ => false) i) k) (q := fun x => h x == h i) (n := n) (fun x hx hp => by
    by_cases q : x = k
    · rw [q, e]; simp
    · rw [insB_o q] at hp
      by_cases q2 : x = i
      · rw [q2]; simp
      · rw [insB_o q2] at hp
        cases hp)
  have h1' : ct (fun x => h x == h i) n = 1 := h1
  omega
section HOL
variable {N : Nat} {B M Tn Tr E F : tS} {A : tA}
theorem s_dropE (hN : 1000 ≤ N) (hB : RB B A) (ok : okA A) {c : Nat} (hc : c ≤ A 5 0) : ∃ B' A', f_X0_removeThemeIfEmpty N B (enc c) = some B' ∧ RB B' A' ∧ okA A' ∧ ∀ f j, f ≠ 3 → f ≠ 5 → f ≠ 6 → A' f j = A f j := by
  have o2 := ok.2.1
  have hnt : ntA A c ≤ A 0 0 := ct_le _ _
  have o1 := ok.1
  unfold f_X0_removeThemeIfEmpty
  rw [s_notesOfTheme hN hB ok (by omega), bd_some]
  cases c with
  | zero =>
    rw [if_pos (show enc 0 = -5 from rfl)]
    exact ⟨B, A, rfl, hB, ok, fun _ _ _ _ _ => rfl⟩
  | succ t =>
    have n5 : ¬ enc (t + 1) = -5 := fun z => by
      have := (enc_n5 (by omega)).mp z
      omega
    rw [if_neg n5]
    by_cases q : ntA A (t + 1) = 0
    · rw [q, if_pos (show nI 0 ≤ 0 by decide), enc_s]
      have hn : ∀ i, i < A 0 0 → A 3 i ≠ t + 1 := by
        intro i hi z
        have := ct_zero.mp q i hi
        simp [z] at this
      obtain ⟨B', e1, hB'⟩ := s_drop hN hB ok (by omega) hn
      rw [e1]
      exact ⟨B', _, rfl, hB', ok_drop ok (by omega) hn, fun f j h3 h5 h6 => by simp [dropA, h3, h5, h6]⟩
    · rw [if_neg (show ¬ nI (ntA A (t + 1)) ≤ 0 by rw [I_le, I_0, nI_T (by omega)]; omega)]
      exact ⟨B, A, rfl, hB, ok, fun _ _ _ _ _ => rfl⟩
theorem m_holds (hN : 1000 ≤ N) (hB : RB B A) (hS : RS (M 0) A) (ok : okA A) {i : Nat} (hi : i < A 0 0) : ∃ (v : Nat) (Tr' E' F' M' : tS), v ≤ 1 ∧ f_X5_holdsItsHeap N Tn B Tr E F (nI i) = some (nI v, Tr', E', F') ∧ f_X6_holdsTogether N M (nI i) = some (nI v, M') ∧ ∀ k, k < 7 → M' k = M k := by
  have o1 := ok.1
  have o3 := ok.2.2.1
  obtain ⟨E', M2, L, h1, h2, h3, h4, h5, h6⟩ := m_heaps hN hB hS ok Tn E
  have hS2 : RS (M2 0) A := by rw [h5 0 (by decide) (by decide) (by decide)]; exact hS
  have nml := nm_le (A 0 0) 1000 L
  have hh : ∀ j, j < A 0 0 → hpA 1000 L j < 1000 := fun j hj => by
    have := hp_lt h6 hj (by omega)
    omega
  -- the class
  obtain ⟨C, eC, hC⟩ := s_copy (N := N) (B := Tr) hB ok
  obtain ⟨C1, e1, hC1⟩ := s_rm hN hC ok hi
  have okr := ok_rm ok hi
  have c3 : A 3 i ≤ rmA A i 5 0 := by
    have := (ok.2.2.2.2.2.1 i hi).2.2.1
    simpa [rmA] using this
  obtain ⟨C2, A2, e2, hC2, ok2, hA2⟩ := s_dropE hN hC1 okr c3
  have n2 : A2 0 0 = A 0 0 - 1 := hA2 0 0 (by decide) (by decide) (by decide)
  have r2 : A2 7 0 = A 7 0 := by
    rw [hA2 7 0 (by decide) (by decide) (by decide)]
    simp [rmA]
  obtain ⟨F', L1, e3, g1, hL1⟩ := s_find hN hC2 ok2 (r := A2 7 0) (by omega) F
  rw [n2, r2] at hL1
  have up1 : ∀ j, A2 1 j = A 1 (upN i j) := fun j => by
    rw [hA2 1 j (by decide) (by decide) (by decide), rmA_1]
    unfold upN
    by_cases q : i ≤ j
    · rw [if_pos q, if_neg (by omega)]
    · rw [if_neg q, if_pos (by omega)]
  have up2 : ∀ j, A2 2 j = A 2 (upN i j) := fun j => by
    rw [hA2 2 j (by decide) (by decide) (by decide), rmA_2]
    unfold upN
    by_cases q : i ≤ j
    · rw [if_pos q, if_neg (by omega)]
    · rw [if_neg q, if_pos (by omega)]
  obtain ⟨hL2, hnm⟩ := lo_skip (E := eA A (A 7 0)) hi o1 hL1 (fun a b _ _ => by
    unfold eA dA
    rw [up1, up1, up2, up2])
  have nml2 := nm_le (A 0 0 - 1) 1000 L1
  -- the reference
  obtain ⟨M3, k1, k2, k3⟩ := g_laysH hN hS2 ok (r := A 7 0) (c := i) (bu := nI i) (by omega) (fun j hj => ⟨fun w => nI_inj (by omega) (by omega) w, fun w => by rw [w]⟩) hL2
  have e24 : ∀ t0 : Int32, f_X6_holdsTogether_24 N (nI i) (nI (nmH (A 0 0) 1000 L)) t0 M2 = (if t0 = 0 then (if nI (nmH (A 0 0 - 1) 1000 L1) ≤ nI (nmH (A 0 0) 1000 L) then some ((0 : Int32), M3) else some ((1 : Int32), M3)) else some ((0 : Int32), M3)) := by
    intro t0
    unfold f_X6_holdsTogether_24
    rw [cl_2, show M2 0 2 = nI (A 7 0) from hS2.2.2.1 0 (by decide), k1, bd2_some, hnm]
  have fr : ∀ k, k < 7 → M3 k = M k := fun k hk => by rw [k2 k (by omega) (by omega) (by omega), h5 k (by omega) (by omega) (by omega)]
  unfold f_X5_holdsItsHeap f_X6_holdsTogether
  rw [h1, h2, bd2_some, bd2_some, eC, bd_some, e1, e2, bd_some, bd_some, cl_0, hC2.2.2.1 0 (by decide), e3, bd2_some, n2, gdI (by omega) (by decide), clI (by omega), h4 i hi, g_notesIn hN hS2.1 h4 o1 hh (hh i hi), bd_some]
  by_cases qa : hnA (hpA 1000 L) (hpA 1000 L i) (A 0 0) = 1
  · have hle : nmH (A 0 0 - 1) 1000 L1 ≤ nmH (A 0 0) 1000 L := by
      rw [← hnm]
      exact lo_alone hi o1 h6 hL2 (fun k hk hki w => hn_one hi qa k hk hki (by unfold hpA; rw [w]))
    rw [leT hle (by omega), if_pos (show nI (hnA (hpA 1000 L) (hpA 1000 L i) (A 0 0)) = 1 by rw [qa]; rfl), e24, if1]
    exact ⟨0, _, _, _, _, by omega, rfl, rfl, fr⟩
  · have hna : hnA (hpA 1000 L) (hpA 1000 L i) (A 0 0) ≤ A 0 0 := ct_le _ _
    rw [if_neg (show ¬ nI (hnA (hpA 1000 L) (hpA 1000 L i) (A 0 0)) = 1 from fun w => qa (nI_inj (by omega) (by omega) (show _ = nI 1 from w))), e24, if0]
    by_cases q : nmH (A 0 0 - 1) 1000 L1 ≤ nmH (A 0 0) 1000 L
    · rw [leT q (by omega), leT q (by omega)]
      exact ⟨0, _, _, _, _, by omega, rfl, rfl, fr⟩
    · rw [leF (by omega) (by omega), leF (by omega) (by omega)]
      exact ⟨1, _, _, _, _, by omega, rfl, rfl, fr⟩
end HOL
theorem m_note {N : Nat} (hN : 1000 ≤ N) {Tn B Sn Tx Tr E F Nm Bt M : tS} {Hs : tH} (hR : Rel Tn B Hs Sn Tx Tr E F Nm Bt M) (p0 p1 : Int32) : ∃ (r : Int32) (Trz : tS) (Ez : tS) (Fz : tS) (Mz : tS), f_X5_note N Tn B Tr E F p0 p1 = some (r, Trz, Ez, Fz) ∧ f_X6_note N M p0 p1 = some (r, Mz) ∧ Rel Tn B Hs Sn Tx Trz Ez Fz Nm Bt Mz := by
  have hR0 := hR
  obtain ⟨⟨A, ok, hB, hS⟩, -, -, -⟩ := hR
  have o1 := ok.1
  have o2 := ok.2.1
  unfold f_X5_note f_X6_note
  rcases note_c (N := N) hB hS ok p0 with ⟨e1, e2⟩ | ⟨i, hi, rfl, e1, e2⟩
  · rw [e1, e2, bd_some, bd_some, if0, if0]
    exact ⟨_, _, _, _, _, rfl, rfl, hR0⟩
  rw [e1, e2, bd_some, bd_some, if1, if1]
  by_cases q0 : p1 = 0
  · rw [if_pos q0, if_pos q0, q0, g_of1 hS ok hi, bd_some, gdI (by omega) (by decide), clI (by omega), (hB.2.2.2.1 i hi).1]
    exact ⟨_, _, _, _, _, rfl, rfl, hR0⟩
  rw [if_neg q0, if_neg q0]
  by_cases q1 : p1 = 1
  · rw [if_pos q1, if_pos q1, q1, g_of2 hS ok hi, bd_some, gdI (by omega) (by decide), clI (by omega), (hB.2.2.2.1 i hi).2.1]
    exact ⟨_, _, _, _, _, rfl, rfl, hR0⟩
  rw [if_neg q1, if_neg q1]
  by_cases q2 : p1 = 2
  · rw [if_pos q2, if_pos q2, s_dotsOn hN hB ok hi, g_dotsOf hN hS ok hi, bd_some, bd_some]
    exact ⟨_, _, _, _, _, rfl, rfl, hR0⟩
  rw [if_neg q2, if_neg q2]
  by_cases q3 : p1 = 3
  · obtain ⟨E', M2, L, h1, h2, h3, h4, h5, h6⟩ := m_heaps hN hB hS ok Tn E
    unfold f_X6_heapNow
    rw [if_pos q3, if_pos q3, h1, h2, bd2_some, bd2_some, gdI (by omega) (by decide), clI (by omega), gdJ (by omega) (by decide), bd2_some, h3.2.2 i hi, h4 i hi]
    exact ⟨_, _, _, _, _, rfl, rfl, Rel_rk hR0 (fun k hk => h5 k (by omega) (by omega) (by omega))⟩
  rw [if_neg q3, if_neg q3]
  by_cases q4 : p1 = 4
  · have b3 := (ok.2.2.2.2.2.1 i hi).2.2.1
    rw [if_pos q4, if_pos q4, g_themeOf hS ok hi, bd_some, bd_some, gdI (by omega) (by decide), clI (by omega), (hB.2.2.2.1 i hi).2.2.1]
    cases e : A 3 i with
    | zero =>
      rw [if_neg (fun w => (m1_ge0 (by omega)).mp w rfl)]
      exact ⟨_, _, _, _, _, rfl, rfl, hR0⟩
    | succ t =>
      rw [if_pos ((m1_ge0 (by omega)).mpr (by omega)), enc_s, show nI (t + 1) - 1 = nI t by rw [li_1, pk_sub (by omega)]; rfl]
      exact ⟨_, _, _, _, _, rfl, rfl, hR0⟩
  rw [if_neg q4, if_neg q4]
  by_cases q5 : p1 = 5
  · rw [if_pos q5, if_pos q5, s_near hN hB ok hi, g_near hN hS ok hi, bd_some, bd_some]
    exact ⟨_, _, _, _, _, rfl, rfl, hR0⟩
  rw [if_neg q5, if_neg q5]
  by_cases q6 : p1 = 6
  · obtain ⟨v, Tr', E', F', M', v1, v2, v3, v4⟩ := m_holds (Tn := Tn) (Tr := Tr) (E := E) (F := F) hN hB hS ok hi
    rw [if_pos q6, if_pos q6, v2, v3, bd4_some, bd2_some]
    rcases (by omega : v = 0 ∨ v = 1) with rfl | rfl
    · rw [if_pos (show nI 0 = 0 from rfl)]
      exact ⟨_, _, _, _, _, rfl, rfl, Rel_rk hR0 v4⟩
    · rw [if_neg (show ¬ nI 1 = 0 by decide)]
      exact ⟨_, _, _, _, _, rfl, rfl, Rel_rk hR0 v4⟩
  rw [if_neg q6, if_neg q6]
  exact ⟨_, _, _, _, _, rfl, rfl, hR0⟩
