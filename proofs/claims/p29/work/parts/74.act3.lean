/-! reachFor, ifDragged, load -/
theorem ct_lt_n {p : Nat → Bool} {i : Nat} : ∀ {n : Nat}, i < n → p i = false → ct p n < n
  | 0, h, _ => absurd h (Nat.not_lt_zero i)
  | n + 1, h, e => by
    rw [ct_succ]
    have hl := ct_le p n
    by_cases q : i = n
    · subst q
      rw [e]
      simp
      omega
    · have := ct_lt_n (n := n) (by omega) e
      split <;> omega
theorem ct_pos {p : Nat → Bool} {i n : Nat} (h : i < n) (e : p i = true) : 0 < ct p n := by
  apply Nat.pos_of_ne_zero
  intro w
  have := ct_zero.mp w i h
  rw [e] at this
  cases this
section RE
variable {N : Nat} {Tn B Sn Tr E F Nm : tS} {Hs : tH} {A : tA} {kn : Nat} {As : Nat → tA}
theorem t_reach_b (hN : 1000 ≤ N) {p : Nat} (hp : p < 1 ∨ 20 < p) (hp2 : p < 1000) : f_X5_reachFor N Tn B F (nI p) = some (-2, F) := by
  unfold f_X5_reachFor
  rw [li_1, li_20, wi_f (by omega) (by omega) (by omega) (by omega), bd_some, if0]
theorem t_reach (hN : 1000 ≤ N) (hB : RB B A) (ok : okA A) {p : Nat} (p1 : 1 ≤ p) (p2 : p ≤ 20) : ∃ R F', f_X5_reachFor N Tn B F (nI p) = some (nI R, F') ∧ R ≤ 48 ∧ (A 0 0 ≤ p → R = 0) := by
  have o1 := ok.1
  have mono : ∀ a b, a ≤ b → b < 1000 → nh A b ≤ nh A a := fun a b hab hb => nh_mono ok ok (by omega) hb rfl (fun x y _ _ h => Nat.le_trans h hab)
  have c48 : ∀ b, 48 ≤ b → b < 1000 → nh A b ≤ p := fun b h48 hb => Nat.le_trans (nm_one o1 (t_lo ok hb) (fun x y hx hy => Nat.le_trans (dA_le ok hx hy) h48)) p1
  have nl : ∀ r, nh A r ≤ A 0 0 := fun r => nh_le _ _
  have sf : ∀ r, r < 1000 → ∀ F, ∃ F', f_X2_find N F B (nI r) = some (nI (nh A r), F') := by
    intro r hr F
    obtain ⟨-, F', e, -⟩ := t_find hN hB ok hr F
    exact ⟨F', e⟩
  have two : ¬ ((2 : Int32) = 0) := by decide
  have cls : ∀ j, j < 6 → ∀ K t F, j + 2 < K → t + 2 * 2 ^ j ≤ 64 → (t = 0 ∨ p < nh A (t - 1)) → nh A (t + 2 * 2 ^ j - 1) ≤ p → ∃ R F', f_X5_reachFor_18 N Tn B (nI p) K (nI t - 1) (nI (2 ^ j)) F = some (nI R, F') ∧ R < 65 ∧ nh A R ≤ p ∧ (R = 0 ∨ p < nh A (R - 1)) := by
    intro j
    induction j with
    | zero =>
      intro _ K t F hK ht h1 h2
      obtain ⟨k, rfl⟩ : ∃ k, K = k + 2 := ⟨K - 2, by omega⟩
      obtain ⟨F', e⟩ := sf t (by omega) F
      have e2 : nI t - 1 + nI (2 ^ 0) = nI t := by
        show nI t - 1 + 1 = nI t
        grind
      have fin : ∀ u F, f_X5_reachFor_18 N Tn B (nI p) (k + 1) (nI u - 1) (nI 1 / 2) F = some (nI u, F) := by
        intro u F
        show f_X5_reachFor_18b N Tn B (nI p) (f_X5_reachFor_18 N Tn B (nI p) k) (nI u - 1) (nI 1 / 2) F = _
        unfold f_X5_reachFor_18b
        rw [show nI 1 / 2 = nI 0 by rw [li_2, pk_div (by omega) (by omega) (by omega)], if_pos (show nI 0 ≤ 0 by decide), show nI u - 1 + 1 = nI u by grind]
      have step : f_X5_reachFor_18 N Tn B (nI p) (k + 2) (nI t - 1) (nI (2 ^ 0)) F = (if nI (nh A t) ≤ nI p then f_X5_reachFor_18 N Tn B (nI p) (k + 1) (nI t - 1) (nI 1 / 2) F' else f_X5_reachFor_18 N Tn B (nI p) (k + 1) (nI t) (nI 1 / 2) F') := by
        show f_X5_reachFor_18b N Tn B (nI p) (f_X5_reachFor_18 N Tn B (nI p) (k + 1)) (nI t - 1) (nI (2 ^ 0)) F = _
        unfold f_X5_reachFor_18b f_X5_reachFor_44
        rw [if_neg (show ¬ nI (2 ^ 0) ≤ 0 by decide), e2, e, bd2_some, if_neg two, if_neg two]
      have := nl t
      rw [step]
      by_cases q : nh A t ≤ p
      · rw [leT q (by omega), fin]
        exact ⟨t, F', rfl, by omega, q, h1⟩
      · have h2' : nh A (t + 1) ≤ p := h2
        rw [leF (by omega) (by omega), show nI t = nI (t + 1) - 1 by rw [li_1, pk_sub (by omega)]; rfl, fin]
        exact ⟨t + 1, F', rfl, by omega, h2', Or.inr (by rw [Nat.add_sub_cancel]; omega)⟩
    | succ j ih =>
      intro hj K t F hK ht h1 h2
      obtain ⟨k, rfl⟩ : ∃ k, K = k + 1 := ⟨K - 1, by omega⟩
      have pj : 2 ^ (j + 1) = 2 * 2 ^ j := by rw [Nat.pow_succ]; omega
      have pp : 0 < 2 ^ j := Nat.pow_pos (by omega)
      obtain ⟨F', e⟩ := sf (t + 2 * 2 ^ j - 1) (by omega) F
      have e2 : nI t - 1 + nI (2 ^ (j + 1)) = nI (t + 2 * 2 ^ j - 1) := by
        rw [show nI t - 1 + nI (2 ^ (j + 1)) = nI t + nI (2 ^ (j + 1)) - 1 by grind, nI_add, li_1, pk_sub (by omega), pj]
      have hdv : nI (2 ^ (j + 1)) / 2 = nI (2 ^ j) := by
        rw [li_2, pk_div (by omega) (by omega) (by omega), show 2 ^ (j + 1) / 2 = 2 ^ j by omega]
      have step : f_X5_reachFor_18 N Tn B (nI p) (k + 1) (nI t - 1) (nI (2 ^ (j + 1))) F = (if nI (nh A (t + 2 * 2 ^ j - 1)) ≤ nI p then f_X5_reachFor_18 N Tn B (nI p) k (nI t - 1) (nI (2 ^ j)) F' else f_X5_reachFor_18 N Tn B (nI p) k (nI (t + 2 * 2 ^ j - 1)) (nI (2 ^ j)) F') := by
        show f_X5_reachFor_18b N Tn B (nI p) (f_X5_reachFor_18 N Tn B (nI p) k) (nI t - 1) (nI (2 ^ (j + 1))) F = _
        unfold f_X5_reachFor_18b f_X5_reachFor_44
        rw [if_neg (show ¬ nI (2 ^ (j + 1)) ≤ 0 by rw [I_le, I_0, nI_T (by omega)]; omega), e2, e, bd2_some, if_neg two, if_neg two, hdv]
      have := nl (t + 2 * 2 ^ j - 1)
      rw [step]
      by_cases q : nh A (t + 2 * 2 ^ j - 1) ≤ p
      · rw [leT q (by omega)]
        exact ih (by omega) k t F' (by omega) (by omega) h1 q
      · rw [leF (by omega) (by omega), show nI (t + 2 * 2 ^ j - 1) = nI (t + 2 * 2 ^ j) - 1 by rw [li_1, pk_sub (by omega)]]
        exact ih (by omega) k (t + 2 * 2 ^ j) F' (by omega) (by omega) (Or.inr (by omega)) (by
          rw [show t + 2 * 2 ^ j + 2 * 2 ^ j - 1 = t + 2 * 2 ^ (j + 1) - 1 by omega]
          exact h2)
  obtain ⟨R, F', c1, c2, c3, c4⟩ := cls 5 (by decide) N 0 F (by omega) (by decide) (Or.inl rfl) (c48 _ (by decide) (by decide))
  have c1' : f_X5_reachFor_18 N Tn B (nI p) N (-nI 1) 32 F = some (nI R, F') := c1
  refine ⟨R, F', ?_, ?_, ?_⟩
  · unfold f_X5_reachFor
    rw [li_1, li_20, wi_t (by omega) (by omega) (by omega), bd_some, if_neg (by decide)]
    exact c1'
  · apply Classical.byContradiction
    intro w
    rcases c4 with z | z
    · omega
    · have := c48 (R - 1) (by omega) (by omega)
      omega
  · intro hp
    rcases c4 with z | z
    · exact z
    · have := nl (R - 1)
      omega
theorem t_ifd_n (hB : RB B A) (ok : okA A) (c r w : Int32) : ∃ a b d, f_X5_ifDragged N Tn B Tr E F (nI (A 0 0)) c r w = some (-1, a, b, d) := by
  refine ⟨Tr, E, F, ?_⟩
  unfold f_X5_ifDragged
  rw [hasN_f hB ok, bd_some, if0]
theorem t_ifd_p (hB : RB B A) (ok : okA A) {i c r : Nat} (h : i < A 0 0) (hp : 30 ≤ c ∨ 20 ≤ r) (hc : c < 1000) (hr : r < 1000) (w : Int32) : ∃ a b d, f_X5_ifDragged N Tn B Tr E F (nI i) (nI c) (nI r) w = some (-1, a, b, d) := by
  refine ⟨Tr, E, F, ?_⟩
  unfold f_X5_ifDragged
  rw [hasN_t hB ok h, bd_some, if1, isPl_f hp (by omega) (by omega), bd_some, if0]
theorem t_ifd_w (hB : RB B A) (ok : okA A) {i c r : Nat} (h : i < A 0 0) (hc : c < 30) (hr : r < 20) : ∃ a b d, f_X5_ifDragged N Tn B Tr E F (nI i) (nI c) (nI r) (nI 3) = some (-2, a, b, d) := by
  refine ⟨Tr, E, F, ?_⟩
  unfold f_X5_ifDragged
  rw [hasN_t hB ok h, bd_some, if1, isPl_t hc hr, bd_some, if1, li_2, show (0 : Int32) = nI 0 from rfl, wi_f (by omega) (by omega) (by omega) (by omega), bd_some]
  rfl
theorem t_ifd (hN : 1000 ≤ N) (hB : RB B A) (ok : okA A) {i c r w : Nat} (hi : i < A 0 0) (hc : c < 30) (hr : r < 20) (hw : w < 3) : ∃ v, (∃ a b d, f_X5_ifDragged N Tn B Tr E F (nI i) (nI c) (nI r) (nI w) = some (nI v, a, b, d)) ∧ (w = 2 → v < A 0 0) ∧ (w ≠ 2 → 1 ≤ v ∧ v ≤ A 0 0) := by
  have o1 := ok.1
  have o3 := ok.2.2.1
  have nml := nh_le A (A 7 0)
  have hh := hp_b ok (r := A 7 0) (by omega)
  obtain ⟨E', h1, h3⟩ := t_heaps (Tn := Tn) (E := E) hN hB ok
  obtain ⟨C, eC, hC⟩ := s_copy (N := N) (B := Tr) hB ok
  obtain ⟨C1, e3, hC1, ok1⟩ := s_move (N := N) hC ok hi hc hr
  have n1 : mvA A i c r 0 0 = A 0 0 := mvA_0 A i c r (by decide) (by decide)
  have r1 : mvA A i c r 7 0 = A 7 0 := mvA_0 A i c r (by decide) (by decide)
  obtain ⟨-, F', e4, g1⟩ := t_find hN hC1 ok1 (r := mvA A i c r 7 0) (by omega) F
  have g1' := g1
  rw [n1, r1] at g1
  have nml1 := nh_le (mvA A i c r) (A 7 0)
  have hh1 := hp_b ok1 (r := A 7 0) (by omega)
  rw [n1] at nml1 hh1
  have ep : f_X5_notesParted N Tn B E' F' (nI i) = some (nI (ct (fun j => hp A (A 7 0) j == hp A (A 7 0) i && hp (mvA A i c r) (A 7 0) j != hp (mvA A i c r) (A 7 0) i) (A 0 0))) := by
    refine lp_run (F := fun k (q : Int32 × Int32) => f_X5_notesParted_4 N Tn B E' F' (nI i) k q.1 q.2) (s := fun j => (nI (ct (fun j => hp A (A 7 0) j == hp A (A 7 0) i && hp (mvA A i c r) (A 7 0) j != hp (mvA A i c r) (A 7 0) i) j), nI j)) (A 0 0) _ ?_ ?_ N (by omega)
    · intro k
      show f_X5_notesParted_4b N Tn B E' F' (nI i) (f_X5_notesParted_4 N Tn B E' F' (nI i) k) (nI _) (nI (A 0 0)) = _
      unfold f_X5_notesParted_4b
      rw [hB.1, leT (Nat.le_refl _) (by omega)]
    · intro k j hj
      show f_X5_notesParted_4b N Tn B E' F' (nI i) (f_X5_notesParted_4 N Tn B E' F' (nI i) k) (nI _) (nI j) = f_X5_notesParted_4 N Tn B E' F' (nI i) k (nI (ct (fun j => hp A (A 7 0) j == hp A (A 7 0) i && hp (mvA A i c r) (A 7 0) j != hp (mvA A i c r) (A 7 0) i) j + (if hp A (A 7 0) j == hp A (A 7 0) i && hp (mvA A i c r) (A 7 0) j != hp (mvA A i c r) (A 7 0) i then 1 else 0))) (nI (j + 1))
      have a1 := hh i hi
      have a2 := hh j hj
      have b1 := hh1 i hi
      have b2 := hh1 j hj
      unfold f_X5_notesParted_4b f_X5_notesParted_60
      rw [hB.1, leF hj (by omega), gdI (by omega) (by decide), gdI (by omega) (by decide), clI (by omega), clI (by omega), gdJ (by omega) (by decide), gdJ (by omega) (by decide), h3.2.2 j hj, h3.2.2 i hi, g1.2.2 j hj, g1.2.2 i hi, nI_s, nI_s]
      by_cases q : hp A (A 7 0) j = hp A (A 7 0) i
      · rw [eqT q]
        by_cases q2 : hp (mvA A i c r) (A 7 0) j = hp (mvA A i c r) (A 7 0) i
        · rw [eqT q2]
          simp [q2]
        · rw [eqF q2 (by omega) (by omega)]
          simp [q, q2]
      · rw [eqF q (by omega) (by omega)]
        simp [q]
  have pre : ∀ w : Nat, w < 3 → f_X5_ifDragged N Tn B Tr E F (nI i) (nI c) (nI r) (nI w) = (if nI w = 0 then some ((F' 0 0), C1, E', F') else (if nI w = (1 : Int32) then (if nI i < 0 ∨ 20 ≤ (nI i).toNatClampNeg then none else (bd (f_X2_notesIn N F' (F' 2 (nI i).toNatClampNeg)) (fun r9 => some (r9, C1, E', F')))) else (bd (f_X5_notesParted N Tn B E' F' (nI i)) (fun r8 => some (r8, C1, E', F'))))) := by
    intro w hw
    unfold f_X5_ifDragged
    rw [hasN_t hB ok hi, bd_some, if1, isPl_t hc hr, bd_some, if1]
    rw [show f_X5_isWithin N (nI w) 0 2 = f_X5_isWithin N (nI w) (nI 0) (nI 2) from rfl, wi_t (by omega) (by omega) (by omega), bd_some, if1, h1, bd2_some, eC, bd_some, e3, bd_some, cl_0, hC1.2.2.1 0 (by decide), e4, bd2_some]
  rw [pre w hw]
  match w, hw with
  | 0, _ =>
    refine ⟨nh (mvA A i c r) (A 7 0), ⟨C1, E', F', ?_⟩, fun h => absurd h (by decide), fun _ => ⟨?_, nml1⟩⟩
    · rw [if_pos (show nI 0 = 0 from rfl), g1.1]
    · exact nh_pos ok1 (by omega) (by omega)
  | 1, _ =>
    have l1 := hh1 i hi
    refine ⟨hnA (hp (mvA A i c r) (A 7 0)) (hp (mvA A i c r) (A 7 0) i) (A 0 0), ⟨C1, E', F', ?_⟩, fun h => absurd h (by decide), fun _ => ⟨ct_pos hi (by simp), ct_le _ _⟩⟩
    rw [if_neg (show ¬ nI 1 = 0 by decide), if_pos (show nI 1 = 1 from rfl), gdI (by omega) (by decide), clI (by omega), g1.2.2 i hi, s_notesIn hN g1 o1 hh1 (by omega), bd_some]
  | 2, _ =>
    refine ⟨ct (fun j => hp A (A 7 0) j == hp A (A 7 0) i && hp (mvA A i c r) (A 7 0) j != hp (mvA A i c r) (A 7 0) i) (A 0 0), ⟨C1, E', F', ?_⟩, fun _ => ct_lt_n hi (by simp), fun h => absurd rfl h⟩
    rw [if_neg (show ¬ nI 2 = 0 by decide), if_neg (show ¬ nI 2 = 1 by decide), ep, bd_some]
end RE
/-! load: what the reader keeps -/
def sc (Tx : tS) (p : Nat) : Nat := ct (fun j => Tx 0 j == 59) p
theorem dp_up {A : tA} {i p v : Nat} (hi : i < A 0 0) (hp : p < 6) : dpA (upA A 4 (i * 6 + p) v) p + A 4 (i * 6 + p) = dpA A p + v := by
  have e : dpA (upA A 4 (i * 6 + p) v) p = sm (fun k => if k = i then v else A 4 (k * 6 + p)) (A 0 0) := by
    unfold dpA
    rw [upA_o _ _ (Or.inl (by decide))]
    refine sm_congr (fun k hk => ?_)
    by_cases q : k = i
    · rw [if_pos q, q, upA_s]
    · rw [if_neg q, upA_o _ _ (Or.inr (by omega))]
  rw [e]
  exact sm_pt (f := fun k => A 4 (k * 6 + p)) hi
def rdD (A : tA) (t : Nat) (D : tA) (B : tS) : Prop := RB B D ∧ okA D ∧ D 0 0 = t ∧ D 5 0 = 0 ∧ (∀ j, D 7 j = A 7 j) ∧ (∀ i, i < t → ∀ q, 1 ≤ q → q < 6 → D 4 (i * 6 + q) = 0) ∧ dpA D 0 ≤ A 7 1
def rdI (A : tA) (Tx : tS) (p : Nat) (S B : tS) : Prop := ∃ (t : Nat) (D : tA), rdD A t D B ∧ S 1 0 = nI t ∧ ((S 2 0 = nI 0 ∧ (S 3 0 = -1 ∨ ∃ v, v < 30 ∧ S 3 0 = nI v) ∧ t = sc Tx p) ∨ (S 2 0 = nI 1 ∧ (∃ c, c < 30 ∧ S 4 0 = nI c) ∧ (S 3 0 = -1 ∨ ∃ v, v < 20 ∧ S 3 0 = nI v) ∧ t = sc Tx p) ∨ (S 2 0 = nI 2 ∧ t = sc Tx p + 1))
theorem nd_lt' {x : Int32} (h : ¬ ∃ d, dgN x d) : x < 48 ∨ 57 < x := by
  apply Classical.byContradiction
  intro w
  have w1 : ¬ x < 48 := fun z => w (Or.inl z)
  have w2 : ¬ 57 < x := fun z => w (Or.inr z)
  rw [I_lt] at w1 w2
  have e1 : (48 : Int32).toInt = 48 := rfl
  have e2 : (57 : Int32).toInt = 57 := rfl
  refine h ⟨(x.toInt - 48).toNat, by omega, ?_⟩
  rw [← Int32.toInt_inj, nI_T (by omega)]
  omega
section RDI
variable {N n p : Nat} {Tx S B : tS} {A : tA}
theorem tk_oth {x : Int32} (h42 : ¬ x = 42) (h44 : ¬ x = 44) (h59 : ¬ x = 59) (hd : ¬ ∃ d, dgN x d) : f_X1_takes N S B x = some (0, S, B) := by
  unfold f_X1_takes
  rw [if_neg h42, if_neg h44, if_neg h59]
  by_cases q : x < 48
  · rw [if_pos q]
  · rw [if_neg q, if_pos ((nd_lt' hd).resolve_left q)]
theorem rd_end (hN : 1000 ≤ N) (hI : rdI A Tx p S B) (hs : sc Tx p < 20) : f_X1_endsNote N S B = some (0, S, B) ∨ ∃ S' B' D, f_X1_endsNote N S B = some (1, S', B') ∧ rdD A (sc Tx p + 1) D B' ∧ S' 1 0 = nI (sc Tx p + 1) ∧ S' 2 0 = nI 2 := by
  obtain ⟨t, D, hD, h1, h | h | h⟩ := hI
  · exact Or.inl (en_0 h.1 (by decide) (Or.inl rfl))
  · obtain ⟨h2, ⟨c, hc, h4⟩, h3, ht⟩ := h
    rcases h3 with h3 | ⟨v, hv, h3⟩
    · exact Or.inl (en_0 h2 (by decide) (Or.inr h3))
    · right
      obtain ⟨a1, a2, a3, a4, a5, a6, a7⟩ := hD
      obtain ⟨S', B', e, b1, b2, b3⟩ := en_1 hN h1 h2 h3 h4 a1 a2 (by omega) (by omega)
      refine ⟨S', B', addA D c v, e, ⟨b3, ok_add a2 (by omega) hc hv, by rw [addA_0]; omega, by rw [addA_5]; exact a4, fun j => ?_, fun i hi q q1 q6 => ?_, ?_⟩, by rw [← ht]; exact b1, b2⟩
      · rw [← a5]
        simp [addA]
      · by_cases z : i < t
        · have := a6 i z q q1 q6
          unfold addA
          simp
          omega
        · unfold addA
          simp
          omega
      · rw [← noA_0, dp_no]
        omega
  · right
    exact ⟨S, B, D, en_2 h.1, by rw [← h.2]; exact hD, by rw [← h.2]; exact h1, h.1⟩
theorem rd_star (hN : 1000 ≤ N) {t : Nat} {D : tA} (hD : rdD A (t + 1) D B) : f_X1_takesStar N S B = some (0, B) ∨ ∃ B' D', f_X1_takesStar N S B = some (1, B') ∧ rdD A (t + 1) D' B' := by
  obtain ⟨a1, a2, a3, a4, a5, a6, a7⟩ := hD
  have o1 := a2.1
  have o4 := a2.2.2.2.1
  have o5 := a2.2.2.2.2.1
  have e1 : f_X0_dotsLeft N B 0 = some (nI (D 7 1 - dpA D 0)) := s_dotsLeft hN a1 a2 (p := 0) (by decide)
  have eB : B 0 0 - 1 = nI t := by
    rw [a1.1, a3, li_1, pk_sub (by omega)]
    rfl
  have e2 : f_X0_hasMostDots N B 0 (nI t) = some (if D 7 2 ≤ D 4 (t * 6 + 0) then 1 else 0) := s_hasMost a1 a2 (i := t) (p := 0) (by omega) (by decide)
  unfold f_X1_takesStar
  rw [e1, bd_some]
  by_cases q : D 7 1 ≤ dpA D 0
  · left
    rw [if_pos (show nI (D 7 1 - dpA D 0) = 0 by rw [show D 7 1 - dpA D 0 = 0 by omega]; rfl)]
  rw [if_neg (show ¬ nI (D 7 1 - dpA D 0) = 0 from fun w => by
      have := nI_inj (by omega) (by omega) (show _ = nI 0 from w)
      omega), eB, e2, bd_some]
  by_cases q2 : D 7 2 ≤ D 4 (t * 6 + 0)
  · left
    rw [if_pos q2, if1]
  right
  have e4 : B 4 (t * 6 + 0) = nI (D 4 (t * 6 + 0)) := (a1.2.2.2.1 t (by omega)).2.2.2 0 (by decide)
  have dp := dp_up (A := D) (i := t) (p := 0) (v := D 4 (t * 6 + 0) + 1) (by omega) (by decide)
  have h7 := a5 1
  refine ⟨va_up B 4 (upd (B 4) (t * 6 + 0) (nI (D 4 (t * 6 + 0) + 1))), upA D 4 (t * 6 + 0) (D 4 (t * 6 + 0) + 1), ?_, RB_up a1 (by decide) (by decide) rfl, ok_dot a2 (by omega), by rw [upA_o _ _ (Or.inl (by decide))]; exact a3, by rw [upA_o _ _ (Or.inl (by decide))]; exact a4, fun j => by rw [upA_o _ _ (Or.inl (by decide))]; exact a5 j, fun i hi q q1 q6 => by rw [upA_o _ _ (Or.inr (by omega))]; exact a6 i hi q q1 q6, by omega⟩
  unfold f_X0_addDots
  rw [if_neg q2, if0, li_6, pk_mul, show nI (t * 6) + 0 = nI (t * 6 + 0) from nI_add _ 0, gdI (by omega) (by decide), gdI (by omega) (by decide), clI (by omega), e4, nI_s, bd_some]
theorem sc_s (h : Tx 0 p = 59) : sc Tx (p + 1) = sc Tx p + 1 := by
  unfold sc
  rw [ct_succ]
  simp [h]
theorem sc_n (h : ¬ Tx 0 p = 59) : sc Tx (p + 1) = sc Tx p := by
  unfold sc
  rw [ct_succ]
  simp [h]
theorem rd_step (hN : 1000 ≤ N) (hI : rdI A Tx p S B) (hs : sc Tx p < 20) : ∃ r S1 B1, f_X1_takes N S B (Tx 0 p) = some (r, S1, B1) ∧ (r = 0 ∨ (r = 1 ∧ rdI A Tx (p + 1) S1 B1)) := by
  have hI0 := hI
  by_cases h59 : Tx 0 p = 59
  · rcases rd_end hN hI hs with e | ⟨S', B', D, e, hD, s1, s2⟩
    · rw [h59]
      exact ⟨_, _, _, tk_m0 e, Or.inl rfl⟩
    · have hx := tk_m1 e
      rw [← h59] at hx
      refine ⟨_, _, _, hx, Or.inr ⟨rfl, sc Tx p + 1, D, hD, ?_, Or.inl ⟨?_, Or.inl ?_, ?_⟩⟩⟩
      · rw [va_up_ne _ _ (by decide), va_up_ne _ _ (by decide)]
        exact s1
      · rw [va_up_ne _ _ (by decide), va_up_self]
        rfl
      · rw [va_up_self]
      · rw [sc_s h59]
  have hsc := sc_n h59
  by_cases h42 : Tx 0 p = 42
  · rcases rd_end hN hI hs with e | ⟨S', B', D, e, hD, s1, s2⟩
    · rw [h42]
      exact ⟨_, _, _, tk_s0 e, Or.inl rfl⟩
    · rw [h42]
      unfold f_X1_takes
      rw [if_pos rfl, e, bd3_some, if1]
      rcases rd_star (S := S') hN hD with e2 | ⟨B2, D2, e2, hD2⟩
      · rw [e2, bd2_some, if0]
        exact ⟨_, _, _, rfl, Or.inl rfl⟩
      · rw [e2, bd2_some, if1]
        exact ⟨_, _, _, rfl, Or.inr ⟨rfl, sc Tx p + 1, D2, hD2, s1, Or.inr (Or.inr ⟨s2, by rw [hsc]⟩)⟩⟩
  obtain ⟨t, D, hD, h1, h⟩ := hI
  by_cases h44 : Tx 0 p = 44
  · rw [h44]
    rcases h with h | h | h
    · obtain ⟨h2, h3, ht⟩ := h
      rcases h3 with h3 | ⟨v, hv, h3⟩
      · exact ⟨_, _, _, tk_c0 h2 (by decide) (Or.inr h3), Or.inl rfl⟩
      · refine ⟨_, _, _, tk_c1 h2 h3 (by omega), Or.inr ⟨rfl, t, D, hD, ?_, Or.inr (Or.inl ⟨?_, ⟨v, hv, ?_⟩, Or.inl ?_, ?_⟩)⟩⟩
        · rw [va_up_ne _ _ (by decide), va_up_ne _ _ (by decide), va_up_ne _ _ (by decide)]
          exact h1
        · rw [va_up_ne _ _ (by decide), va_up_self]
          rfl
        · rw [va_up_ne _ _ (by decide), va_up_ne _ _ (by decide), va_up_self]
        · rw [va_up_self]
        · rw [hsc]
          exact ht
    · exact ⟨_, _, _, tk_c0 h.1 (by decide) (Or.inl (by decide)), Or.inl rfl⟩
    · exact ⟨_, _, _, tk_c0 h.1 (by decide) (Or.inl (by decide)), Or.inl rfl⟩
  rcases dg_c (Tx 0 p) with ⟨d, hd⟩ | hd
  · have hd10 := hd.1
    rcases h with h | h | h
    · obtain ⟨h2, h3, ht⟩ := h
      rcases h3 with h3 | ⟨v, hv, h3⟩
      · refine ⟨_, _, _, tk_d0 hd h2 (by decide) h3, Or.inr ⟨rfl, t, D, hD, ?_, Or.inl ⟨?_, Or.inr ⟨d, by omega, ?_⟩, ?_⟩⟩⟩
        · rw [va_up_ne _ _ (by decide)]
          exact h1
        · rw [va_up_ne _ _ (by decide)]
          exact h2
        · rw [va_up_self]
        · rw [hsc]
          exact ht
      · have k := tk_d1 (N := N) (B := B) hd h2 (by decide) h3 (by omega)
        rw [if_pos (rfl : (0 : Nat) = 0)] at k
        rw [k]
        by_cases q : v = 0 ∨ 29 < 10 * v + d
        · rw [if_pos q]
          exact ⟨_, _, _, rfl, Or.inl rfl⟩
        · rw [if_neg q]
          refine ⟨_, _, _, rfl, Or.inr ⟨rfl, t, D, hD, ?_, Or.inl ⟨?_, Or.inr ⟨10 * v + d, by omega, ?_⟩, ?_⟩⟩⟩
          · rw [va_up_ne _ _ (by decide)]
            exact h1
          · rw [va_up_ne _ _ (by decide)]
            exact h2
          · rw [va_up_self]
          · rw [hsc]
            exact ht
    · obtain ⟨h2, ⟨c, hc, h4⟩, h3, ht⟩ := h
      rcases h3 with h3 | ⟨v, hv, h3⟩
      · refine ⟨_, _, _, tk_d0 hd h2 (by decide) h3, Or.inr ⟨rfl, t, D, hD, ?_, Or.inr (Or.inl ⟨?_, ⟨c, hc, ?_⟩, Or.inr ⟨d, by omega, ?_⟩, ?_⟩)⟩⟩
        · rw [va_up_ne _ _ (by decide)]
          exact h1
        · rw [va_up_ne _ _ (by decide)]
          exact h2
        · rw [va_up_ne _ _ (by decide)]
          exact h4
        · rw [va_up_self]
        · rw [hsc]
          exact ht
      · have k := tk_d1 (N := N) (B := B) hd h2 (by decide) h3 (by omega)
        rw [if_neg (show ¬ (1 : Nat) = 0 by decide)] at k
        rw [k]
        by_cases q : v = 0 ∨ 19 < 10 * v + d
        · rw [if_pos q]
          exact ⟨_, _, _, rfl, Or.inl rfl⟩
        · rw [if_neg q]
          refine ⟨_, _, _, rfl, Or.inr ⟨rfl, t, D, hD, ?_, Or.inr (Or.inl ⟨?_, ⟨c, hc, ?_⟩, Or.inr ⟨10 * v + d, by omega, ?_⟩, ?_⟩)⟩⟩
          · rw [va_up_ne _ _ (by decide)]
            exact h1
          · rw [va_up_ne _ _ (by decide)]
            exact h2
          · rw [va_up_ne _ _ (by decide)]
            exact h4
          · rw [va_up_self]
          · rw [hsc]
            exact ht
    · exact ⟨_, _, _, tk_d2 hd h.1, Or.inl rfl⟩
  · exact ⟨_, _, _, tk_oth h42 h44 h59 hd, Or.inl rfl⟩
theorem tk59 {S1 B1 : tS} (h : f_X1_takes N S B 59 = some (1, S1, B1)) : S1 2 0 = nI 0 ∧ S1 3 0 = -1 := by
  unfold f_X1_takes f_X1_takesSemicolon f_X1_beginNumber at h
  rw [if_neg (by decide), if_neg (by decide), if_pos rfl] at h
  obtain ⟨r, S', B', e, h⟩ := ob3 h
  obtain ⟨r2, S2, B2, e2, e⟩ := ob3 e
  by_cases q : r2 = 0
  · rw [if_pos q] at e
    cases e
    rw [nn00] at h
    exact absurd (show (0 : Int32) = 1 from congrArg Prod.fst (Option.some.inj h)) (by decide)
  · rw [if_neg q, bd_some] at e
    cases e
    rw [nn01] at h
    cases h
    exact ⟨by rw [va_up_ne _ _ (by decide), va_up_self]; rfl, by rw [va_up_self]⟩
theorem rd_run (hN : 1000 ≤ N) (hn : n ≤ 80) (hs : sc Tx n < 20) : ∀ (d : Nat) {p : Nat} {S B : tS}, p + d = n → rdI A Tx p S B → (0 < p → Tx 0 (p - 1) = 59 → S 2 0 = nI 0 ∧ S 3 0 = -1) → ∃ res : Int32 × tS × tS, rsT N Tx n p S B res ∧ ((∃ k, k ≤ n ∧ res.1 = nI k) ∨ (res.1 = -1 ∧ res.2.1 1 0 = nI (sc Tx n + 1) ∧ (0 < n → ¬ Tx 0 (n - 1) = 59) ∧ ∃ D, rdD A (sc Tx n + 1) D res.2.2))
  | 0, p, S, B, e, hI, hl => by
    have e : p = n := by omega
    subst e
    rcases rd_end hN hI hs with e | ⟨S', B', D, e, hD, s1, s2⟩
    · exact ⟨_, rs_end0 hn e, Or.inl ⟨p, Nat.le_refl _, rfl⟩⟩
    · refine ⟨_, rs_end1 hn e, Or.inr ⟨rfl, s1, fun h0 w => ?_, D, hD⟩⟩
      obtain ⟨l1, l2⟩ := hl h0 w
      rw [en_0 l1 (by decide) (Or.inl rfl)] at e
      exact absurd (show (0 : Int32) = 1 from congrArg Prod.fst (Option.some.inj e)) (by decide)
  | d + 1, p, S, B, e, hI, hl => by
    have hm : sc Tx p ≤ sc Tx n := ct_mono (by omega)
    obtain ⟨r, S1, B1, e1, h | ⟨h, hI1⟩⟩ := rd_step hN hI (by omega)
    · subst h
      exact ⟨_, rs_fault hn (by omega) e1, Or.inl ⟨p, by omega, rfl⟩⟩
    · subst h
      obtain ⟨res, h1, h2⟩ := rd_run hN hn hs d (p := p + 1) (by omega) hI1 (fun _ w => by
        rw [Nat.add_sub_cancel] at w
        rw [w] at e1
        exact tk59 e1)
      exact ⟨res, go_step hn (by omega) e1 res h1, h2⟩
theorem t_load (hN : 1000 ≤ N) {Tn Tr Bt : tS} {Hs : tH} {kn : Nat} {As : Nat → tA} (hB : RB B A) (hi : inv A) (hH : RHx Hs kn As) (hT : RT Tn n) (hs : sc Tx n < 20) : (∃ k Tr' Bt', k ≤ n ∧ f_X5_load N Tn B Hs Tx Tr Bt = some (-100 - nI k, B, Hs, Tr', Bt')) ∨ ∃ A' B' Hs' Tr' Bt', f_X5_load N Tn B Hs Tx Tr Bt = some (nI (sc Tx n + 1), B', Hs', Tr', Bt') ∧ ac B' Hs' A' A kn As ∧ A' 0 0 = sc Tx n + 1 ∧ A' 5 0 = 0 ∧ ntA A' 0 = sc Tx n + 1 ∧ sm (dtA A') (A' 0 0) ≤ A' 7 1 ∧ (0 < n → ¬ Tx 0 (n - 1) = 59) := by
  obtain ⟨hn, hT⟩ := hT
  have ok := hi.1
  obtain ⟨C, eC, hC⟩ := s_copy (N := N) (B := Tr) hB ok
  obtain ⟨C1, e1, hC1⟩ := RB_em (N := N) hC
  have h0 : rdI A Tx 0 (va_up (va_up (va_up Bt 1 (fun _ => 0)) 2 (fun _ => 0)) 3 (fun _ => -1)) C1 := by
    refine ⟨0, emA A, ⟨hC1, ok_em ok, rfl, rfl, fun j => rfl, fun i hi => absurd hi (Nat.not_lt_zero i), Nat.zero_le _⟩, ?_, Or.inl ⟨?_, Or.inl ?_, rfl⟩⟩
    · rw [va_up_ne _ _ (by decide), va_up_ne _ _ (by decide), va_up_self]
      rfl
    · rw [va_up_ne _ _ (by decide), va_up_self]
      rfl
    · rw [va_up_self]
  obtain ⟨⟨r3, Bt3, Tr3⟩, h1, h2⟩ := rd_run hN hn hs n (by omega) h0 (fun h => absurd h (Nat.lt_irrefl 0))
  have ef : f_X1_findFault N Bt C1 Tx (nI n) = some (r3, Bt3, Tr3) := by
    unfold f_X1_findFault f_X1_beginNumber
    rw [bd_some]
    exact h1 N (by omega)
  have eL : f_X5_load N Tn B Hs Tx Tr Bt = (if r3 = (-1 : Int32) then (if (Bt3 1 0) ≤ (20 : Int32) then (bd (f_X3_remember N Hs B) (fun Hs4 => (bd (f_X0_copyFrom N B Tr3) (fun B5 => some ((B5 0 0), B5, Hs4, Tr3, Bt3))))) else some ((-3 : Int32), B, Hs, Tr3, Bt3)) else some (((-100 : Int32) - r3), B, Hs, Tr3, Bt3)) := by
    unfold f_X5_load
    rw [eC, bd_some, e1, bd_some, hT, ef, bd3_some]
  rw [eL]
  rcases h2 with ⟨k, hk, hr⟩ | ⟨hr, hb, hnl, D, hD⟩
  · left
    have hr : r3 = nI k := hr
    subst hr
    refine ⟨k, Tr3, Bt3, hk, ?_⟩
    rw [if_neg (fun w => by
      have := congrArg Int32.toInt w
      rw [nI_T (by omega)] at this
      have h1 : (-1 : Int32).toInt = -1 := rfl
      omega)]
  · right
    have hr : r3 = -1 := hr
    subst hr
    have hb : Bt3 1 0 = nI (sc Tx n + 1) := hb
    obtain ⟨a1, a2, a3, a4, a5, a6, a7⟩ := hD
    obtain ⟨Hs', r1, r2⟩ := t_rec (N := N) hH hB hi
    obtain ⟨B5, e5, hB5⟩ := s_copy (N := N) (B := B) a1 a2
    refine ⟨D, B5, Hs', Tr3, Bt3, ?_, ⟨hB5, ⟨a2, fun t ht => by omega⟩, r2⟩, a3, a4, ?_, ?_, hnl⟩
    · rw [if_pos rfl, hb, li_20, leT (by omega) (by omega), r1, bd_some, e5, bd_some, hB5.1, a3]
    · have e : ntA D 0 = ct (fun _ => true) (D 0 0) := ct_congr (fun i hi => by
        have := (a2.2.2.2.2.2.1 i hi).2.2.1
        simp
        omega)
      rw [e, a3]
      have all : ∀ m, ct (fun _ => true) m = m := by
        intro m
        induction m with
        | zero => rfl
        | succ m ih => rw [ct_succ, ih]; rfl
      exact all _
    · have e : sm (dtA D) (D 0 0) = dpA D 0 := sm_congr (fun i hi => by
        have h := a6 i (by omega)
        show 0 + D 4 (i * 6 + 0) + D 4 (i * 6 + 1) + D 4 (i * 6 + 2) + D 4 (i * 6 + 3) + D 4 (i * 6 + 4) + D 4 (i * 6 + 5) = D 4 (i * 6 + 0)
        rw [h 1 (by decide) (by decide), h 2 (by decide) (by decide), h 3 (by decide) (by decide), h 4 (by decide) (by decide), h 5 (by decide) (by decide)]
        omega)
      rw [e, a5 1]
      exact a7
end RDI
