/-! whether a note holds its heap; note -/
theorem ct_imp {p q : Nat → Bool} : ∀ {n : Nat}, (∀ i, i < n → p i = true → q i = true) → ct p n ≤ ct q n
  | 0, _ => Nat.le_refl _
  | n + 1, h => by
    rw [ct_succ, ct_succ]
    have h1 := ct_imp (n := n) (fun i hi => h i (by omega))
    have h2 := h n (by omega)
    cases hp : p n with
    | false => simp; omega
    | true => rw [h2 hp]; omega
def upN (i j : Nat) : Nat := if j < i then j else j + 1
def dnN (i j : Nat) : Nat := if j < i then j else j - 1
theorem up_dn {i j : Nat} (h : j ≠ i) : upN i (dnN i j) = j := by
  unfold upN dnN
  by_cases q : j < i
  · rw [if_pos q, if_pos q]
  · rw [if_neg q, if_neg (by omega)]
    omega
theorem dn_up (i j : Nat) : dnN i (upN i j) = j := by
  unfold upN dnN
  by_cases q : j < i
  · rw [if_pos q, if_pos q]
  · rw [if_neg q, if_neg (by omega)]
    omega
theorem up_ne (i j : Nat) : upN i j ≠ i := by
  unfold upN
  split <;> omega
theorem up_lt {i j n : Nat} (hi : i < n) (h : j < n - 1) : upN i j < n := by
  unfold upN
  split <;> omega
theorem dn_lt {i j n : Nat} (hi : i < n) (h : j < n) (hj : j ≠ i) : dnN i j < n - 1 := by
  unfold dnN
  split <;> omega
theorem up_mono {i a b : Nat} (h : a ≤ b) : upN i a ≤ upN i b := by
  unfold upN
  split <;> split <;> omega
theorem ct_skip {p : Nat → Bool} {i : Nat} (hp : p i = false) : ∀ {m : Nat}, i ≤ m → ct p (m + 1) = ct (fun k => p (upN i k)) m
  | 0, h => by
    have : i = 0 := by omega
    subst this
    rw [ct_succ, hp]
    rfl
  | m + 1, h => by
    rw [ct_succ p (m + 1)]
    by_cases q : i = m + 1
    · subst q
      rw [hp]
      show ct p (m + 1) + 0 = _
      rw [Nat.add_zero]
      refine ct_congr (fun k hk => ?_)
      unfold upN
      rw [if_pos hk]
    · rw [ct_skip hp (by omega), ct_succ]
      have : upN i m = m + 1 := by
        unfold upN
        rw [if_neg (by omega)]
      rw [this]
theorem cn_map {V V' : Nat → Prop} {E E' : Nat → Nat → Prop} {i j : Nat} (φ : Nat → Nat) (h : Cn V E i j) (hE : ∀ a b, V a → V b → E a b → V' (φ a) ∧ V' (φ b) ∧ E' (φ a) (φ b)) : Cn V' E' (φ i) (φ j) :=
  h (fun x => Cn V' E' (φ i) (φ x)) cn_r (fun a b ha hb p e => by
    obtain ⟨x, y, z⟩ := hE a b ha hb e
    exact cn_t p (cn_1 x y z))
/-- the labels without a note -/
theorem lo_skip {n i : Nat} {E E' : Nat → Nat → Prop} {L1 : Nat → Nat} (hi : i < n) (hn : n ≤ 20) (h : Lo (n - 1) 1000 E' L1) (hE : ∀ a b, a < n - 1 → b < n - 1 → (E' a b ↔ E (upN i a) (upN i b))) : Lo n i E (fun j => upN i (L1 (dnN i j))) ∧ nmH n i (fun j => upN i (L1 (dnN i j))) = nmH (n - 1) 1000 L1 := by
  have v1 : ∀ j, j < n → j ≠ i → nV (n - 1) 1000 (dnN i j) := fun j hj hji => ⟨dn_lt hi hj hji, by have := dn_lt hi hj hji; omega⟩
  refine ⟨⟨fun j hj => ?_, fun a b ha hb => ?_⟩, ?_⟩
  · obtain ⟨x, y, z⟩ := h.1 _ (v1 j hj.1 hj.2)
    refine ⟨?_, up_ne _ _, ?_⟩
    · have := up_mono (i := i) x
      rw [up_dn hj.2] at this
      exact this
    · show upN i (L1 (dnN i (upN i (L1 (dnN i j))))) = upN i (L1 (dnN i j))
      rw [dn_up, z]
  · have key := h.2 _ _ (v1 a ha.1 ha.2) (v1 b hb.1 hb.2)
    constructor
    · intro e
      have e2 : L1 (dnN i a) = L1 (dnN i b) := by
        have := congrArg (dnN i) e
        simp only [dn_up] at this
        exact this
      have := cn_map (V' := nV n i) (E' := E) (upN i) (key.mp e2) (fun x y hx hy he => ⟨⟨up_lt hi hx.1, up_ne _ _⟩, ⟨up_lt hi hy.1, up_ne _ _⟩, (hE x y hx.1 hy.1).mp he⟩)
      rw [up_dn ha.2, up_dn hb.2] at this
      exact this
    · intro c
      show upN i (L1 (dnN i a)) = upN i (L1 (dnN i b))
      rw [key.mpr (cn_map (V' := nV (n - 1) 1000) (E' := E') (dnN i) c (fun x y hx hy he => ⟨v1 x hx.1 hx.2, v1 y hy.1 hy.2, (hE _ _ (dn_lt hi hx.1 hx.2) (dn_lt hi hy.1 hy.2)).mpr (by rw [up_dn hx.2, up_dn hy.2]; exact he)⟩))]
  · obtain ⟨m, rfl⟩ : ∃ m, n = m + 1 := ⟨n - 1, by omega⟩
    unfold nmH
    rw [ct_skip (show rtB i (fun j => upN i (L1 (dnN i j))) i = false from decide_eq_false (fun w => w.1 rfl)) (by omega)]
    refine ct_congr (fun k hk => ?_)
    unfold rtB
    simp only [dn_up]
    have hk' : k < m := hk
    by_cases q : L1 k = k
    · rw [decide_eq_true ⟨up_ne _ _, by rw [q]⟩, decide_eq_true ⟨by omega, q⟩]
    · rw [decide_eq_false (fun w => q (by
        have := congrArg (dnN i) w.2
        rw [dn_up, dn_up] at this
        exact this)), decide_eq_false (fun w => q w.2)]
/-- a note that is alone in its heap parts nothing -/
theorem lo_alone {n i : Nat} {E : Nat → Nat → Prop} {L L2 : Nat → Nat} (hi : i < n) (hn : n ≤ 20) (h : Lo n 1000 E L) (h2 : Lo n i E L2) (ha : ∀ k, k < n → k ≠ i → L k ≠ L i) : nmH n i L2 ≤ nmH n 1000 L := by
  refine ct_imp (fun k hk hr => ?_)
  obtain ⟨r1, r2⟩ := of_decide_eq_true hr
  refine decide_eq_true ⟨by omega, ?_⟩
  have vk : nV n 1000 k := ⟨hk, by omega⟩
  have vi : nV n 1000 i := ⟨hi, by omega⟩
  obtain ⟨a1, a2, a3⟩ := h.1 k vk
  have vj : nV n 1000 (L k) := ⟨by omega, by omega⟩
  have hcn := (h.2 k (L k) vk vj).mp a3.symm
  have hji : Cn (nV n 1000) E k (L k) ∧ L k ≠ i ∧ Cn (nV n i) E k (L k) := by
    refine hcn (fun x => Cn (nV n 1000) E k x ∧ x ≠ i ∧ Cn (nV n i) E k x) ⟨cn_r, r1, cn_r⟩ (fun a b ha' hb p e => ?_)
    have c1 := cn_t p.1 (cn_1 ha' hb e)
    have bi : b ≠ i := by
      intro w
      subst w
      exact ha k hk r1 ((h.2 k b vk vi).mpr c1)
    exact ⟨c1, bi, cn_t p.2.2 (cn_1 ⟨ha'.1, p.2.1⟩ ⟨hb.1, bi⟩ e)⟩
  have e2 := (h2.2 k (L k) ⟨hk, r1⟩ ⟨by omega, hji.2.1⟩).mpr hji.2.2
  have := (h2.1 (L k) ⟨by omega, hji.2.1⟩).1
  omega
theorem hn_one {h : Nat → Nat} {i n : Nat} (hi : i < n) (h1 : hnA h (h i) n = 1) : ∀ k, k < n → k ≠ i → h k ≠ h i := by
  intro k hk hki e
  have c1 := ct_ins (mk := fun _ => false) (b := i) rfl hi
  have c2 := ct_ins (mk := insB (fun _ => false) i) (b := k) (by rw [insB_o hki]) hk
  rw [ct_false] at c1
  have := ct_imp (p := insB (insB (fun _ => false) i) k) (q := fun x => h x == h i) (n := n) (fun x hx hp => by
    by_cases q : x = k
    · rw [q, e]; simp
    · rw [insB_o q] at hp
      by_cases q2 : x = i
      · rw [q2]; simp
      · rw [insB_o q2] at hp
        cases hp)
  have h1' : ct (fun x => h x == h i) n = 1 := h1
  omega
section HOL
variable {N : Nat} {B M Tn Tr E F : tS} {A : tA}
theorem s_dropE (hN : 1000 ≤ N) (hB : RB B A) (ok : okA A) {c : Nat} (hc : c ≤ A 5 0) : ∃ B' A', f_X0_removeThemeIfEmpty N B (enc c) = some B' ∧ RB B' A' ∧ okA A' ∧ ∀ f j, f ≠ 3 → f ≠ 5 → f ≠ 6 → A' f j = A f j := by
  have o2 := ok.2.1
  have hnt : ntA A c ≤ A 0 0 := ct_le _ _
  have o1 := ok.1
  unfold f_X0_removeThemeIfEmpty
  rw [s_notesOfTheme hN hB ok (by omega), bd_some]
  cases c with
  | zero =>
    rw [if_pos (show enc 0 = -5 from rfl)]
    exact ⟨B, A, rfl, hB, ok, fun _ _ _ _ _ => rfl⟩
  | succ t =>
    have n5 : ¬ enc (t + 1) = -5 := fun z => by
      have := (enc_n5 (by omega)).mp z
      omega
    rw [if_neg n5]
    by_cases q : ntA A (t + 1) = 0
    · rw [q, if_pos (show nI 0 ≤ 0 by decide), enc_s]
      have hn : ∀ i, i < A 0 0 → A 3 i ≠ t + 1 := by
        intro i hi z
        have := ct_zero.mp q i hi
        simp [z] at this
      obtain ⟨B', e1, hB'⟩ := s_drop hN hB ok (by omega) hn
      rw [e1]
      exact ⟨B', _, rfl, hB', ok_drop ok (by omega) hn, fun f j h3 h5 h6 => by simp [dropA, h3, h5, h6]⟩
    · rw [if_neg (show ¬ nI (ntA A (t + 1)) ≤ 0 by rw [I_le, I_0, nI_T (by omega)]; omega)]
      exact ⟨B, A, rfl, hB, ok, fun _ _ _ _ _ => rfl⟩
end HOL
