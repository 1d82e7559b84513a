/-! tools: fields, arrays, loops by invariant; copies, history -/
theorem va_up_up {α : Type} (f : Nat → α) (k : Nat) (v w : α) : va_up (va_up f k v) k w = va_up f k w := by
  funext j
  simp only [va_up]
  split <;> rfl
theorem va_up_id {α : Type} (f : Nat → α) (k : Nat) : va_up f k (f k) = f := by
  funext j
  simp only [va_up]
  split
  · next h => rw [h]
  · rfl
theorem va_up_eq {α : Type} {f : Nat → α} {k : Nat} {v : α} (h : v = f k) : va_up f k v = f := by rw [h, va_up_id]
theorem upd_s (f : Nat → Int32) (k : Nat) (v : Int32) : upd f k v k = v := by simp [upd]
theorem upd_o {f : Nat → Int32} {k j : Nat} (v : Int32) (h : j ≠ k) : upd f k v j = f j := by simp [upd, h]
theorem va_cpy0 {f g : Nat → Int32} (p q : Nat) : va_cpy f g p q 0 = g := by
  funext j
  simp only [va_cpy]
  rw [if_neg (by omega)]
theorem va_cpyS {f g : Nat → Int32} (p q i : Nat) : upd (va_cpy f g p q i) (q + i) (f (p + i)) = va_cpy f g p q (i + 1) := by
  funext j
  simp only [va_cpy, upd]
  by_cases h : j = q + i
  · rw [if_pos h, if_pos (by omega), h]
    congr 1
    omega
  · rw [if_neg h]
    by_cases h2 : q ≤ j ∧ j < q + i
    · rw [if_pos h2, if_pos (by omega)]
    · rw [if_neg h2, if_neg (by omega)]
theorem va_cpy_in {f g : Nat → Int32} {p q n j : Nat} (h : q ≤ j) (h2 : j < q + n) : va_cpy f g p q n j = f (p + (j - q)) := if_pos ⟨h, h2⟩
theorem va_cpy_out {f g : Nat → Int32} {p q n j : Nat} (h : j < q ∨ q + n ≤ j) : va_cpy f g p q n j = g j := if_neg (by omega)
/-- a loop by an invariant; it ends in G -/
theorem lp_to {ρ σ : Type} (F : Nat → σ → Option ρ) (P : Nat → σ → Prop) (n : Nat) (G : σ → Option ρ) (hend : ∀ k x, P n x → F (k + 1) x = G x) (hstep : ∀ k i x, i < n → P i x → ∃ y, F (k + 1) x = F k y ∧ P (i + 1) y) : ∀ (N : Nat), n < N → ∀ x, P 0 x → ∃ y, P n y ∧ F N x = G y := by
  have key : ∀ (d i N : Nat) (x : σ), i + d = n → d < N → P i x → ∃ y, P n y ∧ F N x = G y := by
    intro d
    induction d with
    | zero =>
      intro i N x h1 h2 hP
      obtain ⟨k, rfl⟩ : ∃ k, N = k + 1 := ⟨N - 1, by omega⟩
      rw [show i = n by omega] at hP
      exact ⟨x, hP, hend k x hP⟩
    | succ d ih =>
      intro i N x h1 h2 hP
      obtain ⟨k, rfl⟩ : ∃ k, N = k + 1 := ⟨N - 1, by omega⟩
      obtain ⟨y, e, hy⟩ := hstep k i x (by omega) hP
      rw [e]
      exact ih (i + 1) k y (by omega) (by omega) hy
  intro N hN x hP
  exact key n 0 N x (by omega) hN hP
theorem li_233 : (233 : Int32) = nI 233 := rfl
theorem li_699 : (699 : Int32) = nI 699 := rfl
theorem li_185 : (185 : Int32) = nI 185 := rfl
theorem li_80 : (80 : Int32) = nI 80 := rfl
theorem cl_0 : (0 : Int32).toNatClampNeg = 0 := rfl
theorem cl_1 : (1 : Int32).toNatClampNeg = 1 := rfl
theorem cl_2 : (2 : Int32).toNatClampNeg = 2 := rfl
theorem cl_3 : (3 : Int32).toNatClampNeg = 3 := rfl
theorem cl_4 : (4 : Int32).toNatClampNeg = 4 := rfl
theorem g_cp01 {N : Nat} (hN : 1000 ≤ N) (M : tS) {p q : Nat} (hp : p + 233 ≤ 233) (hq : q + 233 ≤ 932) : f_X6_copies_0_1 N M (nI p) (nI q) = some (va_up M 1 (va_cpy (M 0) (M 1) p q 233)) := by
  have h := lp_run (F := fun k (x : Int32 × tS) => f_X6_copies_0_1_3 N (nI p) (nI q) k x.1 x.2) (s := fun i => (nI i, va_up M 1 (va_cpy (M 0) (M 1) p q i))) 233 (some (va_up M 1 (va_cpy (M 0) (M 1) p q 233))) (by
    intro k
    show f_X6_copies_0_1_3b N (nI p) (nI q) (f_X6_copies_0_1_3 N (nI p) (nI q) k) (nI 233) (va_up M 1 (va_cpy (M 0) (M 1) p q 233)) = _
    unfold f_X6_copies_0_1_3b
    rw [li_233, leT (Nat.le_refl _) (by omega)]) (by
    intro k i hi
    show f_X6_copies_0_1_3b N (nI p) (nI q) (f_X6_copies_0_1_3 N (nI p) (nI q) k) (nI i) (va_up M 1 (va_cpy (M 0) (M 1) p q i)) = f_X6_copies_0_1_3 N (nI p) (nI q) k (nI (i + 1)) (va_up M 1 (va_cpy (M 0) (M 1) p q (i + 1)))
    unfold f_X6_copies_0_1_3b
    rw [li_233, leF hi (by omega), nI_add, nI_add, gdI (by omega) (by decide), gdI (by omega) (by decide), clI (by omega), clI (by omega), va_up_up, va_up_self, va_up_ne _ _ (by decide), va_cpyS, nI_s]) N (by omega)
  simp only [va_cpy0, va_up_id] at h
  exact h
theorem g_cp10 {N : Nat} (hN : 1000 ≤ N) (M : tS) {p q : Nat} (hp : p + 233 ≤ 932) (hq : q + 233 ≤ 233) : f_X6_copies_1_0 N M (nI p) (nI q) = some (va_up M 0 (va_cpy (M 1) (M 0) p q 233)) := by
  have h := lp_run (F := fun k (x : Int32 × tS) => f_X6_copies_1_0_3 N (nI p) (nI q) k x.1 x.2) (s := fun i => (nI i, va_up M 0 (va_cpy (M 1) (M 0) p q i))) 233 (some (va_up M 0 (va_cpy (M 1) (M 0) p q 233))) (by
    intro k
    show f_X6_copies_1_0_3b N (nI p) (nI q) (f_X6_copies_1_0_3 N (nI p) (nI q) k) (nI 233) (va_up M 0 (va_cpy (M 1) (M 0) p q 233)) = _
    unfold f_X6_copies_1_0_3b
    rw [li_233, leT (Nat.le_refl _) (by omega)]) (by
    intro k i hi
    show f_X6_copies_1_0_3b N (nI p) (nI q) (f_X6_copies_1_0_3 N (nI p) (nI q) k) (nI i) (va_up M 0 (va_cpy (M 1) (M 0) p q i)) = f_X6_copies_1_0_3 N (nI p) (nI q) k (nI (i + 1)) (va_up M 0 (va_cpy (M 1) (M 0) p q (i + 1)))
    unfold f_X6_copies_1_0_3b
    rw [li_233, leF hi (by omega), nI_add, nI_add, gdI (by omega) (by decide), gdI (by omega) (by decide), clI (by omega), clI (by omega), va_up_up, va_up_self, va_up_ne _ _ (by decide), va_cpyS, nI_s]) N (by omega)
  simp only [va_cpy0, va_up_id] at h
  exact h
theorem g_cp03 {N : Nat} (hN : 1000 ≤ N) (M : tS) {p q : Nat} (hp : p + 233 ≤ 233) (hq : q + 233 ≤ 233) : f_X6_copies_0_3 N M (nI p) (nI q) = some (va_up M 3 (va_cpy (M 0) (M 3) p q 233)) := by
  have h := lp_run (F := fun k (x : Int32 × tS) => f_X6_copies_0_3_3 N (nI p) (nI q) k x.1 x.2) (s := fun i => (nI i, va_up M 3 (va_cpy (M 0) (M 3) p q i))) 233 (some (va_up M 3 (va_cpy (M 0) (M 3) p q 233))) (by
    intro k
    show f_X6_copies_0_3_3b N (nI p) (nI q) (f_X6_copies_0_3_3 N (nI p) (nI q) k) (nI 233) (va_up M 3 (va_cpy (M 0) (M 3) p q 233)) = _
    unfold f_X6_copies_0_3_3b
    rw [li_233, leT (Nat.le_refl _) (by omega)]) (by
    intro k i hi
    show f_X6_copies_0_3_3b N (nI p) (nI q) (f_X6_copies_0_3_3 N (nI p) (nI q) k) (nI i) (va_up M 3 (va_cpy (M 0) (M 3) p q i)) = f_X6_copies_0_3_3 N (nI p) (nI q) k (nI (i + 1)) (va_up M 3 (va_cpy (M 0) (M 3) p q (i + 1)))
    unfold f_X6_copies_0_3_3b
    rw [li_233, leF hi (by omega), nI_add, nI_add, gdI (by omega) (by decide), gdI (by omega) (by decide), clI (by omega), clI (by omega), va_up_up, va_up_self, va_up_ne _ _ (by decide), va_cpyS, nI_s]) N (by omega)
  simp only [va_cpy0, va_up_id] at h
  exact h
theorem g_cp30 {N : Nat} (hN : 1000 ≤ N) (M : tS) {p q : Nat} (hp : p + 233 ≤ 233) (hq : q + 233 ≤ 233) : f_X6_copies_3_0 N M (nI p) (nI q) = some (va_up M 0 (va_cpy (M 3) (M 0) p q 233)) := by
  have h := lp_run (F := fun k (x : Int32 × tS) => f_X6_copies_3_0_3 N (nI p) (nI q) k x.1 x.2) (s := fun i => (nI i, va_up M 0 (va_cpy (M 3) (M 0) p q i))) 233 (some (va_up M 0 (va_cpy (M 3) (M 0) p q 233))) (by
    intro k
    show f_X6_copies_3_0_3b N (nI p) (nI q) (f_X6_copies_3_0_3 N (nI p) (nI q) k) (nI 233) (va_up M 0 (va_cpy (M 3) (M 0) p q 233)) = _
    unfold f_X6_copies_3_0_3b
    rw [li_233, leT (Nat.le_refl _) (by omega)]) (by
    intro k i hi
    show f_X6_copies_3_0_3b N (nI p) (nI q) (f_X6_copies_3_0_3 N (nI p) (nI q) k) (nI i) (va_up M 0 (va_cpy (M 3) (M 0) p q i)) = f_X6_copies_3_0_3 N (nI p) (nI q) k (nI (i + 1)) (va_up M 0 (va_cpy (M 3) (M 0) p q (i + 1)))
    unfold f_X6_copies_3_0_3b
    rw [li_233, leF hi (by omega), nI_add, nI_add, gdI (by omega) (by decide), gdI (by omega) (by decide), clI (by omega), clI (by omega), va_up_up, va_up_self, va_up_ne _ _ (by decide), va_cpyS, nI_s]) N (by omega)
  simp only [va_cpy0, va_up_id] at h
  exact h
theorem RS_congr {s s' : Nat → Int32} {A : tA} (ok : okA A) (h : ∀ k, k < 233 → s' k = s k) (hs : RS s A) : RS s' A := by
  obtain ⟨h1, h2, h3, h4, h5⟩ := hs
  have o1 := ok.1
  have o2 := ok.2.1
  refine ⟨by rw [h 0 (by omega)]; exact h1, by rw [h 1 (by omega)]; exact h2, fun j hj => by rw [h _ (by omega)]; exact h3 j hj, fun i hi => ?_, fun t ht p hp => by rw [h _ (by omega)]; exact h5 t ht p hp⟩
  obtain ⟨e1, e2, e3, e4⟩ := h4 i hi
  exact ⟨by rw [h _ (by omega)]; exact e1, by rw [h _ (by omega)]; exact e2, by rw [h _ (by omega)]; exact e3, fun p hp => by rw [h _ (by omega)]; exact e4 p hp⟩
theorem s_copy {N : Nat} {B O : tS} {A : tA} (h : RB O A) (ok : okA A) : ∃ B', f_X0_copyFrom N B O = some B' ∧ RB B' A := by
  obtain ⟨h1, h2, h3, h4, h5⟩ := h
  have o1 := ok.1
  have o2 := ok.2.1
  refine ⟨_, rfl, ?_⟩
  have c20 : (20 : Int32).toNatClampNeg = 20 := rfl
  have c120 : (120 : Int32).toNatClampNeg = 120 := rfl
  have c48 : (48 : Int32).toNatClampNeg = 48 := rfl
  rw [c20, c120, c48, cl_3]
  refine ⟨?_, ?_, ?_, ?_, ?_⟩
  · simp [va_up]; exact h1
  · simp [va_up]; exact h2
  · intro j hj
    simp only [va_up]
    simp
    rw [va_cpy_in (by omega) (by omega)]
    simpa using h3 j hj
  · intro i hi
    obtain ⟨e1, e2, e3, e4⟩ := h4 i hi
    simp only [va_up]
    simp
    rw [va_cpy_in (by omega) (by omega), va_cpy_in (by omega) (by omega), va_cpy_in (by omega) (by omega)]
    refine ⟨by simpa using e1, by simpa using e2, by simpa using e3, fun p hp => ?_⟩
    rw [va_cpy_in (by omega) (by omega)]
    simpa using e4 p hp
  · intro t ht p hp
    simp only [va_up]
    simp
    rw [va_cpy_in (by omega) (by omega)]
    simpa using h5 t ht p hp
theorem rel_copy {N : Nat} {B O : tS} {s s' : Nat → Int32} {A : tA} (h : RelB O s A) (hs : ∀ k, k < 233 → s' k = s k) : ∃ B', f_X0_copyFrom N B O = some B' ∧ RelB B' s' A := by
  obtain ⟨ok, hB, hS⟩ := h
  obtain ⟨B', e, h'⟩ := s_copy (N := N) (B := B) hB ok
  exact ⟨B', e, ok, h', RS_congr ok hs hS⟩
/-- remember and records -/
theorem g_rec49 {N : Nat} (hN : 1000 ≤ N) {M : tS} {kn : Nat} (h : kn < 4) (hM : M 2 0 = nI kn) : f_X6_records_49 N M = some (va_up (va_up M 1 (va_cpy (M 0) (M 1) 0 (233 * kn) 233)) 2 (fun _ => nI (kn + 1))) := by
  unfold f_X6_records_49
  rw [hM, li_233, pk_mul, li_0, g_cp01 hN M (by omega) (by omega), bd_some, va_up_ne _ _ (by decide), hM, li_1, nI_add]
theorem g_rec10 {N : Nat} (hN : 1000 ≤ N) (M : tS) (hM : M 2 0 = nI 4) : f_X6_records N M = some (va_up (va_up M 1 (va_cpy (M 0) (va_cpy (M 1) (M 1) 233 0 699) 0 699 233)) 2 (fun _ => nI 4)) := by
  unfold f_X6_records
  rw [hM, if_pos (by rfl)]
  have h := lp_run (F := fun k (x : Int32 × tS) => f_X6_records_10 N k x.1 x.2) (s := fun i => (nI i, va_up M 1 (va_cpy (M 1) (M 1) 233 0 i))) 699 (some (va_up (va_up M 1 (va_cpy (M 0) (va_cpy (M 1) (M 1) 233 0 699) 0 699 233)) 2 (fun _ => nI 4))) (by
    intro k
    show f_X6_records_10b N (f_X6_records_10 N k) (nI 699) (va_up M 1 (va_cpy (M 1) (M 1) 233 0 699)) = _
    unfold f_X6_records_10b
    rw [li_699, leT (Nat.le_refl _) (by omega), va_up_ne _ _ (by decide), hM, li_1, pk_sub (by omega)]
    rw [g_rec49 hN (kn := 3) (by decide) (by rw [va_up_self])]
    congr 1
    funext j
    simp only [va_up]
    by_cases j2 : j = 2
    · subst j2
      simp
    · by_cases j1 : j = 1
      · subst j1
        simp
      · simp [j1, j2]) (by
    intro k i hi
    show f_X6_records_10b N (f_X6_records_10 N k) (nI i) (va_up M 1 (va_cpy (M 1) (M 1) 233 0 i)) = f_X6_records_10 N k (nI (i + 1)) (va_up M 1 (va_cpy (M 1) (M 1) 233 0 (i + 1)))
    unfold f_X6_records_10b
    rw [li_699, leF hi (by omega), li_233, nI_add, gdI (by omega) (by decide), gdI (by omega) (by decide), clI (by omega), clI (by omega), va_up_up, va_up_self, nI_s]
    congr 2
    rw [← va_cpyS, va_cpy_out (by omega)]
    congr 1
    · omega
    · congr 1
      omega) N (by omega)
  simp only [va_cpy0, va_up_id] at h
  exact h
theorem rot_perm {π : Nat → Nat} (h : permH π) : permH (f_X3_rot π) ∧ f_X3_rot π 0 = π 1 ∧ f_X3_rot π 1 = π 2 ∧ f_X3_rot π 2 = π 3 ∧ f_X3_rot π 3 = π 0 := by
  have e0 : f_X3_rot π 0 = π 1 := by simp [f_X3_rot, va_up]
  have e1 : f_X3_rot π 1 = π 2 := by simp [f_X3_rot, va_up]
  have e2 : f_X3_rot π 2 = π 3 := by simp [f_X3_rot, va_up]
  have e3 : f_X3_rot π 3 = π 0 := by simp [f_X3_rot, va_up]
  have r : ∀ i, i < 4 → f_X3_rot π i = π ((i + 1) % 4) := by
    intro i hi
    match i, hi with
    | 0, _ => exact e0
    | 1, _ => exact e1
    | 2, _ => exact e2
    | 3, _ => exact e3
  refine ⟨⟨fun i hi => by rw [r i hi]; exact h.1 _ (by omega), fun i j hi hj e => ?_⟩, e0, e1, e2, e3⟩
  rw [r i hi, r j hj] at e
  have := h.2 _ _ (by omega) (by omega) e
  omega
theorem m_rec {N : Nat} (hN : 1000 ≤ N) {B M : tS} {Hs : tH} {A : tA} (hH : RelH Hs M) (hB : RelB B (M 0) A) : ∃ Hs' M', f_X3_remember N Hs B = some Hs' ∧ f_X6_records N M = some M' ∧ RelH Hs' M' ∧ ∀ k, k ≠ 1 → k ≠ 2 → M' k = M k := by
  obtain ⟨kn, As, h4, e1, e2, hp, hB2⟩ := hH
  rcases Nat.lt_or_ge kn 4 with hk | hk
  · obtain ⟨C, eC, hC⟩ := rel_copy (N := N) (B := Hs.2.2 (Hs.2.1 kn)) (s' := fun k => (va_cpy (M 0) (M 1) 0 (233 * kn) 233) (233 * kn + k)) hB (by
      intro k hk
      show va_cpy _ _ _ _ _ _ = _
      rw [va_cpy_in (by omega) (by omega)]
      congr 1
      omega)
    refine ⟨(nI (kn + 1), Hs.2.1, va_up Hs.2.2 (Hs.2.1 kn) C), va_up (va_up M 1 (va_cpy (M 0) (M 1) 0 (233 * kn) 233)) 2 (fun _ => nI (kn + 1)), ?_, ?_, ⟨kn + 1, va_up As kn A, by omega, rfl, by rw [va_up_self], hp, ?_⟩, ?_⟩
    · unfold f_X3_remember
      rw [e1, show (4 : Int32) = nI 4 from rfl, ltT hk (by decide), bd_some, e1, gdI hk (by decide), clI (by omega), if_pos (hp.1 kn hk), eC, bd_some, nI_s]
    · unfold f_X6_records
      rw [e2, show (4 : Int32) = nI 4 from rfl, eqF (by omega) (by omega) (by omega)]
      exact g_rec49 hN hk e2
    · intro i hi
      rw [va_up_ne _ _ (by decide), va_up_self]
      rcases Nat.lt_or_ge i kn with q | q
      · have ne : Hs.2.1 i ≠ Hs.2.1 kn := fun z => by
          have := hp.2 i kn (by omega) hk z
          omega
        show RelB (va_up Hs.2.2 (Hs.2.1 kn) C (Hs.2.1 i)) _ _
        rw [va_up_ne _ _ ne, va_up_ne _ _ (by omega)]
        obtain ⟨a, b, c⟩ := hB2 i q
        refine ⟨a, b, RS_congr a (fun k hk => ?_) c⟩
        show va_cpy _ _ _ _ _ _ = _
        rw [va_cpy_out (by omega)]
      · have e : i = kn := by omega
        subst e
        show RelB (va_up Hs.2.2 (Hs.2.1 i) C (Hs.2.1 i)) _ _
        rw [va_up_self, va_up_self]
        exact hC
    · intro k k1 k2
      rw [va_up_ne _ _ k2, va_up_ne _ _ k1]
  · have e4 : kn = 4 := by omega
    subst e4
    obtain ⟨rp, r0, r1, r2, r3⟩ := rot_perm hp
    obtain ⟨C, eC, hC⟩ := rel_copy (N := N) (B := Hs.2.2 (Hs.2.1 0)) (s' := fun k => (va_cpy (M 0) (va_cpy (M 1) (M 1) 233 0 699) 0 699 233) (233 * 3 + k)) hB (by
      intro k hk
      show va_cpy _ _ _ _ _ _ = _
      rw [va_cpy_in (by omega) (by omega), show 0 + (233 * 3 + k - 699) = k by omega])
    refine ⟨(nI 4, f_X3_rot Hs.2.1, va_up Hs.2.2 (Hs.2.1 0) C), va_up (va_up M 1 (va_cpy (M 0) (va_cpy (M 1) (M 1) 233 0 699) 0 699 233)) 2 (fun _ => nI 4), ?_, g_rec10 hN M e2, ⟨4, va_up (fun i => As (i + 1)) 3 A, by omega, rfl, by rw [va_up_self], rp, ?_⟩, ?_⟩
    · unfold f_X3_remember
      have m3 : nI 4 - 1 = nI 3 := rfl
      rw [e1, show (4 : Int32) = nI 4 from rfl, ltF (Nat.le_refl _) (by decide), if_pos ⟨hp.1 0 (by decide), hp.1 1 (by decide), hp.1 2 (by decide), hp.1 3 (by decide)⟩, bd_some]
      unfold f_X3_dropOldest
      simp only []
      rw [e1, m3, gdI (by decide) (by decide), clI (by decide), r3, if_pos (hp.1 0 (by decide)), eC, bd_some]
      rfl
    · intro i hi
      rw [va_up_ne _ _ (by decide), va_up_self]
      show RelB (va_up Hs.2.2 (Hs.2.1 0) C (f_X3_rot Hs.2.1 i)) _ _
      rcases Nat.lt_or_ge i 3 with q | q
      · have er : f_X3_rot Hs.2.1 i = Hs.2.1 (i + 1) := by
          match i, q with
          | 0, _ => exact r0
          | 1, _ => exact r1
          | 2, _ => exact r2
        have ne : Hs.2.1 (i + 1) ≠ Hs.2.1 0 := fun z => by
          have := hp.2 (i + 1) 0 (by omega) (by omega) z
          omega
        rw [er, va_up_ne _ _ ne, va_up_ne _ _ (by omega)]
        obtain ⟨a, b, c⟩ := hB2 (i + 1) (by omega)
        refine ⟨a, b, RS_congr a (fun k hk => ?_) c⟩
        show va_cpy _ _ _ _ _ _ = _
        rw [va_cpy_out (by omega), va_cpy_in (by omega) (by omega)]
        congr 1
        omega
      · have e : i = 3 := by omega
        subst e
        rw [r3, va_up_self, va_up_self]
        exact hC
    · intro k k1 k2
      rw [va_up_ne _ _ k2, va_up_ne _ _ k1]
