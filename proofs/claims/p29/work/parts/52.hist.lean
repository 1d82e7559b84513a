/-! tools: fields, arrays, loops by invariant; copies, history -/
theorem va_up_up {α : Type} (f : Nat → α) (k : Nat) (v w : α) : va_up (va_up f k v) k w = va_up f k w := by
  funext j
  simp only [va_up]
  split <;> rfl
theorem va_up_id {α : Type} (f : Nat → α) (k : Nat) : va_up f k (f k) = f := by
  funext j
  simp only [va_up]
  split
  · next h => rw [h]
  · rfl
theorem va_up_eq {α : Type} {f : Nat → α} {k : Nat} {v : α} (h : v = f k) : va_up f k v = f := by rw [h, va_up_id]
theorem upd_s (f : Nat → Int32) (k : Nat) (v : Int32) : upd f k v k = v := by simp [upd]
theorem upd_o {f : Nat → Int32} {k j : Nat} (v : Int32) (h : j ≠ k) : upd f k v j = f j := by simp [upd, h]
theorem va_cpy0 {f g : Nat → Int32} (p q : Nat) : va_cpy f g p q 0 = g := by
  funext j
  simp only [va_cpy]
  rw [if_neg (by omega)]
theorem va_cpyS {f g : Nat → Int32} (p q i : Nat) : upd (va_cpy f g p q i) (q + i) (f (p + i)) = va_cpy f g p q (i + 1) := by
  funext j
  simp only [va_cpy, upd]
  by_cases h : j = q + i
  · rw [if_pos h, if_pos (by omega), h]
    congr 1
    omega
  · rw [if_neg h]
    by_cases h2 : q ≤ j ∧ j < q + i
    · rw [if_pos h2, if_pos (by omega)]
    · rw [if_neg h2, if_neg (by omega)]
theorem va_cpy_in {f g : Nat → Int32} {p q n j : Nat} (h : q ≤ j) (h2 : j < q + n) : va_cpy f g p q n j = f (p + (j - q)) := if_pos ⟨h, h2⟩
theorem va_cpy_out {f g : Nat → Int32} {p q n j : Nat} (h : j < q ∨ q + n ≤ j) : va_cpy f g p q n j = g j := if_neg (by omega)
/-- a loop by an invariant; it ends in G -/
theorem lp_to {ρ σ : Type} (F : Nat → σ → Option ρ) (P : Nat → σ → Prop) (n : Nat) (G : σ → Option ρ) (hend : ∀ k x, P n x → F (k + 1) x = G x) (hstep : ∀ k i x, i < n → P i x → ∃ y, F (k + 1) x = F k y ∧ P (i + 1) y) : ∀ (N : Nat), n < N → ∀ x, P 0 x → ∃ y, P n y ∧ F N x = G y := by
  have key : ∀ (d i N : Nat) (x : σ), i + d = n → d < N → P i x → ∃ y, P n y ∧ F N x = G y := by
    intro d
    induction d with
    | zero =>
      intro i N x h1 h2 hP
      obtain ⟨k, rfl⟩ : ∃ k, N = k + 1 := ⟨N - 1, by omega⟩
      rw [show i = n by omega] at hP
      exact ⟨x, hP, hend k x hP⟩
    | succ d ih =>
      intro i N x h1 h2 hP
      obtain ⟨k, rfl⟩ : ∃ k, N = k + 1 := ⟨N - 1, by omega⟩
      obtain ⟨y, e, hy⟩ := hstep k i x (by omega) hP
      rw [e]
      exact ih (i + 1) k y (by omega) (by omega) hy
  intro N hN x hP
  exact key n 0 N x (by omega) hN hP
theorem li_233 : (233 : Int32) = nI 233 := rfl
theorem li_699 : (699 : Int32) = nI 699 := rfl
theorem li_185 : (185 : Int32) = nI 185 := rfl
theorem li_80 : (80 : Int32) = nI 80 := rfl
theorem cl_0 : (0 : Int32).toNatClampNeg = 0 := rfl
theorem cl_1 : (1 : Int32).toNatClampNeg = 1 := rfl
theorem cl_2 : (2 : Int32).toNatClampNeg = 2 := rfl
theorem cl_3 : (3 : Int32).toNatClampNeg = 3 := rfl
theorem cl_4 : (4 : Int32).toNatClampNeg = 4 := rfl
theorem s_copy {N : Nat} {B O : tS} {A : tA} (h : RB O A) (ok : okA A) : ∃ B', f_X0_copyFrom N B O = some B' ∧ RB B' A := by
  obtain ⟨h1, h2, h3, h4, h5⟩ := h
  have o1 := ok.1
  have o2 := ok.2.1
  refine ⟨_, rfl, ?_⟩
  have c20 : (20 : Int32).toNatClampNeg = 20 := rfl
  have c120 : (120 : Int32).toNatClampNeg = 120 := rfl
  have c48 : (48 : Int32).toNatClampNeg = 48 := rfl
  rw [c20, c120, c48, cl_3]
  refine ⟨?_, ?_, ?_, ?_, ?_⟩
  · simp [va_up]; exact h1
  · simp [va_up]; exact h2
  · intro j hj
    simp only [va_up]
    simp
    rw [va_cpy_in (by omega) (by omega)]
    simpa using h3 j hj
  · intro i hi
    obtain ⟨e1, e2, e3, e4⟩ := h4 i hi
    simp only [va_up]
    simp
    rw [va_cpy_in (by omega) (by omega), va_cpy_in (by omega) (by omega), va_cpy_in (by omega) (by omega)]
    refine ⟨by simpa using e1, by simpa using e2, by simpa using e3, fun p hp => ?_⟩
    rw [va_cpy_in (by omega) (by omega)]
    simpa using e4 p hp
  · intro t ht p hp
    simp only [va_up]
    simp
    rw [va_cpy_in (by omega) (by omega)]
    simpa using h5 t ht p hp
theorem rot_perm {π : Nat → Nat} (h : permH π) : permH (f_X3_rot π) ∧ f_X3_rot π 0 = π 1 ∧ f_X3_rot π 1 = π 2 ∧ f_X3_rot π 2 = π 3 ∧ f_X3_rot π 3 = π 0 := by
  have e0 : f_X3_rot π 0 = π 1 := by simp [f_X3_rot, va_up]
  have e1 : f_X3_rot π 1 = π 2 := by simp [f_X3_rot, va_up]
  have e2 : f_X3_rot π 2 = π 3 := by simp [f_X3_rot, va_up]
  have e3 : f_X3_rot π 3 = π 0 := by simp [f_X3_rot, va_up]
  have r : ∀ i, i < 4 → f_X3_rot π i = π ((i + 1) % 4) := by
    intro i hi
    match i, hi with
    | 0, _ => exact e0
    | 1, _ => exact e1
    | 2, _ => exact e2
    | 3, _ => exact e3
  refine ⟨⟨fun i hi => by rw [r i hi]; exact h.1 _ (by omega), fun i j hi hj e => ?_⟩, e0, e1, e2, e3⟩
  rw [r i hi, r j hj] at e
  have := h.2 _ _ (by omega) (by omega) e
  omega
