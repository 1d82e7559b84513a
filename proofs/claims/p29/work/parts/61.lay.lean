/-! heaps: how the reference lays them -/
theorem lp_wh {ρ σ : Type} (F : Nat → σ → Option ρ) (P Q : σ → Prop) (μ : σ → Nat) (G : σ → Option ρ) (hstep : ∀ k x, P x → (F (k + 1) x = G x ∧ Q x) ∨ ∃ y, F (k + 1) x = F k y ∧ P y ∧ μ y < μ x) : ∀ (N : Nat) (x : σ), P x → μ x < N → ∃ y, Q y ∧ F N x = G y := by
  intro N
  induction N with
  | zero => intro x hx h; omega
  | succ k ih =>
    intro x hx h
    rcases hstep k x hx with ⟨e, q⟩ | ⟨y, e, hy, hm⟩
    · exact ⟨x, q, e⟩
    · obtain ⟨z, hz, e2⟩ := ih y hy (by omega)
      exact ⟨z, hz, e.trans e2⟩
def insB (mk : Nat → Bool) (b : Nat) : Nat → Bool := fun i => mk i || (i == b)
theorem insB_b (mk : Nat → Bool) (b : Nat) : insB mk b b = true := by simp [insB]
theorem insB_m {mk : Nat → Bool} {b i : Nat} (h : mk i = true) : insB mk b i = true := by simp [insB, h]
theorem insB_o {mk : Nat → Bool} {b i : Nat} (h : i ≠ b) : insB mk b i = mk i := by simp [insB, h]
theorem ct_ins {mk : Nat → Bool} {b : Nat} (hb : mk b = false) : ∀ {n : Nat}, b < n → ct (insB mk b) n = ct mk n + 1
  | 0, h => absurd h (Nat.not_lt_zero b)
  | n + 1, h => by
    rw [ct_succ, ct_succ]
    by_cases q : b = n
    · subst q
      rw [insB_b, hb, ct_congr (fun i hi => insB_o (by omega))]
      rfl
    · rw [ct_ins hb (by omega), insB_o (by omega : n ≠ b)]
      omega
theorem ct_false (n : Nat) : ct (fun _ => false) n = 0 := ct_zero.mpr (fun _ _ => rfl)
theorem lt_eq {α β : Type} (a : α) (f : α → β) : lt_ a f = f a := rfl
/-- the reference's rows: before note m, and while the heap of m spreads -/
def ovA (A : tA) (c : Nat) (L : Nat → Nat) (M0 : tS) (m : Nat) (M : tS) : Prop := (∀ k, k ≠ 7 → k ≠ 8 → k ≠ 9 → M k = M0 k) ∧ M 9 0 = nI (ct (rtB c L) m) ∧ ∀ i, i < A 0 0 → M 7 i = if i ≠ c ∧ L i < m then nI (hpA c L i) else -5
def ivA (A : tA) (c : Nat) (L : Nat → Nat) (M0 : tS) (m many : Nat) (mk : Nat → Bool) (M : tS) : Prop := (∀ k, k ≠ 7 → k ≠ 8 → k ≠ 9 → M k = M0 k) ∧ M 9 0 = nI (ct (rtB c L) m) ∧ (∀ i, i < A 0 0 → M 7 i = if i ≠ c ∧ L i < m then nI (hpA c L i) else if mk i = true then nI (ct (rtB c L) m) else -5) ∧ (∀ i, i < A 0 0 → mk i = true → i ≠ c ∧ L i = m) ∧ mk m = true ∧ many = ct mk (A 0 0) ∧ (∀ j, j < many → ∃ a, a < A 0 0 ∧ M 8 j = nI a ∧ mk a = true) ∧ ∀ a, a < A 0 0 → mk a = true → ∃ j, j < many ∧ M 8 j = nI a
def pgA (A : tA) (c r k : Nat) (mk : Nat → Bool) (M : tS) : Prop := ∀ j, j < k → ∀ a, a < A 0 0 → M 8 j = nI a → ∀ b, b < A 0 0 → b ≠ c → eA A r a b → mk b = true
section LAY
variable {N : Nat} {M0 : tS} {A : tA} {c r : Nat} {bu : Int32} {L : Nat → Nat}
end LAY
