/-! load: the reference lays the board; the method -/
theorem RB_em {N : Nat} {B : tS} {A : tA} (h : RB B A) : ∃ B', f_X0_removeAll N B = some B' ∧ RB B' (emA A) := by
  refine ⟨_, rfl, ?_, ?_, fun j hj => ?_, fun i hi => absurd (show i < 0 from hi) (Nat.not_lt_zero i), fun t ht => absurd (show t < 0 from ht) (Nat.not_lt_zero t)⟩
  · rw [va_up_ne _ _ (by decide), va_up_self]
    rfl
  · rw [va_up_self]
    rfl
  · rw [va_up_ne _ _ (by decide), va_up_ne _ _ (by decide)]
    exact h.2.2.1 j hj
