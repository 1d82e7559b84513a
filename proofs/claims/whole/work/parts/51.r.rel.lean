/-! the relation between the class's state and the reference's -/
def RS (s : Nat → Int32) (A : tA) : Prop := s 0 = nI (A 0 0) ∧ s 1 = nI (A 5 0) ∧ (∀ j, j < 3 → s (2 + j) = nI (A 7 j)) ∧ (∀ i, i < A 0 0 → s (5 + 9 * i) = nI (A 1 i) ∧ s (5 + 9 * i + 1) = nI (A 2 i) ∧ s (5 + 9 * i + 2) = nI (A 3 i) ∧ ∀ p, p < 6 → s (5 + 9 * i + 3 + p) = nI (A 4 (i * 6 + p))) ∧ (∀ t, t < A 5 0 → ∀ p, p < 6 → s (185 + 6 * t + p) = nI (A 6 (t * 6 + p)))
def permH (π : Nat → Nat) : Prop := (∀ i, i < 4 → π i < 4) ∧ ∀ i j, i < 4 → j < 4 → π i = π j → i = j
def RelB (B : tS) (s : Nat → Int32) (A : tA) : Prop := okA A ∧ RB B A ∧ RS s A
def RelH (Hs : tH) (M : tS) : Prop := ∃ (kn : Nat) (As : Nat → tA), kn ≤ 4 ∧ Hs.1 = nI kn ∧ M 2 0 = nI kn ∧ permH Hs.2.1 ∧ ∀ i, i < kn → RelB (Hs.2.2 (Hs.2.1 i)) (fun k => M 1 (233 * i + k)) (As i)
def RelK (Tn Sn M : tS) : Prop := Tn 3 0 = M 4 0 ∧ (M 4 0 = 0 ∨ (M 4 0 = 1 ∧ ∃ A, RelB Sn (M 3) A))
def RelT (Tn Tx M : tS) : Prop := ∃ n : Nat, n ≤ 80 ∧ Tn 5 0 = nI n ∧ M 6 0 = nI n ∧ ∀ j, j < n → Tx 0 j = M 5 j
def Rel (Tn B : tS) (Hs : tH) (Sn Tx Tr E F Nm Bt M : tS) : Prop := (∃ A, RelB B (M 0) A) ∧ RelH Hs M ∧ RelK Tn Sn M ∧ RelT Tn Tx M
def A0 : tA := fun k j => if k = 7 then (if j = 0 then 3 else if j = 1 then 4 else 2) else 0
theorem rel_A0 : RelB iB (iM 0) A0 := by
  refine ⟨⟨by decide, by decide, by decide, by decide, by decide, fun i hi => absurd (show i < 0 from hi) (Nat.not_lt_zero i), fun t ht => absurd (show t < 0 from ht) (Nat.not_lt_zero t)⟩, ⟨rfl, rfl, ?_, fun i hi => absurd (show i < 0 from hi) (Nat.not_lt_zero i), fun t ht => absurd (show t < 0 from ht) (Nat.not_lt_zero t)⟩, ⟨rfl, rfl, ?_, fun i hi => absurd (show i < 0 from hi) (Nat.not_lt_zero i), fun t ht => absurd (show t < 0 from ht) (Nat.not_lt_zero t)⟩⟩
  · intro j hj
    match j, hj with
    | 0, _ => rfl
    | 1, _ => rfl
    | 2, _ => rfl
  · intro j hj
    match j, hj with
    | 0, _ => rfl
    | 1, _ => rfl
    | 2, _ => rfl
theorem m_init : Rel iZ iB iH iB iZ iB iZ iZ iZ iK iM :=
  ⟨⟨A0, rel_A0⟩, ⟨0, fun _ => A0, by decide, rfl, rfl, ⟨fun i h => h, fun i j _ _ h => h⟩, fun i hi => absurd hi (Nat.not_lt_zero i)⟩, ⟨rfl, Or.inl rfl⟩, ⟨0, by decide, rfl, rfl, fun j hj => absurd hj (Nat.not_lt_zero j)⟩⟩
