/-! arguments; single updates -/
theorem one0 : ¬ ((1 : Int32) = 0) := by decide
theorem nn01 {ρ : Type} {T : Option ρ} : (if ¬ ((1 : Int32) = 0 ∨ (1 : Int32) = 1) then none else T) = T := if_neg (by decide)
theorem nn00 {ρ : Type} {T : Option ρ} : (if ¬ ((0 : Int32) = 0 ∨ (0 : Int32) = 1) then none else T) = T := if_neg (by decide)
theorem if0 {ρ : Type} {T F : ρ} : (if (0 : Int32) = 0 then T else F) = T := if_pos rfl
theorem if1 {ρ : Type} {T F : ρ} : (if (1 : Int32) = 0 then T else F) = F := if_neg (by decide)
theorem has_c {n : Nat} (hn : n < 100000) (x : Int32) : (if x < 0 then some (0 : Int32) else (if nI n ≤ x then some (0 : Int32) else some (1 : Int32))) = some 0 ∧ (¬ ∃ j, j < n ∧ x = nI j) ∨ ∃ j, j < n ∧ x = nI j ∧ (if x < 0 then some (0 : Int32) else (if nI n ≤ x then some (0 : Int32) else some (1 : Int32))) = some 1 := by
  rcases ix3 x n (by omega) with h | h | ⟨j, hj, rfl⟩
  · left
    refine ⟨if_pos (by rw [I_lt, I_0]; exact h), fun ⟨j, hj, e⟩ => ?_⟩
    rw [e, nI_T (by omega)] at h
    omega
  · left
    refine ⟨?_, fun ⟨j, hj, e⟩ => ?_⟩
    · rw [if_neg (by rw [I_lt, I_0]; omega), if_pos (by rw [I_le, nI_T (by omega)]; omega)]
    · rw [e, nI_T (by omega)] at h
      omega
  · right
    exact ⟨j, hj, rfl, by rw [lt0F (by omega), leF hj (by omega)]⟩
/-- one place of the board -/
def upA (A : tA) (f i v : Nat) : tA := fun g j => if g = f ∧ j = i then v else A g j
def enA (g v : Nat) : Int32 := if g = 3 ∨ g = 6 then enc v else nI v
theorem upA_s (A : tA) (f i v : Nat) : upA A f i v f i = v := by simp [upA]
theorem upA_o (A : tA) {f i g j : Nat} (v : Nat) (h : g ≠ f ∨ j ≠ i) : upA A f i v g j = A g j := by
  unfold upA
  rw [if_neg (by omega)]
theorem up1 {B : tS} {A : tA} {f i v g j : Nat} {x : Int32} (hx : x = enA f v) (h : B g j = enA g (A g j)) : (va_up B f (upd (B f) i x)) g j = enA g (upA A f i v g j) := by
  by_cases q : g = f
  · subst q
    rw [va_up_self]
    by_cases q2 : j = i
    · subst q2
      rw [upd_s, upA_s, hx]
    · rw [upd_o _ q2, upA_o _ _ (Or.inr q2), h]
  · rw [va_up_ne _ _ q, upA_o _ _ (Or.inl q), h]
theorem RB_up {B : tS} {A : tA} {f i v : Nat} {x : Int32} (h : RB B A) (h0 : f ≠ 0) (h5 : f ≠ 5) (hx : x = enA f v) : RB (va_up B f (upd (B f) i x)) (upA A f i v) := by
  obtain ⟨h1, h2, h3, h4, h6⟩ := h
  have z0 : upA A f i v 0 0 = A 0 0 := upA_o _ _ (Or.inl (by omega))
  have z5 : upA A f i v 5 0 = A 5 0 := upA_o _ _ (Or.inl (by omega))
  refine ⟨?_, ?_, fun j hj => up1 (g := 7) hx (h3 j hj), fun j hj => ?_, fun t ht p hp => up1 (g := 6) hx (h6 t (by rw [← z5]; exact ht) p hp)⟩
  · rw [va_up_ne _ _ (by omega), z0]
    exact h1
  · rw [va_up_ne _ _ (by omega), z5]
    exact h2
  · rw [z0] at hj
    obtain ⟨e1, e2, e3, e4⟩ := h4 j hj
    exact ⟨up1 (g := 1) hx e1, up1 (g := 2) hx e2, up1 (g := 3) hx e3, fun p hp => up1 (g := 4) hx (e4 p hp)⟩
/-- the place of the reference's array -/
def ixf (f j : Nat) : Nat := if f = 1 then 5 + 9 * j else if f = 2 then 5 + 9 * j + 1 else if f = 3 then 5 + 9 * j + 2 else if f = 4 then 5 + 9 * (j / 6) + 3 + j % 6 else if f = 6 then 185 + j else if f = 7 then 2 + j else if f = 5 then 1 else 0
def vaf (f j : Nat) : Prop := (f = 1 ∧ j < 20) ∨ (f = 2 ∧ j < 20) ∨ (f = 3 ∧ j < 20) ∨ (f = 4 ∧ j < 120) ∨ (f = 6 ∧ j < 48) ∨ (f = 7 ∧ j < 3) ∨ (f = 5 ∧ j = 0) ∨ (f = 0 ∧ j = 0)
theorem ixf_inj {f j g k : Nat} (h1 : vaf f j) (h2 : vaf g k) (h : ixf f j = ixf g k) : f = g ∧ j = k := by
  unfold vaf at h1 h2
  unfold ixf at h
  rcases h1 with ⟨rfl, h1⟩ | ⟨rfl, h1⟩ | ⟨rfl, h1⟩ | ⟨rfl, h1⟩ | ⟨rfl, h1⟩ | ⟨rfl, h1⟩ | ⟨rfl, h1⟩ | ⟨rfl, h1⟩ <;> rcases h2 with ⟨rfl, h2⟩ | ⟨rfl, h2⟩ | ⟨rfl, h2⟩ | ⟨rfl, h2⟩ | ⟨rfl, h2⟩ | ⟨rfl, h2⟩ | ⟨rfl, h2⟩ | ⟨rfl, h2⟩ <;> simp at h ⊢ <;> omega
theorem ixf_lt {f j : Nat} (h1 : vaf f j) : ixf f j < 233 := by
  unfold vaf at h1
  unfold ixf
  rcases h1 with ⟨rfl, h1⟩ | ⟨rfl, h1⟩ | ⟨rfl, h1⟩ | ⟨rfl, h1⟩ | ⟨rfl, h1⟩ | ⟨rfl, h1⟩ | ⟨rfl, h1⟩ | ⟨rfl, h1⟩ <;> simp <;> omega
theorem ixf4 {i p : Nat} (hp : p < 6) : ixf 4 (i * 6 + p) = 5 + 9 * i + 3 + p := by
  unfold ixf
  simp
  omega
theorem rs1 {s : Nat → Int32} {A : tA} {f i v g j : Nat} (h1 : vaf f i) (h2 : vaf g j) (h : s (ixf g j) = nI (A g j)) : upd s (ixf f i) (nI v) (ixf g j) = nI (upA A f i v g j) := by
  by_cases q : ixf g j = ixf f i
  · obtain ⟨rfl, rfl⟩ := ixf_inj h2 h1 q
    rw [upd_s, upA_s]
  · rw [upd_o _ q, upA_o _ _ (by
      by_cases z : g = f
      · right
        intro w
        subst z; subst w
        exact q rfl
      · exact Or.inl z), h]
def bnA (A : tA) (f v : Nat) : Prop := (f = 1 → v < 30) ∧ (f = 2 → v < 20) ∧ (f = 3 → v ≤ A 5 0) ∧ (f = 4 → v ≤ 9) ∧ (f = 6 → v ≤ 10)
theorem ok_up {A : tA} {f i v : Nat} (ok : okA A) (h0 : f ≠ 0) (h5 : f ≠ 5) (h7 : f ≠ 7) (hb : bnA A f v) : okA (upA A f i v) := by
  obtain ⟨o1, o2, o3, o4, o5, o6, o8⟩ := ok
  obtain ⟨b1, b2, b3, b4, b6⟩ := hb
  have z0 : upA A f i v 0 0 = A 0 0 := upA_o _ _ (Or.inl (by omega))
  have z5 : upA A f i v 5 0 = A 5 0 := upA_o _ _ (Or.inl (by omega))
  have z7 : ∀ j, upA A f i v 7 j = A 7 j := fun j => upA_o _ _ (Or.inl (by omega))
  refine ⟨by rw [z0]; exact o1, by rw [z5]; exact o2, by rw [z7]; exact o3, by rw [z7]; exact o4, by rw [z7]; exact o5, fun j hj => ?_, fun t ht p hp => ?_⟩
  · rw [z0] at hj
    obtain ⟨e1, e2, e3, e4⟩ := o6 j hj
    rw [z5]
    refine ⟨?_, ?_, ?_, fun p hp => ?_⟩
    · unfold upA; split
      · next q => exact b1 q.1.symm
      · exact e1
    · unfold upA; split
      · next q => exact b2 q.1.symm
      · exact e2
    · unfold upA; split
      · next q => exact b3 q.1.symm
      · exact e3
    · unfold upA; split
      · next q => exact b4 q.1.symm
      · exact e4 p hp
  · rw [z5] at ht
    unfold upA; split
    · next q => exact b6 q.1.symm
    · exact o8 t ht p hp
