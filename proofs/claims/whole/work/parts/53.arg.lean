/-! arguments; single updates -/
theorem in_c (N : Nat) (x : Int32) {n : Nat} (hn : n < 100000) : f_X6_in N x 0 (nI n - 1) = some 0 ∧ (¬ ∃ j, j < n ∧ x = nI j) ∨ ∃ j, j < n ∧ x = nI j ∧ f_X6_in N x 0 (nI n - 1) = some 1 := by
  have e1 : (nI n - 1).toInt = (n : Int) - 1 := by
    rw [li_1, pk_sub_toInt (by omega) (by omega)]
    rfl
  rcases ix3 x n (by omega) with h | h | ⟨j, hj, rfl⟩
  · left
    refine ⟨?_, fun ⟨j, hj, e⟩ => ?_⟩
    · unfold f_X6_in
      rw [if_pos (by rw [I_lt, I_0]; exact h)]
    · rw [e, nI_T (by omega)] at h
      omega
  · left
    refine ⟨?_, fun ⟨j, hj, e⟩ => ?_⟩
    · unfold f_X6_in
      rw [if_neg (by rw [I_lt, I_0]; omega), if_pos (by rw [I_lt, e1]; omega)]
    · rw [e, nI_T (by omega)] at h
      omega
  · right
    refine ⟨j, hj, rfl, ?_⟩
    unfold f_X6_in
    rw [if_neg (by rw [I_lt, I_0, nI_T (by omega)]; omega), if_neg (by rw [I_lt, e1, nI_T (by omega)]; omega)]
theorem in_b (N : Nat) (x : Int32) {b : Nat} (hb : b < 10000) : f_X6_in N x 0 (nI b) = some 0 ∧ (¬ ∃ j, j ≤ b ∧ x = nI j) ∨ ∃ j, j ≤ b ∧ x = nI j ∧ f_X6_in N x 0 (nI b) = some 1 := by
  have e : nI (b + 1) - 1 = nI b := by rw [li_1, pk_sub (by omega)]; rfl
  have h := in_c N x (n := b + 1) (by omega)
  rw [e] at h
  rcases h with ⟨h1, h2⟩ | ⟨j, h1, h2, h3⟩
  · exact Or.inl ⟨h1, fun ⟨j, hj, q⟩ => h2 ⟨j, by omega, q⟩⟩
  · exact Or.inr ⟨j, by omega, h2, h3⟩
theorem in_r (N : Nat) (x : Int32) {a b : Nat} (ha : a ≤ b) (hb : b < 10000) : f_X6_in N x (nI a) (nI b) = some 0 ∧ (¬ ∃ j, a ≤ j ∧ j ≤ b ∧ x = nI j) ∨ ∃ j, a ≤ j ∧ j ≤ b ∧ x = nI j ∧ f_X6_in N x (nI a) (nI b) = some 1 := by
  rcases ix3 x (b + 1) (by omega) with h | h | ⟨j, hj, rfl⟩
  · left
    refine ⟨?_, fun ⟨j, _, hj, e⟩ => ?_⟩
    · unfold f_X6_in
      rw [if_pos (by rw [I_lt, nI_T (by omega)]; omega)]
    · rw [e, nI_T (by omega)] at h
      omega
  · left
    refine ⟨?_, fun ⟨j, _, hj, e⟩ => ?_⟩
    · unfold f_X6_in
      rw [if_neg (by rw [I_lt, nI_T (by omega)]; omega), if_pos (by rw [I_lt, nI_T (by omega)]; omega)]
    · rw [e, nI_T (by omega)] at h
      omega
  · rcases Nat.lt_or_ge j a with q | q
    · left
      refine ⟨?_, fun ⟨i, h1, h2, e⟩ => ?_⟩
      · unfold f_X6_in
        rw [if_pos (by rw [I_lt, nI_T (by omega), nI_T (by omega)]; omega)]
      · have := nI_inj (by omega) (by omega) e
        omega
    · right
      refine ⟨j, q, by omega, rfl, ?_⟩
      unfold f_X6_in
      rw [if_neg (by rw [I_lt, nI_T (by omega), nI_T (by omega)]; omega), if_neg (by rw [I_lt, nI_T (by omega), nI_T (by omega)]; omega)]
theorem one0 : ¬ ((1 : Int32) = 0) := by decide
theorem nn01 {ρ : Type} {T : Option ρ} : (if ¬ ((1 : Int32) = 0 ∨ (1 : Int32) = 1) then none else T) = T := if_neg (by decide)
theorem nn00 {ρ : Type} {T : Option ρ} : (if ¬ ((0 : Int32) = 0 ∨ (0 : Int32) = 1) then none else T) = T := if_neg (by decide)
theorem if0 {ρ : Type} {T F : ρ} : (if (0 : Int32) = 0 then T else F) = T := if_pos rfl
theorem if1 {ρ : Type} {T F : ρ} : (if (1 : Int32) = 0 then T else F) = F := if_neg (by decide)
theorem has_c {n : Nat} (hn : n < 100000) (x : Int32) : (if x < 0 then some (0 : Int32) else (if nI n ≤ x then some (0 : Int32) else some (1 : Int32))) = some 0 ∧ (¬ ∃ j, j < n ∧ x = nI j) ∨ ∃ j, j < n ∧ x = nI j ∧ (if x < 0 then some (0 : Int32) else (if nI n ≤ x then some (0 : Int32) else some (1 : Int32))) = some 1 := by
  rcases ix3 x n (by omega) with h | h | ⟨j, hj, rfl⟩
  · left
    refine ⟨if_pos (by rw [I_lt, I_0]; exact h), fun ⟨j, hj, e⟩ => ?_⟩
    rw [e, nI_T (by omega)] at h
    omega
  · left
    refine ⟨?_, fun ⟨j, hj, e⟩ => ?_⟩
    · rw [if_neg (by rw [I_lt, I_0]; omega), if_pos (by rw [I_le, nI_T (by omega)]; omega)]
    · rw [e, nI_T (by omega)] at h
      omega
  · right
    exact ⟨j, hj, rfl, by rw [lt0F (by omega), leF hj (by omega)]⟩
/-- a note; a theme; a person; a place; a name -/
theorem note_c {N : Nat} {B M : tS} {A : tA} (hB : RB B A) (hS : RS (M 0) A) (ok : okA A) (x : Int32) : (f_X0_hasNote N B x = some 0 ∧ f_X6_isNote N M x = some 0) ∨ ∃ j, j < A 0 0 ∧ x = nI j ∧ f_X0_hasNote N B x = some 1 ∧ f_X6_isNote N M x = some 1 := by
  have o1 := ok.1
  unfold f_X0_hasNote f_X6_isNote
  rw [hB.1, cl_0, hS.1]
  rcases in_c N x (n := A 0 0) (by omega) with ⟨h1, h2⟩ | ⟨j, h1, h2, h3⟩
  · rcases has_c (n := A 0 0) (by omega) x with ⟨k1, _⟩ | ⟨j, k1, k2, _⟩
    · exact Or.inl ⟨k1, by rw [h1, bd_some, nn00]⟩
    · exact absurd ⟨j, k1, k2⟩ h2
  · rcases has_c (n := A 0 0) (by omega) x with ⟨_, k2⟩ | ⟨i, k1, k2, k3⟩
    · exact absurd ⟨j, h1, h2⟩ k2
    · exact Or.inr ⟨j, h1, h2, k3, by rw [h3, bd_some, nn01]⟩
theorem theme_c {N : Nat} {B M : tS} {A : tA} (hB : RB B A) (hS : RS (M 0) A) (ok : okA A) (x : Int32) : (f_X0_hasTheme N B x = some 0 ∧ f_X6_isTheme N M x = some 0) ∨ ∃ j, j < A 5 0 ∧ x = nI j ∧ f_X0_hasTheme N B x = some 1 ∧ f_X6_isTheme N M x = some 1 := by
  have o1 := ok.2.1
  unfold f_X0_hasTheme f_X6_isTheme
  rw [hB.2.1, cl_1, hS.2.1]
  rcases in_c N x (n := A 5 0) (by omega) with ⟨h1, h2⟩ | ⟨j, h1, h2, h3⟩
  · rcases has_c (n := A 5 0) (by omega) x with ⟨k1, _⟩ | ⟨j, k1, k2, _⟩
    · exact Or.inl ⟨k1, by rw [h1, bd_some, nn00]⟩
    · exact absurd ⟨j, k1, k2⟩ h2
  · rcases has_c (n := A 5 0) (by omega) x with ⟨_, k2⟩ | ⟨i, k1, k2, k3⟩
    · exact absurd ⟨j, h1, h2⟩ k2
    · exact Or.inr ⟨j, h1, h2, k3, by rw [h3, bd_some, nn01]⟩
theorem pers_c (N : Nat) (x : Int32) : (f_X5_isPerson N x = some 0 ∧ f_X6_isPerson N x = some 0) ∨ ∃ j, j < 6 ∧ x = nI j ∧ f_X5_isPerson N x = some 1 ∧ f_X6_isPerson N x = some 1 := by
  have e : f_X5_isPerson N x = f_X6_isPerson N x := rfl
  rw [e]
  unfold f_X6_isPerson
  rcases in_b N x (b := 5) (by decide) with ⟨h1, _⟩ | ⟨j, h1, h2, h3⟩
  · rw [li_5, h1, bd_some, nn00]
    exact Or.inl ⟨rfl, rfl⟩
  · rw [li_5, h3, bd_some, nn01]
    exact Or.inr ⟨j, by omega, h2, rfl, rfl⟩
theorem place_c (N : Nat) (x y : Int32) : (f_X5_isPlace N x y = some 0 ∧ f_X6_isPlace N x y = some 0) ∨ ∃ c r, c < 30 ∧ r < 20 ∧ x = nI c ∧ y = nI r ∧ f_X5_isPlace N x y = some 1 ∧ f_X6_isPlace N x y = some 1 := by
  have e : f_X5_isPlace N x y = f_X6_isPlace N x y := rfl
  rw [e]
  unfold f_X6_isPlace
  rcases in_b N x (b := 29) (by decide) with ⟨h1, _⟩ | ⟨j, h1, h2, h3⟩
  · rw [li_29, h1, bd_some, if0]
    exact Or.inl ⟨rfl, rfl⟩
  · rcases in_b N y (b := 19) (by decide) with ⟨k1, _⟩ | ⟨i, k1, k2, k3⟩
    · rw [li_29, h3, bd_some, if1, li_19, k1, bd_some, if0]
      exact Or.inl ⟨rfl, rfl⟩
    · rw [li_29, h3, bd_some, if1, li_19, k3, bd_some, if1]
      exact Or.inr ⟨j, i, by omega, by omega, h2, k2, rfl, rfl⟩
theorem name_c (N : Nat) (x : Int32) : (f_X5_isName N x = some 0 ∧ f_X6_in N x 0 9 = some 0) ∨ ∃ j, j < 10 ∧ x = nI j ∧ f_X5_isName N x = some 1 ∧ f_X6_in N x 0 9 = some 1 := by
  have e : f_X5_isName N x = bd (f_X6_in N x 0 9) (fun r1 => (if ¬ (r1 = 0 ∨ r1 = 1) then none else some r1)) := rfl
  rw [e, li_9]
  rcases in_b N x (b := 9) (by decide) with ⟨h1, _⟩ | ⟨j, h1, h2, h3⟩
  · rw [h1, bd_some, nn00]
    exact Or.inl ⟨rfl, rfl⟩
  · rw [h3, bd_some, nn01]
    exact Or.inr ⟨j, by omega, h2, rfl, rfl⟩
/-- one place of the board -/
def upA (A : tA) (f i v : Nat) : tA := fun g j => if g = f ∧ j = i then v else A g j
def enA (g v : Nat) : Int32 := if g = 3 ∨ g = 6 then enc v else nI v
theorem upA_s (A : tA) (f i v : Nat) : upA A f i v f i = v := by simp [upA]
theorem upA_o (A : tA) {f i g j : Nat} (v : Nat) (h : g ≠ f ∨ j ≠ i) : upA A f i v g j = A g j := by
  unfold upA
  rw [if_neg (by omega)]
theorem up1 {B : tS} {A : tA} {f i v g j : Nat} {x : Int32} (hx : x = enA f v) (h : B g j = enA g (A g j)) : (va_up B f (upd (B f) i x)) g j = enA g (upA A f i v g j) := by
  by_cases q : g = f
  · subst q
    rw [va_up_self]
    by_cases q2 : j = i
    · subst q2
      rw [upd_s, upA_s, hx]
    · rw [upd_o _ q2, upA_o _ _ (Or.inr q2), h]
  · rw [va_up_ne _ _ q, upA_o _ _ (Or.inl q), h]
theorem RB_up {B : tS} {A : tA} {f i v : Nat} {x : Int32} (h : RB B A) (h0 : f ≠ 0) (h5 : f ≠ 5) (hx : x = enA f v) : RB (va_up B f (upd (B f) i x)) (upA A f i v) := by
  obtain ⟨h1, h2, h3, h4, h6⟩ := h
  have z0 : upA A f i v 0 0 = A 0 0 := upA_o _ _ (Or.inl (by omega))
  have z5 : upA A f i v 5 0 = A 5 0 := upA_o _ _ (Or.inl (by omega))
  refine ⟨?_, ?_, fun j hj => up1 (g := 7) hx (h3 j hj), fun j hj => ?_, fun t ht p hp => up1 (g := 6) hx (h6 t (by rw [← z5]; exact ht) p hp)⟩
  · rw [va_up_ne _ _ (by omega), z0]
    exact h1
  · rw [va_up_ne _ _ (by omega), z5]
    exact h2
  · rw [z0] at hj
    obtain ⟨e1, e2, e3, e4⟩ := h4 j hj
    exact ⟨up1 (g := 1) hx e1, up1 (g := 2) hx e2, up1 (g := 3) hx e3, fun p hp => up1 (g := 4) hx (e4 p hp)⟩
/-- the place of the reference's array -/
def ixf (f j : Nat) : Nat := if f = 1 then 5 + 9 * j else if f = 2 then 5 + 9 * j + 1 else if f = 3 then 5 + 9 * j + 2 else if f = 4 then 5 + 9 * (j / 6) + 3 + j % 6 else if f = 6 then 185 + j else if f = 7 then 2 + j else if f = 5 then 1 else 0
def vaf (f j : Nat) : Prop := (f = 1 ∧ j < 20) ∨ (f = 2 ∧ j < 20) ∨ (f = 3 ∧ j < 20) ∨ (f = 4 ∧ j < 120) ∨ (f = 6 ∧ j < 48) ∨ (f = 7 ∧ j < 3) ∨ (f = 5 ∧ j = 0) ∨ (f = 0 ∧ j = 0)
theorem ixf_inj {f j g k : Nat} (h1 : vaf f j) (h2 : vaf g k) (h : ixf f j = ixf g k) : f = g ∧ j = k := by
  unfold vaf at h1 h2
  unfold ixf at h
  rcases h1 with ⟨rfl, h1⟩ | ⟨rfl, h1⟩ | ⟨rfl, h1⟩ | ⟨rfl, h1⟩ | ⟨rfl, h1⟩ | ⟨rfl, h1⟩ | ⟨rfl, h1⟩ | ⟨rfl, h1⟩ <;> rcases h2 with ⟨rfl, h2⟩ | ⟨rfl, h2⟩ | ⟨rfl, h2⟩ | ⟨rfl, h2⟩ | ⟨rfl, h2⟩ | ⟨rfl, h2⟩ | ⟨rfl, h2⟩ | ⟨rfl, h2⟩ <;> simp at h ⊢ <;> omega
theorem ixf_lt {f j : Nat} (h1 : vaf f j) : ixf f j < 233 := by
  unfold vaf at h1
  unfold ixf
  rcases h1 with ⟨rfl, h1⟩ | ⟨rfl, h1⟩ | ⟨rfl, h1⟩ | ⟨rfl, h1⟩ | ⟨rfl, h1⟩ | ⟨rfl, h1⟩ | ⟨rfl, h1⟩ | ⟨rfl, h1⟩ <;> simp <;> omega
theorem ixf4 {i p : Nat} (hp : p < 6) : ixf 4 (i * 6 + p) = 5 + 9 * i + 3 + p := by
  unfold ixf
  simp
  omega
theorem rs1 {s : Nat → Int32} {A : tA} {f i v g j : Nat} (h1 : vaf f i) (h2 : vaf g j) (h : s (ixf g j) = nI (A g j)) : upd s (ixf f i) (nI v) (ixf g j) = nI (upA A f i v g j) := by
  by_cases q : ixf g j = ixf f i
  · obtain ⟨rfl, rfl⟩ := ixf_inj h2 h1 q
    rw [upd_s, upA_s]
  · rw [upd_o _ q, upA_o _ _ (by
      by_cases z : g = f
      · right
        intro w
        subst z; subst w
        exact q rfl
      · exact Or.inl z), h]
theorem RS_up {s : Nat → Int32} {A : tA} {f i v : Nat} (ok : okA A) (h : RS s A) (h0 : f ≠ 0) (h5 : f ≠ 5) (hv : vaf f i) : RS (upd s (ixf f i) (nI v)) (upA A f i v) := by
  obtain ⟨h1, h2, h3, h4, h6⟩ := h
  have o1 := ok.1
  have o2 := ok.2.1
  have z0 : upA A f i v 0 0 = A 0 0 := upA_o _ _ (Or.inl (by omega))
  have z5 : upA A f i v 5 0 = A 5 0 := upA_o _ _ (Or.inl (by omega))
  refine ⟨?_, ?_, fun j hj => ?_, fun j hj => ?_, fun t ht p hp => ?_⟩
  · exact rs1 (g := 0) (j := 0) hv (by unfold vaf; omega) h1
  · exact rs1 (g := 5) (j := 0) hv (by unfold vaf; omega) h2
  · exact rs1 (g := 7) hv (by unfold vaf; omega) (h3 j hj)
  · rw [z0] at hj
    obtain ⟨e1, e2, e3, e4⟩ := h4 j hj
    refine ⟨rs1 (g := 1) hv (by unfold vaf; omega) e1, rs1 (g := 2) hv (by unfold vaf; omega) e2, rs1 (g := 3) hv (by unfold vaf; omega) e3, fun p hp => ?_⟩
    rw [← ixf4 hp]
    exact rs1 (g := 4) hv (by unfold vaf; omega) (by rw [ixf4 hp]; exact e4 p hp)
  · rw [z5] at ht
    have e := rs1 (g := 6) (j := t * 6 + p) (v := v) hv (by unfold vaf; omega) (s := s) (A := A) (by
      have := h6 t ht p hp
      rw [← this]
      congr 1
      unfold ixf
      simp
      omega)
    rw [← e]
    congr 1
    unfold ixf
    simp
    omega
def bnA (A : tA) (f v : Nat) : Prop := (f = 1 → v < 30) ∧ (f = 2 → v < 20) ∧ (f = 3 → v ≤ A 5 0) ∧ (f = 4 → v ≤ 9) ∧ (f = 6 → v ≤ 10)
theorem ok_up {A : tA} {f i v : Nat} (ok : okA A) (h0 : f ≠ 0) (h5 : f ≠ 5) (h7 : f ≠ 7) (hb : bnA A f v) : okA (upA A f i v) := by
  obtain ⟨o1, o2, o3, o4, o5, o6, o8⟩ := ok
  obtain ⟨b1, b2, b3, b4, b6⟩ := hb
  have z0 : upA A f i v 0 0 = A 0 0 := upA_o _ _ (Or.inl (by omega))
  have z5 : upA A f i v 5 0 = A 5 0 := upA_o _ _ (Or.inl (by omega))
  have z7 : ∀ j, upA A f i v 7 j = A 7 j := fun j => upA_o _ _ (Or.inl (by omega))
  refine ⟨by rw [z0]; exact o1, by rw [z5]; exact o2, by rw [z7]; exact o3, by rw [z7]; exact o4, by rw [z7]; exact o5, fun j hj => ?_, fun t ht p hp => ?_⟩
  · rw [z0] at hj
    obtain ⟨e1, e2, e3, e4⟩ := o6 j hj
    rw [z5]
    refine ⟨?_, ?_, ?_, fun p hp => ?_⟩
    · unfold upA; split
      · next q => exact b1 q.1.symm
      · exact e1
    · unfold upA; split
      · next q => exact b2 q.1.symm
      · exact e2
    · unfold upA; split
      · next q => exact b3 q.1.symm
      · exact e3
    · unfold upA; split
      · next q => exact b4 q.1.symm
      · exact e4 p hp
  · rw [z5] at ht
    unfold upA; split
    · next q => exact b6 q.1.symm
    · exact o8 t ht p hp
/-- the reference's places -/
theorem g_of {N : Nat} {M : tS} {i w : Nat} (h : 5 + 9 * i + w < 233) : f_X6_of N M (nI i) (nI w) = some (M 0 (5 + 9 * i + w)) := by
  unfold f_X6_of
  rw [li_5, li_9, pk_mul, nI_add, nI_add, gdI (by omega) (by decide), clI (by omega)]
theorem g_lays {N : Nat} {M : tS} {i w : Nat} {v : Int32} (h : 5 + 9 * i + w < 233) : f_X6_lays N M (nI i) (nI w) v = some (va_up M 0 (upd (M 0) (5 + 9 * i + w) v)) := by
  unfold f_X6_lays
  rw [li_5, li_9, pk_mul, nI_add, nI_add, gdI (by omega) (by decide), clI (by omega)]
theorem g_of4 {N : Nat} {M : tS} {A : tA} (hS : RS (M 0) A) (ok : okA A) {i p : Nat} (hi : i < A 0 0) (hp : p < 6) : f_X6_of N M (nI i) (3 + nI p) = some (nI (A 4 (i * 6 + p))) := by
  have o1 := ok.1
  rw [li_3, nI_add, g_of (by omega)]
  congr 1
  rw [← (hS.2.2.2.1 i hi).2.2.2 p hp]
  congr 1
  omega
theorem g_of1 {N : Nat} {M : tS} {A : tA} (hS : RS (M 0) A) (ok : okA A) {i : Nat} (hi : i < A 0 0) : f_X6_of N M (nI i) 0 = some (nI (A 1 i)) := by
  have o1 := ok.1
  rw [li_0, g_of (by omega)]
  congr 1
  exact (hS.2.2.2.1 i hi).1
theorem g_of2 {N : Nat} {M : tS} {A : tA} (hS : RS (M 0) A) (ok : okA A) {i : Nat} (hi : i < A 0 0) : f_X6_of N M (nI i) 1 = some (nI (A 2 i)) := by
  have o1 := ok.1
  rw [li_1, g_of (by omega)]
  congr 1
  exact (hS.2.2.2.1 i hi).2.1
theorem g_of3 {N : Nat} {M : tS} {A : tA} (hS : RS (M 0) A) (ok : okA A) {i : Nat} (hi : i < A 0 0) : f_X6_of N M (nI i) 2 = some (nI (A 3 i)) := by
  have o1 := ok.1
  rw [li_2, g_of (by omega)]
  congr 1
  exact (hS.2.2.2.1 i hi).2.2.1
theorem g_dist {N : Nat} {M : tS} {A : tA} (hS : RS (M 0) A) (ok : okA A) {i j : Nat} (hi : i < A 0 0) (hj : j < A 0 0) : f_X6_distance N M (nI i) (nI j) = some (nI (dA A i j)) := by
  have b1 := ok.2.2.2.2.2.1 i hi
  have b2 := ok.2.2.2.2.2.1 j hj
  have sz : ∀ {a b : Nat}, a < 1000000 → b < 1000000 → f_X6_size N (nI a - nI b) = some (nI (ad a b)) := by
    intro a b ha hb
    unfold f_X6_size ad
    by_cases h : a < b
    · rw [if_neg (by rw [I_le, I_0, pk_sub_toInt (by omega) (by omega)]; omega), if_pos h, ← pk_sub (Nat.le_of_lt h)]
      congr 1
      grind
    · rw [if_pos (by rw [I_le, I_0, pk_sub_toInt (by omega) (by omega)]; omega), if_neg h, pk_sub (by omega)]
  unfold f_X6_distance
  rw [g_of1 hS ok hi, bd_some, g_of1 hS ok hj, bd_some, sz (by omega) (by omega), bd_some, g_of2 hS ok hi, bd_some, g_of2 hS ok hj, bd_some, sz (by omega) (by omega), bd_some, nI_add]
  rfl
theorem g_dotsOf {N : Nat} (hN : 1000 ≤ N) {M : tS} {A : tA} (hS : RS (M 0) A) (ok : okA A) {i : Nat} (hi : i < A 0 0) : f_X6_dotsOf N M (nI i) = some (nI (dtA A i)) := by
  refine lp_run (F := fun k (q : Int32 × Int32) => f_X6_dotsOf_4 N M (nI i) k q.1 q.2) (s := fun p => (nI (sm (fun p => A 4 (i * 6 + p)) p), nI p)) 6 _ ?_ ?_ N (by omega)
  · intro k
    show f_X6_dotsOf_4b N M (nI i) (f_X6_dotsOf_4 N M (nI i) k) (nI _) (nI 6) = _
    unfold f_X6_dotsOf_4b
    rw [li_6, leT (by omega) (by omega)]
    rfl
  · intro k p hp
    show f_X6_dotsOf_4b N M (nI i) (f_X6_dotsOf_4 N M (nI i) k) (nI _) (nI p) = f_X6_dotsOf_4 N M (nI i) k (nI _) (nI (p + 1))
    unfold f_X6_dotsOf_4b
    rw [li_6, leF (by omega) (by omega), g_of4 hS ok hi hp, bd_some, nI_add, nI_s]
    rfl
theorem g_stuckBy {N : Nat} (hN : 1000 ≤ N) {M : tS} {A : tA} (hS : RS (M 0) A) (ok : okA A) {p : Nat} (hp : p < 6) : f_X6_stuckBy N M (nI p) = some (nI (dpA A p)) := by
  have o1 := ok.1
  refine lp_run (F := fun k (q : Int32 × Int32) => f_X6_stuckBy_4 N M (nI p) k q.1 q.2) (s := fun i => (nI (sm (fun i => A 4 (i * 6 + p)) i), nI i)) (A 0 0) _ ?_ ?_ N (by omega)
  · intro k
    show f_X6_stuckBy_4b N M (nI p) (f_X6_stuckBy_4 N M (nI p) k) (nI _) (nI (A 0 0)) = _
    unfold f_X6_stuckBy_4b
    rw [cl_0, hS.1, leT (by omega) (by omega)]
    rfl
  · intro k i hi
    show f_X6_stuckBy_4b N M (nI p) (f_X6_stuckBy_4 N M (nI p) k) (nI _) (nI i) = f_X6_stuckBy_4 N M (nI p) k (nI _) (nI (i + 1))
    unfold f_X6_stuckBy_4b
    rw [cl_0, hS.1, leF (by omega) (by omega), g_of4 hS ok hi hp, bd_some, nI_add, nI_s]
    rfl
theorem g_themeOf {N : Nat} {M : tS} {A : tA} (hS : RS (M 0) A) (ok : okA A) {i : Nat} (hi : i < A 0 0) : f_X6_themeOf N M (nI i) = some (nI (A 3 i) - 1) := by
  unfold f_X6_themeOf
  rw [g_of3 hS ok hi, bd_some]
