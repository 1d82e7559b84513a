/-! the nearest theme -/
/-- the best of the notes that S holds: by distance, then by theme -/
def nbA (A : tA) (i : Nat) (S : Nat → Prop) (b l : Nat) : Prop := (b = 0 ∧ 49 ≤ l ∧ ∀ j, j < A 0 0 → S j → j = i ∨ A 3 j = 0) ∨ (b ≠ 0 ∧ (∃ j, j < A 0 0 ∧ S j ∧ j ≠ i ∧ A 3 j = b ∧ dA A i j = l) ∧ ∀ j, j < A 0 0 → S j → j ≠ i → A 3 j ≠ 0 → l < dA A i j ∨ (l = dA A i j ∧ b ≤ A 3 j))
theorem nb_uniq {A : tA} {i : Nat} {S T : Nat → Prop} {b l b' l' : Nat} (h : nbA A i S b l) (h' : nbA A i T b' l') (hST : ∀ j, j < A 0 0 → (S j ∧ A 3 j ≠ 0 ↔ T j ∧ A 3 j ≠ 0)) : b = b' := by
  rcases h with ⟨h1, h2, h3⟩ | ⟨h1, ⟨j, j1, j2, j3, j4, j5⟩, h3⟩ <;> rcases h' with ⟨k1, k2, k3⟩ | ⟨k1, ⟨m, m1, m2, m3, m4, m5⟩, k3⟩
  · rw [h1, k1]
  · have := (hST m m1).mpr ⟨m2, by rw [m4]; exact k1⟩
    rcases h3 m m1 this.1 with z | z
    · exact absurd z m3
    · exact absurd z this.2
  · have := (hST j j1).mp ⟨j2, by rw [j4]; exact h1⟩
    rcases k3 j j1 this.1 with z | z
    · exact absurd z j3
    · exact absurd z this.2
  · have a := (hST m m1).mpr ⟨m2, by rw [m4]; exact k1⟩
    have c := (hST j j1).mp ⟨j2, by rw [j4]; exact h1⟩
    have u := h3 m m1 a.1 m3 a.2
    have v := k3 j j1 c.1 j3 c.2
    omega
theorem nb_ext {A : tA} {i : Nat} {S T : Nat → Prop} {b l : Nat} (h : nbA A i S b l) (hST : ∀ j, j < A 0 0 → (T j ↔ S j) ∨ A 3 j = 0 ∨ j = i) : nbA A i T b l := by
  rcases h with ⟨h1, h2, h3⟩ | ⟨h1, ⟨j, j1, j2, j3, j4, j5⟩, h3⟩
  · refine Or.inl ⟨h1, h2, fun j hj hT => ?_⟩
    rcases hST j hj with z | z | z
    · exact h3 j hj (z.mp hT)
    · exact Or.inr z
    · exact Or.inl z
  · refine Or.inr ⟨h1, ⟨j, j1, ?_, j3, j4, j5⟩, fun m hm hT hi h0 => ?_⟩
    · rcases hST j j1 with z | z | z
      · exact z.mpr j2
      · exact absurd (j4.symm.trans z) h1
      · exact absurd z j3
    · rcases hST m hm with z | z | z
      · exact h3 m hm (z.mp hT) hi h0
      · exact absurd z h0
      · exact absurd z hi
/-- one more note -/
theorem nb_add {A : tA} (ok : okA A) {i : Nat} (hi : i < A 0 0) {S : Nat → Prop} {b l j : Nat} (h : nbA A i S b l) (hj : j < A 0 0) (hji : j ≠ i) (h0 : A 3 j ≠ 0) (hl : dA A i j < l ∨ (dA A i j = l ∧ A 3 j < b)) : nbA A i (fun k => S k ∨ k = j) (A 3 j) (dA A i j) := by
  refine Or.inr ⟨h0, ⟨j, hj, Or.inr rfl, hji, rfl, rfl⟩, fun m hm hT hmi hm0 => ?_⟩
  rcases hT with hT | hT
  · rcases h with ⟨h1, h2, h3⟩ | ⟨h1, -, h3⟩
    · rcases h3 m hm hT with z | z
      · exact absurd z hmi
      · exact absurd z hm0
    · have := h3 m hm hT hmi hm0
      omega
  · rw [hT]
    omega
theorem nb_keep {A : tA} (ok : okA A) {i : Nat} (hi : i < A 0 0) {S : Nat → Prop} {b l j : Nat} (h : nbA A i S b l) (hj : j < A 0 0) (hl : j ≠ i → A 3 j ≠ 0 → ¬ (dA A i j < l ∨ (dA A i j = l ∧ A 3 j < b))) : nbA A i (fun k => S k ∨ k = j) b l := by
  have hd := dA_le ok hi hj
  rcases h with ⟨h1, h2, h3⟩ | ⟨h1, ⟨m, m1, m2, m3, m4, m5⟩, h3⟩
  · refine Or.inl ⟨h1, h2, fun k hk hT => ?_⟩
    rcases hT with hT | hT
    · exact h3 k hk hT
    · subst hT
      apply Classical.byContradiction
      intro q
      have := hl (fun z => q (Or.inl z)) (fun z => q (Or.inr z))
      omega
  · refine Or.inr ⟨h1, ⟨m, m1, Or.inl m2, m3, m4, m5⟩, fun k hk hT hki hk0 => ?_⟩
    rcases hT with hT | hT
    · exact h3 k hk hT hki hk0
    · subst hT
      have := hl hki hk0
      omega
section NEA
variable {N : Nat} {B M : tS} {A : tA}
theorem s_nearest (hN : 1000 ≤ N) (hB : RB B A) (ok : okA A) {Tn : tS} {i : Nat} (hi : i < A 0 0) : ∃ b l, b ≤ A 5 0 ∧ nbA A i (fun j => j < A 0 0) b l ∧ f_X5_nearest_22 N Tn B (nI i) N (-5) 50 0 = some (enc b) := by
  have o1 := ok.1
  have o2 := ok.2.1
  obtain ⟨y, ⟨b, l, hb, hl, y1, y2, y3, hn⟩, e⟩ := lp_to (F := fun k (q : Int32 × Int32 × Int32) => f_X5_nearest_22 N Tn B (nI i) k q.1 q.2.1 q.2.2) (fun m q => ∃ b l, b ≤ A 5 0 ∧ l ≤ 50 ∧ q.1 = enc b ∧ q.2.1 = nI l ∧ q.2.2 = nI m ∧ nbA A i (fun j => j < m) b l) (A 0 0) (fun q => some q.1) (by
    rintro k ⟨x, y, z⟩ ⟨b, l, hb, hl, h1, h2, h3, hn⟩
    simp only at h1 h2 h3
    subst h1 h2 h3
    show f_X5_nearest_22b N Tn B (nI i) (f_X5_nearest_22 N Tn B (nI i) k) (enc b) (nI l) (nI (A 0 0)) = some (enc b)
    unfold f_X5_nearest_22b
    rw [hB.1, leT (Nat.le_refl _) (by omega)]) (by
    rintro k m ⟨x, y, z⟩ hm ⟨b, l, hb, hl, h1, h2, h3, hn⟩
    simp only at h1 h2 h3
    subst h1 h2 h3
    have b3 := (ok.2.2.2.2.2.1 m hm).2.2.1
    have hd := dA_le ok hi hm
    have stay : (m ≠ i → A 3 m ≠ 0 → ¬ (dA A i m < l ∨ (dA A i m = l ∧ A 3 m < b))) → f_X5_nearest_22b N Tn B (nI i) (f_X5_nearest_22 N Tn B (nI i) k) (enc b) (nI l) (nI m) = f_X5_nearest_22 N Tn B (nI i) k (enc b) (nI l) (nI (m + 1)) → ∃ y : Int32 × Int32 × Int32, f_X5_nearest_22 N Tn B (nI i) (k + 1) (enc b) (nI l) (nI m) = f_X5_nearest_22 N Tn B (nI i) k y.1 y.2.1 y.2.2 ∧ ∃ b l, b ≤ A 5 0 ∧ l ≤ 50 ∧ y.1 = enc b ∧ y.2.1 = nI l ∧ y.2.2 = nI (m + 1) ∧ nbA A i (fun j => j < m + 1) b l :=
      fun h e => ⟨(enc b, nI l, nI (m + 1)), e, b, l, hb, hl, rfl, rfl, rfl, nb_ext (nb_keep ok hi hn hm h) (fun j hj => Or.inl (by omega))⟩
    have go : m ≠ i → A 3 m ≠ 0 → (dA A i m < l ∨ (dA A i m = l ∧ A 3 m < b)) → f_X5_nearest_22b N Tn B (nI i) (f_X5_nearest_22 N Tn B (nI i) k) (enc b) (nI l) (nI m) = f_X5_nearest_22 N Tn B (nI i) k (enc (A 3 m)) (nI (dA A i m)) (nI (m + 1)) → ∃ y : Int32 × Int32 × Int32, f_X5_nearest_22 N Tn B (nI i) (k + 1) (enc b) (nI l) (nI m) = f_X5_nearest_22 N Tn B (nI i) k y.1 y.2.1 y.2.2 ∧ ∃ b l, b ≤ A 5 0 ∧ l ≤ 50 ∧ y.1 = enc b ∧ y.2.1 = nI l ∧ y.2.2 = nI (m + 1) ∧ nbA A i (fun j => j < m + 1) b l :=
      fun h1 h2 h3 e => ⟨(enc (A 3 m), nI (dA A i m), nI (m + 1)), e, A 3 m, dA A i m, b3, by omega, rfl, rfl, rfl, nb_ext (nb_add ok hi hn hm h1 h2 h3) (fun j hj => Or.inl (by omega))⟩
    by_cases q1 : m = i
    · refine stay (fun h => absurd q1 h) ?_
      unfold f_X5_nearest_22b f_X5_nearest_98
      rw [hB.1, leF hm (by omega), gdI (by omega) (by decide), eqT q1, nI_s]
    by_cases q2 : A 3 m = 0
    · refine stay (fun _ h => absurd q2 h) ?_
      unfold f_X5_nearest_22b f_X5_nearest_98
      rw [hB.1, leF hm (by omega), gdI (by omega) (by decide), eqF q1 (by omega) (by omega), clI (by omega), (hB.2.2.2.1 m hm).2.2.1, q2, if_pos (show enc 0 = -5 from rfl), nI_s]
    obtain ⟨u, hu⟩ : ∃ u, A 3 m = u + 1 := ⟨A 3 m - 1, by omega⟩
    have n5 : ¬ enc (A 3 m) = -5 := fun z => q2 ((enc_n5 (by omega)).mp z)
    by_cases q3 : dA A i m < l
    · refine go q1 q2 (Or.inl q3) ?_
      unfold f_X5_nearest_22b f_X5_nearest_92 f_X5_nearest_98
      rw [hB.1, leF hm (by omega), gdI (by omega) (by decide), eqF q1 (by omega) (by omega), clI (by omega), (hB.2.2.2.1 m hm).2.2.1, if_neg n5, s_dist hB ok hi hm, bd_some, ltT q3 (by omega), nI_s]
    by_cases q4 : dA A i m = l
    · have hle : (enc b ≤ enc (A 3 m)) ↔ b ≤ A 3 m := by
        rw [I_le, enc_T (by omega), enc_T (by omega)]
        split <;> omega
      by_cases q5 : A 3 m < b
      · refine go q1 q2 (Or.inr ⟨q4, q5⟩) ?_
        unfold f_X5_nearest_22b f_X5_nearest_92 f_X5_nearest_98
        rw [hB.1, leF hm (by omega), gdI (by omega) (by decide), eqF q1 (by omega) (by omega), clI (by omega), (hB.2.2.2.1 m hm).2.2.1, if_neg n5, s_dist hB ok hi hm, bd_some, ltF (by omega) (by omega), eqT q4, if_neg (fun z => by have := hle.mp z; omega), nI_s]
      · refine stay (fun _ _ => by omega) ?_
        unfold f_X5_nearest_22b f_X5_nearest_98
        rw [hB.1, leF hm (by omega), gdI (by omega) (by decide), eqF q1 (by omega) (by omega), clI (by omega), (hB.2.2.2.1 m hm).2.2.1, if_neg n5, s_dist hB ok hi hm, bd_some, ltF (by omega) (by omega), eqT q4, if_pos (hle.mpr (by omega)), nI_s]
    · refine stay (fun _ _ => by omega) ?_
      unfold f_X5_nearest_22b f_X5_nearest_98
      rw [hB.1, leF hm (by omega), gdI (by omega) (by decide), eqF q1 (by omega) (by omega), clI (by omega), (hB.2.2.2.1 m hm).2.2.1, if_neg n5, s_dist hB ok hi hm, bd_some, ltF (by omega) (by omega), eqF q4 (by omega) (by omega), nI_s]) N (by omega) (enc 0, nI 50, nI 0) ⟨0, 50, by omega, by omega, rfl, rfl, rfl, Or.inl ⟨rfl, by omega, fun j hj h => absurd h (Nat.not_lt_zero j)⟩⟩
  refine ⟨b, l, hb, hn, ?_⟩
  rw [← y1]
  exact e
end NEA
