/-! the nearest theme -/
/-- the best of the notes that S holds: by distance, then by theme -/
def nbA (A : tA) (i : Nat) (S : Nat → Prop) (b l : Nat) : Prop := (b = 0 ∧ 49 ≤ l ∧ ∀ j, j < A 0 0 → S j → j = i ∨ A 3 j = 0) ∨ (b ≠ 0 ∧ (∃ j, j < A 0 0 ∧ S j ∧ j ≠ i ∧ A 3 j = b ∧ dA A i j = l) ∧ ∀ j, j < A 0 0 → S j → j ≠ i → A 3 j ≠ 0 → l < dA A i j ∨ (l = dA A i j ∧ b ≤ A 3 j))
theorem nb_uniq {A : tA} {i : Nat} {S T : Nat → Prop} {b l b' l' : Nat} (h : nbA A i S b l) (h' : nbA A i T b' l') (hST : ∀ j, j < A 0 0 → (S j ∧ A 3 j ≠ 0 ↔ T j ∧ A 3 j ≠ 0)) : b = b' := by
  rcases h with ⟨h1, h2, h3⟩ | ⟨h1, ⟨j, j1, j2, j3, j4, j5⟩, h3⟩ <;> rcases h' with ⟨k1, k2, k3⟩ | ⟨k1, ⟨m, m1, m2, m3, m4, m5⟩, k3⟩
  · rw [h1, k1]
  · have := (hST m m1).mpr ⟨m2, by rw [m4]; exact k1⟩
    rcases h3 m m1 this.1 with z | z
    · exact absurd z m3
    · exact absurd z this.2
  · have := (hST j j1).mp ⟨j2, by rw [j4]; exact h1⟩
    rcases k3 j j1 this.1 with z | z
    · exact absurd z j3
    · exact absurd z this.2
  · have a := (hST m m1).mpr ⟨m2, by rw [m4]; exact k1⟩
    have c := (hST j j1).mp ⟨j2, by rw [j4]; exact h1⟩
    have u := h3 m m1 a.1 m3 a.2
    have v := k3 j j1 c.1 j3 c.2
    omega
theorem nb_ext {A : tA} {i : Nat} {S T : Nat → Prop} {b l : Nat} (h : nbA A i S b l) (hST : ∀ j, j < A 0 0 → (T j ↔ S j) ∨ A 3 j = 0 ∨ j = i) : nbA A i T b l := by
  rcases h with ⟨h1, h2, h3⟩ | ⟨h1, ⟨j, j1, j2, j3, j4, j5⟩, h3⟩
  · refine Or.inl ⟨h1, h2, fun j hj hT => ?_⟩
    rcases hST j hj with z | z | z
    · exact h3 j hj (z.mp hT)
    · exact Or.inr z
    · exact Or.inl z
  · refine Or.inr ⟨h1, ⟨j, j1, ?_, j3, j4, j5⟩, fun m hm hT hi h0 => ?_⟩
    · rcases hST j j1 with z | z | z
      · exact z.mpr j2
      · exact absurd (j4.symm.trans z) h1
      · exact absurd z j3
    · rcases hST m hm with z | z | z
      · exact h3 m hm (z.mp hT) hi h0
      · exact absurd z h0
      · exact absurd z hi
/-- one more note -/
theorem nb_add {A : tA} (ok : okA A) {i : Nat} (hi : i < A 0 0) {S : Nat → Prop} {b l j : Nat} (h : nbA A i S b l) (hj : j < A 0 0) (hji : j ≠ i) (h0 : A 3 j ≠ 0) (hl : dA A i j < l ∨ (dA A i j = l ∧ A 3 j < b)) : nbA A i (fun k => S k ∨ k = j) (A 3 j) (dA A i j) := by
  refine Or.inr ⟨h0, ⟨j, hj, Or.inr rfl, hji, rfl, rfl⟩, fun m hm hT hmi hm0 => ?_⟩
  rcases hT with hT | hT
  · rcases h with ⟨h1, h2, h3⟩ | ⟨h1, -, h3⟩
    · rcases h3 m hm hT with z | z
      · exact absurd z hmi
      · exact absurd z hm0
    · have := h3 m hm hT hmi hm0
      omega
  · rw [hT]
    omega
theorem nb_keep {A : tA} (ok : okA A) {i : Nat} (hi : i < A 0 0) {S : Nat → Prop} {b l j : Nat} (h : nbA A i S b l) (hj : j < A 0 0) (hl : j ≠ i → A 3 j ≠ 0 → ¬ (dA A i j < l ∨ (dA A i j = l ∧ A 3 j < b))) : nbA A i (fun k => S k ∨ k = j) b l := by
  have hd := dA_le ok hi hj
  rcases h with ⟨h1, h2, h3⟩ | ⟨h1, ⟨m, m1, m2, m3, m4, m5⟩, h3⟩
  · refine Or.inl ⟨h1, h2, fun k hk hT => ?_⟩
    rcases hT with hT | hT
    · exact h3 k hk hT
    · subst hT
      apply Classical.byContradiction
      intro q
      have := hl (fun z => q (Or.inl z)) (fun z => q (Or.inr z))
      omega
  · refine Or.inr ⟨h1, ⟨m, m1, Or.inl m2, m3, m4, m5⟩, fun k hk hT hki hk0 => ?_⟩
    rcases hT with hT | hT
    · exact h3 k hk hT hki hk0
    · subst hT
      have := hl hki hk0
      omega
section NEA
variable {N : Nat} {B M : tS} {A : tA}
theorem s_nearest (hN : 1000 ≤ N) (hB : RB B A) (ok : okA A) {Tn : tS} {i : Nat} (hi : i < A 0 0) : ∃ b l, b ≤ A 5 0 ∧ nbA A i (fun j => j < A 0 0) b l ∧ f_X5_nearest_22 N Tn B (nI i) N (-5) 50 0 = some (enc b) := by
  have o1 := ok.1
  have o2 := ok.2.1
  obtain ⟨y, ⟨b, l, hb, hl, y1, y2, y3, hn⟩, e⟩ := lp_to (F := fun k (q : Int32 × Int32 × Int32) => f_X5_nearest_22 N Tn B (nI i) k q.1 q.2.1 q.2.2) (fun m q => ∃ b l, b ≤ A 5 0 ∧ l ≤ 50 ∧ q.1 = enc b ∧ q.2.1 = nI l ∧ q.2.2 = nI m ∧ nbA A i (fun j => j < m) b l) (A 0 0) (fun q => some q.1) (by
    rintro k ⟨x, y, z⟩ ⟨b, l, hb, hl, h1, h2, h3, hn⟩
    simp only at h1 h2 h3
    subst h1 h2 h3
    show f_X5_nearest_22b N Tn B (nI i) (f_X5_nearest_22 N Tn B (nI i) k) (enc b) (nI l) (nI (A 0 0)) = some (enc b)
    unfold f_X5_nearest_22b
    rw [hB.1, leT (Nat.le_refl _) (by omega)]) (by
    rintro k m ⟨x, y, z⟩ hm ⟨b, l, hb, hl, h1, h2, h3, hn⟩
    simp only at h1 h2 h3
    subst h1 h2 h3
    have b3 := (ok.2.2.2.2.2.1 m hm).2.2.1
    have hd := dA_le ok hi hm
    have stay : (m ≠ i → A 3 m ≠ 0 → ¬ (dA A i m < l ∨ (dA A i m = l ∧ A 3 m < b))) → f_X5_nearest_22b N Tn B (nI i) (f_X5_nearest_22 N Tn B (nI i) k) (enc b) (nI l) (nI m) = f_X5_nearest_22 N Tn B (nI i) k (enc b) (nI l) (nI (m + 1)) → ∃ y : Int32 × Int32 × Int32, f_X5_nearest_22 N Tn B (nI i) (k + 1) (enc b) (nI l) (nI m) = f_X5_nearest_22 N Tn B (nI i) k y.1 y.2.1 y.2.2 ∧ ∃ b l, b ≤ A 5 0 ∧ l ≤ 50 ∧ y.1 = enc b ∧ y.2.1 = nI l ∧ y.2.2 = nI (m + 1) ∧ nbA A i (fun j => j < m + 1) b l :=
      fun h e => ⟨(enc b, nI l, nI (m + 1)), e, b, l, hb, hl, rfl, rfl, rfl, nb_ext (nb_keep ok hi hn hm h) (fun j hj => Or.inl (by omega))⟩
    have go : m ≠ i → A 3 m ≠ 0 → (dA A i m < l ∨ (dA A i m = l ∧ A 3 m < b)) → f_X5_nearest_22b N Tn B (nI i) (f_X5_nearest_22 N Tn B (nI i) k) (enc b) (nI l) (nI m) = f_X5_nearest_22 N Tn B (nI i) k (enc (A 3 m)) (nI (dA A i m)) (nI (m + 1)) → ∃ y : Int32 × Int32 × Int32, f_X5_nearest_22 N Tn B (nI i) (k + 1) (enc b) (nI l) (nI m) = f_X5_nearest_22 N Tn B (nI i) k y.1 y.2.1 y.2.2 ∧ ∃ b l, b ≤ A 5 0 ∧ l ≤ 50 ∧ y.1 = enc b ∧ y.2.1 = nI l ∧ y.2.2 = nI (m + 1) ∧ nbA A i (fun j => j < m + 1) b l :=
      fun h1 h2 h3 e => ⟨(enc (A 3 m), nI (dA A i m), nI (m + 1)), e, A 3 m, dA A i m, b3, by omega, rfl, rfl, rfl, nb_ext (nb_add ok hi hn hm h1 h2 h3) (fun j hj => Or.inl (by omega))⟩
    by_cases q1 : m = i
    · refine stay (fun h => absurd q1 h) ?_
      unfold f_X5_nearest_22b f_X5_nearest_98
      rw [hB.1, leF hm (by omega), gdI (by omega) (by decide), eqT q1, nI_s]
    by_cases q2 : A 3 m = 0
    · refine stay (fun _ h => absurd q2 h) ?_
      unfold f_X5_nearest_22b f_X5_nearest_98
      rw [hB.1, leF hm (by omega), gdI (by omega) (by decide), eqF q1 (by omega) (by omega), clI (by omega), (hB.2.2.2.1 m hm).2.2.1, q2, if_pos (show enc 0 = -5 from rfl), nI_s]
    obtain ⟨u, hu⟩ : ∃ u, A 3 m = u + 1 := ⟨A 3 m - 1, by omega⟩
    have n5 : ¬ enc (A 3 m) = -5 := fun z => q2 ((enc_n5 (by omega)).mp z)
    by_cases q3 : dA A i m < l
    · refine go q1 q2 (Or.inl q3) ?_
      unfold f_X5_nearest_22b f_X5_nearest_92 f_X5_nearest_98
      rw [hB.1, leF hm (by omega), gdI (by omega) (by decide), eqF q1 (by omega) (by omega), clI (by omega), (hB.2.2.2.1 m hm).2.2.1, if_neg n5, s_dist hB ok hi hm, bd_some, ltT q3 (by omega), nI_s]
    by_cases q4 : dA A i m = l
    · have hle : (enc b ≤ enc (A 3 m)) ↔ b ≤ A 3 m := by
        rw [I_le, enc_T (by omega), enc_T (by omega)]
        split <;> omega
      by_cases q5 : A 3 m < b
      · refine go q1 q2 (Or.inr ⟨q4, q5⟩) ?_
        unfold f_X5_nearest_22b f_X5_nearest_92 f_X5_nearest_98
        rw [hB.1, leF hm (by omega), gdI (by omega) (by decide), eqF q1 (by omega) (by omega), clI (by omega), (hB.2.2.2.1 m hm).2.2.1, if_neg n5, s_dist hB ok hi hm, bd_some, ltF (by omega) (by omega), eqT q4, if_neg (fun z => by have := hle.mp z; omega), nI_s]
      · refine stay (fun _ _ => by omega) ?_
        unfold f_X5_nearest_22b f_X5_nearest_98
        rw [hB.1, leF hm (by omega), gdI (by omega) (by decide), eqF q1 (by omega) (by omega), clI (by omega), (hB.2.2.2.1 m hm).2.2.1, if_neg n5, s_dist hB ok hi hm, bd_some, ltF (by omega) (by omega), eqT q4, if_pos (hle.mpr (by omega)), nI_s]
    · refine stay (fun _ _ => by omega) ?_
      unfold f_X5_nearest_22b f_X5_nearest_98
      rw [hB.1, leF hm (by omega), gdI (by omega) (by decide), eqF q1 (by omega) (by omega), clI (by omega), (hB.2.2.2.1 m hm).2.2.1, if_neg n5, s_dist hB ok hi hm, bd_some, ltF (by omega) (by omega), eqF q4 (by omega) (by omega), nI_s]) N (by omega) (enc 0, nI 50, nI 0) ⟨0, 50, by omega, by omega, rfl, rfl, rfl, Or.inl ⟨rfl, by omega, fun j hj h => absurd h (Nat.not_lt_zero j)⟩⟩
  refine ⟨b, l, hb, hn, ?_⟩
  rw [← y1]
  exact e
theorem g_nearest (hN : 1000 ≤ N) (hS : RS (M 0) A) (ok : okA A) {i : Nat} (hi : i < A 0 0) : ∃ b l, b ≤ A 5 0 ∧ nbA A i (fun j => A 3 j ≤ A 5 0) b l ∧ f_X6_nearest_19 N M (nI i) N (-5) 49 0 = some (enc b) := by
  have o1 := ok.1
  have o2 := ok.2.1
  -- one theme
  have one : ∀ (k19 : Int32 → Int32 → Int32 → Option Int32) (t : Nat), t < A 5 0 → ∀ b l, b ≤ t → l ≤ 49 → nbA A i (fun j => A 3 j ≤ t) b l → ∃ b' l', b' ≤ t + 1 ∧ l' ≤ 49 ∧ nbA A i (fun j => A 3 j ≤ t + 1) b' l' ∧ f_X6_nearest_33 N M (nI i) k19 N (enc b) (nI l) (nI t) 0 = k19 (enc b') (nI l') (nI (t + 1)) := by
    intro k19 t ht b l hb hl hn
    obtain ⟨y, ⟨b', l', hb', hl', y1, y2, y3, hn'⟩, e⟩ := lp_to (F := fun k (q : Int32 × Int32 × Int32) => f_X6_nearest_33 N M (nI i) k19 k q.1 q.2.1 (nI t) q.2.2) (fun m q => ∃ b l, b ≤ t + 1 ∧ l ≤ 49 ∧ q.1 = enc b ∧ q.2.1 = nI l ∧ q.2.2 = nI m ∧ nbA A i (fun j => A 3 j ≤ t ∨ (A 3 j = t + 1 ∧ j < m)) b l) (A 0 0) (fun q => k19 q.1 q.2.1 (nI (t + 1))) (by
      rintro k ⟨x, y, z⟩ ⟨b, l, hb, hl, h1, h2, h3, hn⟩
      simp only at h1 h2 h3
      subst h1 h2 h3
      show f_X6_nearest_33b N M (nI i) k19 (f_X6_nearest_33 N M (nI i) k19 k) (enc b) (nI l) (nI t) (nI (A 0 0)) = k19 (enc b) (nI l) (nI (t + 1))
      unfold f_X6_nearest_33b
      rw [cl_0, hS.1, leT (Nat.le_refl _) (by omega), nI_s]) (by
      rintro k m ⟨x, y, z⟩ hm ⟨b, l, hb, hl, h1, h2, h3, hn⟩
      simp only at h1 h2 h3
      subst h1 h2 h3
      have b3 := (ok.2.2.2.2.2.1 m hm).2.2.1
      have hd := dA_le ok hi hm
      have stay : (m ≠ i → A 3 m = t + 1 → l ≤ dA A i m) → f_X6_nearest_33b N M (nI i) k19 (f_X6_nearest_33 N M (nI i) k19 k) (enc b) (nI l) (nI t) (nI m) = f_X6_nearest_33 N M (nI i) k19 k (enc b) (nI l) (nI t) (nI (m + 1)) → ∃ y : Int32 × Int32 × Int32, f_X6_nearest_33 N M (nI i) k19 (k + 1) (enc b) (nI l) (nI t) (nI m) = f_X6_nearest_33 N M (nI i) k19 k y.1 y.2.1 (nI t) y.2.2 ∧ ∃ b l, b ≤ t + 1 ∧ l ≤ 49 ∧ y.1 = enc b ∧ y.2.1 = nI l ∧ y.2.2 = nI (m + 1) ∧ nbA A i (fun j => A 3 j ≤ t ∨ (A 3 j = t + 1 ∧ j < m + 1)) b l := by
        intro h e
        refine ⟨(enc b, nI l, nI (m + 1)), e, b, l, hb, hl, rfl, rfl, rfl, ?_⟩
        by_cases z : A 3 m = t + 1
        · exact nb_ext (nb_keep ok hi hn hm (fun a _ => by have := h a z; omega)) (fun j hj => Or.inl (by
            by_cases w : j = m
            · subst w
              omega
            · omega))
        · exact nb_ext hn (fun j hj => Or.inl (by
            by_cases w : j = m
            · subst w
              omega
            · omega))
      by_cases q1 : m = i
      · refine stay (fun h => absurd q1 h) ?_
        unfold f_X6_nearest_33b f_X6_nearest_76 f_X6_nearest_77 f_X6_nearest_90 f_X6_nearest_107
        simp only [if0, if1, if_true]
        rw [cl_0, hS.1, leF hm (by omega), eqT q1, nI_s]
      by_cases q2 : A 3 m = t + 1
      · have e1 : nI (A 3 m) - 1 = nI t := (m1_eq (by omega) (by omega)).mpr q2
        by_cases q3 : l ≤ dA A i m
        · refine stay (fun _ _ => q3) ?_
          unfold f_X6_nearest_33b f_X6_nearest_76 f_X6_nearest_77 f_X6_nearest_90 f_X6_nearest_107
          simp only [if0, if1, if_true]
          rw [cl_0, hS.1, leF hm (by omega), eqF q1 (by omega) (by omega), g_themeOf hS ok hm, bd_some, if_pos e1, g_dist hS ok hm hi, dA_comm A m i, bd_some, leT q3 (by omega), nI_s]
        · refine ⟨(nI t, nI (dA A i m), nI (m + 1)), ?_, t + 1, dA A i m, by omega, by omega, rfl, rfl, rfl, ?_⟩
          · show f_X6_nearest_33b N M (nI i) k19 (f_X6_nearest_33 N M (nI i) k19 k) (enc b) (nI l) (nI t) (nI m) = f_X6_nearest_33 N M (nI i) k19 k (nI t) (nI (dA A i m)) (nI t) (nI (m + 1))
            unfold f_X6_nearest_33b f_X6_nearest_76 f_X6_nearest_77 f_X6_nearest_90 f_X6_nearest_107
            simp only [if0, if1, if_true]
            rw [cl_0, hS.1, leF hm (by omega), eqF q1 (by omega) (by omega), g_themeOf hS ok hm, bd_some, if_pos e1, g_dist hS ok hm hi, dA_comm A m i, bd_some, leF (by omega) (by omega), bd_some, nI_s]
          · have := nb_add ok hi hn hm q1 (by omega) (Or.inl (by omega))
            rw [q2] at this
            exact nb_ext this (fun j hj => Or.inl (by
              by_cases w : j = m
              · subst w
                omega
              · omega))
      · refine stay (fun _ h => absurd h q2) ?_
        unfold f_X6_nearest_33b f_X6_nearest_76 f_X6_nearest_77 f_X6_nearest_90 f_X6_nearest_107
        simp only [if0, if1, if_true]
        rw [cl_0, hS.1, leF hm (by omega), eqF q1 (by omega) (by omega), g_themeOf hS ok hm, bd_some, if_neg (fun z => q2 ((m1_eq (by omega) (by omega)).mp z)), nI_s]) N (by omega) (enc b, nI l, nI 0) ⟨b, l, by omega, hl, rfl, rfl, rfl, nb_ext hn (fun j hj => Or.inl (by omega))⟩
    refine ⟨b', l', hb', hl', nb_ext hn' (fun j hj => Or.inl (by omega)), ?_⟩
    rw [← y1, ← y2]
    exact e
  obtain ⟨y, ⟨b, l, hb, hl, y1, y2, y3, hn⟩, e⟩ := lp_to (F := fun k (q : Int32 × Int32 × Int32) => f_X6_nearest_19 N M (nI i) k q.1 q.2.1 q.2.2) (fun t q => ∃ b l, b ≤ t ∧ l ≤ 49 ∧ q.1 = enc b ∧ q.2.1 = nI l ∧ q.2.2 = nI t ∧ nbA A i (fun j => A 3 j ≤ t) b l) (A 5 0) (fun q => some q.1) (by
    rintro k ⟨x, y, z⟩ ⟨b, l, hb, hl, h1, h2, h3, hn⟩
    simp only at h1 h2 h3
    subst h1 h2 h3
    show f_X6_nearest_19b N M (nI i) (f_X6_nearest_19 N M (nI i) k) (enc b) (nI l) (nI (A 5 0)) = some (enc b)
    unfold f_X6_nearest_19b
    rw [cl_1, hS.2.1, leT (Nat.le_refl _) (by omega)]) (by
    rintro k t ⟨x, y, z⟩ ht ⟨b, l, hb, hl, h1, h2, h3, hn⟩
    simp only at h1 h2 h3
    subst h1 h2 h3
    obtain ⟨b', l', hb', hl', hn', e⟩ := one (f_X6_nearest_19 N M (nI i) k) t ht b l hb hl hn
    refine ⟨(enc b', nI l', nI (t + 1)), ?_, b', l', hb', hl', rfl, rfl, rfl, hn'⟩
    show f_X6_nearest_19b N M (nI i) (f_X6_nearest_19 N M (nI i) k) (enc b) (nI l) (nI t) = f_X6_nearest_19 N M (nI i) k (enc b') (nI l') (nI (t + 1))
    unfold f_X6_nearest_19b
    rw [cl_1, hS.2.1, leF ht (by omega), e]) N (by omega) (enc 0, nI 49, nI 0) ⟨0, 49, by omega, by omega, rfl, rfl, rfl, Or.inl ⟨rfl, by omega, fun j hj h => Or.inr (by omega)⟩⟩
  refine ⟨b, l, hb, hn, ?_⟩
  rw [← y1]
  exact e
end NEA
theorem m_nearest {N : Nat} (hN : 1000 ≤ N) {Tn B Sn Tx Tr E F Nm Bt M : tS} {Hs : tH} (hR : Rel Tn B Hs Sn Tx Tr E F Nm Bt M) (p0 : Int32) : ∃ (r : Int32), f_X5_nearest N Tn B p0 = some r ∧ f_X6_nearest N M p0 = some r ∧ Rel Tn B Hs Sn Tx Tr E F Nm Bt M := by
  have hR0 := hR
  obtain ⟨⟨A, ok, hB, hS⟩, -, -, -⟩ := hR
  unfold f_X5_nearest f_X6_nearest
  rcases note_c (N := N) hB hS ok p0 with ⟨e1, e2⟩ | ⟨i, hi, rfl, e1, e2⟩
  · rw [e1, e2, bd_some, bd_some, if0, if0]
    exact ⟨_, rfl, rfl, hR0⟩
  obtain ⟨b, l, hb, h1, e3⟩ := s_nearest hN hB ok (Tn := Tn) hi
  obtain ⟨b', l', hb', h2, e4⟩ := g_nearest hN hS ok hi
  have := nb_uniq h1 h2 (fun j hj => by
    have := (ok.2.2.2.2.2.1 j hj).2.2.1
    constructor
    · exact fun h => ⟨this, h.2⟩
    · exact fun h => ⟨hj, h.2⟩)
  rw [e1, e2, bd_some, bd_some, if1, if1, e3, e4, this]
  exact ⟨_, rfl, rfl, hR0⟩
