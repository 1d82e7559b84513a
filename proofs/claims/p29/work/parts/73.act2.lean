/-! make, merge, belong, dragHeap -/
theorem mkA_0 (A : tA) (h : Nat → Nat) (g : Nat) : mkA' A h g 0 0 = A 0 0 := mkA'_o A h g (by decide) (by decide) (by decide)
theorem mkA_5 (A : tA) (h : Nat → Nat) (g : Nat) : mkA' A h g 5 0 = A 5 0 + 1 := by simp [mkA']
theorem inv_mk {A : tA} (hi : inv A) {h : Nat → Nat} {g : Nat} (h8 : A 5 0 < 8) (hf : hfA A h g (A 0 0) ≠ 0) : inv (mkA' A h g) := by
  refine ⟨ok_mk hi.1 h g h8, fun t ht => ?_⟩
  rw [mkA_5] at ht
  rw [mkA_0]
  by_cases q : t = A 5 0
  · subst q
    have : ∃ i, i < A 0 0 ∧ (h i == g && A 3 i == 0) = true := by
      apply Classical.byContradiction
      intro w
      exact hf (ct_zero.mpr (fun i hi' => by
        cases z : (h i == g && A 3 i == 0) with
        | false => rfl
        | true => exact absurd ⟨i, hi', z⟩ w))
    obtain ⟨i, h1, h2⟩ := this
    simp at h2
    exact ⟨i, h1, by rw [mkA'_3, if_pos h2]⟩
  · obtain ⟨i, h1, h2⟩ := hi.2 t (by omega)
    exact ⟨i, h1, by rw [mkA'_3, if_neg (fun w => by omega)]; exact h2⟩
theorem nt_mk {A : tA} (ok : okA A) (h : Nat → Nat) (g : Nat) : ntA (mkA' A h g) (A 5 0 + 1) = hfA A h g (A 0 0) := by
  unfold ntA hfA
  rw [mkA_0]
  refine ct_congr (fun i hi => ?_)
  have b3 := (ok.2.2.2.2.2.1 i hi).2.2.1
  rw [mkA'_3]
  by_cases q : h i = g ∧ A 3 i = 0
  · rw [if_pos q]
    simp [q]
  · rw [if_neg q]
    have : ¬ (A 3 i = A 5 0 + 1) := by omega
    simp only [beq_eq_false_iff_ne.mpr this]
    symm
    simp only [Bool.and_eq_false_iff, beq_eq_false_iff_ne]
    by_cases z : h i = g
    · exact Or.inr (fun w => q ⟨z, w⟩)
    · exact Or.inl z
theorem vt_mk {A : tA} (h : Nat → Nat) (g : Nat) : vtA (mkA' A h g) (A 5 0) 0 = 6 := by
  have e : vtA (mkA' A h g) (A 5 0) 0 = ct (fun _ => true) 6 := ct_congr (fun p hp => by
    rw [mkA'_6, if_pos (by omega)]
    rfl)
  rw [e]
  rfl
section MK
variable {N : Nat} {Tn B Sn Tr E F Nm : tS} {Hs : tH} {A : tA} {kn : Nat} {As : Nat → tA}
theorem t_make_x (hN : 1000 ≤ N) (hB : RB B A) (ok : okA A) : ∃ E', f_X5_make N Tn B Hs E (nI (nh A (A 7 0))) = some (-1, B, Hs, E') := by
  have := ok.1
  have := nh_le A (A 7 0)
  obtain ⟨E', e, hE⟩ := t_heaps (Tn := Tn) (E := E) hN hB ok
  refine ⟨E', ?_⟩
  unfold f_X5_make
  rw [e, bd2_some, hasH_f hE (by omega), bd_some, if0]
theorem t_make_0 (hN : 1000 ≤ N) (hB : RB B A) (ok : okA A) {g : Nat} (hg : g < nh A (A 7 0)) (hf : hfA A (hp A (A 7 0)) g (A 0 0) = 0) : ∃ E', f_X5_make N Tn B Hs E (nI g) = some (-4, B, Hs, E') := by
  have := ok.1
  have o3 := ok.2.2.1
  have := nh_le A (A 7 0)
  obtain ⟨E', e, hE⟩ := t_heaps (Tn := Tn) (E := E) hN hB ok
  refine ⟨E', ?_⟩
  unfold f_X5_make
  rw [e, bd2_some, hasH_t hE (by omega) hg, bd_some, if1, s_free hN hB ok hE (hp_b ok (by omega)) (by omega), bd_some, hf, if_pos (show nI 0 = 0 from rfl)]
theorem t_make_f (hN : 1000 ≤ N) (hB : RB B A) (ok : okA A) {g : Nat} (hg : g < nh A (A 7 0)) (hf : hfA A (hp A (A 7 0)) g (A 0 0) ≠ 0) (h8 : A 5 0 = 8) : ∃ E', f_X5_make N Tn B Hs E (nI g) = some (-3, B, Hs, E') := by
  have := ok.1
  have o3 := ok.2.2.1
  have := nh_le A (A 7 0)
  have hfl : hfA A (hp A (A 7 0)) g (A 0 0) ≤ A 0 0 := ct_le _ _
  obtain ⟨E', e, hE⟩ := t_heaps (Tn := Tn) (E := E) hN hB ok
  refine ⟨E', ?_⟩
  unfold f_X5_make
  rw [e, bd2_some, hasH_t hE (by omega) hg, bd_some, if1, s_free hN hB ok hE (hp_b ok (by omega)) (by omega), bd_some, if_neg (show ¬ nI (hfA A (hp A (A 7 0)) g (A 0 0)) = 0 from fun w => hf (nI_inj (by omega) (by omega) (show _ = nI 0 from w))), hB.2.1, h8, if_neg (by decide)]
theorem t_make (hN : 1000 ≤ N) (hB : RB B A) (hi : inv A) (hH : RHx Hs kn As) {g : Nat} (hg : g < nh A (A 7 0)) (hf : hfA A (hp A (A 7 0)) g (A 0 0) ≠ 0) (q8 : A 5 0 < 8) : ∃ B' Hs' E', f_X5_make N Tn B Hs E (nI g) = some (nI (A 5 0), B', Hs', E') ∧ ac B' Hs' (mkA' A (hp A (A 7 0)) g) A kn As := by
  have ok := hi.1
  have o1 := ok.1
  have o2 := ok.2.1
  have o3 := ok.2.2.1
  have nml := nh_le A (A 7 0)
  have hfl : hfA A (hp A (A 7 0)) g (A 0 0) ≤ A 0 0 := ct_le _ _
  have hh := hp_b ok (r := A 7 0) (by omega)
  obtain ⟨E', e, h3⟩ := t_heaps (Tn := Tn) (E := E) hN hB ok
  obtain ⟨Hs', r1, r2⟩ := t_rec (N := N) hH hB hi
  have ea : f_X0_addTheme N B = some (nI (A 5 0), va_up (va_up B 5 (fun _ => nI (A 5 0 + 1))) 6 (va_cpy (fun _ => -5) (B 6) 0 (A 5 0 * 6) 6)) := by
    have hr := lp_run (F := fun k (q : Int32 × tS) => f_X0_addTheme_17 N k (nI (A 5 0)) q.1 q.2) (s := fun p => (nI p, va_up (va_up B 5 (fun _ => nI (A 5 0 + 1))) 6 (va_cpy (fun _ => -5) (B 6) 0 (A 5 0 * 6) p))) 6 (some (nI (A 5 0), va_up (va_up B 5 (fun _ => nI (A 5 0 + 1))) 6 (va_cpy (fun _ => -5) (B 6) 0 (A 5 0 * 6) 6))) (by
      intro k
      show f_X0_addTheme_17b N (f_X0_addTheme_17 N k) (nI (A 5 0)) (nI 6) (va_up (va_up B 5 (fun _ => nI (A 5 0 + 1))) 6 (va_cpy (fun _ => -5) (B 6) 0 (A 5 0 * 6) 6)) = _
      unfold f_X0_addTheme_17b
      rw [li_6, leT (by omega) (by omega)]) (by
      intro k p hp
      show f_X0_addTheme_17b N (f_X0_addTheme_17 N k) (nI (A 5 0)) (nI p) (va_up (va_up B 5 (fun _ => nI (A 5 0 + 1))) 6 (va_cpy (fun _ => -5) (B 6) 0 (A 5 0 * 6) p)) = f_X0_addTheme_17 N k (nI (A 5 0)) (nI (p + 1)) (va_up (va_up B 5 (fun _ => nI (A 5 0 + 1))) 6 (va_cpy (fun _ => -5) (B 6) 0 (A 5 0 * 6) (p + 1)))
      unfold f_X0_addTheme_17b f_X0_setVote
      rw [li_6, leF hp (by omega), pk_mul, nI_add, gdI (by omega) (by decide), clI (by omega), bd_some, va_up_up, va_up_self, ← va_cpyS, nI_s]) N (by omega)
    have e0 : va_up (va_up B 5 (fun _ => nI (A 5 0 + 1))) 6 (va_cpy (fun _ => -5) (B 6) 0 (A 5 0 * 6) 0) = va_up B 5 (fun _ => nI (A 5 0 + 1)) := va_up_eq (by rw [va_cpy0, va_up_ne _ _ (by decide)])
    simp only [e0] at hr
    unfold f_X0_addTheme
    rw [hB.2.1, nI_s]
    exact hr
  have ec := lp_run (F := fun k (q : Int32 × tS) => f_X5_make_72 N Tn (nI g) k (nI (A 5 0)) q.1 q.2 Hs' E') (s := fun i => (nI i, va_up (va_up (va_up B 5 (fun _ => nI (A 5 0 + 1))) 6 (va_cpy (fun _ => -5) (B 6) 0 (A 5 0 * 6) 6)) 3 (prg (B 3) (mkB E' B g (A 5 0)) i))) (A 0 0) (some (nI (A 5 0), va_up (va_up (va_up B 5 (fun _ => nI (A 5 0 + 1))) 6 (va_cpy (fun _ => -5) (B 6) 0 (A 5 0 * 6) 6)) 3 (prg (B 3) (mkB E' B g (A 5 0)) (A 0 0)), Hs', E')) (by
    intro k
    show f_X5_make_72b N Tn (nI g) (f_X5_make_72 N Tn (nI g) k) (nI (A 5 0)) (nI (A 0 0)) (va_up (va_up (va_up B 5 (fun _ => nI (A 5 0 + 1))) 6 (va_cpy (fun _ => -5) (B 6) 0 (A 5 0 * 6) 6)) 3 (prg (B 3) (mkB E' B g (A 5 0)) (A 0 0))) Hs' E' = _
    unfold f_X5_make_72b
    rw [va_up_ne _ _ (by decide : (0 : Nat) ≠ 3), va_up_ne _ _ (by decide : (0 : Nat) ≠ 6), va_up_ne _ _ (by decide : (0 : Nat) ≠ 5), hB.1, leT (by omega) (by omega)]) (by
    intro k i hi
    show f_X5_make_72b N Tn (nI g) (f_X5_make_72 N Tn (nI g) k) (nI (A 5 0)) (nI i) (va_up (va_up (va_up B 5 (fun _ => nI (A 5 0 + 1))) 6 (va_cpy (fun _ => -5) (B 6) 0 (A 5 0 * 6) 6)) 3 (prg (B 3) (mkB E' B g (A 5 0)) i)) Hs' E' = f_X5_make_72 N Tn (nI g) k (nI (A 5 0)) (nI (i + 1)) (va_up (va_up (va_up B 5 (fun _ => nI (A 5 0 + 1))) 6 (va_cpy (fun _ => -5) (B 6) 0 (A 5 0 * 6) 6)) 3 (prg (B 3) (mkB E' B g (A 5 0)) (i + 1))) Hs' E'
    unfold f_X5_make_72b f_X5_make_120
    rw [va_up_ne _ _ (by decide : (0 : Nat) ≠ 3), va_up_ne _ _ (by decide : (0 : Nat) ≠ 6), va_up_ne _ _ (by decide : (0 : Nat) ≠ 5), hB.1, leF hi (by omega), gdI (by omega) (by decide), clI (by omega), gdJ (by omega) (by decide), gdJ (by omega) (by decide), va_up_self, va_up_up, prg_at, nI_s]
    by_cases q : E' 2 i = nI g
    · by_cases q2 : B 3 i = -5
      · rw [if_pos q, if_pos q2, ← show mkB E' B g (A 5 0) i = nI (A 5 0) from if_pos ⟨q, q2⟩, prg_S]
      · rw [if_pos q, if_neg q2, ← prg_N (show mkB E' B g (A 5 0) i = B 3 i from if_neg (fun w => q2 w.2))]
    · rw [if_neg q, ← prg_N (show mkB E' B g (A 5 0) i = B 3 i from if_neg (fun w => q w.1))]) N (by omega)
  have e0 : va_up (va_up (va_up B 5 (fun _ => nI (A 5 0 + 1))) 6 (va_cpy (fun _ => -5) (B 6) 0 (A 5 0 * 6) 6)) 3 (prg (B 3) (mkB E' B g (A 5 0)) 0) = va_up (va_up B 5 (fun _ => nI (A 5 0 + 1))) 6 (va_cpy (fun _ => -5) (B 6) 0 (A 5 0 * 6) 6) := va_up_eq (by rw [prg_0, va_up_ne _ _ (by decide : (3 : Nat) ≠ 6), va_up_ne _ _ (by decide : (3 : Nat) ≠ 5)])
  simp only [e0] at ec
  have hB' : RB (va_up (va_up (va_up B 5 (fun _ => nI (A 5 0 + 1))) 6 (va_cpy (fun _ => -5) (B 6) 0 (A 5 0 * 6) 6)) 3 (prg (B 3) (mkB E' B g (A 5 0)) (A 0 0))) (mkA' A (hp A (A 7 0)) g) := by
    obtain ⟨b1, b2, b3, b4, b6⟩ := hB
    refine ⟨by simp [va_up, mkA']; exact b1, by simp [va_up, mkA'], fun j hj => by simp [va_up, mkA']; exact b3 j hj, fun i hi => ?_, fun t ht p hp => ?_⟩
    · have hi' : i < A 0 0 := hi
      obtain ⟨x, y, c, d⟩ := b4 i hi'
      have t3 := (ok.2.2.2.2.2.1 i hi').2.2.1
      have l := hh i hi'
      refine ⟨by simp [va_up, mkA']; exact x, by simp [va_up, mkA']; exact y, ?_, fun p hp => by simp [va_up, mkA']; exact d p hp⟩
      rw [va_up_self, mkA'_3]
      show (if i < A 0 0 then mkB E' B g (A 5 0) i else B 3 i) = _
      rw [if_pos hi']
      unfold mkB
      rw [c, h3.2.2 i hi']
      by_cases q : hp A (A 7 0) i = g ∧ A 3 i = 0
      · rw [if_pos q, if_pos ⟨by rw [q.1], (enc_n5 (by omega)).mpr q.2⟩, enc_s]
      · rw [if_neg q, if_neg (fun w => q ⟨nI_inj (by omega) (by omega) w.1, (enc_n5 (by omega)).mp w.2⟩)]
    · have ht' : t < A 5 0 + 1 := by rw [mkA_5] at ht; exact ht
      rw [va_up_ne _ _ (by decide : (6 : Nat) ≠ 3), va_up_self, mkA'_6]
      by_cases q : t = A 5 0
      · rw [va_cpy_in (by omega) (by omega), if_pos (by omega)]
        rfl
      · rw [va_cpy_out (by omega), if_neg (by omega), b6 t (by omega) p hp]
  refine ⟨_, Hs', E', ?_, hB', inv_mk hi q8 hf, r2⟩
  unfold f_X5_make
  rw [e, bd2_some, hasH_t h3 (by omega) hg, bd_some, if1, s_free hN hB ok h3 hh (by omega), bd_some, if_neg (show ¬ nI (hfA A (hp A (A 7 0)) g (A 0 0)) = 0 from fun w => hf (nI_inj (by omega) (by omega) (show _ = nI 0 from w))), hB.2.1, li_8, ltT q8 (by omega), r1, bd_some, ea, bd2_some]
  exact ec
theorem t_merge_1 (hB : RB B A) (ok : okA A) (x : Int32) : f_X5_merge N Tn B Hs (nI (A 5 0)) x = some (-1, B, Hs) := by
  unfold f_X5_merge
  rw [hasT_f hB ok, bd_some, if0]
theorem t_merge_2 (hB : RB B A) (ok : okA A) {a : Nat} (ha : a < A 5 0) : f_X5_merge N Tn B Hs (nI a) (nI (A 5 0)) = some (-1, B, Hs) := by
  unfold f_X5_merge
  rw [hasT_t hB ok ha, bd_some, if1, hasT_f hB ok, bd_some, if0]
theorem t_merge_s (hB : RB B A) (ok : okA A) {a : Nat} (ha : a < A 5 0) : f_X5_merge N Tn B Hs (nI a) (nI a) = some (-2, B, Hs) := by
  unfold f_X5_merge
  rw [hasT_t hB ok ha, bd_some, if1, bd_some, if1, eqT rfl]
theorem mg_no {A : tA} {a b : Nat} (hab : a ≠ b) : ∀ i, i < mgA A a b 0 0 → mgA A a b 3 i ≠ b + 1 := by
  intro i hi
  rw [mgA_3]
  split <;> omega
theorem inv_mg {A : tA} (hi : inv A) {a b : Nat} (ha : a < A 5 0) (hb : b < A 5 0) (hab : a ≠ b) (hok : okA (drA (mgA A a b) (b + 1))) : inv (drA (mgA A a b) (b + 1)) := by
  refine inv_drA hok (fun t ht hne => ?_)
  rw [mgA_o A a b (by decide) (by decide)] at ht ⊢
  obtain ⟨i, h1, h2⟩ := hi.2 t ht
  exact ⟨i, h1, by rw [mgA_3, if_neg (by omega)]; exact h2⟩
theorem sm_add {f g : Nat → Nat} : ∀ n, sm (fun i => f i + g i) n = sm f n + sm g n
  | 0 => rfl
  | n + 1 => by
    show sm (fun i => f i + g i) n + (f n + g n) = (sm f n + f n) + (sm g n + g n)
    rw [sm_add n]
    omega
theorem nt_mg {A : tA} {a b : Nat} (hab : a ≠ b) : ntA (dropA (mgA A a b) b) ((if a ≤ b then a else a - 1) + 1) = ntA A (a + 1) + ntA A (b + 1) := by
  have h0 : dropA (mgA A a b) b 0 0 = A 0 0 := by rw [dropA_0, mgA_o A a b (by decide) (by decide)]
  unfold ntA
  rw [h0]
  show sm _ _ = sm _ _ + sm _ _
  rw [← sm_add]
  refine sm_congr (fun i hi => ?_)
  show (if (dropA (mgA A a b) b 3 i == (if a ≤ b then a else a - 1) + 1) = true then 1 else 0) = (if (A 3 i == a + 1) = true then 1 else 0) + (if (A 3 i == b + 1) = true then 1 else 0)
  rw [dropA_3, mgA_3]
  by_cases q1 : A 3 i = b + 1
  · rw [if_pos q1]
    by_cases q2 : b + 1 < a + 1
    · rw [if_pos q2, if_neg (show ¬ a ≤ b by omega)]
      have e1 : (a + 1 - 1 == a - 1 + 1) = true := by rw [beq_iff_eq]; omega
      have e2 : (A 3 i == a + 1) = false := beq_eq_false_iff_ne.mpr (by omega)
      have e3 : (A 3 i == b + 1) = true := by rw [beq_iff_eq]; exact q1
      rw [e1, e2, e3]
      rfl
    · rw [if_neg q2, if_pos (show a ≤ b by omega)]
      have e1 : (a + 1 == a + 1) = true := by rw [beq_iff_eq]
      have e2 : (A 3 i == a + 1) = false := beq_eq_false_iff_ne.mpr (by omega)
      have e3 : (A 3 i == b + 1) = true := by rw [beq_iff_eq]; exact q1
      rw [e1, e2, e3]
      rfl
  · rw [if_neg q1]
    have e3 : (A 3 i == b + 1) = false := beq_eq_false_iff_ne.mpr q1
    have e : ((if b + 1 < A 3 i then A 3 i - 1 else A 3 i) == (if a ≤ b then a else a - 1) + 1) = (A 3 i == a + 1) := by
      rw [Bool.eq_iff_iff, beq_iff_eq, beq_iff_eq]
      split <;> split <;> omega
    rw [e, e3]
    simp
theorem t_merge (hN : 1000 ≤ N) (hB : RB B A) (hi : inv A) (hH : RHx Hs kn As) {a b : Nat} (ha : a < A 5 0) (hb : b < A 5 0) (hab : a ≠ b) : ∃ B' Hs' A', f_X5_merge N Tn B Hs (nI a) (nI b) = some (nI (ntA A (a + 1) + ntA A (b + 1)), B', Hs') ∧ ac B' Hs' A' A kn As ∧ A' 5 0 = A 5 0 - 1 := by
  have ok := hi.1
  have o1 := ok.1
  have o2 := ok.2.1
  obtain ⟨Hs', r1, r2⟩ := t_rec (N := N) hH hB hi
  obtain ⟨B1, e3, hB1⟩ := s_merge hN hB ok ha hb hab
  have okm := ok_mg ok ha hb
  have hm5 : mgA A a b 5 0 = A 5 0 := mgA_o A a b (by decide) (by decide)
  have hm0 : mgA A a b 0 0 = A 0 0 := mgA_o A a b (by decide) (by decide)
  obtain ⟨B2, d1, hB2, ok2⟩ := t_dropE hN hB1 okm (c := b + 1) (by rw [hm5]; omega)
  have e0 : drA (mgA A a b) (b + 1) = dropA (mgA A a b) b := by
    unfold drA
    rw [if_neg, Nat.add_sub_cancel]
    intro w
    rcases w with w | w
    · omega
    · obtain ⟨i, h1, h2⟩ := nt_yes w
      exact mg_no hab i h1 h2
  refine ⟨B2, Hs', drA (mgA A a b) (b + 1), ?_, ⟨hB2, inv_mg hi ha hb hab ok2, r2⟩, by rw [e0, dropA_5, hm5]⟩
  rw [e0] at hB2 ok2
  have fin : ∀ c, c < 8 → f_X5_merge_68 N Tn (nI a) (nI b) (nI c) B2 Hs' = some (nI (ntA (dropA (mgA A a b) b) (c + 1)), B2, Hs') := by
    intro c hc
    unfold f_X5_merge_68
    rw [← enc_s c, s_notesOfTheme hN hB2 ok2 (by omega)]
    rfl
  unfold f_X5_merge
  rw [hasT_t hB ok ha, bd_some, if1, hasT_t hB ok hb, bd_some, if1, eqF hab (by omega) (by omega), r1, bd_some, e3, ← enc_s b, d1, bd_some, bd_some, enc_s]
  rw [← nt_mg hab]
  by_cases q : a ≤ b
  · rw [leT q (by omega), fin a (by omega), if_pos q]
  · rw [leF (by omega) (by omega), show nI a - 1 = nI (a - 1) by rw [li_1, pk_sub (by omega)], fin (a - 1) (by omega), if_neg q]
theorem t_bel_n (hB : RB B A) (ok : okA A) (x : Int32) : f_X5_belong N Tn B Hs (nI (A 0 0)) x = some (-1, B, Hs) := by
  unfold f_X5_belong
  rw [hasN_f hB ok, bd_some, if0]
theorem t_bel_t (hB : RB B A) (ok : okA A) {i : Nat} (h : i < A 0 0) : f_X5_belong N Tn B Hs (nI i) (nI (A 5 0)) = some (-1, B, Hs) := by
  have o2 := ok.2.1
  unfold f_X5_belong
  rw [hasN_t hB ok h, bd_some, if1, if_neg (nI_n5 (by omega)), hasT_f hB ok, bd_some, if0]
theorem bel_go (hB : RB B A) (ok : okA A) {i c : Nat} (h : i < A 0 0) (hc : c ≤ A 5 0) : f_X5_belong N Tn B Hs (nI i) (enc c) = f_X5_belong_30 N Tn (nI i) (enc c) B Hs := by
  have o2 := ok.2.1
  unfold f_X5_belong
  rw [hasN_t hB ok h, bd_some, if1]
  cases c with
  | zero => rw [if_pos (show enc 0 = -5 from rfl)]
  | succ c => rw [if_neg (fun z => by have := (enc_n5 (a := c + 1) (by omega)).mp z; omega), enc_s, hasT_t hB ok (by omega), bd_some, if1]
theorem t_bel_s (hB : RB B A) (ok : okA A) {i c : Nat} (h : i < A 0 0) (hc : c ≤ A 5 0) (q : A 3 i = c) : f_X5_belong N Tn B Hs (nI i) (enc c) = some (-5, B, Hs) := by
  have o1 := ok.1
  rw [bel_go hB ok h hc]
  unfold f_X5_belong_30
  rw [gdI (by omega) (by decide), clI (by omega), (hB.2.2.2.1 i h).2.2.1, q, if_pos rfl]
theorem ok_th (ok : okA A) {i c : Nat} (hc : c ≤ A 5 0) : okA (upA A 3 i c) := ok_up ok (by decide) (by decide) (by decide) ⟨fun h => absurd h (by decide), fun h => absurd h (by decide), fun _ => hc, fun h => absurd h (by decide), fun h => absurd h (by decide)⟩
theorem drA_5 (A : tA) (c : Nat) : A 5 0 - 1 ≤ drA A c 5 0 ∧ drA A c 5 0 ≤ A 5 0 := by
  unfold drA
  split
  · omega
  · rw [dropA_5]
    omega
theorem bel_3 {A : tA} {i c : Nat} (hne : A 3 i ≠ c) : (c = 0 → drA (upA A 3 i c) (A 3 i) 3 i = 0) ∧ (c ≠ 0 → drA (upA A 3 i c) (A 3 i) 3 i ≠ 0) := by
  unfold drA
  split
  · rw [upA_s]
    exact ⟨fun h => h, fun h => h⟩
  · next q =>
    rw [dropA_3, upA_s]
    split <;> omega
theorem t_bel (hN : 1000 ≤ N) (hB : RB B A) (hi : inv A) (hH : RHx Hs kn As) {i c : Nat} (h : i < A 0 0) (hc : c ≤ A 5 0) (q : A 3 i ≠ c) : ∃ B' Hs', f_X5_belong N Tn B Hs (nI i) (enc c) = some (nI (drA (upA A 3 i c) (A 3 i) 5 0), B', Hs') ∧ ac B' Hs' (drA (upA A 3 i c) (A 3 i)) A kn As := by
  have ok := hi.1
  have o1 := ok.1
  have o2 := ok.2.1
  have b3 := (ok.2.2.2.2.2.1 i h).2.2.1
  obtain ⟨Hs', r1, r2⟩ := t_rec (N := N) hH hB hi
  have hu : RB (va_up B 3 (upd (B 3) i (enc c))) (upA A 3 i c) := RB_up hB (by decide) (by decide) rfl
  have oku := ok_th ok (i := i) hc
  have h5 : upA A 3 i c 5 0 = A 5 0 := upA_o _ _ (Or.inl (by decide))
  have h0 : upA A 3 i c 0 0 = A 0 0 := upA_o _ _ (Or.inl (by decide))
  obtain ⟨B', d1, d2, d3⟩ := t_dropE hN hu oku (c := A 3 i) (by rw [h5]; exact b3)
  refine ⟨B', Hs', ?_, d2, inv_drA d3 (fun t ht hne => ?_), r2⟩
  · rw [bel_go hB ok h hc]
    unfold f_X5_belong_30
    rw [gdI (by omega) (by decide), clI (by omega), (hB.2.2.2.1 i h).2.2.1, if_neg (fun z => q ((enc_eq (by omega) (by omega)).mp z)), r1, bd_some, gdJ (by omega) (by decide), d1, bd_some, d2.2.1]
  · rw [h5] at ht
    obtain ⟨j, h1, h2⟩ := hi.2 t ht
    have hji : j ≠ i := fun e => by rw [e] at h2; omega
    exact ⟨j, by rw [h0]; exact h1, by rw [upA_o _ _ (Or.inr hji)]; exact h2⟩
end MK
/-! a heap that is dragged -/
theorem mh_inv {A : tA} (hi : inv A) {h : Nat → Nat} {g : Nat} {p1 p2 : Int32} {m : Nat} (ok : okA (mhA A h g p1 p2 m)) : inv (mhA A h g p1 p2 m) := by
  refine ⟨ok, fun t ht => ?_⟩
  rw [mhA_c (Or.inl ⟨by decide, by decide⟩)] at ht
  obtain ⟨i, h1, h2⟩ := hi.2 t ht
  exact ⟨i, by rw [mhA_c (Or.inl ⟨by decide, by decide⟩)]; exact h1, by rw [mhA_c (Or.inl ⟨by decide, by decide⟩)]; exact h2⟩
def plH (A : tA) (h : Nat → Nat) (g : Nat) (p1 p2 : Int32) : Prop := ∀ j, j < A 0 0 → h j = g → shN (nI (A 1 j) + p1) < 30 ∧ shN (nI (A 2 j) + p2) < 20 ∧ nI (A 1 j) + p1 = nI (shN (nI (A 1 j) + p1)) ∧ nI (A 2 j) + p2 = nI (shN (nI (A 2 j) + p2))
theorem pl_c (N : Nat) (x y : Int32) : f_X5_isPlace N x y = some 0 ∨ ∃ c r, c < 30 ∧ r < 20 ∧ x = nI c ∧ y = nI r ∧ f_X5_isPlace N x y = some 1 := by
  have wi : ∀ (z : Int32) (n : Nat), n < 1000 → (f_X5_isWithin N z (nI 0) (nI n) = some 0) ∨ ∃ k, k ≤ n ∧ z = nI k := by
    intro z n hn
    unfold f_X5_isWithin
    rcases ix3 z (n + 1) (by omega) with h | h | ⟨k, h1, h2⟩
    · left
      rw [if_pos (by rw [I_lt, nI_T (by omega)]; omega)]
    · left
      by_cases q : z < nI 0
      · rw [if_pos q]
      · rw [if_neg q, if_pos (by rw [I_lt, nI_T (by omega)]; omega)]
    · exact Or.inr ⟨k, by omega, h2⟩
  have e : f_X5_isPlace N x y = (bd (f_X5_isWithin N x (nI 0) (nI 29)) (fun r1 => (if r1 = 0 then some (0 : Int32) else (bd (f_X5_isWithin N y (nI 0) (nI 19)) (fun r2 => (if r2 = 0 then some (0 : Int32) else some (1 : Int32))))))) := rfl
  rcases wi x 29 (by omega) with h | ⟨c, hc, rfl⟩
  · left
    rw [e, h, bd_some, if0]
  rcases wi y 19 (by omega) with h | ⟨r, hr, rfl⟩
  · left
    rw [e, wi_t (by omega) hc (by omega), bd_some, if1, h, bd_some, if0]
  exact Or.inr ⟨c, r, by omega, by omega, rfl, rfl, isPl_t (by omega) (by omega)⟩
section DH
variable {N : Nat} {Tn B Sn Tr E F Nm : tS} {Hs : tH} {A : tA} {kn : Nat} {As : Nat → tA}
theorem t_stay (hN : 1000 ≤ N) (hB : RB B A) (ok : okA A) {S : tS} {num : Nat} {h : Nat → Nat} (h3 : HE S (A 0 0) num h) (hh : ∀ i, i < A 0 0 → h i < 1000) {g : Nat} (hg : g < 1000) (p1 p2 : Int32) : f_X5_staysOnBoard N Tn B S (nI g) p1 p2 = some 0 ∨ (f_X5_staysOnBoard N Tn B S (nI g) p1 p2 = some 1 ∧ plH A h g p1 p2) := by
  have o1 := ok.1
  have hs := lp_any (F := fun n x => f_X5_staysOnBoard_3 N Tn B S (nI g) p1 p2 n x) (fun j => decide (h j = g ∧ f_X5_isPlace N (nI (A 1 j) + p1) (nI (A 2 j) + p2) = some 0)) (A 0 0) (some (0 : Int32)) (some (1 : Int32)) (by
    intro n
    show f_X5_staysOnBoard_3b N Tn B S (nI g) p1 p2 (f_X5_staysOnBoard_3 N Tn B S (nI g) p1 p2 n) (nI (A 0 0)) = _
    unfold f_X5_staysOnBoard_3b
    rw [hB.1, leT (Nat.le_refl _) (by omega)]) (by
    intro n j hj
    show f_X5_staysOnBoard_3b N Tn B S (nI g) p1 p2 (f_X5_staysOnBoard_3 N Tn B S (nI g) p1 p2 n) (nI j) = _
    have hl := hh j hj
    unfold f_X5_staysOnBoard_3b f_X5_staysOnBoard_61
    rw [hB.1, leF hj (by omega), gdI (by omega) (by decide), clI (by omega), gdJ (by omega) (by decide), gdJ (by omega) (by decide), h3.2.2 j hj, (hB.2.2.2.1 j hj).1, (hB.2.2.2.1 j hj).2.1, nI_s]
    by_cases q : h j = g
    · rw [eqT q]
      rcases pl_c N (nI (A 1 j) + p1) (nI (A 2 j) + p2) with e1 | ⟨c, r, hc, hr, ec, er, e1⟩
      · rw [e1, bd_some, if0, if_pos (decide_eq_true ⟨q, rfl⟩)]
      · rw [e1, bd_some, if1, if_neg (fun w => by
          have := (of_decide_eq_true w).2
          cases this)]
    · rw [eqF q (by omega) (by omega), if_neg (fun w => q (of_decide_eq_true w).1)]) N (by omega)
  have hs : f_X5_staysOnBoard N Tn B S (nI g) p1 p2 = _ := hs
  rw [hs]
  cases z : anyB (fun j => decide (h j = g ∧ f_X5_isPlace N (nI (A 1 j) + p1) (nI (A 2 j) + p2) = some 0)) (A 0 0) with
  | true => exact Or.inl rfl
  | false =>
    right
    refine ⟨rfl, ?_⟩
    intro j hj q
    have zj := of_decide_eq_false (anyB_f.mp z j hj)
    rcases pl_c N (nI (A 1 j) + p1) (nI (A 2 j) + p2) with e1 | ⟨c, r, hc, hr, ec, er, e1⟩
    · exact absurd ⟨q, e1⟩ zj
    · have c1 : shN (nI c) = c := by unfold shN; rw [nI_T (by omega)]; omega
      have c2 : shN (nI r) = r := by unfold shN; rw [nI_T (by omega)]; omega
      rw [ec, er, c1, c2]
      exact ⟨hc, hr, rfl, rfl⟩
theorem t_dh_x (hN : 1000 ≤ N) (hB : RB B A) (ok : okA A) (p1 p2 : Int32) : ∃ E', f_X5_dragHeap N Tn B Hs E (nI (nh A (A 7 0))) p1 p2 = some (-1, B, Hs, E') := by
  have := ok.1
  have := nh_le A (A 7 0)
  obtain ⟨E', e, hE⟩ := t_heaps (Tn := Tn) (E := E) hN hB ok
  refine ⟨E', ?_⟩
  unfold f_X5_dragHeap
  rw [e, bd2_some, hasH_f hE (by omega), bd_some, if0]
theorem t_dh (hN : 1000 ≤ N) (hB : RB B A) (hi : inv A) (hH : RHx Hs kn As) {g : Nat} (hg : g < nh A (A 7 0)) {p1 p2 : Int32} (w1 : f_X5_isWithin N p1 (-29) 29 = some 1) (w2 : f_X5_isWithin N p2 (-19) 19 = some 1) : (∃ E', f_X5_dragHeap N Tn B Hs E (nI g) p1 p2 = some (-4, B, Hs, E')) ∨ (p1 = 0 ∧ p2 = 0 ∧ ∃ E', f_X5_dragHeap N Tn B Hs E (nI g) p1 p2 = some (-5, B, Hs, E')) ∨ (¬ (p1 = 0 ∧ p2 = 0) ∧ plH A (hp A (A 7 0)) g p1 p2 ∧ ∃ B' Hs' E', f_X5_dragHeap N Tn B Hs E (nI g) p1 p2 = some (nI (nh (mhA A (hp A (A 7 0)) g p1 p2 (A 0 0)) (A 7 0)), B', Hs', E') ∧ ac B' Hs' (mhA A (hp A (A 7 0)) g p1 p2 (A 0 0)) A kn As) := by
  have ok := hi.1
  have o1 := ok.1
  have o3 := ok.2.2.1
  have nml := nh_le A (A 7 0)
  have hh := hp_b ok (r := A 7 0) (by omega)
  obtain ⟨E', e, h3⟩ := t_heaps (Tn := Tn) (E := E) hN hB ok
  unfold f_X5_dragHeap
  rw [e, bd2_some, hasH_t h3 (by omega) hg, bd_some, if1, w1, bd_some, if1, w2, bd_some, if1]
  rcases t_stay (Tn := Tn) hN hB ok h3 hh (g := g) (by omega) p1 p2 with cs | ⟨cs, hpl⟩
  · left
    rw [cs, bd_some, if0]
    exact ⟨_, rfl⟩
  rw [cs, bd_some, if1]
  by_cases q : p1 = 0 ∧ p2 = 0
  · right; left
    rw [if_pos q.1, if_pos q.2]
    exact ⟨q.1, q.2, _, rfl⟩
  right; right
  refine ⟨q, hpl, ?_⟩
  obtain ⟨Hs', r1, r2⟩ := t_rec (N := N) hH hB hi
  obtain ⟨y, ⟨y1, y2, y3⟩, ey⟩ := lp_to (F := fun k (q : Int32 × tS) => f_X5_moveHeap_3 N Tn E' (nI g) p1 p2 k q.1 q.2) (fun m q => q.1 = nI m ∧ RB q.2 (mhA A (hp A (A 7 0)) g p1 p2 m) ∧ okA (mhA A (hp A (A 7 0)) g p1 p2 m)) (A 0 0) (fun q => some q.2) (by
    rintro k ⟨x, T⟩ ⟨g1, g2, g3⟩
    simp only at g1 g2
    subst g1
    show f_X5_moveHeap_3b N Tn E' (nI g) p1 p2 (f_X5_moveHeap_3 N Tn E' (nI g) p1 p2 k) (nI (A 0 0)) T = some T
    unfold f_X5_moveHeap_3b
    rw [g2.1, mhA_c (Or.inl ⟨by decide, by decide⟩), leT (Nat.le_refl _) (by omega)]) (by
    rintro k m ⟨x, T⟩ hm ⟨g1, g2, g3⟩
    simp only at g1 g2
    subst g1
    have hl := hh m hm
    have hm' : m < mhA A (hp A (A 7 0)) g p1 p2 m 0 0 := by rw [mhA_c (Or.inl ⟨by decide, by decide⟩)]; exact hm
    obtain ⟨c1, c2, -, -⟩ := g2.2.2.2.1 m hm'
    rw [mhA_c (Or.inr (Nat.le_refl _))] at c1 c2
    by_cases q : hp A (A 7 0) m = g
    · obtain ⟨a1, a2, a3, a4⟩ := hpl m hm q
      obtain ⟨B', d1, d2, d3⟩ := s_move (N := N) g2 g3 hm' a1 a2
      rw [← mhA_s q] at d2 d3
      refine ⟨(nI (m + 1), B'), ?_, rfl, d2, d3⟩
      show f_X5_moveHeap_3b N Tn E' (nI g) p1 p2 (f_X5_moveHeap_3 N Tn E' (nI g) p1 p2 k) (nI m) T = f_X5_moveHeap_3 N Tn E' (nI g) p1 p2 k (nI (m + 1)) B'
      unfold f_X5_moveHeap_3b f_X5_moveHeap_62
      rw [g2.1, mhA_c (Or.inl ⟨by decide, by decide⟩), leF hm (by omega), gdI (by omega) (by decide), clI (by omega), h3.2.2 m hm, eqT q, gdJ (by omega) (by decide), gdJ (by omega) (by decide), c1, c2, a3, a4, d1, bd_some, nI_s]
    · refine ⟨(nI (m + 1), T), ?_, rfl, by rw [mhA_n q]; exact g2, by rw [mhA_n q]; exact g3⟩
      show f_X5_moveHeap_3b N Tn E' (nI g) p1 p2 (f_X5_moveHeap_3 N Tn E' (nI g) p1 p2 k) (nI m) T = f_X5_moveHeap_3 N Tn E' (nI g) p1 p2 k (nI (m + 1)) T
      unfold f_X5_moveHeap_3b f_X5_moveHeap_62
      rw [g2.1, mhA_c (Or.inl ⟨by decide, by decide⟩), leF hm (by omega), gdI (by omega) (by decide), clI (by omega), h3.2.2 m hm, eqF q (by omega) (by omega), nI_s]) N (by omega) (nI 0, B) ⟨rfl, by rw [mhA_0]; exact hB, by rw [mhA_0]; exact ok⟩
  have ey' : f_X5_moveHeap N Tn B E' (nI g) p1 p2 = some y.2 := ey
  obtain ⟨E3, e3, -⟩ := t_heaps (Tn := Tn) (E := E') hN y2 y3
  rw [mhA_c (Or.inl ⟨by decide, by decide⟩)] at e3
  have go : f_X5_dragHeap_67 N Tn (nI g) p1 p2 B Hs E' = some (nI (nh (mhA A (hp A (A 7 0)) g p1 p2 (A 0 0)) (A 7 0)), y.2, Hs', E3) := by
    unfold f_X5_dragHeap_67
    rw [r1, bd_some, ey', bd_some, e3, bd2_some]
  refine ⟨y.2, Hs', E3, ?_, y2, mh_inv hi y3, r2⟩
  by_cases q1 : p1 = 0
  · rw [if_pos q1, if_neg (fun z => q ⟨q1, z⟩), go]
  · rw [if_neg q1, go]
end DH
