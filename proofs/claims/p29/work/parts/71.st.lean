/-! the class's state: the board, the history, the snapshot, the text's length; what an act leaves -/
def inv (A : tA) : Prop := okA A ∧ ∀ t, t < A 5 0 → ∃ i, i < A 0 0 ∧ A 3 i = t + 1
def RHx (Hs : tH) (kn : Nat) (As : Nat → tA) : Prop := kn ≤ 4 ∧ Hs.1 = nI kn ∧ permH Hs.2.1 ∧ ∀ i, i < kn → RB (Hs.2.2 (Hs.2.1 i)) (As i) ∧ inv (As i)
def pushN (kn : Nat) : Nat := if kn < 4 then kn + 1 else 4
def pushA (kn : Nat) (As : Nat → tA) (A : tA) : Nat → tA := if kn < 4 then va_up As kn A else va_up (fun i => As (i + 1)) 3 A
theorem push_top (kn : Nat) (As : Nat → tA) (A : tA) (h : kn ≤ 4) : pushA kn As A (pushN kn - 1) = A := by
  unfold pushA pushN
  by_cases q : kn < 4
  · rw [if_pos q, if_pos q, Nat.add_sub_cancel, va_up_self]
  · rw [if_neg q, if_neg q, va_up_self]
theorem push_pos (kn : Nat) : 0 < pushN kn := by
  unfold pushN
  split <;> omega
def RK (Tn Sn : tS) (sn : Option tA) : Prop := match sn with
  | none => Tn 3 0 = 0
  | some A => Tn 3 0 = 1 ∧ RB Sn A ∧ inv A
def RT (Tn : tS) (n : Nat) : Prop := n ≤ 80 ∧ Tn 5 0 = nI n
/-- the whole state of the class -/
def RC (Tn B : tS) (Hs : tH) (Sn : tS) (A : tA) (kn : Nat) (As : Nat → tA) (sn : Option tA) (n : Nat) : Prop := RB B A ∧ inv A ∧ RHx Hs kn As ∧ RK Tn Sn sn ∧ RT Tn n
/-- an act's end -/
def ac (B' : tS) (Hs' : tH) (A' A : tA) (kn : Nat) (As : Nat → tA) : Prop := RB B' A' ∧ inv A' ∧ RHx Hs' (pushN kn) (pushA kn As A)
section REC
variable {N : Nat} {Tn B Sn : tS} {Hs : tH} {A : tA} {kn : Nat} {As : Nat → tA}
theorem t_rec (hH : RHx Hs kn As) (hB : RB B A) (hi : inv A) : ∃ Hs', f_X3_remember N Hs B = some Hs' ∧ RHx Hs' (pushN kn) (pushA kn As A) := by
  obtain ⟨h4, e1, hp, hB2⟩ := hH
  unfold pushN pushA
  rcases Nat.lt_or_ge kn 4 with hk | hk
  · obtain ⟨C, eC, hC⟩ := s_copy (N := N) (B := Hs.2.2 (Hs.2.1 kn)) hB hi.1
    rw [if_pos hk, if_pos hk]
    refine ⟨(nI (kn + 1), Hs.2.1, va_up Hs.2.2 (Hs.2.1 kn) C), ?_, by omega, rfl, hp, ?_⟩
    · unfold f_X3_remember
      rw [e1, show (4 : Int32) = nI 4 from rfl, ltT hk (by decide), bd_some, e1, gdI hk (by decide), clI (by omega), if_pos (hp.1 kn hk), eC, bd_some, nI_s]
    · intro i hi'
      show RB (va_up Hs.2.2 (Hs.2.1 kn) C (Hs.2.1 i)) _ ∧ _
      rcases Nat.lt_or_ge i kn with q | q
      · have ne : Hs.2.1 i ≠ Hs.2.1 kn := fun z => by
          have := hp.2 i kn (by omega) hk z
          omega
        rw [va_up_ne _ _ ne, va_up_ne _ _ (by omega)]
        exact hB2 i q
      · have e : i = kn := by omega
        subst e
        rw [va_up_self, va_up_self]
        exact ⟨hC, hi⟩
  · have e4 : kn = 4 := by omega
    subst e4
    obtain ⟨rp, r0, r1, r2, r3⟩ := rot_perm hp
    obtain ⟨C, eC, hC⟩ := s_copy (N := N) (B := Hs.2.2 (Hs.2.1 0)) hB hi.1
    rw [if_neg (by omega), if_neg (by omega)]
    refine ⟨(nI 4, f_X3_rot Hs.2.1, va_up Hs.2.2 (Hs.2.1 0) C), ?_, by omega, rfl, rp, ?_⟩
    · unfold f_X3_remember
      have m3 : nI 4 - 1 = nI 3 := rfl
      rw [e1, show (4 : Int32) = nI 4 from rfl, ltF (Nat.le_refl _) (by decide), if_pos ⟨hp.1 0 (by decide), hp.1 1 (by decide), hp.1 2 (by decide), hp.1 3 (by decide)⟩, bd_some]
      unfold f_X3_dropOldest
      simp only []
      rw [e1, m3, gdI (by decide) (by decide), clI (by decide), r3, if_pos (hp.1 0 (by decide)), eC, bd_some]
      rfl
    · intro i hi'
      show RB (va_up Hs.2.2 (Hs.2.1 0) C (f_X3_rot Hs.2.1 i)) _ ∧ _
      rcases Nat.lt_or_ge i 3 with q | q
      · have er : f_X3_rot Hs.2.1 i = Hs.2.1 (i + 1) := by
          match i, q with
          | 0, _ => exact r0
          | 1, _ => exact r1
          | 2, _ => exact r2
        have ne : Hs.2.1 (i + 1) ≠ Hs.2.1 0 := fun z => by
          have := hp.2 (i + 1) 0 (by omega) (by omega) z
          omega
        rw [er, va_up_ne _ _ ne, va_up_ne _ _ (by omega)]
        exact hB2 (i + 1) (by omega)
      · have e : i = 3 := by omega
        subst e
        rw [r3, va_up_self, va_up_self]
        exact ⟨hC, hi⟩
theorem t_undo0 (hH : RHx Hs 0 As) : f_X5_undo N Tn B Hs = some (-5, B, Hs) := by
  unfold f_X5_undo
  rw [hH.2.1, show nI 0 = 0 from rfl, if0]
theorem t_undo (hH : RHx Hs (kn + 1) As) : ∃ B' Hs', f_X5_undo N Tn B Hs = some (nI kn, B', Hs') ∧ RB B' (As kn) ∧ inv (As kn) ∧ RHx Hs' kn As := by
  obtain ⟨h4, e1, hp, hB2⟩ := hH
  obtain ⟨b1, b2⟩ := hB2 kn (by omega)
  have m1 : nI (kn + 1) - 1 = nI kn := by rw [li_1, pk_sub (by omega)]; rfl
  have ne : ¬ (nI (kn + 1) = 0) := fun z => by
    have := nI_inj (by omega) (by omega) (show nI (kn + 1) = nI 0 from z)
    omega
  obtain ⟨C, eC, hC⟩ := s_copy (N := N) (B := B) b1 b2.1
  unfold f_X5_undo f_X3_takeBack
  rw [e1, if_neg ne, m1, gdI (by omega) (by decide), clI (by omega), if_pos (hp.1 kn (by omega)), eC, bd_some, bd2_some]
  exact ⟨C, _, rfl, hC, b2, by omega, rfl, hp, fun i hi => hB2 i (by omega)⟩
theorem t_keep (hB : RB B A) (hi : inv A) : ∃ Tn' Sn', f_X5_keep N Tn B Sn = some (nI (A 0 0), Tn', Sn') ∧ RK Tn' Sn' (some A) ∧ Tn' 5 0 = Tn 5 0 := by
  obtain ⟨C, eC, hC⟩ := s_copy (N := N) (B := Sn) hB hi.1
  unfold f_X5_keep
  rw [eC, bd_some, hB.1]
  refine ⟨_, C, rfl, ⟨?_, hC, hi⟩, ?_⟩
  · rw [va_up_self]
  · rw [va_up_ne _ _ (by decide)]
theorem t_restore0 (hK : RK Tn Sn none) : f_X5_restore N Tn B Hs Sn = some (-5, B, Hs) := by
  have hK : Tn 3 0 = 0 := hK
  unfold f_X5_restore
  rw [hK, if0]
theorem t_restore {S : tA} (hH : RHx Hs kn As) (hB : RB B A) (hi : inv A) (hK : RK Tn Sn (some S)) : ∃ B' Hs', f_X5_restore N Tn B Hs Sn = some (nI (S 0 0), B', Hs') ∧ ac B' Hs' S A kn As := by
  obtain ⟨k1, k2, k3⟩ := hK
  obtain ⟨Hs', r1, r2⟩ := t_rec (N := N) hH hB hi
  obtain ⟨C, eC, hC⟩ := s_copy (N := N) (B := B) k2 k3.1
  unfold f_X5_restore
  rw [k1, if1, r1, bd_some, eC, bd_some, hC.1]
  exact ⟨C, Hs', rfl, hC, k3, r2⟩
end REC
/-! a theme that is empty goes -/
def drA (A : tA) (c : Nat) : tA := if c = 0 ∨ 0 < ntA A c then A else dropA A (c - 1)
theorem nt_no {A : tA} {c : Nat} (h : ¬ 0 < ntA A c) : ∀ i, i < A 0 0 → A 3 i ≠ c := by
  intro i hi z
  have := ct_zero.mp (show ct (fun i => A 3 i == c) (A 0 0) = 0 by unfold ntA at h; omega) i hi
  simp [z] at this
theorem nt_yes {A : tA} {c : Nat} (h : 0 < ntA A c) : ∃ i, i < A 0 0 ∧ A 3 i = c := by
  apply Classical.byContradiction
  intro w
  have : ntA A c = 0 := ct_zero.mpr (fun i hi => by
    cases q : (A 3 i == c) with
    | false => rfl
    | true => exact absurd ⟨i, hi, by simpa using q⟩ w)
  omega
theorem t_dropE {N : Nat} (hN : 1000 ≤ N) {B : tS} {A : tA} (hB : RB B A) (ok : okA A) {c : Nat} (hc : c ≤ A 5 0) : ∃ B', f_X0_removeThemeIfEmpty N B (enc c) = some B' ∧ RB B' (drA A c) ∧ okA (drA A c) := by
  have o2 := ok.2.1
  have hnt : ntA A c ≤ A 0 0 := ct_le _ _
  have o1 := ok.1
  unfold f_X0_removeThemeIfEmpty drA
  rw [s_notesOfTheme hN hB ok (by omega), bd_some]
  cases c with
  | zero =>
    rw [if_pos (show enc 0 = -5 from rfl), if_pos (Or.inl rfl)]
    exact ⟨B, rfl, hB, ok⟩
  | succ t =>
    have n5 : ¬ enc (t + 1) = -5 := fun z => by
      have := (enc_n5 (by omega)).mp z
      omega
    rw [if_neg n5]
    by_cases q : ntA A (t + 1) = 0
    · rw [if_neg (show ¬ (t + 1 = 0 ∨ 0 < ntA A (t + 1)) by omega), q, if_pos (show nI 0 ≤ 0 by decide), enc_s, Nat.add_sub_cancel]
      have hn : ∀ i, i < A 0 0 → A 3 i ≠ t + 1 := nt_no (by omega)
      obtain ⟨B', e1, hB'⟩ := s_drop hN hB ok (by omega) hn
      rw [e1]
      exact ⟨B', rfl, hB', ok_drop ok (by omega) hn⟩
    · rw [if_neg (show ¬ nI (ntA A (t + 1)) ≤ 0 by rw [I_le, I_0, nI_T (by omega)]; omega), if_pos (show (t + 1 = 0 ∨ 0 < ntA A (t + 1)) by omega)]
      exact ⟨B, rfl, hB, ok⟩
theorem dropA_0 (A : tA) (t : Nat) : dropA A t 0 0 = A 0 0 := by simp [dropA]
theorem dropA_5 (A : tA) (t : Nat) : dropA A t 5 0 = A 5 0 - 1 := by simp [dropA]
theorem dropA_3 (A : tA) (t j : Nat) : dropA A t 3 j = if t + 1 < A 3 j then A 3 j - 1 else A 3 j := by simp [dropA]
theorem drA_0 (A : tA) (c : Nat) : drA A c 0 0 = A 0 0 := by
  unfold drA
  split
  · rfl
  · exact dropA_0 _ _
theorem inv_drA {A : tA} {c : Nat} (hok : okA (drA A c)) (h : ∀ t, t < A 5 0 → t + 1 ≠ c → ∃ i, i < A 0 0 ∧ A 3 i = t + 1) : inv (drA A c) := by
  refine ⟨hok, ?_⟩
  unfold drA
  by_cases q : c = 0 ∨ 0 < ntA A c
  · rw [if_pos q]
    intro t ht
    by_cases e : t + 1 = c
    · rcases q with q | q
      · omega
      · obtain ⟨i, h1, h2⟩ := nt_yes q
        exact ⟨i, h1, by omega⟩
    · exact h t ht e
  · rw [if_neg q]
    intro t ht
    rw [dropA_5] at ht
    by_cases e : t + 1 < c
    · obtain ⟨i, h1, h2⟩ := h t (by omega) (by omega)
      exact ⟨i, by rw [dropA_0]; exact h1, by rw [dropA_3, if_neg (by omega), h2]⟩
    · obtain ⟨i, h1, h2⟩ := h (t + 1) (by omega) (by omega)
      exact ⟨i, by rw [dropA_0]; exact h1, by rw [dropA_3, if_pos (by omega), h2]; rfl⟩
