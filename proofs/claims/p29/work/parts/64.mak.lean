/-! heap, make, note -/
def mkA' (A : tA) (h : Nat → Nat) (g : Nat) : tA := fun f j => if f = 5 then A 5 0 + 1 else if f = 3 then (if h j = g ∧ A 3 j = 0 then A 5 0 + 1 else A 3 j) else if f = 6 ∧ A 5 0 * 6 ≤ j ∧ j < A 5 0 * 6 + 6 then 0 else A f j
theorem mkA'_3 (A : tA) (h : Nat → Nat) (g j : Nat) : mkA' A h g 3 j = if h j = g ∧ A 3 j = 0 then A 5 0 + 1 else A 3 j := rfl
theorem mkA'_6 (A : tA) (h : Nat → Nat) (g j : Nat) : mkA' A h g 6 j = if A 5 0 * 6 ≤ j ∧ j < A 5 0 * 6 + 6 then 0 else A 6 j := by simp [mkA']
theorem mkA'_o (A : tA) (h : Nat → Nat) (g : Nat) {f j : Nat} (h3 : f ≠ 3) (h5 : f ≠ 5) (h6 : f ≠ 6) : mkA' A h g f j = A f j := by simp [mkA', h3, h5, h6]
theorem ok_mk {A : tA} (ok : okA A) (h : Nat → Nat) (g : Nat) (h8 : A 5 0 < 8) : okA (mkA' A h g) := by
  obtain ⟨o1, o2, o3, o4, o5, o6, o8⟩ := ok
  refine ⟨o1, ?_, o3, o4, o5, fun i hi => ?_, fun t ht p hp => ?_⟩
  · show A 5 0 + 1 ≤ 8
    omega
  · obtain ⟨x, y, z, w⟩ := o6 i hi
    refine ⟨x, y, ?_, w⟩
    show _ ≤ A 5 0 + 1
    rw [mkA'_3]
    split <;> omega
  · have ht' : t < A 5 0 + 1 := ht
    rw [mkA'_6]
    split
    · omega
    · exact o8 t (by omega) p hp
def mkB (S B : tS) (g th : Nat) : Nat → Int32 := fun j => if S 2 j = nI g ∧ B 3 j = -5 then nI th else B 3 j
def mkS (h : Nat → Nat) (g th : Nat) (s : Nat → Int32) (m : Nat) : Nat → Int32 := fun k => if (7 ≤ k ∧ k < 7 + 9 * m ∧ (k - 7) % 9 = 0) ∧ h ((k - 7) / 9) = g ∧ s k - 1 < 0 then nI (th + 1) else s k
theorem mkS_0 (h : Nat → Nat) (g th : Nat) (s : Nat → Int32) : mkS h g th s 0 = s := by
  funext k
  unfold mkS
  rw [if_neg (fun w => by have := w.1; omega)]
