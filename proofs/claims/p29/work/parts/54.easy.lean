/-! the easy methods -/
def addA (A : tA) (c r : Nat) : tA := fun f j => if f = 0 then A 0 0 + 1 else if f = 1 ∧ j = A 0 0 then c else if f = 2 ∧ j = A 0 0 then r else if f = 3 ∧ j = A 0 0 then 0 else if f = 4 ∧ A 0 0 * 6 ≤ j ∧ j < A 0 0 * 6 + 6 then 0 else A f j
theorem ok_add {A : tA} (ok : okA A) (h : A 0 0 < 20) {c r : Nat} (hc : c < 30) (hr : r < 20) : okA (addA A c r) := by
  obtain ⟨o1, o2, o3, o4, o5, o6, o8⟩ := ok
  refine ⟨?_, ?_, ?_, ?_, ?_, fun i hi => ?_, fun t ht p hp => ?_⟩
  · simp [addA]; omega
  · simp [addA]; omega
  · simp [addA]; omega
  · simp [addA]; omega
  · simp [addA]; omega
  · have hi' : i < A 0 0 + 1 := hi
    by_cases q : i = A 0 0
    · subst q
      refine ⟨by simp [addA]; omega, by simp [addA]; omega, by simp [addA], fun p hp => ?_⟩
      simp [addA, hp]
    · obtain ⟨e1, e2, e3, e4⟩ := o6 i (by omega)
      refine ⟨by simp [addA, q]; omega, by simp [addA, q]; omega, by simp [addA, q]; omega, fun p hp => ?_⟩
      have := e4 p hp
      simp [addA]
      split <;> omega
  · have e := o8 t ht p hp
    simp [addA]
    omega
def addB (B : tS) (n c r i : Nat) : tS := va_up (va_up (va_up (va_up (va_up B 0 (fun _ => nI (n + 1))) 1 (upd (B 1) n (nI c))) 2 (upd (B 2) n (nI r))) 3 (upd (B 3) n (-5))) 4 (va_cpy (fun _ => 0) (B 4) 0 (n * 6) i)
theorem addB_0 (B : tS) (n c r : Nat) : va_up (va_up (va_up (va_up B 0 (fun _ => nI (n + 1))) 1 (upd (B 1) n (nI c))) 2 (upd (B 2) n (nI r))) 3 (upd (B 3) n (-5)) = addB B n c r 0 := by
  unfold addB
  exact (va_up_eq (by rw [va_cpy0, va_up_ne _ _ (by decide), va_up_ne _ _ (by decide), va_up_ne _ _ (by decide), va_up_ne _ _ (by decide)])).symm
theorem addB_s (B : tS) (n c r i : Nat) : va_up (addB B n c r i) 4 (upd (addB B n c r i 4) (n * 6 + i) 0) = addB B n c r (i + 1) := by
  unfold addB
  rw [va_up_up, va_up_self, ← va_cpyS]
theorem s_add {N : Nat} (hN : 1000 ≤ N) {B : tS} {A : tA} (hB : RB B A) (ok : okA A) (h : A 0 0 < 20) (c r : Nat) : ∃ B', f_X0_addNote N B (nI c) (nI r) = some B' ∧ RB B' (addA A c r) := by
  obtain ⟨h1, h2, h3, h4, h6⟩ := hB
  have o2 := ok.2.1
  refine ⟨addB B (A 0 0) c r 6, ?_, ?_⟩
  · unfold f_X0_addNote f_X0_moveNote
    rw [h1, gdI h (by decide), gdI h (by decide), bd_some, gdI h (by decide), clI (by omega), li_1, nI_add, va_up_ne _ _ (by decide : (1 : Nat) ≠ 0), va_up_ne _ _ (by decide : (2 : Nat) ≠ 0), va_up_ne _ _ (by decide : (3 : Nat) ≠ 2), va_up_ne _ _ (by decide : (3 : Nat) ≠ 1), va_up_ne _ _ (by decide : (3 : Nat) ≠ 0), addB_0]
    exact lp_run (F := fun k (x : Int32 × tS) => f_X0_addNote_33 N (nI c) (nI r) k (nI (A 0 0)) x.1 x.2) (s := fun i => (nI i, addB B (A 0 0) c r i)) 6 (some (addB B (A 0 0) c r 6)) (by
      intro k
      show f_X0_addNote_33b N (nI c) (nI r) (f_X0_addNote_33 N (nI c) (nI r) k) (nI (A 0 0)) (nI 6) (addB B (A 0 0) c r 6) = _
      unfold f_X0_addNote_33b
      rw [li_6, leT (by omega) (by omega)]) (by
      intro k i hi
      show f_X0_addNote_33b N (nI c) (nI r) (f_X0_addNote_33 N (nI c) (nI r) k) (nI (A 0 0)) (nI i) (addB B (A 0 0) c r i) = f_X0_addNote_33 N (nI c) (nI r) k (nI (A 0 0)) (nI (i + 1)) (addB B (A 0 0) c r (i + 1))
      unfold f_X0_addNote_33b
      rw [li_6, leF hi (by omega), pk_mul, nI_add, gdI (by omega) (by decide), clI (by omega), addB_s, nI_s]) N (by omega)
  · unfold addB
    refine ⟨by simp [va_up, addA], by simp [va_up, addA]; exact h2, fun j hj => by simp [va_up, addA]; exact h3 j hj, fun i hi => ?_, fun t ht p hp => by simp [va_up, addA]; exact h6 t ht p hp⟩
    have hi' : i < A 0 0 + 1 := hi
    by_cases q : i = A 0 0
    · subst q
      refine ⟨by simp [va_up, addA, upd], by simp [va_up, addA, upd], by simp [va_up, addA, upd]; rfl, fun p hp => ?_⟩
      rw [va_up_self, va_cpy_in (by omega) (by omega)]
      simp [addA, hp]
      rfl
    · obtain ⟨e1, e2, e3, e4⟩ := h4 i (by omega)
      refine ⟨by simp [va_up, addA, upd, q]; exact e1, by simp [va_up, addA, upd, q]; exact e2, by simp [va_up, addA, upd, q]; exact e3, fun p hp => ?_⟩
      rw [va_up_self, va_cpy_out (by omega), e4 p hp]
      simp [addA]
      rw [if_neg (by omega)]
theorem gd0 {ρ : Type} {T : Option ρ} : (if (0 : Int32) < 0 ∨ 233 ≤ (0 : Int32).toNatClampNeg then none else T) = T := if_neg (by decide)
theorem gd1 {ρ : Type} {T : Option ρ} : (if (1 : Int32) < 0 ∨ 233 ≤ (1 : Int32).toNatClampNeg then none else T) = T := if_neg (by decide)
theorem zcS (g : Nat → Int32) (q i : Nat) : upd (va_cpy (fun _ => (0 : Int32)) g 0 q i) (q + i) 0 = va_cpy (fun _ => (0 : Int32)) g 0 q (i + 1) := va_cpyS (f := fun _ => (0 : Int32)) (g := g) 0 q i
section EASY
variable {N : Nat} {Tn B Sn Tx Tr E F Nm Bt M : tS} {Hs : tH}
theorem add_m1 (x : Int32) : x + (-1) = x - 1 := by grind
end EASY
