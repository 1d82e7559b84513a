/-! counts of votes, notes, dots -/
theorem m1_T {a : Nat} (h : a < 100000) : (nI a - 1).toInt = (a : Int) - 1 := by
  rw [li_1, pk_sub_toInt (by omega) (by omega)]
  rfl
theorem m1_eq {a t : Nat} (ha : a < 100000) (ht : t < 100000) : nI a - 1 = nI t ↔ a = t + 1 := by
  rw [← Int32.toInt_inj, m1_T ha, nI_T (by omega)]
  omega
theorem m1_eq2 {a b : Nat} (ha : a < 100000) (hb : b < 100000) : nI a - 1 = nI b - 1 ↔ a = b := by
  rw [← Int32.toInt_inj, m1_T ha, m1_T hb]
  omega
theorem m1_lt0 {a : Nat} (ha : a < 100000) : nI a - 1 < 0 ↔ a = 0 := by
  rw [I_lt, m1_T ha, I_0]
  omega
theorem m1_ge0 {a : Nat} (ha : a < 100000) : 0 ≤ nI a - 1 ↔ a ≠ 0 := by
  rw [I_le, m1_T ha, I_0]
  omega
theorem enc_eq {a b : Nat} (ha : a < 100000) (hb : b < 100000) : enc a = enc b ↔ a = b := ⟨fun h => enc_inj (by omega) (by omega) h, fun h => by rw [h]⟩
theorem enc_s (t : Nat) : enc (t + 1) = nI t := rfl
theorem enc_0 : enc 0 = -5 := rfl
theorem enc_n5 {a : Nat} (ha : a < 100000) : enc a = -5 ↔ a = 0 := by rw [← enc_0, enc_eq ha (by omega)]
theorem nI_n5 {a : Nat} (ha : a < 99999) : ¬ nI a = -5 := by
  rw [← enc_s, enc_n5 (a := a + 1) (by omega)]
  omega
theorem dA_comm (A : tA) (i j : Nat) : dA A i j = dA A j i := by
  unfold dA ad
  split <;> split <;> split <;> split <;> omega
theorem dA_le {A : tA} (ok : okA A) {i j : Nat} (hi : i < A 0 0) (hj : j < A 0 0) : dA A i j ≤ 48 := by
  have b1 := ok.2.2.2.2.2.1 i hi
  have b2 := ok.2.2.2.2.2.1 j hj
  unfold dA ad
  split <;> split <;> omega
theorem dtA_le {A : tA} (ok : okA A) {i : Nat} (hi : i < A 0 0) : dtA A i ≤ 54 := by
  have := sm_le (f := fun p => A 4 (i * 6 + p)) (c := 9) (n := 6) (fun p hp => (ok.2.2.2.2.2.1 i hi).2.2.2 p hp)
  show sm _ _ ≤ _
  omega
theorem dpA_le {A : tA} (ok : okA A) {p : Nat} (hp : p < 6) : dpA A p ≤ 180 := by
  have o1 := ok.1
  have := sm_le (f := fun i => A 4 (i * 6 + p)) (c := 9) (n := A 0 0) (fun j hj => (ok.2.2.2.2.2.1 j (by omega)).2.2.2 p hp)
  show sm _ _ ≤ _
  omega
def vtA (A : tA) (t c : Nat) : Nat := ct (fun p => A 6 (t * 6 + p) == c) 6
def dhA (A : tA) (c : Nat) : Nat := sm (fun i => if A 3 i = c then dtA A i else 0) (A 0 0)
def nrA (A : tA) (i : Nat) : Nat := ct (fun j => decide (j ≠ i ∧ dA A i j ≤ A 7 0)) (A 0 0)
def rkA (A : tA) (t : Nat) : Nat := ct (fun k => decide (dhA A (t + 1) < dhA A (k + 1) ∨ (dhA A (k + 1) = dhA A (t + 1) ∧ k < t))) (A 5 0)
theorem dhA_le {A : tA} (ok : okA A) (c : Nat) : dhA A c ≤ 1080 := by
  have o1 := ok.1
  have := sm_le (f := fun i => if A 3 i = c then dtA A i else 0) (c := 54) (n := A 0 0) (fun j hj => by
    have := dtA_le ok hj
    show (if _ then _ else _) ≤ _
    split <;> omega)
  show sm _ _ ≤ _
  omega
section CNT
variable {N : Nat} {B M : tS} {A : tA}
theorem s_voteOf (h : RB B A) (ok : okA A) {t p : Nat} (ht : t < A 5 0) (hp : p < 6) : f_X0_voteOf N B (nI p) (nI t) = some (enc (A 6 (t * 6 + p))) := by
  have o2 := ok.2.1
  unfold f_X0_voteOf
  rw [li_6, pk_mul, nI_add, gdI (by omega) (by decide), clI (by omega), h.2.2.2.2 t ht p hp]
theorem s_votesFor (hN : 1000 ≤ N) (h : RB B A) (ok : okA A) {t c : Nat} (ht : t < A 5 0) (hc : c < 1000) : f_X0_votesFor N B (nI t) (enc c) = some (nI (vtA A t c)) := by
  refine lp_run (F := fun k (q : Int32 × Int32) => f_X0_votesFor_5 N B (nI t) (enc c) k q.1 q.2) (s := fun p => (nI (ct (fun p => A 6 (t * 6 + p) == c) p), nI p)) 6 _ ?_ ?_ N (by omega)
  · intro k
    show f_X0_votesFor_5b N B (nI t) (enc c) (f_X0_votesFor_5 N B (nI t) (enc c) k) (nI _) (nI 6) = _
    unfold f_X0_votesFor_5b
    rw [li_6, leT (by omega) (by omega)]
    rfl
  · intro k p hp
    show f_X0_votesFor_5b N B (nI t) (enc c) (f_X0_votesFor_5 N B (nI t) (enc c) k) (nI _) (nI p) = f_X0_votesFor_5 N B (nI t) (enc c) k (nI (ct (fun p => A 6 (t * 6 + p) == c) p + (if A 6 (t * 6 + p) == c then 1 else 0))) (nI (p + 1))
    have b := ok.2.2.2.2.2.2 t ht p hp
    unfold f_X0_votesFor_5b f_X0_votesFor_26
    rw [li_6, leF hp (by omega), s_voteOf h ok ht hp, bd_some, nI_s, nI_s]
    by_cases q : A 6 (t * 6 + p) = c
    · rw [if_pos (by rw [q])]
      simp [q]
    · rw [if_neg (fun z => q ((enc_eq (by omega) (by omega)).mp z))]
      simp [q]
theorem s_voters (hN : 1000 ≤ N) (h : RB B A) (ok : okA A) {t : Nat} (ht : t < A 5 0) : f_X0_votersOf N B (nI t) = some (nI (6 - vtA A t 0)) := by
  unfold f_X0_votersOf
  rw [← enc_0, s_votesFor hN h ok ht (by decide), bd_some, li_6, pk_sub (show vtA A t 0 ≤ 6 from ct_le _ _)]
theorem s_dotsOfTheme (hN : 1000 ≤ N) (h : RB B A) (ok : okA A) {t : Nat} (ht : t < 1000) : f_X0_dotsOfTheme N B (nI t) = some (nI (dhA A (t + 1))) := by
  have h20 := ok.1
  have h5 := ok.2.1
  refine lp_run (F := fun k (q : Int32 × Int32) => f_X0_dotsOfTheme_4 N B (nI t) k q.1 q.2) (s := fun i => (nI (sm (fun i => if A 3 i = t + 1 then dtA A i else 0) i), nI i)) (A 0 0) _ ?_ ?_ N (by omega)
  · intro k
    show f_X0_dotsOfTheme_4b N B (nI t) (f_X0_dotsOfTheme_4 N B (nI t) k) (nI _) (nI (A 0 0)) = _
    unfold f_X0_dotsOfTheme_4b
    rw [h.1, leT (Nat.le_refl _) (by omega)]
    rfl
  · intro k i hi
    have h3 := (ok.2.2.2.2.2.1 i hi).2.2.1
    show f_X0_dotsOfTheme_4b N B (nI t) (f_X0_dotsOfTheme_4 N B (nI t) k) (nI _) (nI i) = f_X0_dotsOfTheme_4 N B (nI t) k (nI (sm (fun i => if A 3 i = t + 1 then dtA A i else 0) i + (if A 3 i = t + 1 then dtA A i else 0))) (nI (i + 1))
    unfold f_X0_dotsOfTheme_4b f_X0_dotsOfTheme_30
    rw [h.1, leF hi (by omega), gdI (by omega) (by decide), clI (by omega), (h.2.2.2.1 i hi).2.2.1, nI_s, ← enc_s]
    by_cases q : A 3 i = t + 1
    · rw [if_pos (by rw [q]), s_dotsOn hN h ok hi, bd_some, nI_add, if_pos q]
    · rw [if_neg (fun z => q ((enc_eq (by omega) (by omega)).mp z)), if_neg q]
      rfl
theorem s_stuck (hN : 1000 ≤ N) (h : RB B A) (ok : okA A) : f_X0_allDotsStuck N B = some (nI (sm (dtA A) (A 0 0))) := by
  have h20 := ok.1
  refine lp_run (F := fun k (q : Int32 × Int32) => f_X0_allDotsStuck_4 N B k q.1 q.2) (s := fun i => (nI (sm (dtA A) i), nI i)) (A 0 0) _ ?_ ?_ N (by omega)
  · intro k
    show f_X0_allDotsStuck_4b N B (f_X0_allDotsStuck_4 N B k) (nI _) (nI (A 0 0)) = _
    unfold f_X0_allDotsStuck_4b
    rw [h.1, leT (Nat.le_refl _) (by omega)]
  · intro k i hi
    show f_X0_allDotsStuck_4b N B (f_X0_allDotsStuck_4 N B k) (nI _) (nI i) = f_X0_allDotsStuck_4 N B k (nI (sm (dtA A) i + dtA A i)) (nI (i + 1))
    unfold f_X0_allDotsStuck_4b
    rw [h.1, leF hi (by omega), s_dotsOn hN h ok hi, bd_some, nI_add, nI_s]
theorem s_left (hN : 1000 ≤ N) (h : RB B A) (ok : okA A) : f_X0_allDotsLeft N B = some (nI (sm (fun p => A 7 1 - dpA A p) 6)) := by
  refine lp_run (F := fun k (q : Int32 × Int32) => f_X0_allDotsLeft_4 N B k q.1 q.2) (s := fun i => (nI (sm (fun p => A 7 1 - dpA A p) i), nI i)) 6 _ ?_ ?_ N (by omega)
  · intro k
    show f_X0_allDotsLeft_4b N B (f_X0_allDotsLeft_4 N B k) (nI _) (nI 6) = _
    unfold f_X0_allDotsLeft_4b
    rw [li_6, leT (Nat.le_refl _) (by omega)]
  · intro k i hi
    show f_X0_allDotsLeft_4b N B (f_X0_allDotsLeft_4 N B k) (nI _) (nI i) = f_X0_allDotsLeft_4 N B k (nI (sm (fun p => A 7 1 - dpA A p) i + (A 7 1 - dpA A i))) (nI (i + 1))
    unfold f_X0_allDotsLeft_4b
    rw [li_6, leF hi (by omega), s_dotsLeft hN h ok hi, bd_some, nI_add, nI_s]
theorem s_near (hN : 1000 ≤ N) (h : RB B A) (ok : okA A) {i : Nat} (hi : i < A 0 0) : f_X0_notesNear N B (nI i) = some (nI (nrA A i)) := by
  have h20 := ok.1
  have o3 := ok.2.2.1
  refine lp_run (F := fun k (q : Int32 × Int32) => f_X0_notesNear_4 N B (nI i) k q.1 q.2) (s := fun j => (nI (ct (fun j => decide (j ≠ i ∧ dA A i j ≤ A 7 0)) j), nI j)) (A 0 0) _ ?_ ?_ N (by omega)
  · intro k
    show f_X0_notesNear_4b N B (nI i) (f_X0_notesNear_4 N B (nI i) k) (nI _) (nI (A 0 0)) = _
    unfold f_X0_notesNear_4b
    rw [h.1, leT (Nat.le_refl _) (by omega)]
    rfl
  · intro k j hj
    have hd := dA_le ok hi hj
    show f_X0_notesNear_4b N B (nI i) (f_X0_notesNear_4 N B (nI i) k) (nI _) (nI j) = f_X0_notesNear_4 N B (nI i) k (nI (ct (fun j => decide (j ≠ i ∧ dA A i j ≤ A 7 0)) j + (if decide (j ≠ i ∧ dA A i j ≤ A 7 0) then 1 else 0))) (nI (j + 1))
    unfold f_X0_notesNear_4b f_X0_notesNear_35
    rw [h.1, leF hj (by omega), nI_s, nI_s, cl_0, h.2.2.1 0 (by decide)]
    by_cases q : j = i
    · rw [eqT q]
      simp [q]
    · rw [eqF q (by omega) (by omega), s_dist h ok hi hj, bd_some]
      by_cases q2 : dA A i j ≤ A 7 0
      · rw [ltF q2 (by omega)]
        simp [q, q2]
      · rw [ltT (by omega) (by omega)]
        simp [q, q2]
theorem s_rank (hN : 1000 ≤ N) (h : RB B A) (ok : okA A) {Tn : tS} {t : Nat} (ht : t < A 5 0) : f_X5_rankOf N Tn B (nI t) = some (nI (rkA A t)) := by
  have h5 := ok.2.1
  have dt := dhA_le ok (t + 1)
  unfold f_X5_rankOf
  rw [s_dotsOfTheme hN h ok (by omega), bd_some]
  refine lp_run (F := fun k (q : Int32 × Int32) => f_X5_rankOf_14 N Tn B (nI t) k (nI (dhA A (t + 1))) q.1 q.2) (s := fun j => (nI (ct (fun k => decide (dhA A (t + 1) < dhA A (k + 1) ∨ (dhA A (k + 1) = dhA A (t + 1) ∧ k < t))) j), nI j)) (A 5 0) _ ?_ ?_ N (by omega)
  · intro k
    show f_X5_rankOf_14b N Tn B (nI t) (f_X5_rankOf_14 N Tn B (nI t) k) (nI _) (nI _) (nI (A 5 0)) = _
    unfold f_X5_rankOf_14b
    rw [h.2.1, leT (Nat.le_refl _) (by omega)]
    rfl
  · intro k j hj
    have dj := dhA_le ok (j + 1)
    show f_X5_rankOf_14b N Tn B (nI t) (f_X5_rankOf_14 N Tn B (nI t) k) (nI _) (nI _) (nI j) = f_X5_rankOf_14 N Tn B (nI t) k (nI (dhA A (t + 1))) (nI (ct (fun k => decide (dhA A (t + 1) < dhA A (k + 1) ∨ (dhA A (k + 1) = dhA A (t + 1) ∧ k < t))) j + (if decide (dhA A (t + 1) < dhA A (j + 1) ∨ (dhA A (j + 1) = dhA A (t + 1) ∧ j < t)) then 1 else 0))) (nI (j + 1))
    unfold f_X5_rankOf_14b f_X5_rankOf_55 f_X5_rankOf_58
    rw [h.2.1, leF hj (by omega), s_dotsOfTheme hN h ok (by omega), bd_some, nI_s, nI_s]
    by_cases q : dhA A (t + 1) < dhA A (j + 1)
    · rw [ltT q (by omega)]
      simp [q]
    · rw [ltF (by omega) (by omega)]
      by_cases q2 : dhA A (j + 1) = dhA A (t + 1)
      · rw [eqT q2]
        by_cases q3 : j < t
        · rw [leF q3 (by omega)]
          simp [q, q2, q3]
        · rw [leT (by omega) (by omega)]
          simp [q, q2, q3]
      · rw [eqF q2 (by omega) (by omega)]
        simp [q, q2]
end CNT
