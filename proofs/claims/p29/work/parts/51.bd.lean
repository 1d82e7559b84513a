/-! the abstract board, and what the class's Board answers -/
abbrev tA : Type := Nat → Nat → Nat
def okA (A : tA) : Prop := A 0 0 ≤ 20 ∧ A 5 0 ≤ 8 ∧ A 7 0 ≤ 20 ∧ (1 ≤ A 7 1 ∧ A 7 1 ≤ 9) ∧ (1 ≤ A 7 2 ∧ A 7 2 ≤ 9) ∧ (∀ i, i < A 0 0 → A 1 i < 30 ∧ A 2 i < 20 ∧ A 3 i ≤ A 5 0 ∧ ∀ p, p < 6 → A 4 (i * 6 + p) ≤ 9) ∧ (∀ t, t < A 5 0 → ∀ p, p < 6 → A 6 (t * 6 + p) ≤ 10)
def RB (B : tS) (A : tA) : Prop := B 0 0 = nI (A 0 0) ∧ B 5 0 = nI (A 5 0) ∧ (∀ j, j < 3 → B 7 j = nI (A 7 j)) ∧ (∀ i, i < A 0 0 → B 1 i = nI (A 1 i) ∧ B 2 i = nI (A 2 i) ∧ B 3 i = enc (A 3 i) ∧ ∀ p, p < 6 → B 4 (i * 6 + p) = nI (A 4 (i * 6 + p))) ∧ (∀ t, t < A 5 0 → ∀ p, p < 6 → B 6 (t * 6 + p) = enc (A 6 (t * 6 + p)))
def dA (A : tA) (i j : Nat) : Nat := ad (A 1 i) (A 1 j) + ad (A 2 i) (A 2 j)
/-- the dots on a note; a person's dots; the notes of a theme (by its code: 0 none) -/
def dtA (A : tA) (i : Nat) : Nat := sm (fun p => A 4 (i * 6 + p)) 6
def dpA (A : tA) (p : Nat) : Nat := sm (fun i => A 4 (i * 6 + p)) (A 0 0)
def ntA (A : tA) (c : Nat) : Nat := ct (fun i => A 3 i == c) (A 0 0)
theorem i_sub_sub (a b c : Int32) : a - b - c = a - (b + c) := by grind
section BD
variable {N : Nat} {B : tS} {A : tA}
theorem s_dop (h : RB B A) (ok : okA A) {i p : Nat} (hi : i < A 0 0) (hp : p < 6) : f_X0_dotsOfPerson N B (nI p) (nI i) = some (nI (A 4 (i * 6 + p))) := by
  have h20 := ok.1
  have e : nI i * (6 : Int32) + nI p = nI (i * 6 + p) := by rw [li_6, pk_mul, nI_add]
  unfold f_X0_dotsOfPerson
  rw [e, gdI (by omega) (by decide), clI (by omega), (h.2.2.2.1 i hi).2.2.2 p hp]
theorem s_dotsOn (hN : 1000 ≤ N) (h : RB B A) (ok : okA A) {i : Nat} (hi : i < A 0 0) : f_X0_dotsOn N B (nI i) = some (nI (dtA A i)) := by
  have h20 := ok.1
  refine lp_run (F := fun k (q : Int32 × Int32) => f_X0_dotsOn_4 N B (nI i) k q.1 q.2) (s := fun p => (nI (sm (fun p => A 4 (i * 6 + p)) p), nI p)) 6 _ ?_ ?_ N (by omega)
  · intro k
    show f_X0_dotsOn_4b N B (nI i) (f_X0_dotsOn_4 N B (nI i) k) (nI _) (nI 6) = _
    unfold f_X0_dotsOn_4b
    rw [li_6, leT (by omega) (by omega)]
    rfl
  · intro k p hp
    show f_X0_dotsOn_4b N B (nI i) (f_X0_dotsOn_4 N B (nI i) k) (nI _) (nI p) = f_X0_dotsOn_4 N B (nI i) k (nI _) (nI (p + 1))
    unfold f_X0_dotsOn_4b
    rw [li_6, leF (by omega) (by omega), s_dop h ok hi hp, bd_some, nI_add, nI_s]
    rfl
theorem s_dist (h : RB B A) (ok : okA A) {i j : Nat} (hi : i < A 0 0) (hj : j < A 0 0) : f_X0_distance N B (nI i) (nI j) = some (nI (dA A i j)) := by
  have h20 := ok.1
  have b1 := ok.2.2.2.2.2.1 i hi
  have b2 := ok.2.2.2.2.2.1 j hj
  unfold f_X0_distance
  rw [gdI (by omega) (by decide), gdI (by omega) (by decide), gdI (by omega) (by decide), gdI (by omega) (by decide), clI (by omega), clI (by omega), (h.2.2.2.1 i hi).1, (h.2.2.2.1 j hj).1, (h.2.2.2.1 i hi).2.1, (h.2.2.2.1 j hj).2.1, abs_nI (by omega) (by omega), abs_nI (by omega) (by omega), nI_add]
  rfl
theorem s_dotsLeft (hN : 1000 ≤ N) (h : RB B A) (ok : okA A) {p : Nat} (hp : p < 6) : f_X0_dotsLeft N B (nI p) = some (nI (A 7 1 - dpA A p)) := by
  have h20 := ok.1
  have hs : ∀ i, i ≤ A 0 0 → sm (fun i => A 4 (i * 6 + p)) i ≤ 180 := fun i hi => by
    have := sm_le (f := fun i => A 4 (i * 6 + p)) (c := 9) (n := i) (fun j hj => (ok.2.2.2.2.2.1 j (by omega)).2.2.2 p hp)
    omega
  unfold f_X0_dotsLeft
  rw [show (1 : Int32).toNatClampNeg = 1 from rfl, h.2.2.1 1 (by decide), show nI (A 7 1) = nI (A 7 1) - nI (sm (fun i => A 4 (i * 6 + p)) 0) from (pk_sub (Nat.zero_le _)).symm]
  refine lp_run (F := fun k (q : Int32 × Int32) => f_X0_dotsLeft_9 N B (nI p) k q.1 q.2) (s := fun i => (nI (A 7 1) - nI (sm (fun i => A 4 (i * 6 + p)) i), nI i)) (A 0 0) _ ?_ ?_ N (by omega)
  · intro k
    show f_X0_dotsLeft_9b N B (nI p) (f_X0_dotsLeft_9 N B (nI p) k) (nI (A 7 1) - nI (dpA A p)) (nI (A 0 0)) = _
    have hb := hs (A 0 0) (Nat.le_refl _)
    have h9 := ok.2.2.2.1.2
    unfold f_X0_dotsLeft_9b
    rw [h.1, leT (Nat.le_refl _) (by omega)]
    congr 1
    show (if nI (A 7 1) - nI (dpA A p) < 0 then (0 : Int32) else nI (A 7 1) - nI (dpA A p)) = _
    have hb : dpA A p ≤ 180 := hb
    by_cases q : A 7 1 < dpA A p
    · rw [if_pos (pk_sneg (by omega) q), show A 7 1 - dpA A p = 0 by omega]
      rfl
    · rw [pk_sub (by omega), lt0F (by omega)]
  · intro k i hi
    show f_X0_dotsLeft_9b N B (nI p) (f_X0_dotsLeft_9 N B (nI p) k) _ (nI i) = f_X0_dotsLeft_9 N B (nI p) k (nI (A 7 1) - nI (sm (fun i => A 4 (i * 6 + p)) i + A 4 (i * 6 + p))) (nI (i + 1))
    unfold f_X0_dotsLeft_9b
    rw [h.1, leF hi (by omega), s_dop h ok hi hp, bd_some, nI_s, i_sub_sub, nI_add]
theorem s_hasMost (h : RB B A) (ok : okA A) {i p : Nat} (hi : i < A 0 0) (hp : p < 6) : f_X0_hasMostDots N B (nI p) (nI i) = some (if A 7 2 ≤ A 4 (i * 6 + p) then 1 else 0) := by
  have h1 := (ok.2.2.2.2.2.1 i hi).2.2.2 p hp
  have h2 := ok.2.2.2.2.1
  unfold f_X0_hasMostDots
  rw [s_dop h ok hi hp, bd_some, show (2 : Int32).toNatClampNeg = 2 from rfl, h.2.2.1 2 (by decide)]
  by_cases q : A 7 2 ≤ A 4 (i * 6 + p)
  · rw [ltF q (by omega), if_pos q]
  · rw [ltT (by omega) (by omega), if_neg q]
theorem s_notesOfTheme (hN : 1000 ≤ N) (h : RB B A) (ok : okA A) {c : Nat} (hc : c < 1000) : f_X0_notesOfTheme N B (enc c) = some (nI (ntA A c)) := by
  have h20 := ok.1
  refine lp_run (F := fun k (q : Int32 × Int32) => f_X0_notesOfTheme_4 N B (enc c) k q.1 q.2) (s := fun i => (nI (ct (fun i => A 3 i == c) i), nI i)) (A 0 0) _ ?_ ?_ N (by omega)
  · intro k
    show f_X0_notesOfTheme_4b N B (enc c) (f_X0_notesOfTheme_4 N B (enc c) k) (nI _) (nI (A 0 0)) = _
    unfold f_X0_notesOfTheme_4b
    rw [h.1, leT (Nat.le_refl _) (by omega)]
    rfl
  · intro k i hi
    have h3 := (ok.2.2.2.2.2.1 i hi).2.2.1
    have h5 := ok.2.1
    show f_X0_notesOfTheme_4b N B (enc c) (f_X0_notesOfTheme_4 N B (enc c) k) (nI _) (nI i) = f_X0_notesOfTheme_4 N B (enc c) k (nI (ct (fun i => A 3 i == c) i + (if A 3 i == c then 1 else 0))) (nI (i + 1))
    unfold f_X0_notesOfTheme_4b f_X0_notesOfTheme_25
    rw [h.1, leF hi (by omega), gdI (by omega) (by decide), clI (by omega), (h.2.2.2.1 i hi).2.2.1]
    by_cases q : A 3 i = c
    · rw [if_pos (by rw [q]), nI_s, nI_s]
      simp [q]
    · rw [if_neg (fun z => q (enc_inj (by omega) (by omega) z)), nI_s]
      simp [q]
end BD
