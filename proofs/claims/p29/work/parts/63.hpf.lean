/-! what is told of a heap; make -/
def hnA (h : Nat → Nat) (g n : Nat) : Nat := ct (fun i => h i == g) n
def fdA (h : Nat → Nat) (g n : Nat) : Nat → Nat
  | 0 => 0
  | d + 1 => if h (n - 1 - d) = g then n - 1 - d + 1 else fdA h g n d
def hdA (A : tA) (h : Nat → Nat) (g n : Nat) : Nat := sm (fun i => if h i = g then dtA A i else 0) n
def hfA (A : tA) (h : Nat → Nat) (g n : Nat) : Nat := ct (fun i => h i == g && A 3 i == 0) n
def mtA (A : tA) (h : Nat → Nat) (g t n : Nat) : Bool := anyB (fun j => h j == g && A 3 j == t + 1) n
def sdA (A : tA) (h : Nat → Nat) (i n : Nat) : Nat := sm (fun k => if h k = h i then dA A i k else 0) n
def mdA (A : tA) (h : Nat → Nat) (g n : Nat) : Nat → Nat × Nat
  | 0 => (0, 1000)
  | i + 1 => if h i = g ∧ sdA A h i n < (mdA A h g n i).2 then (i + 1, sdA A h i n) else mdA A h g n i
section HF
variable {N n num : Nat} {S B M Tn : tS} {A : tA} {h : Nat → Nat}
theorem s_notesIn (hN : 1000 ≤ N) (hE : HE S n num h) (hn : n ≤ 20) (hh : ∀ i, i < n → h i < 1000) {g : Nat} (hg : g < 1000) : f_X2_notesIn N S (nI g) = some (nI (hnA h g n)) := by
  refine lp_run (F := fun k (q : Int32 × Int32) => f_X2_notesIn_4 N S (nI g) k q.1 q.2) (s := fun i => (nI (ct (fun i => h i == g) i), nI i)) n _ ?_ ?_ N (by omega)
  · intro k
    show f_X2_notesIn_4b N S (nI g) (f_X2_notesIn_4 N S (nI g) k) (nI _) (nI n) = _
    unfold f_X2_notesIn_4b
    rw [hE.2.1, leT (Nat.le_refl _) (by omega)]
    rfl
  · intro k i hi
    show f_X2_notesIn_4b N S (nI g) (f_X2_notesIn_4 N S (nI g) k) (nI _) (nI i) = f_X2_notesIn_4 N S (nI g) k (nI (ct (fun i => h i == g) i + (if h i == g then 1 else 0))) (nI (i + 1))
    have := hh i hi
    unfold f_X2_notesIn_4b f_X2_notesIn_25
    rw [hE.2.1, leF hi (by omega), gdI (by omega) (by decide), clI (by omega), hE.2.2 i hi, nI_s, nI_s]
    by_cases q : h i = g
    · rw [eqT q]
      simp [q]
    · rw [eqF q (by omega) (by omega)]
      simp [q]
theorem s_lowest (hN : 1000 ≤ N) (hE : HE S n num h) (hn : n ≤ 20) (hh : ∀ i, i < n → h i < 1000) {g : Nat} (hg : g < 1000) : f_X2_lowestNoteIn N S (nI g) = some (enc (fdA h g n n)) := by
  have key : ∀ d, d ≤ n → ∀ K, d < K → f_X2_lowestNoteIn_2 N S (nI g) K (nI (n - d)) = some (enc (fdA h g n d)) := by
    intro d
    induction d with
    | zero =>
      intro _ K hK
      obtain ⟨k, rfl⟩ : ∃ k, K = k + 1 := ⟨K - 1, by omega⟩
      show f_X2_lowestNoteIn_2b N S (nI g) (f_X2_lowestNoteIn_2 N S (nI g) k) (nI (n - 0)) = _
      unfold f_X2_lowestNoteIn_2b
      rw [hE.2.1, leT (by omega) (by omega)]
      rfl
    | succ d ih =>
      intro hd K hK
      obtain ⟨k, rfl⟩ : ∃ k, K = k + 1 := ⟨K - 1, by omega⟩
      have := hh (n - (d + 1)) (by omega)
      show f_X2_lowestNoteIn_2b N S (nI g) (f_X2_lowestNoteIn_2 N S (nI g) k) (nI (n - (d + 1))) = some (enc (if h (n - 1 - d) = g then n - 1 - d + 1 else fdA h g n d))
      unfold f_X2_lowestNoteIn_2b
      rw [hE.2.1, leF (by omega) (by omega), gdI (by omega) (by decide), clI (by omega), hE.2.2 _ (by omega), show n - 1 - d = n - (d + 1) by omega]
      by_cases q : h (n - (d + 1)) = g
      · rw [eqT q, if_pos q, enc_s]
      · rw [eqF q (by omega) (by omega), if_neg q, nI_s, show n - (d + 1) + 1 = n - d by omega]
        exact ih (by omega) k (by omega)
  have := key n (Nat.le_refl _) N (by omega)
  rw [Nat.sub_self] at this
  exact this
theorem s_dotsIn (hN : 1000 ≤ N) (hB : RB B A) (ok : okA A) (hE : HE S (A 0 0) num h) (hh : ∀ i, i < A 0 0 → h i < 1000) {g : Nat} (hg : g < 1000) : f_X2_dotsIn N S B (nI g) = some (nI (hdA A h g (A 0 0))) := by
  have o1 := ok.1
  refine lp_run (F := fun k (q : Int32 × Int32) => f_X2_dotsIn_5 N S B (nI g) k q.1 q.2) (s := fun i => (nI (sm (fun i => if h i = g then dtA A i else 0) i), nI i)) (A 0 0) _ ?_ ?_ N (by omega)
  · intro k
    show f_X2_dotsIn_5b N S B (nI g) (f_X2_dotsIn_5 N S B (nI g) k) (nI _) (nI (A 0 0)) = _
    unfold f_X2_dotsIn_5b
    rw [hE.2.1, leT (Nat.le_refl _) (by omega)]
    rfl
  · intro k i hi
    show f_X2_dotsIn_5b N S B (nI g) (f_X2_dotsIn_5 N S B (nI g) k) (nI _) (nI i) = f_X2_dotsIn_5 N S B (nI g) k (nI (sm (fun i => if h i = g then dtA A i else 0) i + (if h i = g then dtA A i else 0))) (nI (i + 1))
    have := hh i hi
    unfold f_X2_dotsIn_5b f_X2_dotsIn_34
    rw [hE.2.1, leF hi (by omega), gdI (by omega) (by decide), clI (by omega), hE.2.2 i hi, nI_s]
    by_cases q : h i = g
    · rw [eqT q, s_dotsOn hN hB ok hi, bd_some, nI_add, if_pos q]
    · rw [eqF q (by omega) (by omega), if_neg q]
      rfl
theorem s_free (hN : 1000 ≤ N) (hB : RB B A) (ok : okA A) (hE : HE S (A 0 0) num h) (hh : ∀ i, i < A 0 0 → h i < 1000) {g : Nat} (hg : g < 1000) : f_X2_freeNotesIn N S B (nI g) = some (nI (hfA A h g (A 0 0))) := by
  have o1 := ok.1
  have o2 := ok.2.1
  refine lp_run (F := fun k (q : Int32 × Int32) => f_X2_freeNotesIn_5 N S B (nI g) k q.1 q.2) (s := fun i => (nI (ct (fun i => h i == g && A 3 i == 0) i), nI i)) (A 0 0) _ ?_ ?_ N (by omega)
  · intro k
    show f_X2_freeNotesIn_5b N S B (nI g) (f_X2_freeNotesIn_5 N S B (nI g) k) (nI _) (nI (A 0 0)) = _
    unfold f_X2_freeNotesIn_5b
    rw [hE.2.1, leT (Nat.le_refl _) (by omega)]
    rfl
  · intro k i hi
    show f_X2_freeNotesIn_5b N S B (nI g) (f_X2_freeNotesIn_5 N S B (nI g) k) (nI _) (nI i) = f_X2_freeNotesIn_5 N S B (nI g) k (nI (ct (fun i => h i == g && A 3 i == 0) i + (if h i == g && A 3 i == 0 then 1 else 0))) (nI (i + 1))
    have := hh i hi
    have b3 := (ok.2.2.2.2.2.1 i hi).2.2.1
    unfold f_X2_freeNotesIn_5b f_X2_freeNotesIn_40
    rw [hE.2.1, leF hi (by omega), gdI (by omega) (by decide), clI (by omega), gdJ (by omega) (by decide), hE.2.2 i hi, (hB.2.2.2.1 i hi).2.2.1, nI_s, nI_s]
    by_cases q : h i = g
    · rw [eqT q]
      by_cases q2 : A 3 i = 0
      · rw [if_pos ((enc_n5 (by omega)).mpr q2)]
        simp [q, q2]
      · rw [if_neg (fun w => q2 ((enc_n5 (by omega)).mp w))]
        simp [q2]
    · rw [eqF q (by omega) (by omega)]
      simp [q]
theorem s_meet (hN : 1000 ≤ N) (hB : RB B A) (ok : okA A) (hE : HE S (A 0 0) num h) (hh : ∀ i, i < A 0 0 → h i < 1000) {g t : Nat} (hg : g < 1000) (ht : t < 1000) : f_X5_meet N Tn B S (nI g) (nI t) = some (if mtA A h g t (A 0 0) = true then 1 else 0) := by
  have o1 := ok.1
  have o2 := ok.2.1
  have e := lp_any (F := fun n x => f_X5_meet_2 N Tn B S (nI g) (nI t) n x) (fun j => h j == g && A 3 j == t + 1) (A 0 0) (some (1 : Int32)) (some (0 : Int32)) (by
    intro n
    show f_X5_meet_2b N Tn B S (nI g) (nI t) (f_X5_meet_2 N Tn B S (nI g) (nI t) n) (nI (A 0 0)) = _
    unfold f_X5_meet_2b
    rw [hB.1, leT (Nat.le_refl _) (by omega)]) (by
    intro n j hj
    show f_X5_meet_2b N Tn B S (nI g) (nI t) (f_X5_meet_2 N Tn B S (nI g) (nI t) n) (nI j) = _
    have := hh j hj
    have b3 := (ok.2.2.2.2.2.1 j hj).2.2.1
    unfold f_X5_meet_2b f_X5_meet_41
    rw [hB.1, leF hj (by omega), gdI (by omega) (by decide), clI (by omega), gdJ (by omega) (by decide), hE.2.2 j hj, (hB.2.2.2.1 j hj).2.2.1, nI_s, ← enc_s t]
    by_cases q : h j = g
    · rw [eqT q]
      by_cases q2 : A 3 j = t + 1
      · rw [if_pos (by rw [q2]), if_pos (by simp [q, q2])]
      · rw [if_neg (fun w => q2 ((enc_eq (by omega) (by omega)).mp w)), if_neg (by simp [q2])]
    · rw [eqF q (by omega) (by omega), if_neg (by simp [q])]) N (by omega)
  refine Eq.trans (show f_X5_meet N Tn B S (nI g) (nI t) = _ from e) ?_
  unfold mtA
  split <;> rfl
theorem s_themesIn (hN : 1000 ≤ N) (hB : RB B A) (ok : okA A) (hE : HE S (A 0 0) num h) (hh : ∀ i, i < A 0 0 → h i < 1000) {g : Nat} (hg : g < 1000) : f_X5_themesInHeap N Tn B S (nI g) = some (nI (ct (fun t => mtA A h g t (A 0 0)) (A 5 0))) := by
  have o2 := ok.2.1
  refine lp_run (F := fun k (q : Int32 × Int32) => f_X5_themesInHeap_4 N Tn B S (nI g) k q.1 q.2) (s := fun i => (nI (ct (fun t => mtA A h g t (A 0 0)) i), nI i)) (A 5 0) _ ?_ ?_ N (by omega)
  · intro k
    show f_X5_themesInHeap_4b N Tn B S (nI g) (f_X5_themesInHeap_4 N Tn B S (nI g) k) (nI _) (nI (A 5 0)) = _
    unfold f_X5_themesInHeap_4b
    rw [hB.2.1, leT (Nat.le_refl _) (by omega)]
  · intro k t ht
    show f_X5_themesInHeap_4b N Tn B S (nI g) (f_X5_themesInHeap_4 N Tn B S (nI g) k) (nI _) (nI t) = f_X5_themesInHeap_4 N Tn B S (nI g) k (nI (ct (fun t => mtA A h g t (A 0 0)) t + (if mtA A h g t (A 0 0) then 1 else 0))) (nI (t + 1))
    unfold f_X5_themesInHeap_4b f_X5_themesInHeap_27
    rw [hB.2.1, leF ht (by omega), s_meet hN hB ok hE hh hg (by omega), bd_some, nI_s, nI_s]
    cases z : mtA A h g t (A 0 0) with
    | true => rw [tT, if1, tT]
    | false =>
      rw [tF, if0, tF]
      rfl
theorem sdA_le (ok : okA A) {i : Nat} (hi : i < A 0 0) : sdA A h i (A 0 0) ≤ 960 := by
  have o1 := ok.1
  have := sm_le (f := fun k => if h k = h i then dA A i k else 0) (c := 48) (n := A 0 0) (fun j hj => by
    have := dA_le ok hi hj
    show (if _ then _ else _) ≤ _
    split <;> omega)
  show sm _ _ ≤ _
  omega
theorem mdA_le (ok : okA A) (g : Nat) : ∀ i, i ≤ A 0 0 → (mdA A h g (A 0 0) i).1 ≤ i ∧ ((mdA A h g (A 0 0) i).1 = 0 → (mdA A h g (A 0 0) i).2 = 1000) ∧ (mdA A h g (A 0 0) i).2 ≤ 1000
  | 0, _ => ⟨Nat.le_refl _, fun _ => rfl, Nat.le_refl _⟩
  | i + 1, hi => by
    obtain ⟨a, b, c⟩ := mdA_le ok g i (by omega)
    have d := sdA_le (h := h) ok (i := i) (by omega)
    unfold mdA
    split
    · exact ⟨Nat.le_refl _, fun w => absurd w (Nat.succ_ne_zero i), by dsimp only; omega⟩
    · exact ⟨by omega, b, c⟩
theorem s_middle (hN : 1000 ≤ N) (hB : RB B A) (ok : okA A) (hE : HE S (A 0 0) num h) (hh : ∀ i, i < A 0 0 → h i < 1000) {g : Nat} (hg : g < 1000) : f_X2_middleOf N S B (nI g) = some (enc (mdA A h g (A 0 0) (A 0 0)).1) := by
  have o1 := ok.1
  have dist : ∀ i, i < A 0 0 → f_X2_distancesTo N S B (nI i) = some (nI (sdA A h i (A 0 0))) := by
    intro i hi
    refine lp_run (F := fun k (q : Int32 × Int32) => f_X2_distancesTo_5 N S B (nI i) k q.1 q.2) (s := fun j => (nI (sm (fun k => if h k = h i then dA A i k else 0) j), nI j)) (A 0 0) _ ?_ ?_ N (by omega)
    · intro k
      show f_X2_distancesTo_5b N S B (nI i) (f_X2_distancesTo_5 N S B (nI i) k) (nI _) (nI (A 0 0)) = _
      unfold f_X2_distancesTo_5b
      rw [hE.2.1, leT (Nat.le_refl _) (by omega)]
      rfl
    · intro k j hj
      show f_X2_distancesTo_5b N S B (nI i) (f_X2_distancesTo_5 N S B (nI i) k) (nI _) (nI j) = f_X2_distancesTo_5 N S B (nI i) k (nI (sm (fun k => if h k = h i then dA A i k else 0) j + (if h j = h i then dA A i j else 0))) (nI (j + 1))
      have a1 := hh i hi
      have a2 := hh j hj
      unfold f_X2_distancesTo_5b f_X2_distancesTo_40
      rw [hE.2.1, leF hj (by omega), gdI (by omega) (by decide), gdI (by omega) (by decide), clI (by omega), clI (by omega), hE.2.2 i hi, hE.2.2 j hj, nI_s]
      by_cases q : h j = h i
      · rw [eqT q, s_dist hB ok hi hj, bd_some, nI_add, if_pos q]
      · rw [eqF q (by omega) (by omega), if_neg q]
        rfl
  refine lp_run (F := fun k (q : Int32 × Int32 × Int32) => f_X2_middleOf_11 N S B (nI g) k q.1 q.2.1 q.2.2) (s := fun i => (enc (mdA A h g (A 0 0) i).1, nI (mdA A h g (A 0 0) i).2, nI i)) (A 0 0) _ ?_ ?_ N (by omega)
  · intro k
    show f_X2_middleOf_11b N S B (nI g) (f_X2_middleOf_11 N S B (nI g) k) (enc _) (nI _) (nI (A 0 0)) = _
    unfold f_X2_middleOf_11b
    rw [hE.2.1, leT (Nat.le_refl _) (by omega)]
  · intro k i hi
    show f_X2_middleOf_11b N S B (nI g) (f_X2_middleOf_11 N S B (nI g) k) (enc _) (nI _) (nI i) = f_X2_middleOf_11 N S B (nI g) k (enc (if h i = g ∧ sdA A h i (A 0 0) < (mdA A h g (A 0 0) i).2 then (i + 1, sdA A h i (A 0 0)) else mdA A h g (A 0 0) i).1) (nI (if h i = g ∧ sdA A h i (A 0 0) < (mdA A h g (A 0 0) i).2 then (i + 1, sdA A h i (A 0 0)) else mdA A h g (A 0 0) i).2) (nI (i + 1))
    have a1 := hh i hi
    have d := sdA_le (h := h) ok hi
    have m := mdA_le (h := h) ok g i (by omega)
    unfold f_X2_middleOf_11b f_X2_middleOf_54
    rw [hE.2.1, leF hi (by omega), gdI (by omega) (by decide), clI (by omega), hE.2.2 i hi, nI_s]
    by_cases q : h i = g
    · rw [eqT q, dist i hi, bd_some]
      by_cases q2 : sdA A h i (A 0 0) < (mdA A h g (A 0 0) i).2
      · rw [leF q2 (by omega), if_pos ⟨q, q2⟩, enc_s]
      · rw [leT (by omega) (by omega), if_neg (fun w => q2 w.2)]
    · rw [eqF q (by omega) (by omega), if_neg (fun w => q w.1)]
/-- the width: the greatest distance of two notes that S holds -/
def wdA (A : tA) (h : Nat → Nat) (g : Nat) (S : Nat → Nat → Prop) (w : Nat) : Prop := (∀ a b, a < A 0 0 → b < A 0 0 → S a b → h a = g → h b = g → dA A a b ≤ w) ∧ (w = 0 ∨ ∃ a b, a < A 0 0 ∧ b < A 0 0 ∧ h a = g ∧ h b = g ∧ dA A a b = w)
theorem wd_ext {A : tA} {h : Nat → Nat} {g : Nat} {S T : Nat → Nat → Prop} {w : Nat} (hw : wdA A h g S w) (e : ∀ a b, a < A 0 0 → b < A 0 0 → T a b → S a b ∨ S b a ∨ a = b ∨ (h a = g → h b = g → dA A a b ≤ w)) : wdA A h g T w := by
  refine ⟨fun a b ha hb hT h1 h2 => ?_, hw.2⟩
  rcases e a b ha hb hT with q | q | q | q
  · exact hw.1 a b ha hb q h1 h2
  · rw [dA_comm]
    exact hw.1 b a hb ha q h2 h1
  · rw [q]
    unfold dA ad
    split <;> split <;> omega
  · exact q h1 h2
theorem wd_up {A : tA} {h : Nat → Nat} {g : Nat} {S : Nat → Nat → Prop} {w a b : Nat} (hw : wdA A h g S w) (ha : a < A 0 0) (hb : b < A 0 0) (h1 : h a = g) (h2 : h b = g) (hd : w ≤ dA A a b) : wdA A h g S (dA A a b) := ⟨fun x y hx hy hS k1 k2 => Nat.le_trans (hw.1 x y hx hy hS k1 k2) hd, Or.inr ⟨a, b, ha, hb, h1, h2, rfl⟩⟩
theorem wd_uniq {A : tA} {h : Nat → Nat} {g w w' : Nat} (h1 : wdA A h g (fun _ _ => True) w) (h2 : wdA A h g (fun _ _ => True) w') : w = w' := by
  have a : ∀ {w w'}, wdA A h g (fun _ _ => True) w → wdA A h g (fun _ _ => True) w' → w ≤ w' := by
    intro w w' h1 h2
    rcases h1.2 with q | ⟨a, b, ha, hb, k1, k2, e⟩
    · omega
    · rw [← e]
      exact h2.1 a b ha hb trivial k1 k2
  exact Nat.le_antisymm (a h1 h2) (a h2 h1)
theorem s_width (hN : 1000 ≤ N) (hB : RB B A) (ok : okA A) (hE : HE S (A 0 0) num h) (hh : ∀ i, i < A 0 0 → h i < 1000) {g : Nat} (hg : g < 1000) : ∃ w, wdA A h g (fun _ _ => True) w ∧ f_X2_widthOf N S B (nI g) = some (nI w) := by
  have o1 := ok.1
  have one : ∀ (k5 : Int32 → Int32 → Option Int32) (i : Nat), i < A 0 0 → ∀ w, w ≤ 48 → wdA A h g (fun a b => b < a ∧ a < i) w → ∃ w', w' ≤ 48 ∧ wdA A h g (fun a b => b < a ∧ a < i + 1) w' ∧ f_X2_widthOf_17 N S B (nI g) k5 N (nI w) (nI i) 0 = k5 (nI w') (nI (i + 1)) := by
    intro k5 i hi w hw0 hw
    obtain ⟨y, ⟨w', hw0', y1, y2, y3⟩, e⟩ := lp_to (F := fun k (q : Int32 × Int32) => f_X2_widthOf_17 N S B (nI g) k5 k q.1 (nI i) q.2) (fun j q => ∃ w, w ≤ 48 ∧ q.1 = nI w ∧ q.2 = nI j ∧ wdA A h g (fun a b => b < a ∧ (a < i ∨ (a = i ∧ b < j))) w) i (fun q => k5 q.1 (nI (i + 1))) (by
      rintro k ⟨x, z⟩ ⟨w, hw0, h1, h2, h3⟩
      simp only at h1 h2
      subst h1 h2
      show f_X2_widthOf_17b N S B (nI g) k5 (f_X2_widthOf_17 N S B (nI g) k5 k) (nI w) (nI i) (nI i) = k5 (nI w) (nI (i + 1))
      unfold f_X2_widthOf_17b
      rw [leT (Nat.le_refl _) (by omega), nI_s]) (by
      rintro k j ⟨x, z⟩ hj ⟨w, hw0, h1, h2, h3⟩
      simp only at h1 h2
      subst h1 h2
      have hj' : j < A 0 0 := by omega
      have a1 := hh i hi
      have a2 := hh j hj'
      have hd := dA_le ok hi hj'
      have stay : ¬ (h i = g ∧ h j = g) → wdA A h g (fun a b => b < a ∧ (a < i ∨ (a = i ∧ b < j + 1))) w := fun hn => wd_ext h3 (fun a b ha hb hT => by
        by_cases z : a = i ∧ b = j
        · exact Or.inr (Or.inr (Or.inr (fun k1 k2 => absurd ⟨by rw [← z.1]; exact k1, by rw [← z.2]; exact k2⟩ hn)))
        · exact Or.inl (by omega))
      by_cases q1 : h i = g
      · by_cases q2 : h j = g
        · refine ⟨(nI (max w (dA A i j)), nI (j + 1)), ?_, max w (dA A i j), by omega, rfl, rfl, ?_⟩
          · show f_X2_widthOf_17b N S B (nI g) k5 (f_X2_widthOf_17 N S B (nI g) k5 k) (nI w) (nI i) (nI j) = f_X2_widthOf_17 N S B (nI g) k5 k (nI (max w (dA A i j))) (nI i) (nI (j + 1))
            unfold f_X2_widthOf_17b f_X2_widthOf_59
            rw [leF hj (by omega), gdI (by omega) (by decide), gdI (by omega) (by decide), clI (by omega), clI (by omega), hE.2.2 i hi, hE.2.2 j hj', eqT q1, eqT q2, s_dist hB ok hi hj', bd_some, nI_s]
            by_cases q3 : w < dA A i j
            · rw [ltT q3 (by omega), Nat.max_eq_right (by omega)]
            · rw [ltF (by omega) (by omega), Nat.max_eq_left (by omega)]
          · have hmx : wdA A h g (fun a b => b < a ∧ (a < i ∨ (a = i ∧ b < j))) (max w (dA A i j)) := by
              by_cases q3 : w < dA A i j
              · rw [Nat.max_eq_right (by omega)]
                exact wd_up h3 hi hj' q1 q2 (by omega)
              · rw [Nat.max_eq_left (by omega)]
                exact h3
            refine wd_ext hmx (fun a b ha hb hT => ?_)
            by_cases z : a = i ∧ b = j
            · exact Or.inr (Or.inr (Or.inr (fun _ _ => by rw [z.1, z.2]; omega)))
            · exact Or.inl (by omega)
        · refine ⟨(nI w, nI (j + 1)), ?_, w, hw0, rfl, rfl, stay (fun z => q2 z.2)⟩
          show f_X2_widthOf_17b N S B (nI g) k5 (f_X2_widthOf_17 N S B (nI g) k5 k) (nI w) (nI i) (nI j) = f_X2_widthOf_17 N S B (nI g) k5 k (nI w) (nI i) (nI (j + 1))
          unfold f_X2_widthOf_17b f_X2_widthOf_59
          rw [leF hj (by omega), gdI (by omega) (by decide), gdI (by omega) (by decide), clI (by omega), clI (by omega), hE.2.2 i hi, hE.2.2 j hj', eqT q1, eqF q2 (by omega) (by omega), nI_s]
      · refine ⟨(nI w, nI (j + 1)), ?_, w, hw0, rfl, rfl, stay (fun z => q1 z.1)⟩
        show f_X2_widthOf_17b N S B (nI g) k5 (f_X2_widthOf_17 N S B (nI g) k5 k) (nI w) (nI i) (nI j) = f_X2_widthOf_17 N S B (nI g) k5 k (nI w) (nI i) (nI (j + 1))
        unfold f_X2_widthOf_17b f_X2_widthOf_59
        rw [leF hj (by omega), gdI (by omega) (by decide), clI (by omega), hE.2.2 i hi, eqF q1 (by omega) (by omega), nI_s]) N (by omega) (nI w, nI 0) ⟨w, hw0, rfl, rfl, wd_ext hw (fun a b ha hb hT => Or.inl (by omega))⟩
    refine ⟨w', hw0', wd_ext y3 (fun a b ha hb hT => Or.inl (by omega)), ?_⟩
    rw [← y1]
    exact e
  obtain ⟨y, ⟨w, hw0, y1, y2, y3⟩, e⟩ := lp_to (F := fun k (q : Int32 × Int32) => f_X2_widthOf_5 N S B (nI g) k q.1 q.2) (fun i q => ∃ w, w ≤ 48 ∧ q.1 = nI w ∧ q.2 = nI i ∧ wdA A h g (fun a b => b < a ∧ a < i) w) (A 0 0) (fun q => some q.1) (by
    rintro k ⟨x, z⟩ ⟨w, hw0, h1, h2, h3⟩
    simp only at h1 h2
    subst h1 h2
    show f_X2_widthOf_5b N S B (nI g) (f_X2_widthOf_5 N S B (nI g) k) (nI w) (nI (A 0 0)) = some (nI w)
    unfold f_X2_widthOf_5b
    rw [hE.2.1, leT (Nat.le_refl _) (by omega)]) (by
    rintro k i ⟨x, z⟩ hi ⟨w, hw0, h1, h2, h3⟩
    simp only at h1 h2
    subst h1 h2
    obtain ⟨w', hw0', h4, h5⟩ := one (f_X2_widthOf_5 N S B (nI g) k) i hi w hw0 h3
    refine ⟨(nI w', nI (i + 1)), ?_, w', hw0', rfl, rfl, h4⟩
    show f_X2_widthOf_5b N S B (nI g) (f_X2_widthOf_5 N S B (nI g) k) (nI w) (nI i) = f_X2_widthOf_5 N S B (nI g) k (nI w') (nI (i + 1))
    unfold f_X2_widthOf_5b
    rw [hE.2.1, leF hi (by omega), h5]) N (by omega) (nI 0, nI 0) ⟨0, by omega, rfl, rfl, fun a b ha hb hT => by omega, Or.inl rfl⟩
  refine ⟨w, wd_ext y3 (fun a b ha hb hT => by
    rcases Nat.lt_trichotomy a b with q | q | q
    · exact Or.inr (Or.inl ⟨q, hb⟩)
    · exact Or.inr (Or.inr (Or.inl q))
    · exact Or.inl ⟨q, ha⟩), ?_⟩
  rw [← y1]
  exact e
theorem dv20 {k : Nat} (h : k < 1000) : nI k / 20 = nI (k / 20) ∧ nI k - nI k / 20 * 20 = nI (k % 20) := by
  have e : nI k / 20 = nI (k / 20) := by
    rw [li_20]
    exact pk_div (by omega) (by omega) (by omega)
  refine ⟨e, ?_⟩
  rw [e, li_20, pk_mul, pk_sub (by omega)]
  congr 1
  omega
end HF
