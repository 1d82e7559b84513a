/-! the law's small methods: low, abs, far, look -/
def lw (x : Int32) (n : Nat) : Nat := x.toBitVec.toNat % 2 ^ 31 % n
theorem lw_lt (x : Int32) {n : Nat} (h : 0 < n) : lw x n < n := Nat.mod_lt _ h
theorem t_low (N : Nat) (x : Int32) {n : Nat} (h0 : 0 < n) (hn : n < 2147483648) : f_L_low N x (nI n) = some (nI (lw x n)) := by
  unfold f_L_low
  rw [if_neg (show ¬ nI n = 0 from fun w => by
    have := nI_inj (by omega) (by omega) (show nI n = nI 0 from w)
    omega), pk_and x (m := 2147483647) 31 (by decide), pk_rem (Nat.mod_lt _ (by decide)) h0 (by omega)]
  rfl
theorem t_abs (N : Nat) {a b : Nat} (ha : a < 1000000) (hb : b < 1000000) : f_L_abs N (nI a - nI b) = some (nI (ad a b)) := by
  unfold f_L_abs
  rw [← abs_nI ha hb]
  by_cases q : 0 ≤ nI a - nI b
  · rw [if_pos q, if_pos q]
  · rw [if_neg q, if_neg q]
    congr 1
theorem ex4 {α β γ δ : Type} {m : Option (α × β × γ × δ)} {v : α} (h : Rt m (fun q => q.1 = v)) : ∃ a b c, m = some (v, a, b, c) := by
  obtain ⟨⟨x, a, b, c⟩, e, h⟩ := h
  have h : x = v := h
  subst h
  exact ⟨a, b, c, e⟩
theorem ex5 {α β γ δ ε : Type} {m : Option (α × β × γ × δ × ε)} {v : α} (h : Rt m (fun q => q.1 = v)) : ∃ a b c d, m = some (v, a, b, c, d) := by
  obtain ⟨⟨x, a, b, c, d⟩, e, h⟩ := h
  have h : x = v := h
  subst h
  exact ⟨a, b, c, d, e⟩
def lkP (A : tA) (n : Nat) (h : Int64) : Nat → Int64
  | 0 => h
  | p + 1 => 31 * lkP A n h p + (nI (A 4 (n * 6 + p))).toInt64
def lkV (A : tA) (t : Nat) (h : Int64) : Nat → Int64
  | 0 => h
  | k + 1 => 31 * lkV A t h k + (nI (vtA A t (k + 1))).toInt64
noncomputable def lkC (A : tA) : Nat → Int64
  | 0 => 293
  | k + 1 => 31 * lkC A k + (nI (cv A k)).toInt64
noncomputable def lkN (A : tA) : Nat → Int64
  | 0 => lkC A 11
  | n + 1 => lkP A n (31 * (31 * (31 * lkN A n + (nI (A 1 n)).toInt64) + (nI (A 2 n)).toInt64) + (enc (A 3 n)).toInt64) 6
noncomputable def lkT (A : tA) : Nat → Int64
  | 0 => lkN A (A 0 0)
  | t + 1 => lkV A t (31 * (31 * lkT A t + (enc (nmA A t)).toInt64) + (nI (6 - vtA A t 0)).toInt64) 10
/-- what look answers: by the abstract board alone -/
noncomputable def lkA (A : tA) : Int64 := lkT A (A 5 0)
section LK
variable {N : Nat} {Tn B Tr E F Nm : tS} {Hs : tH} {A : tA}
theorem t_far (hB : RB B A) (ok : okA A) {i j : Nat} (hi : i < A 0 0) (hj : j < A 0 0) : ∃ a b c, f_L_far N Tn B Tr E F (nI i) (nI j) = some (nI (dA A i j), a, b, c) := by
  have b1 := ok.2.2.2.2.2.1 i hi
  have b2 := ok.2.2.2.2.2.1 j hj
  apply ex4
  unfold f_L_far
  refine rt4 (q_n0 hB ok hi) (fun Tr E F => ?_)
  refine rt4 (q_n0 hB ok hj) (fun Tr E F => ?_)
  refine rt1 (t_abs N (by omega) (by omega)) ?_
  refine rt4 (q_n1 hB ok hi) (fun Tr E F => ?_)
  refine rt4 (q_n1 hB ok hj) (fun Tr E F => ?_)
  refine rt1 (t_abs N (by omega) (by omega)) ?_
  exact rt_ok (nI_add _ _)
theorem lk_157 (hN : 1000 ≤ N) (hB : RB B A) (ok : okA A) {t : Nat} (ht : t < A 5 0) (h : Int64) (k119 : Int64 → Int32 → tS → tS → tS → tS → Option (Int64 × tS × tS × tS × tS)) {P : Int64 × tS × tS × tS × tS → Prop} (kk : ∀ Tr E F Nm, Rt (k119 (lkV A t h 10) (nI (t + 1)) Tr E F Nm) P) : Rt (f_L_look_157 N Tn B Hs k119 N h (nI t) 0 Tr E F Nm) P := by
  refine rt_lp (F := fun k (q : Int64 × Int32 × tS × tS × tS × tS) => f_L_look_157 N Tn B Hs k119 k q.1 (nI t) q.2.1 q.2.2.1 q.2.2.2.1 q.2.2.2.2.1 q.2.2.2.2.2) (fun i q => q.1 = lkV A t h i ∧ q.2.1 = nI i) 10 ?_ ?_ N (by omega) (h, 0, Tr, E, F, Nm) ⟨rfl, rfl⟩
  · rintro k ⟨x, y, Tr, E, F, Nm⟩ ⟨e1, e2⟩
    simp only at e1 e2
    subst e1 e2
    show Rt (f_L_look_157b N Tn B Hs k119 (f_L_look_157 N Tn B Hs k119 k) _ (nI t) (nI 10) Tr E F Nm) P
    unfold f_L_look_157b
    rw [li_10, leT (Nat.le_refl _) (by omega), nI_s]
    exact kk _ _ _ _
  · rintro k i ⟨x, y, Tr, E, F, Nm⟩ hi ⟨e1, e2⟩ ih
    simp only at e1 e2
    subst e1 e2
    show Rt (f_L_look_157b N Tn B Hs k119 (f_L_look_157 N Tn B Hs k119 k) _ (nI t) (nI i) Tr E F Nm) P
    unfold f_L_look_157b
    rw [li_10, leF hi (by omega)]
    refine rt1 (q_v hN hB ok ht hi) ?_
    exact ih (_, _, Tr, E, F, Nm) ⟨rfl, nI_s i⟩
theorem lk_119 (hN : 1000 ≤ N) (hB : RB B A) (ok : okA A) : Rt (f_L_look_119 N Tn B Hs N (lkN A (A 0 0)) 0 Tr E F Nm) (fun q => q.1 = lkA A) := by
  have o2 := ok.2.1
  refine rt_lp (F := fun k (q : Int64 × Int32 × tS × tS × tS × tS) => f_L_look_119 N Tn B Hs k q.1 q.2.1 q.2.2.1 q.2.2.2.1 q.2.2.2.2.1 q.2.2.2.2.2) (fun i q => q.1 = lkT A i ∧ q.2.1 = nI i) (A 5 0) ?_ ?_ N (by omega) (lkN A (A 0 0), 0, Tr, E, F, Nm) ⟨rfl, rfl⟩
  · rintro k ⟨x, y, Tr, E, F, Nm⟩ ⟨e1, e2⟩
    simp only at e1 e2
    subst e1 e2
    show Rt (f_L_look_119b N Tn B Hs (f_L_look_119 N Tn B Hs k) _ (nI (A 5 0)) Tr E F Nm) _
    unfold f_L_look_119b
    refine rt3 (q_c2 hB) (fun E Nm => ?_)
    rw [leT (Nat.le_refl _) (by omega)]
    exact rt_ok rfl
  · rintro k i ⟨x, y, Tr, E, F, Nm⟩ hi ⟨e1, e2⟩ ih
    simp only at e1 e2
    subst e1 e2
    show Rt (f_L_look_119b N Tn B Hs (f_L_look_119 N Tn B Hs k) _ (nI i) Tr E F Nm) _
    unfold f_L_look_119b
    refine rt3 (q_c2 hB) (fun E Nm => ?_)
    rw [leF hi (by omega)]
    refine rt3 (q_t2 hN hB ok hi) (fun E Nm => ?_)
    refine rt3 (q_t5 hN hB ok hi) (fun E Nm => ?_)
    refine lk_157 hN hB ok hi _ _ (fun Tr E F Nm => ?_)
    exact ih (_, _, Tr, E, F, Nm) ⟨rfl, rfl⟩
theorem lk_83 (hN : 1000 ≤ N) (hB : RB B A) (ok : okA A) {n : Nat} (hn : n < A 0 0) (h : Int64) (k33 : Int64 → Int32 → tS → tS → tS → tS → Option (Int64 × tS × tS × tS × tS)) {P : Int64 × tS × tS × tS × tS → Prop} (kk : ∀ Tr E F Nm, Rt (k33 (lkP A n h 6) (nI (n + 1)) Tr E F Nm) P) : Rt (f_L_look_83 N Tn B Hs k33 N h (nI n) 0 Tr E F Nm) P := by
  refine rt_lp (F := fun k (q : Int64 × Int32 × tS × tS × tS × tS) => f_L_look_83 N Tn B Hs k33 k q.1 (nI n) q.2.1 q.2.2.1 q.2.2.2.1 q.2.2.2.2.1 q.2.2.2.2.2) (fun i q => q.1 = lkP A n h i ∧ q.2.1 = nI i) 6 ?_ ?_ N (by omega) (h, 0, Tr, E, F, Nm) ⟨rfl, rfl⟩
  · rintro k ⟨x, y, Tr, E, F, Nm⟩ ⟨e1, e2⟩
    simp only at e1 e2
    subst e1 e2
    show Rt (f_L_look_83b N Tn B Hs k33 (f_L_look_83 N Tn B Hs k33 k) _ (nI n) (nI 6) Tr E F Nm) P
    unfold f_L_look_83b
    rw [li_6, leT (Nat.le_refl _) (by omega), nI_s]
    exact kk _ _ _ _
  · rintro k i ⟨x, y, Tr, E, F, Nm⟩ hi ⟨e1, e2⟩ ih
    simp only at e1 e2
    subst e1 e2
    show Rt (f_L_look_83b N Tn B Hs k33 (f_L_look_83 N Tn B Hs k33 k) _ (nI n) (nI i) Tr E F Nm) P
    unfold f_L_look_83b
    rw [li_6, leF hi (by omega)]
    refine rt1 (q_d hB ok hn hi) ?_
    exact ih (_, _, Tr, E, F, Nm) ⟨rfl, nI_s i⟩
theorem lk_33 (hN : 1000 ≤ N) (hB : RB B A) (ok : okA A) : Rt (f_L_look_33 N Tn B Hs N (lkC A 11) 0 Tr E F Nm) (fun q => q.1 = lkA A) := by
  have o1 := ok.1
  refine rt_lp (F := fun k (q : Int64 × Int32 × tS × tS × tS × tS) => f_L_look_33 N Tn B Hs k q.1 q.2.1 q.2.2.1 q.2.2.2.1 q.2.2.2.2.1 q.2.2.2.2.2) (fun i q => q.1 = lkN A i ∧ q.2.1 = nI i) (A 0 0) ?_ ?_ N (by omega) (lkC A 11, 0, Tr, E, F, Nm) ⟨rfl, rfl⟩
  · rintro k ⟨x, y, Tr, E, F, Nm⟩ ⟨e1, e2⟩
    simp only at e1 e2
    subst e1 e2
    show Rt (f_L_look_33b N Tn B Hs (f_L_look_33 N Tn B Hs k) _ (nI (A 0 0)) Tr E F Nm) _
    unfold f_L_look_33b
    refine rt3 (q_c0 hB) (fun E Nm => ?_)
    rw [leT (Nat.le_refl _) (by omega)]
    exact lk_119 hN hB ok
  · rintro k i ⟨x, y, Tr, E, F, Nm⟩ hi ⟨e1, e2⟩ ih
    simp only at e1 e2
    subst e1 e2
    show Rt (f_L_look_33b N Tn B Hs (f_L_look_33 N Tn B Hs k) _ (nI i) Tr E F Nm) _
    unfold f_L_look_33b
    refine rt3 (q_c0 hB) (fun E Nm => ?_)
    rw [leF hi (by omega)]
    refine rt4 (q_n0 hB ok hi) (fun Tr E F => ?_)
    refine rt4 (q_n1 hB ok hi) (fun Tr E F => ?_)
    refine rt4 (q_n4 hB ok hi) (fun Tr E F => ?_)
    refine lk_83 hN hB ok hi _ _ (fun Tr E F Nm => ?_)
    exact ih (_, _, Tr, E, F, Nm) ⟨rfl, rfl⟩
theorem t_look (hN : 1000 ≤ N) (hB : RB B A) (ok : okA A) : ∃ a b c d, f_L_look N Tn B Hs Tr E F Nm = some (lkA A, a, b, c, d) := by
  apply ex5
  unfold f_L_look
  refine rt_lp (F := fun k (q : Int64 × Int32 × tS × tS × tS × tS) => f_L_look_6 N Tn B Hs k q.1 q.2.1 q.2.2.1 q.2.2.2.1 q.2.2.2.2.1 q.2.2.2.2.2) (fun i q => q.1 = lkC A i ∧ q.2.1 = nI i) 11 ?_ ?_ N (by omega) (293, 0, Tr, E, F, Nm) ⟨rfl, rfl⟩
  · rintro k ⟨x, y, Tr, E, F, Nm⟩ ⟨e1, e2⟩
    simp only at e1 e2
    subst e1 e2
    show Rt (f_L_look_6b N Tn B Hs (f_L_look_6 N Tn B Hs k) _ (nI 11) Tr E F Nm) _
    unfold f_L_look_6b
    rw [if_pos (show (11 : Int32) ≤ nI 11 by decide)]
    exact lk_33 hN hB ok
  · rintro k i ⟨x, y, Tr, E, F, Nm⟩ hi ⟨e1, e2⟩ ih
    simp only at e1 e2
    subst e1 e2
    show Rt (f_L_look_6b N Tn B Hs (f_L_look_6 N Tn B Hs k) _ (nI i) Tr E F Nm) _
    unfold f_L_look_6b
    rw [show (11 : Int32) = nI 11 from rfl, leF hi (by omega)]
    refine rt3 (q_cv hN hB ok i hi) (fun E Nm => ?_)
    exact ih (_, _, Tr, E, F, Nm) ⟨rfl, nI_s i⟩
end LK
