/-! load: the two readers -/
theorem upA_id (A : tA) (f i : Nat) : upA A f i (A f i) = A := by
  funext g j
  unfold upA
  by_cases q : g = f ∧ j = i
  · rw [if_pos q, q.1, q.2]
  · rw [if_neg q]
theorem upA_up (A : tA) (f i v w : Nat) : upA (upA A f i v) f i w = upA A f i w := by
  funext g j
  unfold upA
  by_cases q : g = f ∧ j = i
  · rw [if_pos q, if_pos q]
  · rw [if_neg q, if_neg q, if_neg q]
/-- a note with dots; the board that was read -/
def noA (A : tA) (c r d : Nat) : tA := upA (addA A c r) 4 (A 0 0 * 6 + 0) d
def emA (A : tA) : tA := fun f j => if f = 0 ∨ f = 5 then 0 else A f j
def bdS (A : tA) (rd : Nat → Nat) : Nat → tA
  | 0 => emA A
  | t + 1 => noA (bdS A rd t) (rd (3 * t)) (rd (3 * t + 1)) (rd (3 * t + 2))
theorem noA_n (A : tA) (c r d : Nat) : noA A c r d 0 0 = A 0 0 + 1 := by
  unfold noA
  rw [upA_o _ _ (Or.inl (by decide))]
  rfl
theorem noA_7 (A : tA) (c r d j : Nat) : noA A c r d 7 j = A 7 j := by
  unfold noA
  rw [upA_o _ _ (Or.inl (by decide))]
  simp [addA]
theorem noA_d (A : tA) (c r d : Nat) : noA A c r d 4 (A 0 0 * 6 + 0) = d := upA_s _ _ _ _
theorem noA_0 (A : tA) (c r : Nat) : noA A c r 0 = addA A c r := by
  have e : addA A c r 4 (A 0 0 * 6 + 0) = 0 := by simp [addA]
  unfold noA
  have := upA_id (addA A c r) 4 (A 0 0 * 6 + 0)
  rw [e] at this
  exact this
theorem noA_s (A : tA) (c r d : Nat) : upA (noA A c r d) 4 (A 0 0 * 6 + 0) (d + 1) = noA A c r (d + 1) := upA_up _ _ _ _ _
theorem ok_no {A : tA} (ok : okA A) (h : A 0 0 < 20) {c r d : Nat} (hc : c < 30) (hr : r < 20) (hd : d ≤ 9) : okA (noA A c r d) :=
  ok_up (ok_add ok h hc hr) (by decide) (by decide) (by decide) ⟨fun h => absurd h (by decide), fun h => absurd h (by decide), fun h => absurd h (by decide), fun _ => hd, fun h => absurd h (by decide)⟩
theorem dp_no (A : tA) (c r d : Nat) : dpA (noA A c r d) 0 = dpA A 0 + d := by
  unfold dpA
  rw [noA_n]
  show sm (fun i => noA A c r d 4 (i * 6 + 0)) (A 0 0) + noA A c r d 4 (A 0 0 * 6 + 0) = _
  rw [noA_d, sm_congr (g := fun i => A 4 (i * 6 + 0)) (fun i hi => by
    show noA A c r d 4 (i * 6 + 0) = _
    unfold noA
    rw [upA_o _ _ (Or.inr (by omega))]
    simp [addA]
    omega)]
theorem bdS_n (A : tA) (rd : Nat → Nat) : ∀ t, bdS A rd t 0 0 = t
  | 0 => rfl
  | t + 1 => by
    show noA _ _ _ _ 0 0 = _
    rw [noA_n, bdS_n A rd t]
theorem bdS_7 (A : tA) (rd : Nat → Nat) (j : Nat) : ∀ t, bdS A rd t 7 j = A 7 j
  | 0 => rfl
  | t + 1 => by
    show noA _ _ _ _ 7 j = _
    rw [noA_7, bdS_7 A rd j t]
theorem bdS_c {A : tA} {rd rd' : Nat → Nat} : ∀ {t : Nat}, (∀ j, j < 3 * t → rd' j = rd j) → bdS A rd' t = bdS A rd t
  | 0, _ => rfl
  | t + 1, h => by
    show noA _ _ _ _ = noA _ _ _ _
    rw [bdS_c (t := t) (fun j hj => h j (by omega)), h (3 * t) (by omega), h (3 * t + 1) (by omega), h (3 * t + 2) (by omega)]
theorem ok_em {A : tA} (ok : okA A) : okA (emA A) := by
  obtain ⟨o1, o2, o3, o4, o5, o6, o8⟩ := ok
  exact ⟨Nat.zero_le _, Nat.zero_le _, o3, o4, o5, fun i hi => absurd (show i < 0 from hi) (Nat.not_lt_zero i), fun t ht => absurd (show t < 0 from ht) (Nat.not_lt_zero t)⟩
/-- the class goes on from a place, or ends -/
def rsT (N : Nat) (Tx : tS) (n p : Nat) (S B : tS) (res : Int32 × tS × tS) : Prop := ∀ K, n - p < K → f_X1_findFault_12 N Tx (nI n) K (nI p) S B = some res
def goT (N : Nat) (Tx : tS) (n p : Nat) (S B : tS) (p' : Nat) (S' B' : tS) : Prop := ∀ res, rsT N Tx n p' S' B' res → rsT N Tx n p S B res
section RD
variable {N n p : Nat} {Tx S B S1 B1 : tS}
theorem go_t {p' p'' : Nat} {S' B' S'' B'' : tS} (h1 : goT N Tx n p S B p' S' B') (h2 : goT N Tx n p' S' B' p'' S'' B'') : goT N Tx n p S B p'' S'' B'' := fun res h => h1 res (h2 res h)
theorem go_r : goT N Tx n p S B p S B := fun _ h => h
theorem go_step (hn : n ≤ 80) (hp : p < n) (h : f_X1_takes N S B (Tx 0 p) = some (1, S1, B1)) : goT N Tx n p S B (p + 1) S1 B1 := by
  intro res hr K hK
  obtain ⟨k, rfl⟩ : ∃ k, K = k + 1 := ⟨K - 1, by omega⟩
  show f_X1_findFault_12b N Tx (nI n) (f_X1_findFault_12 N Tx (nI n) k) (nI p) S B = _
  unfold f_X1_findFault_12b
  rw [leF hp (by omega), gdI (by omega) (by decide), clI (by omega), h, bd3_some, if1, nI_s]
  exact hr k (by omega)
theorem rs_fault (hn : n ≤ 80) (hp : p < n) (h : f_X1_takes N S B (Tx 0 p) = some (0, S1, B1)) : rsT N Tx n p S B (nI p, S1, B1) := by
  intro K hK
  obtain ⟨k, rfl⟩ : ∃ k, K = k + 1 := ⟨K - 1, by omega⟩
  show f_X1_findFault_12b N Tx (nI n) (f_X1_findFault_12 N Tx (nI n) k) (nI p) S B = _
  unfold f_X1_findFault_12b
  rw [leF hp (by omega), gdI (by omega) (by decide), clI (by omega), h, bd3_some, if0]
theorem rs_end0 (hn : n ≤ 80) (h : f_X1_endsNote N S B = some (0, S1, B1)) : rsT N Tx n n S B (nI n, S1, B1) := by
  intro K hK
  obtain ⟨k, rfl⟩ : ∃ k, K = k + 1 := ⟨K - 1, by omega⟩
  show f_X1_findFault_12b N Tx (nI n) (f_X1_findFault_12 N Tx (nI n) k) (nI n) S B = _
  unfold f_X1_findFault_12b
  rw [leT (Nat.le_refl _) (by omega), h, bd3_some, if0]
theorem rs_end1 (hn : n ≤ 80) (h : f_X1_endsNote N S B = some (1, S1, B1)) : rsT N Tx n n S B (-1, S1, B1) := by
  intro K hK
  obtain ⟨k, rfl⟩ : ∃ k, K = k + 1 := ⟨K - 1, by omega⟩
  show f_X1_findFault_12b N Tx (nI n) (f_X1_findFault_12 N Tx (nI n) k) (nI n) S B = _
  unfold f_X1_findFault_12b
  rw [leT (Nat.le_refl _) (by omega), h, bd3_some, if1]
/-- the class's end of a note -/
theorem en_0 {pt : Nat} (h2 : S 2 0 = nI pt) (hpt : pt < 2) (h : pt = 0 ∨ S 3 0 = -1) : f_X1_endsNote N S B = some (0, S, B) := by
  unfold f_X1_endsNote f_X1_endsNote_58
  rw [h2]
  rcases (by omega : pt = 0 ∨ pt = 1) with rfl | rfl
  · rw [if_neg (show ¬ nI 0 = 1 by decide), if_neg (show ¬ nI 0 = 2 by decide)]
  · rcases h with h | h
    · omega
    · rw [h, if_pos (show nI 1 = 1 from rfl), if_pos rfl, if_neg (show ¬ nI 1 = 2 by decide)]
theorem en_2 (h2 : S 2 0 = nI 2) : f_X1_endsNote N S B = some (1, S, B) := by
  unfold f_X1_endsNote f_X1_endsNote_58
  rw [h2, if_neg (show ¬ nI 2 = 1 by decide), if_pos (show nI 2 = 2 from rfl)]
theorem en_1 (hN : 1000 ≤ N) {A : tA} {t c r : Nat} (h1 : S 1 0 = nI t) (h2 : S 2 0 = nI 1) (h3 : S 3 0 = nI r) (h4 : S 4 0 = nI c) (hB : RB B A) (ok : okA A) (hA : A 0 0 < 20) (hr : r < 1000) : ∃ S' B', f_X1_endsNote N S B = some (1, S', B') ∧ S' 1 0 = nI (t + 1) ∧ S' 2 0 = nI 2 ∧ RB B' (addA A c r) := by
  obtain ⟨B', e, hB'⟩ := s_add hN hB ok hA c r
  refine ⟨va_up (va_up S 2 (fun _ => 2)) 1 (fun _ => nI (t + 1)), B', ?_, by rw [va_up_self], by rw [va_up_ne _ _ (by decide), va_up_self]; rfl, hB'⟩
  have m1 : ¬ nI r = -1 := by
    rw [← Int32.toInt_inj, nI_T (by omega)]
    intro w
    have : (-1 : Int32).toInt = -1 := rfl
    omega
  unfold f_X1_endsNote f_X1_endsNote_58
  rw [h2, if_pos (show nI 1 = 1 from rfl), h3, if_neg m1, hB.1, li_20, leF hA (by omega), h4, e, bd_some, h1, nI_s, if_pos (by rw [va_up_ne _ _ (by decide : (2 : Nat) ≠ 1), va_up_self])]
/-- digits -/
def dgN (x : Int32) (d : Nat) : Prop := d < 10 ∧ x = nI (48 + d)
theorem dg_c (x : Int32) : (∃ d, dgN x d) ∨ ¬ ∃ d, dgN x d := Classical.em _
theorem dg_sub {x : Int32} {d : Nat} (h : dgN x d) : x - 48 = nI d := by
  rw [h.2, show (48 : Int32) = nI 48 from rfl, pk_sub (by omega), show 48 + d - 48 = d by omega]
theorem dg_ne {x : Int32} {d : Nat} (h : dgN x d) : ¬ x = 42 ∧ ¬ x = 44 ∧ ¬ x = 59 ∧ ¬ x < 48 ∧ ¬ 57 < x := by
  obtain ⟨h1, rfl⟩ := h
  refine ⟨fun w => ?_, fun w => ?_, fun w => ?_, fun w => ?_, fun w => ?_⟩
  · have := nI_inj (by omega) (by omega) (show nI (48 + d) = nI 42 from w)
    omega
  · have := nI_inj (by omega) (by omega) (show nI (48 + d) = nI 44 from w)
    omega
  · have := nI_inj (by omega) (by omega) (show nI (48 + d) = nI 59 from w)
    omega
  · rw [I_lt, nI_T (by omega)] at w
    have : (48 : Int32).toInt = 48 := rfl
    omega
  · rw [I_lt, nI_T (by omega)] at w
    have : (57 : Int32).toInt = 57 := rfl
    omega
theorem tk_d2 {x : Int32} {d : Nat} (h : dgN x d) (h2 : S 2 0 = nI 2) : f_X1_takes N S B x = some (0, S, B) := by
  obtain ⟨a, b, c, e, f⟩ := dg_ne h
  unfold f_X1_takes f_X1_takesDigit
  rw [if_neg a, if_neg b, if_neg c, if_neg e, if_neg f, h2, if_pos (show nI 2 = 2 from rfl), bd2_some, if0]
theorem tk_d0 {x : Int32} {d pt : Nat} (h : dgN x d) (h2 : S 2 0 = nI pt) (hpt : pt < 2) (h3 : S 3 0 = -1) : f_X1_takes N S B x = some (1, va_up S 3 (fun _ => nI d), B) := by
  obtain ⟨a, b, c, e, f⟩ := dg_ne h
  have n2 : ¬ nI pt = 2 := fun w => by
    have := nI_inj (by omega) (by omega) (show nI pt = nI 2 from w)
    omega
  unfold f_X1_takes f_X1_takesDigit
  rw [if_neg a, if_neg b, if_neg c, if_neg e, if_neg f, h2, if_neg n2, h3, if_pos rfl, dg_sub h, bd2_some, if1]
theorem tk_d1 {x : Int32} {d pt v : Nat} (h : dgN x d) (h2 : S 2 0 = nI pt) (hpt : pt < 2) (h3 : S 3 0 = nI v) (hv : v < 1000) : f_X1_takes N S B x = if v = 0 ∨ (if pt = 0 then 29 else 19) < 10 * v + d then some (0, S, B) else some (1, va_up S 3 (fun _ => nI (10 * v + d)), B) := by
  obtain ⟨a, b, c, e, f⟩ := dg_ne h
  have hd := h.1
  have n2 : ¬ nI pt = 2 := fun w => by
    have := nI_inj (by omega) (by omega) (show nI pt = nI 2 from w)
    omega
  have m1 : ¬ nI v = -1 := by
    rw [← Int32.toInt_inj, nI_T (by omega)]
    intro w
    have : (-1 : Int32).toInt = -1 := rfl
    omega
  have key : ∀ most : Nat, most < 1000 → f_X1_takesDigit_39 N (nI d) (nI most) S = if v = 0 ∨ most < 10 * v + d then some (0, S) else some (1, va_up S 3 (fun _ => nI (10 * v + d))) := by
    intro most hm
    unfold f_X1_takesDigit_39
    rw [h3, li_10, pk_mul, nI_add, show v * 10 + d = 10 * v + d by omega]
    by_cases q : v = 0
    · rw [if_pos (show nI v = 0 by rw [q]; rfl), if_pos (Or.inl q)]
    · rw [if_neg (show ¬ nI v = 0 from fun w => q (nI_inj (by omega) (by omega) (show nI v = nI 0 from w)))]
      by_cases q2 : most < 10 * v + d
      · rw [leF q2 (by omega), if_pos (Or.inr q2)]
      · rw [leT (by omega) (by omega), if_neg (fun w => by omega)]
  unfold f_X1_takes f_X1_takesDigit
  rw [if_neg a, if_neg b, if_neg c, if_neg e, if_neg f, h2, if_neg n2, h3, if_neg m1, dg_sub h]
  rcases (by omega : pt = 0 ∨ pt = 1) with rfl | rfl
  · rw [if_pos (show nI 0 = 0 from rfl), li_29, key 29 (by decide), if_pos rfl]
    split
    · rw [bd2_some, if0]
    · rw [bd2_some, if1]
  · rw [if_neg (show ¬ nI 1 = 0 by decide), li_19, key 19 (by decide), if_neg (show ¬ (1 : Nat) = 0 by decide)]
    split
    · rw [bd2_some, if0]
    · rw [bd2_some, if1]
theorem tk_c0 {pt : Nat} (h2 : S 2 0 = nI pt) (hpt : pt < 3) (h : pt ≠ 0 ∨ S 3 0 = -1) : f_X1_takes N S B 44 = some (0, S, B) := by
  unfold f_X1_takes f_X1_takesComma
  rw [if_neg (by decide), if_pos rfl, h2]
  by_cases q : pt = 0
  · subst q
    rw [if_pos (show nI 0 = 0 from rfl)]
    rcases h with h | h
    · exact absurd rfl h
    · rw [h, if_pos rfl, bd2_some, nn00]
  · rw [if_neg (show ¬ nI pt = 0 from fun w => q (nI_inj (by omega) (by omega) (show nI pt = nI 0 from w))), bd2_some, nn00]
theorem tk_c1 {v : Nat} (h2 : S 2 0 = nI 0) (h3 : S 3 0 = nI v) (hv : v < 1000) : f_X1_takes N S B 44 = some (1, va_up (va_up (va_up S 4 (fun _ => nI v)) 2 (fun _ => 1)) 3 (fun _ => -1), B) := by
  have m1 : ¬ nI v = -1 := by
    rw [← Int32.toInt_inj, nI_T (by omega)]
    intro w
    have : (-1 : Int32).toInt = -1 := rfl
    omega
  unfold f_X1_takes f_X1_takesComma f_X1_beginNumber
  rw [if_neg (by decide), if_pos rfl, h2, if_pos (show nI 0 = 0 from rfl), h3, if_neg m1, bd_some, bd2_some, nn01]
theorem tk_s0 (h : f_X1_endsNote N S B = some (0, S1, B1)) : f_X1_takes N S B 42 = some (0, S1, B1) := by
  unfold f_X1_takes
  rw [if_pos rfl, h, bd3_some, if0]
theorem tk_m0 (h : f_X1_endsNote N S B = some (0, S1, B1)) : f_X1_takes N S B 59 = some (0, S1, B1) := by
  unfold f_X1_takes f_X1_takesSemicolon
  rw [if_neg (by decide), if_neg (by decide), if_pos rfl, h, bd3_some, if0, bd3_some, nn00]
theorem tk_m1 (h : f_X1_endsNote N S B = some (1, S1, B1)) : f_X1_takes N S B 59 = some (1, va_up (va_up S1 2 (fun _ => 0)) 3 (fun _ => -1), B1) := by
  unfold f_X1_takes f_X1_takesSemicolon f_X1_beginNumber
  rw [if_neg (by decide), if_neg (by decide), if_pos rfl, h, bd3_some, if1, bd_some, bd3_some, nn01]
/-- a star behind a note with d dots -/
theorem tk_s1 (hN : 1000 ≤ N) {A : tA} {c r d : Nat} (h : f_X1_endsNote N S B = some (1, S1, B1)) (hB : RB B1 (noA A c r d)) (ok : okA (noA A c r d)) (hl : dpA (noA A c r d) 0 < A 7 1) (hm : d < A 7 2) : ∃ B2, f_X1_takes N S B 42 = some (1, S1, B2) ∧ RB B2 (noA A c r (d + 1)) := by
  have o1 := ok.1
  have o4 := ok.2.2.2.1
  have o5 := ok.2.2.2.2.1
  rw [noA_n] at o1
  rw [noA_7] at o4 o5
  have hnn : A 0 0 < noA A c r d 0 0 := by rw [noA_n]; omega
  have e1 : f_X0_dotsLeft N B1 0 = some (nI (A 7 1 - dpA (noA A c r d) 0)) := by
    have := s_dotsLeft hN hB ok (p := 0) (by decide)
    rw [noA_7] at this
    exact this
  have eB : B1 0 0 - 1 = nI (A 0 0) := by
    rw [hB.1, noA_n, li_1, pk_sub (by omega)]
    rfl
  have e2 : f_X0_hasMostDots N B1 0 (nI (A 0 0)) = some 0 := by
    have := s_hasMost (N := N) hB ok (i := A 0 0) (p := 0) hnn (by decide)
    rw [noA_d, noA_7, if_neg (by omega)] at this
    exact this
  refine ⟨va_up B1 4 (upd (B1 4) (A 0 0 * 6 + 0) (nI (d + 1))), ?_, ?_⟩
  · unfold f_X1_takes f_X1_takesStar f_X0_addDots
    have e4 : B1 4 (A 0 0 * 6 + 0) = nI d := by
      rw [(hB.2.2.2.1 (A 0 0) hnn).2.2.2 0 (by decide), noA_d]
    rw [if_pos rfl, h, bd3_some, if1, e1, bd_some, if_neg (show ¬ nI (A 7 1 - dpA (noA A c r d) 0) = 0 from fun w => by
      have := nI_inj (by omega) (by omega) (show _ = nI 0 from w)
      omega), eB, e2, bd_some, if0, li_6, pk_mul, show nI (A 0 0 * 6) + 0 = nI (A 0 0 * 6 + 0) from nI_add _ 0, gdI (by omega) (by decide), gdI (by omega) (by decide), clI (by omega), e4, nI_s, bd_some, bd2_some, if1]
  · rw [← noA_s]
    exact RB_up hB (by decide) (by decide) rfl
theorem tk_s2 (hN : 1000 ≤ N) {A : tA} {c r d : Nat} (h : f_X1_endsNote N S B = some (1, S1, B1)) (hB : RB B1 (noA A c r d)) (ok : okA (noA A c r d)) (hl : A 7 1 ≤ dpA (noA A c r d) 0 ∨ A 7 2 ≤ d) : ∃ B2, f_X1_takes N S B 42 = some (0, S1, B2) := by
  have o1 := ok.1
  have o4 := ok.2.2.2.1
  rw [noA_n] at o1
  rw [noA_7] at o4
  have hnn : A 0 0 < noA A c r d 0 0 := by rw [noA_n]; omega
  have e1 : f_X0_dotsLeft N B1 0 = some (nI (A 7 1 - dpA (noA A c r d) 0)) := by
    have := s_dotsLeft hN hB ok (p := 0) (by decide)
    rw [noA_7] at this
    exact this
  have eB : B1 0 0 - 1 = nI (A 0 0) := by
    rw [hB.1, noA_n, li_1, pk_sub (by omega)]
    rfl
  have e2 : f_X0_hasMostDots N B1 0 (nI (A 0 0)) = some (if A 7 2 ≤ d then 1 else 0) := by
    have := s_hasMost (N := N) hB ok (i := A 0 0) (p := 0) hnn (by decide)
    rw [noA_d, noA_7] at this
    exact this
  refine ⟨B1, ?_⟩
  unfold f_X1_takes f_X1_takesStar
  rw [if_pos rfl, h, bd3_some, if1, e1, bd_some]
  by_cases q : A 7 1 ≤ dpA (noA A c r d) 0
  · rw [if_pos (show nI (A 7 1 - dpA (noA A c r d) 0) = 0 by rw [show A 7 1 - dpA (noA A c r d) 0 = 0 by omega]; rfl), bd2_some, if0]
  · rw [if_neg (show ¬ nI (A 7 1 - dpA (noA A c r d) 0) = 0 from fun w => by
      have := nI_inj (by omega) (by omega) (show _ = nI 0 from w)
      omega), eB, e2, bd_some, if_pos (by omega : A 7 2 ≤ d), if1, bd2_some, if0]
end RD
