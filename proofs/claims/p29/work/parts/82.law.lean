/-! the law's loop -/
theorem t_lot {sn : Nat} {xs : Nat → Int32} (hsn : sn ≤ 260) {k : Nat} (hk : k < 1000) : ∃ v, f_L_lot sn xs (nI k) = some v := by
  unfold f_L_lot
  by_cases q : Int32.ofNat sn ≤ nI k
  · exact ⟨_, if_pos q⟩
  · have hks : k < sn := by
      apply Classical.byContradiction
      intro w
      exact q (nI_le (a := sn) (b := k) (by omega) (by omega))
    refine ⟨xs (nI k).toNatClampNeg, ?_⟩
    rw [if_neg q, gdI hks (by omega)]
theorem lg_cmp_r (x : Int64) : lg_cmp x x = 0 := by simp [lg_cmp]
def LI (x3 : Int64) (Tn B : tS) (Hs : tH) (Sn : tS) : Prop := ∃ A kn As S n, RC Tn B Hs Sn A kn As (some S) n ∧ x3 = lkA S
section LW
variable {N sn m : Nat} {xs : Nat → Int32} {Tn B Sn Tx Tr E F Nm Bt : tS} {Hs : tH} {x3 : Int64} {P : Unit → Prop} {k63 : Int32 → Int64 → Int32 → tS → tS → tH → tS → tS → tS → tS → tS → tS → tS → Option Unit}
theorem w_undo {A : tA} {kn n : Nat} {As : Nat → tA} {sn : Option tA} (hR : RC Tn B Hs Sn A kn As sn n) : ∃ r B' Hs', f_X5_undo N Tn B Hs = some (r, B', Hs') ∧ r = (if kn = 0 then -5 else nI (kn - 1)) ∧ ∃ A' kn', RC Tn B' Hs' Sn A' kn' As sn n := by
  obtain ⟨hB, hi, hH, hK, hT⟩ := hR
  cases kn with
  | zero => exact ⟨_, _, _, t_undo0 hH, rfl, A, 0, hB, hi, hH, hK, hT⟩
  | succ kn =>
    obtain ⟨B', Hs', e, h1, h2, h3⟩ := t_undo (N := N) (Tn := Tn) (B := B) hH
    exact ⟨_, B', Hs', e, by rw [if_neg (by omega), Nat.add_sub_cancel], As kn, kn, h1, h2, h3, hK, hT⟩
theorem w_343 (kk : ∀ x3 Tn B Hs Sn Tx Tr E F Nm Bt, LI x3 Tn B Hs Sn → Rt (k63 1 x3 (nI (m + 1)) Tn B Hs Sn Tx Tr E F Nm Bt) P) (hL : LI x3 Tn B Hs Sn) : Rt (f_L_law_343 N sn xs k63 1 x3 (nI m) Tn B Hs Sn Tx Tr E F Nm Bt) P := by
  have g392 : ∀ Tn B Hs Sn Tx Tr E F Nm Bt, LI x3 Tn B Hs Sn → Rt (f_L_law_392 N sn xs k63 1 x3 (nI m) Tn B Hs Sn Tx Tr E F Nm Bt) P := by
    intro Tn B Hs Sn Tx Tr E F Nm Bt h
    unfold f_L_law_392
    rw [nI_s]
    exact kk _ _ _ _ _ _ _ _ _ _ _ h
  unfold f_L_law_343
  rw [if1, if_neg (show ¬ (11 : Int32) = 0 by decide)]
  refine rt_if (fun _ => ?_) (fun _ => g392 _ _ _ _ _ _ _ _ _ _ hL)
  obtain ⟨A, kn, As, S, n, hR, hx⟩ := hL
  have hk4 := hR.2.2.1.1
  refine rt3 (q_c11 hR.2.2.1.2.1) (fun E Nm => ?_)
  obtain ⟨r, B', Hs', e, hr, A', kn', hR'⟩ := w_undo (N := N) hR
  rw [e, bd3_some]
  unfold f_L_law_383 f_L_law_391
  by_cases q : kn = 0
  · rw [if_pos q] at hr
    rw [if_pos (show nI kn = 0 by rw [q]; rfl), if_pos hr]
    exact g392 _ _ _ _ _ _ _ _ _ _ ⟨A', kn', As, S, n, hR', hx⟩
  · rw [if_neg q] at hr
    rw [if_neg (show ¬ nI kn = 0 from fun w => q (nI_inj (by omega) (by omega) (show _ = nI 0 from w))), if_pos (show r = nI kn - 1 by rw [hr, li_1, pk_sub (by omega)])]
    exact g392 _ _ _ _ _ _ _ _ _ _ ⟨A', kn', As, S, n, hR', hx⟩
theorem w_283 (hN : 1000 ≤ N) (kk : ∀ x3 Tn B Hs Sn Tx Tr E F Nm Bt, LI x3 Tn B Hs Sn → Rt (k63 1 x3 (nI (m + 1)) Tn B Hs Sn Tx Tr E F Nm Bt) P) (hL : LI x3 Tn B Hs Sn) : Rt (f_L_law_283 N sn xs k63 1 x3 (nI m) Tn B Hs Sn Tx Tr E F Nm Bt) P := by
  unfold f_L_law_283
  rw [if1, if_neg (show ¬ (15 : Int32) = 0 by decide)]
  refine rt_if (fun _ => ?_) (fun _ => w_343 kk hL)
  obtain ⟨A, kn, As, S, n, ⟨hB, hi, hH, hK, hT⟩, hx⟩ := hL
  have hS := hK.2.2
  obtain ⟨B', Hs', e, hB', hi', hH'⟩ := t_restore (N := N) hH hB hi hK
  have hS0 := hS.1.1
  rw [e, bd3_some, lt0F (by omega)]
  refine rt5 (t_look hN hB' hi'.1) (fun Tr E F Nm => ?_)
  rw [hx, lg_cmp_r, if0]
  obtain ⟨r, B2, Hs2, e2, hr, A2, kn2, hR2⟩ := w_undo (N := N) (sn := some S) (n := n) ⟨hB', hi', hH', hK, hT⟩
  have hp := push_pos kn
  have hp4 := hH'.1
  rw [if_neg (by omega)] at hr
  rw [e2, bd3_some, hr, lt0F (by omega)]
  obtain ⟨hB2, hi2, hH2, hK2, hT2⟩ := hR2
  obtain ⟨Tn', Sn', e3, hK3, h5⟩ := t_keep (N := N) (Tn := Tn) (Sn := Sn) hB2 hi2
  have hT3 : RT Tn' n := ⟨hT2.1, h5.trans hT2.2⟩
  rw [e3, bd3_some]
  refine rt3 (q_c0 hB2) (fun E Nm => ?_)
  rw [if_pos rfl]
  unfold f_L_law_337
  refine rt5 (t_look hN hB2 hi2.1) (fun Tr E F Nm => ?_)
  exact w_343 kk ⟨A2, kn2, _, A2, n, ⟨hB2, hi2, hH2, hK3, hT3⟩, rfl⟩
theorem w_182 (hN : 1000 ≤ N) (kk : ∀ x3 Tn B Hs Sn Tx Tr E F Nm Bt, LI x3 Tn B Hs Sn → Rt (k63 1 x3 (nI (m + 1)) Tn B Hs Sn Tx Tr E F Nm Bt) P) {A A1 S : tA} {kn kn1 n : Nat} {As As1 : Nat → tA} (hk4 : kn ≤ 4) (hx : x3 = lkA S) (hR : RC Tn B Hs Sn A1 kn1 As1 (some S) n) (hc : (A1 = A ∧ kn1 = kn) ∨ (kn1 = pushN kn ∧ As1 = pushA kn As A)) (y : Int32) : Rt (f_L_law_182 N sn xs k63 x3 (nI m) y (lkA A) (nI kn) 1 Tn B Hs Sn Tx Tr E F Nm Bt) P := by
  have hR0 := hR
  obtain ⟨hB, hi, hH, hK, hT⟩ := hR
  have hk41 := hH.1
  have hL : LI x3 Tn B Hs Sn := ⟨A1, kn1, As1, S, n, hR0, hx⟩
  have g227 : ∀ Tr E F Nm, Rt (f_L_law_227 N sn xs k63 x3 (nI m) y (lkA A) (nI kn) (nI kn1) Tn B Hs Sn Tx Tr E F Nm Bt) P := by
    intro Tr E F Nm
    unfold f_L_law_227 f_L_law_232
    rw [if1, nI_s]
    by_cases q : kn1 = kn + 1
    · rw [eqT q]
      refine rt1 (t_low N _ (n := 3) (by omega) (by omega)) ?_
      refine rt_if (fun _ => ?_) (fun _ => w_283 hN kk hL)
      have hp : kn1 = pushN kn ∧ As1 = pushA kn As A := by
        rcases hc with ⟨-, h⟩ | h
        · omega
        · exact h
      have htop := push_top kn As A hk4
      rw [← hp.1, ← hp.2, q, Nat.add_sub_cancel] at htop
      rw [q] at hH
      obtain ⟨B', Hs', e, h1, h2, h3⟩ := t_undo (N := N) (Tn := Tn) (B := B) hH
      rw [htop] at h1 h2
      rw [e, bd3_some, if_pos rfl]
      refine rt5 (t_look hN h1 h2.1) (fun Tr E F Nm => ?_)
      rw [lg_cmp_r, if0]
      unfold f_L_law_282
      exact w_283 hN kk ⟨A, kn, As1, S, n, ⟨h1, h2, h3, hK, hT⟩, hx⟩
    · rw [eqF q (by omega) (by omega)]
      exact w_283 hN kk hL
  unfold f_L_law_182 f_L_law_218
  refine rt3 (q_c11 hH.2.1) (fun E Nm => ?_)
  rw [if1]
  by_cases q : kn1 = kn
  · rw [eqT q]
    by_cases q4 : kn = 4
    · rw [if_pos (show nI kn = 4 by rw [q4]; rfl)]
      exact g227 _ _ _ _
    · rw [if_neg (show ¬ nI kn = 4 from fun w => q4 (nI_inj (by omega) (by omega) (show _ = nI 4 from w)))]
      have hA : A1 = A := by
        rcases hc with ⟨h, -⟩ | ⟨h, -⟩
        · exact h
        · unfold pushN at h
          rw [if_pos (by omega)] at h
          omega
      refine rt5 (t_look hN hB hi.1) (fun Tr E F Nm => ?_)
      rw [hA, lg_cmp_r, if0]
      exact g227 _ _ _ _
  · rw [eqF q (by omega) (by omega), nI_s]
    have hp : kn1 = kn + 1 := by
      rcases hc with ⟨-, h⟩ | ⟨h, -⟩
      · omega
      · unfold pushN at h
        split at h <;> omega
    rw [eqT hp]
    exact g227 _ _ _ _
theorem w_105 (hN : 1000 ≤ N) (hsn : sn ≤ 260) (hm : m < 48) (kk : ∀ x3 Tn B Hs Sn Tx Tr E F Nm Bt, LI x3 Tn B Hs Sn → Rt (k63 1 x3 (nI (m + 1)) Tn B Hs Sn Tx Tr E F Nm Bt) P) (hL : LI x3 Tn B Hs Sn) (x : Int32) : Rt (f_L_law_105 N sn xs k63 x3 (nI m) x Tn B Hs Sn Tx Tr E F Nm Bt) P := by
  obtain ⟨A, kn, As, S, n, hR, hx⟩ := hL
  have hk4 := hR.2.2.1.1
  unfold f_L_law_105
  rw [li_2, pk_mul, nI_s]
  obtain ⟨y, ey⟩ := t_lot (xs := xs) hsn (k := 2 * m + 1) (by omega)
  refine rt1 ey ?_
  refine rt5 (t_look hN hR.1 hR.2.1.1) (fun Tr E F Nm => ?_)
  refine rt3 (q_c11 hR.2.2.1.2.1) (fun E Nm => ?_)
  refine rb10 (t_acts hN hR x y) ?_
  rintro r Tn1 B1 Hs1 Tx1 Tr1 E1 F1 Nm1 Bt1 ⟨h1, h2⟩
  have h1 : r = 1 := h1
  subst h1
  have h2 : oR Tn1 B1 Hs1 Sn A kn As (some S) := h2
  have hst : ∃ A1 kn1 As1 n1, RC Tn1 B1 Hs1 Sn A1 kn1 As1 (some S) n1 ∧ ((A1 = A ∧ kn1 = kn) ∨ (kn1 = pushN kn ∧ As1 = pushA kn As A)) := by
    obtain ⟨n1, h | ⟨A', h⟩⟩ := h2
    · exact ⟨A, kn, As, n1, h, Or.inl ⟨rfl, rfl⟩⟩
    · exact ⟨A', _, _, n1, h, Or.inr ⟨rfl, rfl⟩⟩
  obtain ⟨A1, kn1, As1, n1, hR1, hc⟩ := hst
  have g160 : ∀ Tr E F Nm, Rt (f_L_law_160 N sn xs k63 x3 (nI m) y (lkA A) (nI kn) Tn1 B1 Hs1 Sn Tx1 Tr E F Nm Bt1) P := by
    intro Tr E F Nm
    unfold f_L_law_160 f_L_law_177
    rw [if_neg (show ¬ (5 : Int32) = 0 by decide)]
    refine rt_if (fun _ => ?_) (fun _ => w_182 hN kk hk4 hx hR1 hc y)
    refine rt5 (t_would hN hR1.1 hR1.2.1.1 y) (fun Tr E F Nm => ?_)
    rw [if1]
    exact w_182 hN kk hk4 hx hR1 hc y
  rw [if1, if_neg (show ¬ (3 : Int32) = 0 by decide)]
  refine rt_if (fun _ => g160 _ _ _ _) (fun _ => ?_)
  refine rt5 (t_holds hN hR1.1 hR1.2.1 y) (fun Tr E F Nm => ?_)
  rw [if1]
  exact g160 _ _ _ _
end LW
theorem rc_init (As : Nat → tA) : RC iZ iB iH iB A0 0 As none 0 := by
  have ok0 : okA A0 := ⟨by decide, by decide, by decide, by decide, by decide, fun i hi => absurd (show i < 0 from hi) (Nat.not_lt_zero i), fun t ht => absurd (show t < 0 from ht) (Nat.not_lt_zero t)⟩
  refine ⟨⟨rfl, rfl, ?_, fun i hi => absurd (show i < 0 from hi) (Nat.not_lt_zero i), fun t ht => absurd (show t < 0 from ht) (Nat.not_lt_zero t)⟩, ⟨ok0, fun t ht => absurd (show t < 0 from ht) (Nat.not_lt_zero t)⟩, ⟨by omega, rfl, ⟨fun i h => h, fun i j _ _ h => h⟩, fun i hi => absurd hi (Nat.not_lt_zero i)⟩, rfl, by omega, rfl⟩
  intro j hj
  match j, hj with
  | 0, _ => rfl
  | 1, _ => rfl
  | 2, _ => rfl
theorem t_law {N : Nat} (hN : 1000 ≤ N) {sn : Nat} (hsn : sn ≤ 260) (xs : Nat → Int32) : f_L_law N sn xs iZ iB iH iB iZ iB iZ iZ iZ iK = some () := by
  have key : Rt (f_L_law N sn xs iZ iB iH iB iZ iB iZ iZ iZ iK) (fun _ => True) := by
    obtain ⟨hB, hi, hH, hK, hT⟩ := rc_init (fun _ => A0)
    unfold f_L_law
    refine rt5 (t_holds hN hB hi 0) (fun Tr E F Nm => ?_)
    rw [if1]
    refine rt5 (t_would hN hB hi.1 0) (fun Tr E F Nm => ?_)
    rw [if1, t_undo0 hH, bd3_some, if_pos rfl, t_restore0 hK, bd3_some, if_pos rfl]
    obtain ⟨Tn', Sn', e3, hK3, h5⟩ := t_keep (N := N) (Tn := iZ) (Sn := iB) hB hi
    have hT3 : RT Tn' 0 := ⟨hT.1, h5.trans hT.2⟩
    rw [e3, bd3_some, if_pos (show nI (A0 0 0) = 0 from rfl)]
    unfold f_L_law_54
    refine rt5 (t_look hN hB hi.1) (fun Tr E F Nm => ?_)
    refine rt_lp (F := fun k (q : Int64 × Int32 × tS × tS × tH × tS × tS × tS × tS × tS × tS × tS) => f_L_law_63 N sn xs k 1 q.1 q.2.1 q.2.2.1 q.2.2.2.1 q.2.2.2.2.1 q.2.2.2.2.2.1 q.2.2.2.2.2.2.1 q.2.2.2.2.2.2.2.1 q.2.2.2.2.2.2.2.2.1 q.2.2.2.2.2.2.2.2.2.1 q.2.2.2.2.2.2.2.2.2.2.1 q.2.2.2.2.2.2.2.2.2.2.2) (fun i q => q.2.1 = nI i ∧ LI q.1 q.2.2.1 q.2.2.2.1 q.2.2.2.2.1 q.2.2.2.2.2.1) 48 ?_ ?_ N (by omega) (lkA A0, 0, Tn', iB, iH, Sn', iZ, Tr, E, F, Nm, iK) ⟨rfl, A0, 0, _, A0, 0, ⟨hB, hi, hH, hK3, hT3⟩, rfl⟩
    · rintro k ⟨x, y, Tn, B, Hs, Sn, Tx, Tr, E, F, Nm, Bt⟩ ⟨e1, hL⟩
      simp only at e1 hL
      subst e1
      show Rt (f_L_law_63b N sn xs (f_L_law_63 N sn xs k) 1 x (nI 48) Tn B Hs Sn Tx Tr E F Nm Bt) _
      unfold f_L_law_63b f_L_law_398
      rw [if_pos (show (48 : Int32) ≤ nI 48 by decide), if1]
      obtain ⟨A, kn, As, S, n, hR, hx⟩ := hL
      refine rt5 (t_holds hN hR.1 hR.2.1 7) (fun Tr E F Nm => ?_)
      rw [if1, if_neg (show ¬ ¬ ((1 : Int32) = 1) by decide)]
      exact rt_ok trivial
    · rintro k m ⟨x, y, Tn, B, Hs, Sn, Tx, Tr, E, F, Nm, Bt⟩ hm ⟨e1, hL⟩ ih
      simp only at e1 hL
      subst e1
      show Rt (f_L_law_63b N sn xs (f_L_law_63 N sn xs k) 1 x (nI m) Tn B Hs Sn Tx Tr E F Nm Bt) _
      unfold f_L_law_63b
      have kk : ∀ x3 Tn B Hs Sn Tx Tr E F Nm Bt, LI x3 Tn B Hs Sn → Rt (f_L_law_63 N sn xs k 1 x3 (nI (m + 1)) Tn B Hs Sn Tx Tr E F Nm Bt) (fun _ => True) := fun x3 Tn B Hs Sn Tx Tr E F Nm Bt h => ih (x3, nI (m + 1), Tn, B, Hs, Sn, Tx, Tr, E, F, Nm, Bt) ⟨rfl, h⟩
      rw [show (48 : Int32) = nI 48 from rfl, leF hm (by omega), if1]
      refine rt_if (fun _ => ?_) (fun _ => w_105 hN hsn hm kk hL _)
      refine rt_if (fun _ => ?_) (fun _ => w_105 hN hsn hm kk hL _)
      rw [li_2, pk_mul]
      obtain ⟨v, ev⟩ := t_lot (xs := xs) hsn (k := 2 * m) (by omega)
      refine rt1 ev ?_
      exact w_105 hN hsn hm kk hL _
  obtain ⟨a, e, -⟩ := key
  exact e
