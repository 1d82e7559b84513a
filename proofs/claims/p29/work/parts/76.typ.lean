/-! types and reads -/
theorem nar_k {k : Nat} (h : k < 65536) : vp_nar .char (nI k) = nI k := by
  rw [vp_nar_char, ← lg_i2c_nf]
  exact lg_i2c_word (by rw [nI_T (by omega)]; omega) (by rw [nI_T (by omega)]; omega)
theorem i2c_k {d : Nat} (h : d < 1000) : ((48 + nI d : Int32).toUInt32 % 65536).toInt32 = nI (48 + d) := by
  rw [show (48 : Int32) = nI 48 from rfl, nI_add]
  exact lg_i2c_word (by rw [nI_T (by omega)]; omega) (by rw [nI_T (by omega)]; omega)
def TS (Tn0 Tn Tx : tS) (m s : Nat) : Prop := RT Tn m ∧ sc Tx m = s ∧ ∀ f, f ≠ 5 → Tn f = Tn0 f
theorem sc_up {Tx : tS} {m : Nat} {v : Int32} : sc (va_up Tx 0 (upd (Tx 0) m v)) m = sc Tx m := ct_congr (fun i hi => by
  rw [va_up_self, upd_o _ (by omega)])
section TY
variable {N m s : Nat} {Tn0 Tn Tx : tS} {ρ : Type} {P : ρ → Prop}
theorem ty_go {c : Nat} (hT : TS Tn0 Tn Tx m s) (hm : m < 80) (hc : c < 65536) {X K : tS → tS → Option ρ} (kk : ∀ Tn' Tx', RT Tn' (m + 1) → sc Tx' m = s → Tx' 0 m = nI c → (∀ f, f ≠ 5 → Tn' f = Tn0 f) → Rt (K Tn' Tx') P) : Rt (bd3 (f_X5_type N Tn Tx (nI c)) (fun r1 Tn1 Tx1 => if r1 ≤ 0 then X Tn1 Tx1 else K Tn1 Tx1)) P := by
  obtain ⟨⟨h1, h2⟩, h3, h4⟩ := hT
  have e : f_X5_type N Tn Tx (nI c) = some (nI (m + 1), va_up Tn 5 (fun _ => nI (m + 1)), va_up Tx 0 (upd (Tx 0) m (nI c))) := by
    unfold f_X5_type
    rw [h2, show (80 : Int32) = nI 80 from rfl, ltT hm (by omega), gdI hm (by omega), clI (by omega), nI_s, nar_k hc]
  rw [e, bd3_some, if_neg (show ¬ nI (m + 1) ≤ 0 by rw [I_le, I_0, nI_T (by omega)]; omega)]
  refine kk _ _ ⟨by omega, by rw [va_up_self]⟩ ?_ ?_ (fun f hf => by rw [va_up_ne _ _ hf]; exact h4 f hf)
  · rw [sc_up]
    exact h3
  · rw [va_up_self, upd_s]
theorem ty_n (c : Nat) (hT : TS Tn0 Tn Tx m s) (hm : m < 80) (hc : c < 65536) (h59 : c ≠ 59) {X K : tS → tS → Option ρ} (kk : ∀ Tn' Tx', TS Tn0 Tn' Tx' (m + 1) s → Rt (K Tn' Tx') P) : Rt (bd3 (f_X5_type N Tn Tx (nI c)) (fun r1 Tn1 Tx1 => if r1 ≤ 0 then X Tn1 Tx1 else K Tn1 Tx1)) P :=
  ty_go hT hm hc (fun Tn' Tx' h1 h2 h3 h4 => kk Tn' Tx' ⟨h1, by
    rw [sc_n (by rw [h3]; exact fun w => h59 (nI_inj (by omega) (by omega) (show nI c = nI 59 from w)))]
    exact h2, h4⟩)
theorem ty_59 (hT : TS Tn0 Tn Tx m s) (hm : m < 80) {X K : tS → tS → Option ρ} (kk : ∀ Tn' Tx', TS Tn0 Tn' Tx' (m + 1) (s + 1) → Tx' 0 m = 59 → Rt (K Tn' Tx') P) : Rt (bd3 (f_X5_type N Tn Tx 59) (fun r1 Tn1 Tx1 => if r1 ≤ 0 then X Tn1 Tx1 else K Tn1 Tx1)) P :=
  ty_go (c := 59) hT hm (by omega) (fun Tn' Tx' h1 h2 h3 h4 => kk Tn' Tx' ⟨h1, by
    rw [sc_s (by rw [h3]; rfl), h2], h4⟩ h3)
end TY
section TYP
variable {N : Nat} {Tn0 : tS} {p1 : Int32} {k25 : Int32 → Int32 → Int32 → tS → tS → Option (Int32 × tS × tS)} {P : Int32 × tS × tS → Prop} {x2 : Int32} {k s M lo : Nat}
theorem l216 (hM : M ≤ 70) (kk : ∀ Tn Tx m, TS Tn0 Tn Tx m s → lo ≤ m → m ≤ M → Rt (k25 x2 1 (nI (k + 1)) Tn Tx) P) : ∀ j, j < 4 → ∀ K, j < K → ∀ {Tn Tx : tS} {m : Nat}, TS Tn0 Tn Tx m s → lo ≤ m → m + j ≤ M → Rt (f_L_types_216 N p1 k25 K x2 1 (nI k) (nI j) Tn Tx) P := by
  intro j
  induction j with
  | zero =>
    intro _ K hK Tn Tx m hT h1 h2
    obtain ⟨q, rfl⟩ : ∃ q, K = q + 1 := ⟨K - 1, by omega⟩
    show Rt (f_L_types_216b N p1 k25 (f_L_types_216 N p1 k25 q) x2 1 (nI k) (nI 0) Tn Tx) P
    unfold f_L_types_216b f_L_types_247
    rw [if_pos (show nI 0 ≤ 1 by decide), nI_s]
    exact kk _ _ _ hT h1 (by omega)
  | succ j ih =>
    intro hj K hK Tn Tx m hT h1 h2
    obtain ⟨q, rfl⟩ : ∃ q, K = q + 1 := ⟨K - 1, by omega⟩
    show Rt (f_L_types_216b N p1 k25 (f_L_types_216 N p1 k25 q) x2 1 (nI k) (nI (j + 1)) Tn Tx) P
    unfold f_L_types_216b f_L_types_247
    by_cases z : j = 0
    · subst z
      rw [if_pos (show nI (0 + 1) ≤ 1 by decide), nI_s]
      exact kk _ _ _ hT h1 (by omega)
    · rw [li_1, leF (by omega) (by omega), if_neg (show ¬ nI 1 = 0 by decide)]
      refine ty_n 42 hT (by omega) (by omega) (by omega) (fun Tn Tx hT => ?_)
      unfold f_L_types_240
      rw [show nI (j + 1) + (-1 : Int32) = nI j by rw [add_m1, li_1, pk_sub (by omega)]; rfl]
      exact ih (by omega) q (by omega) hT (by omega) (by omega)
theorem l205 (hN : 1000 ≤ N) (hM : M ≤ 70) (kk : ∀ Tn Tx m, TS Tn0 Tn Tx m s → lo ≤ m → m ≤ M → Rt (k25 x2 1 (nI (k + 1)) Tn Tx) P) (x5 : Int32) {Tn Tx : tS} {m : Nat} (hT : TS Tn0 Tn Tx m s) (h1 : lo ≤ m) (h2 : m + 3 ≤ M) : Rt (f_L_types_205 N p1 k25 x2 (nI k) x5 1 Tn Tx) P := by
  unfold f_L_types_205
  have := lw_lt (x5 >>> ((1 : Int32) &&& 31)) (n := 4) (by omega)
  refine rt1 (t_low N _ (n := 4) (by omega) (by omega)) ?_
  exact l216 hM kk _ (by omega) N (by omega) hT h1 (by omega)
theorem dig_k {r : Nat} (hr : r < 100) : (((48 : Int32) + (nI r - nI r / (10 : Int32) * (10 : Int32))).toUInt32 % 65536).toInt32 = nI (48 + r % 10) := by
  rw [li_10, pk_rem (by omega) (by omega) (by omega)]
  exact i2c_k (by omega)
theorem dig_t {r : Nat} (hr : r < 100) : (((48 : Int32) + (nI r / (10 : Int32))).toUInt32 % 65536).toInt32 = nI (48 + r / 10) := by
  rw [li_10, pk_div (by omega) (by omega) (by omega)]
  exact i2c_k (by omega)
theorem ten0 {α : Type} {a b : α} : (if (10 : Int32) = 0 then a else b) = b := if_neg (by decide)
theorem l184 (hN : 1000 ≤ N) (hM : M ≤ 70) (kk : ∀ Tn Tx m, TS Tn0 Tn Tx m s → lo ≤ m → m ≤ M → Rt (k25 x2 1 (nI (k + 1)) Tn Tx) P) (x5 : Int32) {r : Nat} (hr : r < 100) {Tn Tx : tS} {m : Nat} (hT : TS Tn0 Tn Tx m s) (h1 : lo ≤ m + 1) (h2 : m + 4 ≤ M) : Rt (f_L_types_184 N p1 k25 x2 (nI k) x5 (nI r) Tn Tx) P := by
  unfold f_L_types_184
  rw [ten0, dig_k hr]
  refine ty_n _ hT (by omega) (by omega) (by omega) (fun Tn Tx hT => ?_)
  exact l205 hN hM kk x5 hT (by omega) (by omega)
theorem l136 (hN : 1000 ≤ N) (hM : M ≤ 70) (kk : ∀ Tn Tx m, TS Tn0 Tn Tx m s → lo ≤ m → m ≤ M → Rt (k25 x2 1 (nI (k + 1)) Tn Tx) P) (x5 : Int32) {c r : Nat} (hc : c < 100) (hr : r < 100) {Tn Tx : tS} {m : Nat} (hT : TS Tn0 Tn Tx m s) (h1 : lo ≤ m + 1) (h2 : m + 7 ≤ M) : Rt (f_L_types_136 N p1 k25 x2 (nI k) x5 (nI c) (nI r) Tn Tx) P := by
  unfold f_L_types_136
  rw [ten0, dig_k hc]
  refine ty_n _ hT (by omega) (by omega) (by omega) (fun Tn Tx hT => ?_)
  refine ty_n 44 hT (by omega) (by omega) (by omega) (fun Tn Tx hT => ?_)
  by_cases q : r < 10
  · rw [li_10, ltT q (by omega)]
    exact l184 hN hM kk x5 hr hT (by omega) (by omega)
  · rw [if_neg (show ¬ nI r < (10 : Int32) by rw [li_10, I_lt, nI_T (by omega), nI_T (by omega)]; omega), ten0, dig_t hr]
    refine ty_n _ hT (by omega) (by omega) (by omega) (fun Tn Tx hT => ?_)
    exact l184 hN hM kk x5 hr hT (by omega) (by omega)
theorem l113 (hN : 1000 ≤ N) (hM : M ≤ 70) (kk : ∀ Tn Tx m, TS Tn0 Tn Tx m s → lo ≤ m → m ≤ M → Rt (k25 x2 1 (nI (k + 1)) Tn Tx) P) (x5 : Int32) {c r : Nat} (hc : c < 100) (hr : r < 100) {Tn Tx : tS} {m : Nat} (hT : TS Tn0 Tn Tx m s) (h1 : lo ≤ m + 1) (h2 : m + 8 ≤ M) : Rt (f_L_types_113 N p1 k25 x2 (nI k) x5 (nI c) (nI r) Tn Tx) P := by
  unfold f_L_types_113
  by_cases q : c < 10
  · rw [if_pos (show nI c < (10 : Int32) by rw [li_10, I_lt, nI_T (by omega), nI_T (by omega)]; omega)]
    exact l136 hN hM kk x5 hc hr hT (by omega) (by omega)
  · rw [if_neg (show ¬ nI c < (10 : Int32) by rw [li_10, I_lt, nI_T (by omega), nI_T (by omega)]; omega), ten0, dig_t hc]
    refine ty_n _ hT (by omega) (by omega) (by omega) (fun Tn Tx hT => ?_)
    exact l136 hN hM kk x5 hc hr hT (by omega) (by omega)
theorem l90 (hN : 1000 ≤ N) (hM : M ≤ 70) (hk : k < 100) (kk : ∀ Tn Tx m, TS Tn0 Tn Tx m k → lo ≤ m → m ≤ M → Rt (k25 x2 1 (nI (k + 1)) Tn Tx) P) (x5 t1 : Int32) {w c : Nat} (hw0 : 0 < w) (hw : w < 100) (hc : c < 100) {Tn Tx : tS} {m : Nat} (hT : TS Tn0 Tn Tx m (k - 1)) (h1 : lo ≤ m + 1) (h2 : m + 9 ≤ M) : Rt (f_L_types_90 N p1 k25 x2 1 (nI k) x5 (nI c) (nI w) t1 Tn Tx) P := by
  unfold f_L_types_90
  have := lw_lt t1 hw0
  refine rt1 (t_low N _ hw0 (by omega)) ?_
  rw [if1]
  by_cases q : k = 0
  · rw [if_pos (show nI k = 0 by rw [q]; rfl)]
    exact l113 hN hM kk x5 hc (by omega) (by rw [show k - 1 = k by omega] at hT; exact hT) (by omega) (by omega)
  · rw [if_neg (show ¬ nI k = 0 from fun z => q (nI_inj (by omega) (by omega) (show nI k = nI 0 from z)))]
    refine ty_59 hT (by omega) (fun Tn Tx hT _ => ?_)
    exact l113 hN hM kk x5 hc (by omega) (by rw [show k - 1 + 1 = k by omega] at hT; exact hT) (by omega) (by omega)
theorem l62 (hN : 1000 ≤ N) (hM : M ≤ 70) (hk : k < 100) (kk : ∀ Tn Tx m, TS Tn0 Tn Tx m k → lo ≤ m → m ≤ M → Rt (k25 x2 1 (nI (k + 1)) Tn Tx) P) (x5 t1 : Int32) {w : Nat} (hw0 : 0 < w) (hw : w < 100) {Tn Tx : tS} {m : Nat} (hT : TS Tn0 Tn Tx m (k - 1)) (h1 : lo ≤ m + 1) (h2 : m + 9 ≤ M) : Rt (f_L_types_62 N p1 k25 x2 1 (nI k) x5 (nI w) t1 Tn Tx) P := by
  unfold f_L_types_62
  have := lw_lt t1 hw0
  refine rt1 (t_low N _ hw0 (by omega)) ?_
  refine rt1 (t_low N _ (n := 9) (by omega) (by omega)) ?_
  refine rt_if (fun _ => ?_) (fun _ => ?_)
  · exact l90 (w := 22) hN hM hk kk x5 _ (by omega) (by omega) (by omega) hT h1 h2
  · exact l90 (w := 20) hN hM hk kk x5 _ (by omega) (by omega) (by omega) hT h1 h2
end TYP
/-- what types leaves -/
def tyQ (Tn0 : tS) (n0 : Nat) (q : Int32 × tS × tS) : Prop := q.1 = 1 ∧ ∃ m s, TS Tn0 q.2.1 q.2.2 m s ∧ s ≤ 10 ∧ 0 < m ∧ (s + 1 = n0 ∨ q.2.2 0 (m - 1) = 59)
theorem t_types {N : Nat} (hN : 1000 ≤ N) {Tn Tx : tS} {n : Nat} (hT : RT Tn n) (p1 : Int32) : Rt (f_L_types N Tn Tx p1) (tyQ Tn (1 + lw p1 6)) := by
  have h6 := lw_lt p1 (n := 6) (by omega)
  unfold f_L_types
  refine rt1 (t_low N _ (n := 6) (by omega) (by omega)) ?_
  unfold f_X5_clearText
  rw [bd2_some, hT.2, lt0F (by have := hT.1; omega)]
  unfold f_L_types_21
  rw [li_1, nI_add]
  have h0 : TS Tn (va_up Tn 5 (fun _ => 0)) Tx 0 0 := ⟨⟨by omega, by rw [va_up_self]; rfl⟩, rfl, fun f hf => va_up_ne _ _ hf⟩
  refine rt_lp (F := fun K (q : Int32 × tS × tS) => f_L_types_25 N p1 K (nI (1 + lw p1 6)) 1 q.1 q.2.1 q.2.2) (fun k q => q.1 = nI k ∧ ∃ m, TS Tn q.2.1 q.2.2 m (k - 1) ∧ k ≤ m ∧ m ≤ 9 * k) (1 + lw p1 6) ?_ ?_ N (by omega) (nI 0, va_up Tn 5 (fun _ => 0), Tx) ⟨rfl, 0, h0, by omega, by omega⟩
  · rintro K ⟨x, Tn', Tx'⟩ ⟨e1, m, hT', h1, h2⟩
    simp only at e1 hT'
    subst e1
    show Rt (f_L_types_25b N p1 (f_L_types_25 N p1 K) (nI (1 + lw p1 6)) 1 (nI (1 + lw p1 6)) Tn' Tx') _
    unfold f_L_types_25b
    rw [leT (Nat.le_refl _) (by omega), if1]
    have := lw_lt (p1 >>> ((26 : Int32) &&& 31)) (n := 6) (by omega)
    refine rt1 (t_low N _ (n := 6) (by omega) (by omega)) ?_
    unfold f_L_types_278
    refine rt_if (fun _ => ?_) (fun _ => ?_)
    · exact rt_ok ⟨rfl, m, _, hT', by omega, by omega, Or.inl (by omega)⟩
    · refine ty_59 hT' (by omega) (fun Tn2 Tx2 hT2 hl => ?_)
      exact rt_ok ⟨rfl, m + 1, _, hT2, by omega, by omega, Or.inr (by rw [Nat.add_sub_cancel]; exact hl)⟩
  · rintro K k ⟨x, Tn', Tx'⟩ hk ⟨e1, m, hT', h1, h2⟩ ih
    simp only at e1 hT'
    subst e1
    show Rt (f_L_types_25b N p1 (f_L_types_25 N p1 K) (nI (1 + lw p1 6)) 1 (nI k) Tn' Tx') _
    unfold f_L_types_25b
    rw [leF hk (by omega)]
    refine rt1 (t_low N _ (n := 9) (by omega) (by omega)) ?_
    have kk : ∀ Tn2 Tx2 m2, TS Tn Tn2 Tx2 m2 k → k + 1 ≤ m2 → m2 ≤ 9 * (k + 1) → Rt (f_L_types_25 N p1 K (nI (1 + lw p1 6)) 1 (nI (k + 1)) Tn2 Tx2) (tyQ Tn (1 + lw p1 6)) := fun Tn2 Tx2 m2 a b c => ih (nI (k + 1), Tn2, Tx2) ⟨rfl, m2, by rw [Nat.add_sub_cancel]; exact a, b, c⟩
    refine rt_if (fun _ => ?_) (fun _ => ?_)
    · exact l62 (w := 32) hN (by omega) (by omega) kk _ _ (by omega) (by omega) hT' (by omega) (by omega)
    · exact l62 (w := 30) hN (by omega) (by omega) kk _ _ (by omega) (by omega) hT' (by omega) (by omega)
/-- what an act leaves, or a refused call -/
def oR (Tn B : tS) (Hs : tH) (Sn : tS) (A : tA) (kn : Nat) (As : Nat → tA) (sn : Option tA) : Prop := ∃ n, RC Tn B Hs Sn A kn As sn n ∨ ∃ A', RC Tn B Hs Sn A' (pushN kn) (pushA kn As A) sn n
theorem RK_c {Tn Tn' Sn : tS} {sn : Option tA} (h : RK Tn Sn sn) (e : Tn' 3 0 = Tn 3 0) : RK Tn' Sn sn := by
  cases sn with
  | none => exact e.trans h
  | some A => exact ⟨e.trans h.1, h.2⟩
theorem pushN_e {kn : Nat} (h : kn ≤ 4) : pushN kn = if 4 ≤ kn then 4 else kn + 1 := by
  unfold pushN
  split <;> split <;> omega
theorem m100_k {k : Nat} (h : k < 1000) : (-100 - nI k : Int32).toInt = -100 - (k : Int) := by
  rw [show (-100 : Int32) = nI 0 - nI 100 by decide, i_sub_sub, nI_add, pk_sub_toInt (by omega) (by omega)]
  omega
theorem m100_T : (-100 : Int32).toInt = -100 := by decide
theorem m100_le {k m : Nat} (h : k ≤ m) (hm : m < 1000) : ¬ (-100 - nI k : Int32) < -100 - nI m := fun w => by
  rw [I_lt, m100_k (by omega), m100_k hm] at w
  exact Int.not_lt.mpr (Int.sub_le_sub_left (Int.ofNat_le.mpr h) _) w
theorem t_reads {N : Nat} (hN : 1000 ≤ N) {Tn B Sn Tx Tr E Nm Bt : tS} {Hs : tH} {A : tA} {kn n : Nat} {As : Nat → tA} {sn : Option tA} (hR : RC Tn B Hs Sn A kn As sn n) (p1 : Int32) : Rt (f_L_reads N Tn B Hs Tx Tr E Nm Bt p1) (fun q => q.1 = 1 ∧ oR q.2.1 q.2.2.1 q.2.2.2.1 Sn A kn As sn) := by
  obtain ⟨hB, hi, hH, hK, hT⟩ := hR
  have ok := hi.1
  have o1 := ok.1
  have o4 := ok.2.2.2.1
  have k4 := hH.1
  have h6 := lw_lt p1 (n := 6) (by omega)
  unfold f_L_reads f_L_reads_153 f_L_reads_170
  refine rt3 (q_c11 hH.2.1) (fun E Nm => ?_)
  refine rt3 (q_c0 hB) (fun E Nm => ?_)
  refine rb3 (t_types hN hT p1) ?_
  rintro r Tn' Tx' ⟨hr, m, s, ⟨hT', hsc, hTn⟩, hs, hm0, hlast⟩
  simp only at hr hT' hsc hTn hlast
  subst hr
  have hK' : RK Tn' Sn sn := RK_c hK (by rw [hTn 3 (by decide)])
  have hm := hT'.1
  refine rt3 (q_c12 hT'.2) (fun E Nm => ?_)
  rcases t_load (Tr := Tr) (Bt := Bt) hN hB hi hH hT' (show sc Tx' m < 20 by omega) with ⟨k, Tr', Bt', hk, e⟩ | ⟨A', B', Hs', Tr', Bt', e, ⟨c1, c2, c3⟩, a0, a5, an, ad, al⟩
  · rw [e, bd5_some, if1]
    refine rt3 (q_c12 hT'.2) (fun E Nm => ?_)
    have ti := m100_k (k := k) (by omega)
    have g1 : ¬ (0 : Int32) ≤ -100 - nI k := fun w => by rw [I_le, I_0, ti] at w; omega
    have g2 : ¬ (-100 : Int32) < -100 - nI k := fun w => by rw [I_lt, ti, m100_T] at w; omega
    have g3 := m100_le hk (by omega)
    rw [if_pos rfl, if_neg g1, if_neg g2, if_neg g3]
    refine rt3 (q_c11 hH.2.1) (fun E Nm => ?_)
    rw [if_pos rfl]
    refine rt3 (q_c0 hB) (fun E Nm => ?_)
    rw [if_pos rfl]
    exact rt_ok ⟨rfl, m, Or.inl ⟨hB, hi, hH, hK', hT'⟩⟩
  · have hsn : s + 1 = 1 + lw p1 6 := by
      rcases hlast with z | z
      · exact z
      · exact absurd z (al hm0)
    rw [hsc] at e a0 an
    rw [hsn] at e a0 an
    have k4' := c3.1
    have o1' := c2.1.1
    have o4' := c2.1.2.2.2.1
    rw [e, bd5_some, if1]
    refine rt3 (q_c12 hT'.2) (fun E Nm => ?_)
    rw [if_pos rfl, ge0T (by omega)]
    refine rt1 (t_low N _ (n := 6) (by omega) (by omega)) ?_
    rw [li_1, nI_add, if_pos rfl]
    refine rt3 (q_c0 c1) (fun E Nm => ?_)
    rw [a0, if_pos rfl]
    refine rt3 (q_c2 c1) (fun E Nm => ?_)
    rw [a5, if_pos (show nI 0 = 0 from rfl)]
    refine rt3 (q_c5 hN c1 c2.1) (fun E Nm => ?_)
    rw [an, if_pos rfl]
    refine rt3 (q_c11 c3.2.1) (fun E Nm => ?_)
    have fin : ∀ E Nm, Rt (bd3 (f_X5_count N Tn' B' Hs' E Nm 3) (fun r1 E1 Nm1 => (bd3 (f_X5_count N Tn' B' Hs' E1 Nm1 9) (fun r2 E2 Nm2 => (if r2 < r1 then some ((0 : Int32), Tn', B', Hs', Tx', Tr', E2, Nm2, Bt') else some ((nI 1 : Int32), Tn', B', Hs', Tx', Tr', E2, Nm2, Bt')))))) (fun q => q.1 = 1 ∧ oR q.2.1 q.2.2.1 q.2.2.2.1 Sn A kn As sn) := by
      intro E Nm
      refine rt3 (q_c3 hN c1 c2.1) (fun E Nm => ?_)
      refine rt3 (q_c9 c1) (fun E Nm => ?_)
      rw [ltF ad (by omega)]
      exact rt_ok ⟨rfl, m, Or.inr ⟨A', c1, c2, c3, hK', hT'⟩⟩
    by_cases q : 4 ≤ kn
    · rw [if_pos (show (4 : Int32) ≤ nI kn by rw [I_le, nI_T (by omega)]; show (4 : Int) ≤ _; omega), pushN_e k4, if_pos q, if_pos (show nI 4 = 4 from rfl)]
      exact fin E Nm
    · rw [if_neg (show ¬ (4 : Int32) ≤ nI kn by rw [I_le, nI_T (by omega)]; show ¬ (4 : Int) ≤ _; omega), pushN_e k4, if_neg q, nI_add, if_pos rfl]
      exact fin E Nm
