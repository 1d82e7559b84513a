/-! heaps: how the reference lays them -/
theorem lp_wh {ρ σ : Type} (F : Nat → σ → Option ρ) (P Q : σ → Prop) (μ : σ → Nat) (G : σ → Option ρ) (hstep : ∀ k x, P x → (F (k + 1) x = G x ∧ Q x) ∨ ∃ y, F (k + 1) x = F k y ∧ P y ∧ μ y < μ x) : ∀ (N : Nat) (x : σ), P x → μ x < N → ∃ y, Q y ∧ F N x = G y := by
  intro N
  induction N with
  | zero => intro x hx h; omega
  | succ k ih =>
    intro x hx h
    rcases hstep k x hx with ⟨e, q⟩ | ⟨y, e, hy, hm⟩
    · exact ⟨x, q, e⟩
    · obtain ⟨z, hz, e2⟩ := ih y hy (by omega)
      exact ⟨z, hz, e.trans e2⟩
def insB (mk : Nat → Bool) (b : Nat) : Nat → Bool := fun i => mk i || (i == b)
theorem insB_b (mk : Nat → Bool) (b : Nat) : insB mk b b = true := by simp [insB]
theorem insB_m {mk : Nat → Bool} {b i : Nat} (h : mk i = true) : insB mk b i = true := by simp [insB, h]
theorem insB_o {mk : Nat → Bool} {b i : Nat} (h : i ≠ b) : insB mk b i = mk i := by simp [insB, h]
theorem ct_ins {mk : Nat → Bool} {b : Nat} (hb : mk b = false) : ∀ {n : Nat}, b < n → ct (insB mk b) n = ct mk n + 1
  | 0, h => absurd h (Nat.not_lt_zero b)
  | n + 1, h => by
    rw [ct_succ, ct_succ]
    by_cases q : b = n
    · subst q
      rw [insB_b, hb, ct_congr (fun i hi => insB_o (by omega))]
      rfl
    · rw [ct_ins hb (by omega), insB_o (by omega : n ≠ b)]
      omega
theorem ct_false (n : Nat) : ct (fun _ => false) n = 0 := ct_zero.mpr (fun _ _ => rfl)
theorem lt_eq {α β : Type} (a : α) (f : α → β) : lt_ a f = f a := rfl
/-- the reference's rows: before note m, and while the heap of m spreads -/
def ovA (A : tA) (c : Nat) (L : Nat → Nat) (M0 : tS) (m : Nat) (M : tS) : Prop := (∀ k, k ≠ 7 → k ≠ 8 → k ≠ 9 → M k = M0 k) ∧ M 9 0 = nI (ct (rtB c L) m) ∧ ∀ i, i < A 0 0 → M 7 i = if i ≠ c ∧ L i < m then nI (hpA c L i) else -5
def ivA (A : tA) (c : Nat) (L : Nat → Nat) (M0 : tS) (m many : Nat) (mk : Nat → Bool) (M : tS) : Prop := (∀ k, k ≠ 7 → k ≠ 8 → k ≠ 9 → M k = M0 k) ∧ M 9 0 = nI (ct (rtB c L) m) ∧ (∀ i, i < A 0 0 → M 7 i = if i ≠ c ∧ L i < m then nI (hpA c L i) else if mk i = true then nI (ct (rtB c L) m) else -5) ∧ (∀ i, i < A 0 0 → mk i = true → i ≠ c ∧ L i = m) ∧ mk m = true ∧ many = ct mk (A 0 0) ∧ (∀ j, j < many → ∃ a, a < A 0 0 ∧ M 8 j = nI a ∧ mk a = true) ∧ ∀ a, a < A 0 0 → mk a = true → ∃ j, j < many ∧ M 8 j = nI a
def pgA (A : tA) (c r k : Nat) (mk : Nat → Bool) (M : tS) : Prop := ∀ j, j < k → ∀ a, a < A 0 0 → M 8 j = nI a → ∀ b, b < A 0 0 → b ≠ c → eA A r a b → mk b = true
section LAY
variable {N : Nat} {M0 : tS} {A : tA} {c r : Nat} {bu : Int32} {L : Nat → Nat}
theorem g_in (hN : 1000 ≤ N) (hS : RS (M0 0) A) (ok : okA A) (hr : r < 1000) (hbu : ∀ i, i < A 0 0 → (nI i = bu ↔ i = c)) (hL : Lo (A 0 0) c (eA A r) L) {m : Nat} (hm : m < A 0 0) (hmc : m ≠ c) (hLm : L m = m) (k23 : Int32 → Int32 → tS → Option (Int32 × tS)) {k many a : Nat} {mk : Nat → Bool} {M : tS} (hv : ivA A c L M0 m many mk M) (hp : pgA A c r k mk M) (hk : k < many) (ha : a < A 0 0) (hka : M 8 k = nI a) (hma : mk a = true) : ∃ many' mk' M', ivA A c L M0 m many' mk' M' ∧ pgA A c r (k + 1) mk' M' ∧ k < many' ∧ f_X6_spreads_33 N (nI m) (nI r) bu k23 N (nI many) (nI k) 0 M = k23 (nI many') (nI (k + 1)) M' := by
  have o1 := ok.1
  obtain ⟨y, ⟨many', mk', y1, y2, y3, y4, y5, y6, y7⟩, e⟩ := lp_to (F := fun n (q : Int32 × Int32 × tS) => f_X6_spreads_33 N (nI m) (nI r) bu k23 n q.1 (nI k) q.2.1 q.2.2) (fun b q => ∃ many mk, q.1 = nI many ∧ q.2.1 = nI b ∧ ivA A c L M0 m many mk q.2.2 ∧ pgA A c r k mk q.2.2 ∧ k < many ∧ (q.2.2 8 k = nI a ∧ mk a = true) ∧ ∀ b', b' < b → b' ≠ c → eA A r a b' → mk b' = true) (A 0 0) (fun q => k23 q.1 (nI (k + 1)) q.2.2) (by
    rintro n ⟨x, z, M⟩ ⟨many, mk, h1, h2, h3, h4, h5, h6, h7⟩
    simp only at h1 h2 h3 h4 h6
    subst h1 h2
    show f_X6_spreads_33b N (nI m) (nI r) bu k23 (f_X6_spreads_33 N (nI m) (nI r) bu k23 n) (nI many) (nI k) (nI (A 0 0)) M = k23 (nI many) (nI (k + 1)) M
    unfold f_X6_spreads_33b
    rw [cl_0, h3.1 0 (by decide) (by decide) (by decide), hS.1, leT (Nat.le_refl _) (by omega), nI_s]) (by
    rintro n b ⟨x, z, M⟩ hb ⟨many, mk, h1, h2, h3, h4, h5, ⟨h6, h6'⟩, h7⟩
    simp only at h1 h2 h3 h4 h6
    subst h1 h2
    obtain ⟨v1, v2, v3, v4, v5, v6, v7, v8⟩ := h3
    have hmany : many ≤ A 0 0 := by rw [v6]; exact ct_le _ _
    have hroot : ct (rtB c L) m ≤ m := ct_le _ _
    have hSM : RS (M 0) A := by rw [v1 0 (by decide) (by decide) (by decide)]; exact hS
    have skip : (b ≠ c → eA A r a b → mk b = true) → ∃ many mk, nI many = nI many ∧ nI (b + 1) = nI (b + 1) ∧ ivA A c L M0 m many mk M ∧ pgA A c r k mk M ∧ k < many ∧ (M 8 k = nI a ∧ mk a = true) ∧ ∀ b', b' < b + 1 → b' ≠ c → eA A r a b' → mk b' = true := by
      intro hs
      refine ⟨many, mk, rfl, rfl, ⟨v1, v2, v3, v4, v5, v6, v7, v8⟩, h4, h5, ⟨h6, h6'⟩, fun b' hb' hc' he' => ?_⟩
      by_cases z : b' = b
      · subst z
        exact hs hc' he'
      · exact h7 b' (by omega) hc' he'
    have skip2 : (b ≠ c → eA A r a b → mk b = true) → f_X6_spreads_33b N (nI m) (nI r) bu k23 (f_X6_spreads_33 N (nI m) (nI r) bu k23 n) (nI many) (nI k) (nI b) M = f_X6_spreads_33 N (nI m) (nI r) bu k23 n (nI many) (nI k) (nI (b + 1)) M → ∃ y : Int32 × Int32 × tS, f_X6_spreads_33 N (nI m) (nI r) bu k23 (n + 1) (nI many) (nI k) (nI b) M = f_X6_spreads_33 N (nI m) (nI r) bu k23 n y.1 (nI k) y.2.1 y.2.2 ∧ ∃ many mk, y.1 = nI many ∧ y.2.1 = nI (b + 1) ∧ ivA A c L M0 m many mk y.2.2 ∧ pgA A c r k mk y.2.2 ∧ k < many ∧ (y.2.2 8 k = nI a ∧ mk a = true) ∧ ∀ b', b' < b + 1 → b' ≠ c → eA A r a b' → mk b' = true := by
      intro hs e
      refine ⟨(nI many, nI (b + 1), M), e, many, mk, rfl, rfl, ⟨v1, v2, v3, v4, v5, v6, v7, v8⟩, h4, h5, ⟨h6, h6'⟩, fun b' hb' hc' he' => ?_⟩
      by_cases z : b' = b
      · subst z
        exact hs hc' he'
      · exact h7 b' (by omega) hc' he'
    have e7 := v3 b hb
    by_cases q1 : b = c
    · refine skip2 (fun h => absurd q1 h) ?_
      have e5 : M 7 b = -5 := by
        rw [e7, if_neg (fun w => w.1 q1), if_neg (fun w => (v4 b hb w).1 q1)]
      unfold f_X6_spreads_33b f_X6_spreads_102
      rw [cl_0, hSM.1, leF hb (by omega), gdI (by omega) (by decide), clI (by omega), if_pos e5, if_pos ((hbu b hb).mpr q1), nI_s]
    have nbu : ¬ nI b = bu := fun w => q1 ((hbu b hb).mp w)
    by_cases q2 : L b < m
    · refine skip2 (fun _ he => ?_) ?_
      · exfalso
        have hab := (hL.2 a b ⟨ha, (v4 a ha h6').1⟩ ⟨hb, q1⟩).mpr (cn_1 ⟨ha, (v4 a ha h6').1⟩ ⟨hb, q1⟩ he)
        have := (v4 a ha h6').2
        omega
      · have hh : hpA c L b ≤ L b := ct_le _ _
        have e5 : M 7 b = nI (hpA c L b) := by rw [e7, if_pos ⟨q1, q2⟩]
        unfold f_X6_spreads_33b f_X6_spreads_102
        rw [cl_0, hSM.1, leF hb (by omega), gdI (by omega) (by decide), clI (by omega), e5, if_neg (nI_n5 (by omega)), nI_s]
    cases q3 : mk b with
    | true =>
      refine skip2 (fun _ _ => q3) ?_
      have e5 : M 7 b = nI (ct (rtB c L) m) := by rw [e7, if_neg (fun w => q2 w.2), if_pos q3]
      unfold f_X6_spreads_33b f_X6_spreads_102
      rw [cl_0, hSM.1, leF hb (by omega), gdI (by omega) (by decide), clI (by omega), e5, if_neg (nI_n5 (by omega)), nI_s]
    | false =>
      have e5 : M 7 b = -5 := by rw [e7, if_neg (fun w => q2 w.2), if_neg (by rw [q3]; decide)]
      have hd := dA_le ok ha hb
      by_cases q4 : dA A a b ≤ r
      · have hlb : L b = m := by
          have hab := (hL.2 a b ⟨ha, (v4 a ha h6').1⟩ ⟨hb, q1⟩).mpr (cn_1 ⟨ha, (v4 a ha h6').1⟩ ⟨hb, q1⟩ q4)
          rw [← hab]
          exact (v4 a ha h6').2
        have hci := ct_ins q3 hb
        have hle := ct_le (insB mk b) (A 0 0)
        have hlt : many < A 0 0 := by omega
        refine ⟨(nI (many + 1), nI (b + 1), va_up (va_up M 7 (upd (M 7) b (M 9 0))) 8 (upd (M 8) many (nI b))), ?_, many + 1, insB mk b, rfl, rfl, ⟨fun k k7 k8 k9 => ?_, ?_, fun i hi => ?_, fun i hi hmk => ?_, insB_m v5, by omega, fun j hj => ?_, fun x hx hmk => ?_⟩, fun j hj x hx hjx => ?_, by omega, ⟨?_, insB_m h6'⟩, fun b' hb' hc' he' => ?_⟩
        · show f_X6_spreads_33b N (nI m) (nI r) bu k23 (f_X6_spreads_33 N (nI m) (nI r) bu k23 n) (nI many) (nI k) (nI b) M = f_X6_spreads_33 N (nI m) (nI r) bu k23 n (nI (many + 1)) (nI k) (nI (b + 1)) _
          unfold f_X6_spreads_33b f_X6_spreads_102
          rw [cl_0, hSM.1, leF hb (by omega), gdI (by omega) (by decide), clI (by omega), if_pos e5, if_neg nbu, gdI (by omega) (by decide), clI (by omega), h6, g_dist hSM ok ha hb, bd_some, ltF q4 (by omega), gdJ (by omega) (by decide), lt_eq, gdI (by omega) (by decide), clI (by omega), va_up_ne _ _ (by decide : (8 : Nat) ≠ 7), nI_s, nI_s]
        · dsimp only
          rw [va_up_ne _ _ k8, va_up_ne _ _ k7]
          exact v1 k k7 k8 k9
        · dsimp only
          rw [va_up_ne _ _ (by decide : (9 : Nat) ≠ 8), va_up_ne _ _ (by decide : (9 : Nat) ≠ 7)]
          exact v2
        · dsimp only
          rw [va_up_ne _ _ (by decide : (7 : Nat) ≠ 8), va_up_self]
          by_cases z : i = b
          · subst z
            rw [upd_s, v2, if_neg (fun w => q2 w.2), if_pos (insB_b mk i)]
          · rw [upd_o _ z, insB_o z]
            exact v3 i hi
        · by_cases z : i = b
          · subst z
            exact ⟨q1, hlb⟩
          · rw [insB_o z] at hmk
            exact v4 i hi hmk
        · dsimp only
          rw [va_up_self]
          by_cases z : j = many
          · subst z
            rw [upd_s]
            exact ⟨b, hb, rfl, insB_b mk b⟩
          · rw [upd_o _ z]
            obtain ⟨x, x1, x2, x3⟩ := v7 j (by omega)
            exact ⟨x, x1, x2, insB_m x3⟩
        · dsimp only
          rw [va_up_self]
          by_cases z : x = b
          · subst z
            exact ⟨many, by omega, upd_s _ _ _⟩
          · rw [insB_o z] at hmk
            obtain ⟨j, j1, j2⟩ := v8 x hx hmk
            exact ⟨j, by omega, by rw [upd_o _ (by omega)]; exact j2⟩
        · dsimp only at hjx
          rw [va_up_self, upd_o _ (by omega)] at hjx
          exact fun w hw hwc he => insB_m (h4 j hj x hx hjx w hw hwc he)
        · dsimp only
          rw [va_up_self, upd_o _ (by omega)]
          exact h6
        · by_cases z : b' = b
          · subst z
            exact insB_b mk b'
          · exact insB_m (h7 b' (by omega) hc' he')
      · refine skip2 (fun _ he => absurd he q4) ?_
        unfold f_X6_spreads_33b f_X6_spreads_102
        rw [cl_0, hSM.1, leF hb (by omega), gdI (by omega) (by decide), clI (by omega), if_pos e5, if_neg nbu, gdI (by omega) (by decide), clI (by omega), h6, g_dist hSM ok ha hb, bd_some, ltT (by omega) (by omega), nI_s]) N (by omega) (nI many, nI 0, M) ⟨many, mk, rfl, rfl, hv, hp, hk, ⟨hka, hma⟩, fun b' hb' => absurd hb' (Nat.not_lt_zero b')⟩
  refine ⟨many', mk', y.2.2, y3, fun j hj x hx hjx w hw hwc he => ?_, y5, ?_⟩
  · by_cases z : j = k
    · subst z
      rw [y6.1] at hjx
      have := nI_inj (by omega) (by omega) hjx
      subst this
      exact y7 w hw hwc he
    · exact y4 j (by omega) x hx hjx w hw hwc he
  · rw [← y1]
    exact e
theorem g_spreads (hN : 1000 ≤ N) (hS : RS (M0 0) A) (ok : okA A) (hr : r < 1000) (hbu : ∀ i, i < A 0 0 → (nI i = bu ↔ i = c)) (hL : Lo (A 0 0) c (eA A r) L) {m : Nat} (hm : m < A 0 0) (hmc : m ≠ c) (hLm : L m = m) {M : tS} (hv : ovA A c L M0 m M) : ∃ r1 M', f_X6_spreads N M (nI m) (nI r) bu = some (r1, M') ∧ ovA A c L M0 (m + 1) M' := by
  have o1 := ok.1
  obtain ⟨v1, v2, v3⟩ := hv
  -- the start
  have hm0 : ivA A c L M0 m 1 (insB (fun _ => false) m) (va_up (va_up M 8 (upd (M 8) 0 (nI m))) 7 (upd (M 7) m (M 9 0))) := by
    refine ⟨fun k k7 k8 k9 => ?_, ?_, fun i hi => ?_, fun i hi hmk => ?_, insB_b _ _, ?_, fun j hj => ?_, fun x hx hmk => ?_⟩
    · rw [va_up_ne _ _ k7, va_up_ne _ _ k8]
      exact v1 k k7 k8 k9
    · rw [va_up_ne _ _ (by decide : (9 : Nat) ≠ 7), va_up_ne _ _ (by decide : (9 : Nat) ≠ 8)]
      exact v2
    · rw [va_up_self]
      by_cases z : i = m
      · subst z
        rw [upd_s, v2, if_neg (by omega), if_pos (insB_b _ _)]
      · rw [upd_o _ z, insB_o z, v3 i hi]
        simp
    · by_cases z : i = m
      · subst z
        exact ⟨hmc, hLm⟩
      · rw [insB_o z] at hmk
        cases hmk
    · rw [ct_ins rfl hm, ct_false]
    · rw [va_up_ne _ _ (by decide : (8 : Nat) ≠ 7), va_up_self, show j = 0 by omega, upd_s]
      exact ⟨m, hm, rfl, insB_b _ _⟩
    · by_cases z : x = m
      · subst z
        exact ⟨0, by omega, by rw [va_up_ne _ _ (by decide : (8 : Nat) ≠ 7), va_up_self, upd_s]⟩
      · rw [insB_o z] at hmk
        cases hmk
  obtain ⟨y, ⟨many, mk, y1, y2, y3, y4⟩, e⟩ := lp_wh (F := fun n (q : Int32 × Int32 × tS) => f_X6_spreads_23 N (nI m) (nI r) bu n q.1 q.2.1 q.2.2) (fun q => ∃ many k mk, q.1 = nI many ∧ q.2.1 = nI k ∧ k ≤ many ∧ ivA A c L M0 m many mk q.2.2 ∧ pgA A c r k mk q.2.2) (fun q => ∃ many mk, q.1 = nI many ∧ q.2.1 = nI many ∧ ivA A c L M0 m many mk q.2.2 ∧ pgA A c r many mk q.2.2) (fun q => 100 - q.2.1.toNatClampNeg) (fun q => some (q.1, va_up q.2.2 9 (fun _ => q.2.2 9 0 + 1))) (by
    rintro n ⟨x, z, M⟩ ⟨many, k, mk, h1, h2, h3, h4, h5⟩
    simp only at h1 h2 h4 h5
    subst h1 h2
    have hmany : many ≤ A 0 0 := by rw [h4.2.2.2.2.2.1]; exact ct_le _ _
    by_cases q : k = many
    · left
      subst q
      refine ⟨?_, k, mk, rfl, rfl, h4, h5⟩
      show f_X6_spreads_23b N (nI m) (nI r) bu (f_X6_spreads_23 N (nI m) (nI r) bu n) (nI k) (nI k) M = _
      unfold f_X6_spreads_23b
      rw [leT (Nat.le_refl _) (by omega)]
    · right
      obtain ⟨a, a1, a2, a3⟩ := h4.2.2.2.2.2.2.1 k (by omega)
      obtain ⟨many', mk', M', w1, w2, w3, w4⟩ := g_in hN hS ok hr hbu hL hm hmc hLm (f_X6_spreads_23 N (nI m) (nI r) bu n) h4 h5 (by omega) a1 a2 a3
      refine ⟨(nI many', nI (k + 1), M'), ?_, ⟨many', k + 1, mk', rfl, rfl, by omega, w1, w2⟩, ?_⟩
      · show f_X6_spreads_23b N (nI m) (nI r) bu (f_X6_spreads_23 N (nI m) (nI r) bu n) (nI many) (nI k) M = f_X6_spreads_23 N (nI m) (nI r) bu n (nI many') (nI (k + 1)) M'
        unfold f_X6_spreads_23b
        rw [leF (by omega) (by omega), w4]
      · dsimp only
        rw [clI (by omega), clI (by omega)]
        omega) N (nI 1, nI 0, va_up (va_up M 8 (upd (M 8) 0 (nI m))) 7 (upd (M 7) m (M 9 0))) ⟨1, 0, _, rfl, rfl, by omega, hm0, fun j hj => absurd hj (Nat.not_lt_zero j)⟩ (by
      dsimp only
      rw [clI (by omega)]
      omega)
  refine ⟨y.1, va_up y.2.2 9 (fun _ => y.2.2 9 0 + 1), ?_, ?_⟩
  · unfold f_X6_spreads
    rw [if_neg (by decide : ¬ ((0 : Int32) < 0 ∨ 20 ≤ (0 : Int32).toNatClampNeg)), lt_eq, gdI (by omega) (by decide), clI (by omega), va_up_ne _ _ (by decide : (7 : Nat) ≠ 8), cl_0]
    exact e
  · obtain ⟨z1, z2, z3, z4, z5, z6, z7, z8⟩ := y3
    have hall : ∀ i, i < A 0 0 → i ≠ c → L i = m → mk i = true := by
      intro i hi hc hl
      have hcn := (hL.2 m i ⟨hm, hmc⟩ ⟨hi, hc⟩).mp (hLm.trans hl.symm)
      refine hcn (fun x => mk x = true) z5 (fun a b ha hb p he => ?_)
      obtain ⟨j, j1, j2⟩ := z8 a ha.1 p
      exact y4 j j1 a ha.1 j2 b hb.1 hb.2 he
    have hroot : ct (rtB c L) (m + 1) = ct (rtB c L) m + 1 := by
      rw [ct_succ, show rtB c L m = true from decide_eq_true ⟨hmc, hLm⟩]
      rfl
    refine ⟨fun k k7 k8 k9 => by rw [va_up_ne _ _ k9]; exact z1 k k7 k8 k9, by rw [va_up_self, z2, nI_s, hroot], fun i hi => ?_⟩
    rw [va_up_ne _ _ (by decide : (7 : Nat) ≠ 9), z3 i hi]
    by_cases q : i ≠ c ∧ L i < m
    · rw [if_pos q, if_pos ⟨q.1, by omega⟩]
    · rw [if_neg q]
      by_cases q2 : mk i = true
      · have := z4 i hi q2
        rw [if_pos q2, if_pos ⟨this.1, by omega⟩]
        unfold hpA
        rw [this.2]
      · rw [if_neg q2, if_neg (fun w => q2 (hall i hi w.1 (by
          have : ¬ L i < m := fun h => q ⟨w.1, h⟩
          omega)))]
theorem g_laysH (hN : 1000 ≤ N) (hS : RS (M0 0) A) (ok : okA A) (hr : r < 1000) (hbu : ∀ i, i < A 0 0 → (nI i = bu ↔ i = c)) (hL : Lo (A 0 0) c (eA A r) L) : ∃ M', f_X6_laysHeaps N M0 (nI r) bu = some (nI (nmH (A 0 0) c L), M') ∧ (∀ k, k ≠ 7 → k ≠ 8 → k ≠ 9 → M' k = M0 k) ∧ ∀ i, i < A 0 0 → i ≠ c → M' 7 i = nI (hpA c L i) := by
  have o1 := ok.1
  have hw := lp_run (F := fun k (q : Int32 × tS) => f_X6_laysHeaps_7 N (nI r) bu k q.1 q.2) (s := fun i => (nI i, va_up (va_up M0 9 (fun _ => 0)) 7 (prg (M0 7) (fun _ => -5) i))) 20 (f_X6_laysHeaps_29 N (nI r) bu N 0 (va_up (va_up M0 9 (fun _ => 0)) 7 (prg (M0 7) (fun _ => -5) 20))) (by
    intro k
    show f_X6_laysHeaps_7b N (nI r) bu (f_X6_laysHeaps_7 N (nI r) bu k) (nI 20) (va_up (va_up M0 9 (fun _ => 0)) 7 (prg (M0 7) (fun _ => -5) 20)) = _
    unfold f_X6_laysHeaps_7b
    rw [li_20, leT (by omega) (by omega)]) (by
    intro k i hi
    show f_X6_laysHeaps_7b N (nI r) bu (f_X6_laysHeaps_7 N (nI r) bu k) (nI i) (va_up (va_up M0 9 (fun _ => 0)) 7 (prg (M0 7) (fun _ => -5) i)) = f_X6_laysHeaps_7 N (nI r) bu k (nI (i + 1)) (va_up (va_up M0 9 (fun _ => 0)) 7 (prg (M0 7) (fun _ => -5) (i + 1)))
    unfold f_X6_laysHeaps_7b
    rw [li_20, leF hi (by omega), gdI (by omega) (by decide), clI (by omega), va_up_up, va_up_self, nI_s]
    have := prg_S (M0 7) (fun _ => (-5 : Int32)) i
    rw [this]) N (by omega)
  have e0 : va_up (va_up M0 9 (fun _ => 0)) 7 (prg (M0 7) (fun _ => -5) 0) = va_up M0 9 (fun _ => 0) := va_up_eq (by rw [prg_0, va_up_ne _ _ (by decide)])
  simp only [e0] at hw
  obtain ⟨y, ⟨y1, y2⟩, e⟩ := lp_to (F := fun k (q : Int32 × tS) => f_X6_laysHeaps_29 N (nI r) bu k q.1 q.2) (fun m q => q.1 = nI m ∧ ovA A c L M0 m q.2) (A 0 0) (fun q => some (q.2 9 0, q.2)) (by
    rintro k ⟨x, T⟩ ⟨h1, h2⟩
    simp only at h1 h2
    subst h1
    show f_X6_laysHeaps_29b N (nI r) bu (f_X6_laysHeaps_29 N (nI r) bu k) (nI (A 0 0)) T = _
    unfold f_X6_laysHeaps_29b
    rw [cl_0, h2.1 0 (by decide) (by decide) (by decide), hS.1, leT (Nat.le_refl _) (by omega)]) (by
    rintro k m ⟨x, T⟩ hm ⟨h1, h2⟩
    simp only at h1 h2
    subst h1
    have e7 := h2.2.2 m hm
    have skip : rtB c L m = false → (∀ i, i < A 0 0 → i ≠ c → L i ≠ m) → f_X6_laysHeaps_29b N (nI r) bu (f_X6_laysHeaps_29 N (nI r) bu k) (nI m) T = f_X6_laysHeaps_29 N (nI r) bu k (nI (m + 1)) T → ∃ y : Int32 × tS, f_X6_laysHeaps_29 N (nI r) bu (k + 1) (nI m) T = f_X6_laysHeaps_29 N (nI r) bu k y.1 y.2 ∧ y.1 = nI (m + 1) ∧ ovA A c L M0 (m + 1) y.2 := by
      intro a b e
      refine ⟨(nI (m + 1), T), e, rfl, h2.1, ?_, fun i hi => ?_⟩
      · dsimp only
        rw [h2.2.1, ct_succ, a]
        rfl
      · dsimp only
        rw [h2.2.2 i hi]
        by_cases q : i ≠ c ∧ L i < m
        · rw [if_pos q, if_pos ⟨q.1, by omega⟩]
        · rw [if_neg q, if_neg (fun w => q ⟨w.1, by have := b i hi w.1; omega⟩)]
    by_cases q1 : m = c
    · refine skip (decide_eq_false (fun w => w.1 q1)) (fun i hi hc => by rw [q1]; exact (hL.1 i ⟨hi, hc⟩).2.1) ?_
      have e5 : T 7 m = -5 := by rw [e7, if_neg (fun w => w.1 q1)]
      unfold f_X6_laysHeaps_29b f_X6_laysHeaps_65 f_X6_laysHeaps_66
      rw [cl_0, h2.1 0 (by decide) (by decide) (by decide), hS.1, leF hm (by omega), gdI (by omega) (by decide), clI (by omega), if_pos e5, if_pos ((hbu m hm).mpr q1), nI_s]
    have nbu : ¬ nI m = bu := fun w => q1 ((hbu m hm).mp w)
    have hLm := hL.1 m ⟨hm, q1⟩
    by_cases q2 : L m < m
    · refine skip (decide_eq_false (fun w => by have := w.2; omega)) (fun i hi hc hl => ?_) ?_
      · have := (hL.1 i ⟨hi, hc⟩).2.2
        rw [hl] at this
        omega
      · have hh : hpA c L m ≤ L m := ct_le _ _
        have e5 : T 7 m = nI (hpA c L m) := by rw [e7, if_pos ⟨q1, q2⟩]
        unfold f_X6_laysHeaps_29b f_X6_laysHeaps_65 f_X6_laysHeaps_66
        rw [cl_0, h2.1 0 (by decide) (by decide) (by decide), hS.1, leF hm (by omega), gdI (by omega) (by decide), clI (by omega), e5, if_neg (nI_n5 (by omega)), nI_s]
    · have e5 : T 7 m = -5 := by rw [e7, if_neg (fun w => q2 w.2)]
      obtain ⟨r1, M', w1, w2⟩ := g_spreads hN hS ok hr hbu hL hm q1 (by omega) h2
      refine ⟨(nI (m + 1), M'), ?_, rfl, w2⟩
      show f_X6_laysHeaps_29b N (nI r) bu (f_X6_laysHeaps_29 N (nI r) bu k) (nI m) T = f_X6_laysHeaps_29 N (nI r) bu k (nI (m + 1)) M'
      unfold f_X6_laysHeaps_29b f_X6_laysHeaps_66
      rw [cl_0, h2.1 0 (by decide) (by decide) (by decide), hS.1, leF hm (by omega), gdI (by omega) (by decide), clI (by omega), if_pos e5, if_neg nbu, w1, bd2_some, nI_s]) N (by omega) (nI 0, va_up (va_up M0 9 (fun _ => 0)) 7 (prg (M0 7) (fun _ => -5) 20)) ⟨rfl, fun k k7 k8 k9 => by dsimp only; rw [va_up_ne _ _ k7, va_up_ne _ _ k9], by dsimp only; rw [va_up_ne _ _ (by decide : (9 : Nat) ≠ 7), va_up_self]; rfl, fun i hi => by
      dsimp only
      rw [va_up_self, if_neg (fun w => absurd w.2 (Nat.not_lt_zero _))]
      exact if_pos (by omega)⟩
  refine ⟨y.2, ?_, y2.1, fun i hi hc => ?_⟩
  · unfold f_X6_laysHeaps
    rw [show (0 : Int32) = nI 0 from rfl] at hw ⊢
    rw [hw]
    have e' : f_X6_laysHeaps_29 N (nI r) bu N (nI 0) (va_up (va_up M0 9 (fun _ => nI 0)) 7 (prg (M0 7) (fun _ => -5) 20)) = some (y.2 9 0, y.2) := e
    rw [e', y2.2.1]
    rfl
  · have := (hL.1 i ⟨hi, hc⟩).1
    rw [y2.2.2 i hi, if_pos ⟨hc, by omega⟩]
end LAY
