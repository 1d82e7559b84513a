/-! theme, count, ifDragged, reachFor (nx_and is the kit's, pasted) -/
theorem nx_and (a b : Nat) : nI a &&& nI b = nI (a &&& b) := by
  apply Int32.toBitVec_inj.1
  show BitVec.ofNat 32 a &&& BitVec.ofNat 32 b = BitVec.ofNat 32 (a &&& b)
  apply BitVec.eq_of_getLsbD_eq
  intro i hi
  simp [hi]
theorem nx_or (a b : Nat) : nI a ||| nI b = nI (a ||| b) := by
  apply Int32.toBitVec_inj.mp
  rw [Int32.toBitVec_or]
  show BitVec.ofNat 32 a ||| BitVec.ofNat 32 b = BitVec.ofNat 32 (a ||| b)
  apply BitVec.eq_of_getLsbD_eq
  intro i hi
  simp [BitVec.getLsbD_or, BitVec.getLsbD_ofNat, hi]
theorem sh_nI : ∀ l, l < 20 → (1 : Int32) <<< (nI l &&& 31) = nI (2 ^ l) := by decide +kernel
def pcN (n k : Nat) : Nat := ct (fun i => k.testBit i) n
theorem ct_head (p : Nat → Bool) : ∀ n, ct p (n + 1) = (if p 0 then 1 else 0) + ct (fun i => p (i + 1)) n
  | 0 => by
    rw [ct_succ]
    show ct p 0 + _ = _ + ct _ 0
    simp [ct, sm]
  | n + 1 => by
    rw [ct_succ, ct_head p n, ct_succ]
    omega
theorem pc_head (n k : Nat) : pcN (n + 1) k = k % 2 + pcN n (k / 2) := by
  unfold pcN
  rw [ct_head]
  have e : (fun i => k.testBit (i + 1)) = (fun i => (k / 2).testBit i) := by
    funext i
    rw [Nat.testBit_succ]
  rw [e]
  congr 1
  rw [Nat.testBit_zero]
  by_cases q : k % 2 = 1
  · simp [q]
  · have : k % 2 = 0 := by omega
    simp [this]
theorem pc_low : ∀ (n k : Nat), 0 < k → k < 2 ^ n → pcN n (k &&& (k - 1)) + 1 = pcN n k
  | 0, k, h0, h => by
    rw [Nat.pow_zero] at h
    omega
  | n + 1, k, h0, h => by
    rw [pc_head, pc_head]
    have hd : (k &&& (k - 1)) / 2 = (k / 2) &&& ((k - 1) / 2) := by
      apply Nat.eq_of_testBit_eq
      intro i
      rw [Nat.testBit_and, ← Nat.testBit_succ, ← Nat.testBit_succ, ← Nat.testBit_succ, Nat.testBit_and]
    have hm : (k &&& (k - 1)) % 2 = 0 := by
      have : (k &&& (k - 1)).testBit 0 = false := by
        rw [Nat.testBit_and, Nat.testBit_zero, Nat.testBit_zero]
        by_cases q : k % 2 = 1
        · have : ¬ (k - 1) % 2 = 1 := by omega
          simp [this]
        · simp [q]
      rw [Nat.testBit_zero] at this
      have := of_decide_eq_false this
      omega
    rw [hd, hm]
    by_cases q : k % 2 = 1
    · have e : (k - 1) / 2 = k / 2 := by omega
      rw [e, Nat.and_self, q]
      omega
    · have e : (k - 1) / 2 = k / 2 - 1 := by omega
      have z : k % 2 = 0 := by omega
      rw [e, z]
      have := pc_low n (k / 2) (by omega) (by
        rw [Nat.pow_succ] at h
        omega)
      omega
theorem ct_ext {p : Nat → Bool} {a : Nat} : ∀ {m : Nat}, a ≤ m → (∀ i, a ≤ i → i < m → p i = false) → ct p m = ct p a
  | 0, h, _ => by rw [show a = 0 by omega]
  | m + 1, h, hp => by
    by_cases q : a = m + 1
    · rw [q]
    · rw [ct_succ, hp m (by omega) (by omega), ct_ext (m := m) (by omega) (fun i h1 h2 => hp i h1 (by omega))]
      rfl
def mskA (A : tA) (h : Nat → Nat) (t : Nat) : Nat → Nat
  | 0 => 0
  | j + 1 => if A 3 j = t + 1 then mskA A h t j ||| 2 ^ h j else mskA A h t j
theorem msk_bit (A : tA) (h : Nat → Nat) (t g : Nat) : ∀ n, (mskA A h t n).testBit g = mtA A h g t n
  | 0 => by
    show (0 : Nat).testBit g = false
    exact Nat.zero_testBit g
  | j + 1 => by
    show (if A 3 j = t + 1 then mskA A h t j ||| 2 ^ h j else mskA A h t j).testBit g = (mtA A h g t j || (h j == g && A 3 j == t + 1))
    by_cases q : A 3 j = t + 1
    · rw [if_pos q, Nat.testBit_or, msk_bit A h t g j, Nat.testBit_two_pow]
      congr 1
      by_cases z : h j = g
      · simp [z, q]
      · simp [z]
    · rw [if_neg q, msk_bit A h t g j]
      simp [q]
theorem msk_lt (A : tA) {h : Nat → Nat} (t : Nat) : ∀ {n : Nat}, (∀ j, j < n → h j < 20) → mskA A h t n < 2 ^ 20
  | 0, _ => by
    show 0 < 2 ^ 20
    omega
  | j + 1, hh => by
    have ih := msk_lt A t (n := j) (fun i hi => hh i (by omega))
    unfold mskA
    split
    · exact Nat.or_lt_two_pow ih (Nat.pow_lt_pow_right (by omega) (hh j (by omega)))
    · exact ih
section THM
variable {N : Nat} {B M Tn E : tS} {A : tA}
theorem s_heapsOf (hN : 1000 ≤ N) (hB : RB B A) (ok : okA A) {S : tS} {num : Nat} {h : Nat → Nat} (hE : HE S (A 0 0) num h) (hh : ∀ i, i < A 0 0 → h i < 1000) (hnum : num ≤ 20) {t : Nat} (ht : t < 1000) : f_X5_heapsOfTheme_10 N Tn B (nI t) N (nI num) 0 0 S = some (nI (ct (fun g => mtA A h g t (A 0 0)) num), S) := by
  refine lp_run (F := fun k (q : Int32 × Int32) => f_X5_heapsOfTheme_10 N Tn B (nI t) k (nI num) q.1 q.2 S) (s := fun i => (nI (ct (fun g => mtA A h g t (A 0 0)) i), nI i)) num _ ?_ ?_ N (by omega)
  · intro k
    show f_X5_heapsOfTheme_10b N Tn B (nI t) (f_X5_heapsOfTheme_10 N Tn B (nI t) k) (nI num) (nI _) (nI num) S = _
    unfold f_X5_heapsOfTheme_10b
    rw [leT (Nat.le_refl _) (by omega)]
  · intro k g hg
    show f_X5_heapsOfTheme_10b N Tn B (nI t) (f_X5_heapsOfTheme_10 N Tn B (nI t) k) (nI num) (nI _) (nI g) S = f_X5_heapsOfTheme_10 N Tn B (nI t) k (nI num) (nI (ct (fun g => mtA A h g t (A 0 0)) g + (if mtA A h g t (A 0 0) then 1 else 0))) (nI (g + 1)) S
    unfold f_X5_heapsOfTheme_10b f_X5_heapsOfTheme_29
    rw [leF hg (by omega), s_meet hN hB ok hE hh (by omega) ht, bd_some, nI_s, nI_s]
    cases z : mtA A h g t (A 0 0) with
    | true => rw [tT, if1, tT]
    | false =>
      rw [tF, if0, tF]
      rfl
theorem g_heapsOf (hN : 1000 ≤ N) (hS : RS (M 0) A) (ok : okA A) {num : Nat} {h : Nat → Nat} (hM : ∀ i, i < A 0 0 → M 7 i = nI (h i)) (hh : ∀ i, i < A 0 0 → h i < num) (hnum : num ≤ 20) {t : Nat} (ht : t < 1000) : f_X6_heapsOfTheme_10 N (nI t) N 0 0 M = some (nI (ct (fun g => mtA A h g t (A 0 0)) num), M) := by
  have o1 := ok.1
  have o2 := ok.2.1
  have tot : pcN 20 (mskA A h t (A 0 0)) = ct (fun g => mtA A h g t (A 0 0)) num := by
    have e : pcN 20 (mskA A h t (A 0 0)) = ct (fun g => mtA A h g t (A 0 0)) 20 := ct_congr (fun i _ => msk_bit A h t i (A 0 0))
    rw [e]
    refine ct_ext hnum (fun i hi _ => anyB_f.mpr (fun j hj => ?_))
    have := hh j hj
    have : ¬ h j = i := by omega
    simp [this]
  have hr := lp_run (F := fun k (q : Int32 × Int32) => f_X6_heapsOfTheme_10 N (nI t) k q.1 q.2 M) (s := fun i => (nI (mskA A h t i), nI i)) (A 0 0) (f_X6_heapsOfTheme_59 N (nI t) N 0 (nI (mskA A h t (A 0 0))) M) (by
    intro k
    show f_X6_heapsOfTheme_10b N (nI t) (f_X6_heapsOfTheme_10 N (nI t) k) (nI _) (nI (A 0 0)) M = _
    unfold f_X6_heapsOfTheme_10b
    rw [cl_0, hS.1, leT (Nat.le_refl _) (by omega)]) (by
    intro k j hj
    show f_X6_heapsOfTheme_10b N (nI t) (f_X6_heapsOfTheme_10 N (nI t) k) (nI _) (nI j) M = f_X6_heapsOfTheme_10 N (nI t) k (nI (if A 3 j = t + 1 then mskA A h t j ||| 2 ^ h j else mskA A h t j)) (nI (j + 1)) M
    have l := hh j hj
    have b3 := (ok.2.2.2.2.2.1 j hj).2.2.1
    unfold f_X6_heapsOfTheme_10b f_X6_heapsOfTheme_45
    rw [cl_0, hS.1, leF hj (by omega), g_themeOf hS ok hj, bd_some, gdI (by omega) (by decide), clI (by omega), hM j hj, sh_nI _ (by omega), nI_s]
    by_cases q : A 3 j = t + 1
    · rw [if_pos ((m1_eq (by omega) (by omega)).mpr q), if_pos q, nx_or]
    · rw [if_neg (fun w => q ((m1_eq (by omega) (by omega)).mp w)), if_neg q, li_0, nx_or, Nat.or_zero]) N (by omega)
  have hr' : f_X6_heapsOfTheme_10 N (nI t) N 0 0 M = f_X6_heapsOfTheme_59 N (nI t) N 0 (nI (mskA A h t (A 0 0))) M := hr
  rw [hr', ← tot]
  have hlt := msk_lt A t (h := h) (n := A 0 0) (fun j hj => by have := hh j hj; omega)
  obtain ⟨y, ⟨c, k, y1, y2, y3, y4⟩, e⟩ := lp_wh (F := fun n (q : Int32 × Int32) => f_X6_heapsOfTheme_59 N (nI t) n q.1 q.2 M) (fun q => ∃ c k, q.1 = nI c ∧ q.2 = nI k ∧ k < 2 ^ 20 ∧ c + pcN 20 k = pcN 20 (mskA A h t (A 0 0))) (fun q => ∃ c k, q.1 = nI c ∧ k = 0 ∧ k < 2 ^ 20 ∧ c + pcN 20 k = pcN 20 (mskA A h t (A 0 0))) (fun q => pcN 20 q.2.toNatClampNeg) (fun q => some (q.1, M)) (by
    rintro n ⟨x, z⟩ ⟨c, k, h1, h2, h3, h4⟩
    simp only at h1 h2
    subst h1 h2
    have p20 : (2 : Nat) ^ 20 = 1048576 := by decide
    by_cases q : k = 0
    · left
      refine ⟨?_, c, k, rfl, q, h3, h4⟩
      show f_X6_heapsOfTheme_59b N (nI t) (f_X6_heapsOfTheme_59 N (nI t) n) (nI c) (nI k) M = some (nI c, M)
      unfold f_X6_heapsOfTheme_59b
      rw [q, if_pos (show nI 0 = 0 from rfl)]
    · right
      have hlow := pc_low 20 k (by omega) h3
      have hand : k &&& (k - 1) ≤ k := Nat.and_le_left
      refine ⟨(nI (c + 1), nI (k &&& (k - 1))), ?_, ⟨c + 1, k &&& (k - 1), rfl, rfl, by omega, by omega⟩, ?_⟩
      · show f_X6_heapsOfTheme_59b N (nI t) (f_X6_heapsOfTheme_59 N (nI t) n) (nI c) (nI k) M = f_X6_heapsOfTheme_59 N (nI t) n (nI (c + 1)) (nI (k &&& (k - 1))) M
        unfold f_X6_heapsOfTheme_59b
        rw [if_neg (show ¬ nI k = 0 from fun w => q (nI_inj (by omega) (by omega) (show nI k = nI 0 from w))), nI_s, li_1, pk_sub (by omega), nx_and]
      · dsimp only
        rw [clI (by omega), clI (by omega)]
        omega) N (nI 0, nI (mskA A h t (A 0 0))) ⟨0, _, rfl, rfl, hlt, by omega⟩ (by
      dsimp only
      rw [clI (by have p20 : (2 : Nat) ^ 20 = 1048576 := by decide
                  omega)]
      have := ct_le (fun i => (mskA A h t (A 0 0)).testBit i) 20
      show pcN 20 _ < N
      unfold pcN
      omega)
  have hz : pcN 20 0 = 0 := ct_zero.mpr (fun i _ => Nat.zero_testBit i)
  rw [y2, hz] at y4
  have e' : f_X6_heapsOfTheme_59 N (nI t) N 0 (nI (mskA A h t (A 0 0))) M = some (y.1, M) := e
  rw [e', y1, ← y4]
  rfl
end THM
theorem m_theme {N : Nat} (hN : 1000 ≤ N) {Tn B Sn Tx Tr E F Nm Bt M : tS} {Hs : tH} (hR : Rel Tn B Hs Sn Tx Tr E F Nm Bt M) (p0 p1 : Int32) : ∃ (r : Int32) (Ez : tS) (Nmz : tS) (Mz : tS), f_X5_theme N Tn B E Nm p0 p1 = some (r, Ez, Nmz) ∧ f_X6_theme N M p0 p1 = some (r, Mz) ∧ Rel Tn B Hs Sn Tx Tr Ez F Nmz Bt Mz := by
  have hR0 := hR
  obtain ⟨⟨A, ok, hB, hS⟩, -, -, -⟩ := hR
  have o1 := ok.1
  have o2 := ok.2.1
  unfold f_X5_theme f_X6_theme
  rcases theme_c (N := N) hB hS ok p0 with ⟨e1, e2⟩ | ⟨t, ht, rfl, e1, e2⟩
  · rw [e1, e2, bd_some, bd_some, if0, if0]
    exact ⟨_, _, _, _, rfl, rfl, hR0⟩
  rw [e1, e2, bd_some, bd_some, if1, if1]
  by_cases q0 : p1 = 0
  · have e := g_notesOf hN hS ok (c := t + 1) (by omega)
    rw [show nI (t + 1) - 1 = nI t by rw [li_1, pk_sub (by omega)]; rfl] at e
    rw [if_pos q0, if_pos q0, e, ← enc_s t, s_notesOfTheme hN hB ok (by omega), bd_some, bd_some]
    exact ⟨_, _, _, _, rfl, rfl, hR0⟩
  rw [if_neg q0, if_neg q0]
  by_cases q1 : p1 = 1
  · rw [if_pos q1, if_pos q1, s_dotsOfTheme hN hB ok (by omega), g_dotsOfTheme hN hS ok (by omega), bd_some, bd_some]
    exact ⟨_, _, _, _, rfl, rfl, hR0⟩
  rw [if_neg q1, if_neg q1]
  by_cases q2 : p1 = 2
  · obtain ⟨Nm', e3, e4⟩ := s_choose hN hB ok Nm
    rw [if_pos q2, if_pos q2, e3, bd2_some, gdI (by omega) (by decide), clI (by omega), e4 t ht, g_nameOf hN hS ok ht, bd_some]
    exact ⟨_, _, _, _, rfl, rfl, Rel_rk hR0 (fun _ _ => rfl)⟩
  rw [if_neg q2, if_neg q2]
  by_cases q3 : p1 = 3
  · rw [if_pos q3, if_pos q3, s_rank hN hB ok ht, g_rank hN hS ok ht, bd_some, bd_some]
    exact ⟨_, _, _, _, rfl, rfl, hR0⟩
  rw [if_neg q3, if_neg q3]
  by_cases q4 : p1 = 4
  · obtain ⟨E', M2, L, h1, h2, h3, h4, h5, h6⟩ := m_heaps hN hB hS ok Tn E
    have nml := nm_le (A 0 0) 1000 L
    have hh : ∀ j, j < A 0 0 → hpA 1000 L j < nmH (A 0 0) 1000 L := fun j hj => hp_lt h6 hj (by omega)
    unfold f_X5_heapsOfTheme f_X6_heapsOfTheme
    rw [if_pos q4, if_pos q4, h1, h2, bd2_some, bd2_some, s_heapsOf hN hB ok h3 (fun i hi => by have := hh i hi; omega) (by omega) (by omega), g_heapsOf hN (by rw [h5 0 (by decide) (by decide) (by decide)]; exact hS) ok h4 hh (by omega) (by omega), bd2_some, bd2_some]
    exact ⟨_, _, _, _, rfl, rfl, Rel_rk hR0 (fun k hk => h5 k (by omega) (by omega) (by omega))⟩
  rw [if_neg q4, if_neg q4]
  by_cases q5 : p1 = 5
  · rw [if_pos q5, if_pos q5, s_voters hN hB ok ht, g_voted hN hS ok ht, bd_some, bd_some]
    exact ⟨_, _, _, _, rfl, rfl, hR0⟩
  rw [if_neg q5, if_neg q5]
  exact ⟨_, _, _, _, rfl, rfl, hR0⟩
