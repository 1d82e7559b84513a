/-! names -/
def bsA (A : tA) (t : Nat) (tk : Nat → Bool) : Nat → Nat × Nat
  | 0 => (0, 1)
  | k + 1 => if (bsA A t tk k).2 < vtA A t (k + 1) ∧ tk k = false then (k + 1, vtA A t (k + 1)) else bsA A t tk k
def tkA (A : tA) : Nat → Nat → Bool
  | 0 => fun _ => false
  | t + 1 => fun k => tkA A t k || ((bsA A t (tkA A t) 10).1 == k + 1)
def nmA (A : tA) (t : Nat) : Nat := (bsA A t (tkA A t) 10).1
theorem bsA_le (A : tA) (t : Nat) (tk : Nat → Bool) : ∀ k, (bsA A t tk k).1 ≤ k ∧ (bsA A t tk k).2 ≤ 6
  | 0 => ⟨Nat.le_refl _, by show 1 ≤ 6; omega⟩
  | k + 1 => by
    have h := bsA_le A t tk k
    have hv : vtA A t (k + 1) ≤ 6 := ct_le _ _
    show (if _ then _ else _ : Nat × Nat).1 ≤ _ ∧ (if _ then _ else _ : Nat × Nat).2 ≤ _
    split
    · exact ⟨Nat.le_refl _, hv⟩
    · exact ⟨by omega, h.2⟩
theorem nmA_le (A : tA) (t : Nat) : nmA A t ≤ 10 := (bsA_le A t _ 10).1
theorem tkA_any (A : tA) (k : Nat) : ∀ t, tkA A t k = anyB (fun j => nmA A j == k + 1) t
  | 0 => rfl
  | t + 1 => by
    show (tkA A t k || (nmA A t == k + 1)) = (anyB (fun j => nmA A j == k + 1) t || (nmA A t == k + 1))
    rw [tkA_any A k t]
theorem tT {α : Type} {a b : α} : (if true = true then a else b) = a := if_pos rfl
theorem tF {α : Type} {a b : α} : (if false = true then a else b) = b := if_neg (fun h => by cases h)
section NAM
variable {N : Nat} {B M S : tS} {A : tA}
theorem s_taken (hN : 1000 ≤ N) {t k : Nat} (ht : t ≤ 8) (hk : k < 10) (hS : ∀ j, j < t → S 0 j = enc (nmA A j)) : f_X4_isTaken N S (nI k) (nI t) = some (if tkA A t k = true then 1 else 0) := by
  have h := lp_any (F := fun n x => f_X4_isTaken_2 N S (nI k) (nI t) n x) (fun j => nmA A j == k + 1) t (some (1 : Int32)) (some (0 : Int32)) (by
    intro n
    show f_X4_isTaken_2b N S (nI k) (nI t) (f_X4_isTaken_2 N S (nI k) (nI t) n) (nI t) = _
    unfold f_X4_isTaken_2b
    rw [leT (Nat.le_refl _) (by omega)]) (by
    intro n j hj
    show f_X4_isTaken_2b N S (nI k) (nI t) (f_X4_isTaken_2 N S (nI k) (nI t) n) (nI j) = _
    have := nmA_le A j
    unfold f_X4_isTaken_2b
    rw [leF hj (by omega), gdI (by omega) (by decide), clI (by omega), hS j hj, ← enc_s k, nI_s]
    by_cases q : nmA A j = k + 1
    · rw [if_pos (by rw [q]), if_pos (by simp [q])]
    · rw [if_neg (fun z => q ((enc_eq (by omega) (by omega)).mp z)), if_neg (by simp [q])]) N (by omega)
  unfold f_X4_isTaken
  rw [show (0 : Int32) = nI 0 from rfl, h, tkA_any]
  split <;> rfl
theorem s_best (hN : 1000 ≤ N) (hB : RB B A) (ok : okA A) {t : Nat} (ht : t < A 5 0) (hS : ∀ j, j < t → S 0 j = enc (nmA A j)) : f_X4_bestName N S B (nI t) = some (enc (nmA A t)) := by
  have o2 := ok.2.1
  refine lp_run (F := fun k (q : Int32 × Int32 × Int32) => f_X4_bestName_9 N S B (nI t) k q.1 q.2.1 q.2.2) (s := fun k => (enc (bsA A t (tkA A t) k).1, nI (bsA A t (tkA A t) k).2, nI k)) 10 _ ?_ ?_ N (by omega)
  · intro k
    show f_X4_bestName_9b N S B (nI t) (f_X4_bestName_9 N S B (nI t) k) (enc (bsA A t (tkA A t) 10).1) (nI (bsA A t (tkA A t) 10).2) (nI 10) = _
    unfold f_X4_bestName_9b
    rw [li_10, leT (by omega) (by omega)]
    rfl
  · intro k j hj
    show f_X4_bestName_9b N S B (nI t) (f_X4_bestName_9 N S B (nI t) k) (enc (bsA A t (tkA A t) j).1) (nI (bsA A t (tkA A t) j).2) (nI j) = f_X4_bestName_9 N S B (nI t) k (enc (if (bsA A t (tkA A t) j).2 < vtA A t (j + 1) ∧ tkA A t j = false then (j + 1, vtA A t (j + 1)) else bsA A t (tkA A t) j).1) (nI (if (bsA A t (tkA A t) j).2 < vtA A t (j + 1) ∧ tkA A t j = false then (j + 1, vtA A t (j + 1)) else bsA A t (tkA A t) j).2) (nI (j + 1))
    have hv : vtA A t (j + 1) ≤ 6 := ct_le _ _
    have hb := bsA_le A t (tkA A t) j
    have e := s_votesFor hN hB ok ht (c := j + 1) (by omega)
    rw [enc_s] at e
    unfold f_X4_bestName_9b f_X4_bestName_49
    rw [li_10, leF hj (by omega), e, bd_some, s_taken hN (by omega) hj hS, bd_some, nI_s]
    by_cases q : (bsA A t (tkA A t) j).2 < vtA A t (j + 1)
    · rw [leF q (by omega)]
      cases z : tkA A t j with
      | true => rw [tT, if1, if_neg (fun w => by cases w.2)]
      | false => rw [tF, if0, if_pos ⟨q, rfl⟩, enc_s]
    · rw [leT (by omega) (by omega), if_neg (fun z => q z.1)]
theorem s_choose (hN : 1000 ≤ N) (hB : RB B A) (ok : okA A) (S : tS) : ∃ S', f_X4_choose N S B = some (nI (ct (fun t => nmA A t != 0) (A 5 0)), S') ∧ ∀ j, j < A 5 0 → S' 0 j = enc (nmA A j) := by
  have o2 := ok.2.1
  obtain ⟨y, ⟨hy1, hy2, hy3⟩, e⟩ := lp_to (F := fun k (q : Int32 × Int32 × tS) => f_X4_choose_4 N B k q.1 q.2.1 q.2.2) (fun t q => q.1 = nI (ct (fun t => nmA A t != 0) t) ∧ q.2.1 = nI t ∧ ∀ j, j < t → q.2.2 0 j = enc (nmA A j)) (A 5 0) (fun q => some (q.1, q.2.2)) (by
    rintro k ⟨x, i, S⟩ ⟨h1, h2, h3⟩
    simp only at h1 h2 h3
    subst h1 h2
    show f_X4_choose_4b N B (f_X4_choose_4 N B k) (nI _) (nI (A 5 0)) S = _
    unfold f_X4_choose_4b
    rw [hB.2.1, leT (Nat.le_refl _) (by omega)]) (by
    rintro k t ⟨x, i, S⟩ ht ⟨h1, h2, h3⟩
    simp only at h1 h2 h3
    subst h1 h2
    refine ⟨(nI (ct (fun t => nmA A t != 0) (t + 1)), nI (t + 1), va_up S 0 (upd (S 0) t (enc (nmA A t)))), ?_, rfl, rfl, ?_⟩
    · show f_X4_choose_4b N B (f_X4_choose_4 N B k) (nI _) (nI t) S = f_X4_choose_4 N B k (nI (ct (fun t => nmA A t != 0) t + (if nmA A t != 0 then 1 else 0))) (nI (t + 1)) (va_up S 0 (upd (S 0) t (enc (nmA A t))))
      have := nmA_le A t
      unfold f_X4_choose_4b f_X4_choose_38
      rw [hB.2.1, leF ht (by omega), s_best hN hB ok ht h3, bd_some, gdI (by omega) (by decide), clI (by omega), gdJ (by omega) (by decide), upd_s, nI_s, nI_s]
      by_cases q : nmA A t = 0
      · rw [if_pos ((enc_n5 (by omega)).mpr q)]
        simp [q]
      · rw [if_neg (fun z => q ((enc_n5 (by omega)).mp z))]
        simp [q]
    · intro j hj
      show va_up S 0 (upd (S 0) t (enc (nmA A t))) 0 j = _
      rw [va_up_self]
      by_cases z : j = t
      · rw [z, upd_s]
      · rw [upd_o _ z]
        exact h3 j (by omega)) N (by omega) (nI 0, nI 0, S) ⟨rfl, rfl, fun j hj => absurd hj (Nat.not_lt_zero j)⟩
  refine ⟨y.2.2, ?_, hy3⟩
  rw [← hy1]
  exact e
def mkA (A : tA) : Nat → Int32
  | 0 => 0
  | t + 1 => mkA A t ||| (if nmA A t = 0 then 0 else (1 : Int32) <<< (enc (nmA A t) &&& 31))
theorem mkA_bt (A : tA) : ∀ t k, k < 10 → bt (mkA A t) k = tkA A t k
  | 0, k, hk => b_0 k
  | t + 1, k, hk => by
    show bt (mkA A t ||| _) k = (tkA A t k || (nmA A t == k + 1))
    rw [b_or, mkA_bt A t k hk]
    congr 1
    have := nmA_le A t
    split
    · next h => rw [b_0, h]; simp
    · next h =>
      obtain ⟨w, hw⟩ : ∃ w, nmA A t = w + 1 := ⟨nmA A t - 1, by omega⟩
      rw [hw, enc_s, bt_sh (by omega) (by omega)]
      by_cases z : k = w
      · simp [z]
      · have : ¬ w = k := fun h => z h.symm
        simp [z, this]
theorem g_nameOf (hN : 1000 ≤ N) (hS : RS (M 0) A) (ok : okA A) {t : Nat} (ht : t < A 5 0) : f_X6_nameOf N M (nI t) = some (enc (nmA A t)) := by
  have o2 := ok.2.1
  -- one theme
  have one : ∀ (k8 : Int32 → Int32 → Int32 → Option Int32) (u : Nat), u ≤ t → f_X6_nameOf_23 N M (nI t) k8 N (mkA A u) (-5) (nI u) 1 0 = k8 (mkA A (u + 1)) (enc (nmA A u)) (nI (u + 1)) := by
    intro k8 u hu
    refine lp_run (F := fun k (q : Int32 × Int32 × Int32) => f_X6_nameOf_23 N M (nI t) k8 k (mkA A u) q.1 (nI u) q.2.1 q.2.2) (s := fun k => (enc (bsA A u (tkA A u) k).1, nI (bsA A u (tkA A u) k).2, nI k)) 10 _ ?_ ?_ N (by omega)
    · intro k
      show f_X6_nameOf_23b N M (nI t) k8 (f_X6_nameOf_23 N M (nI t) k8 k) (mkA A u) (enc (nmA A u)) (nI u) (nI _) (nI 10) = k8 (mkA A u ||| (if nmA A u = 0 then 0 else (1 : Int32) <<< (enc (nmA A u) &&& 31))) (enc (nmA A u)) (nI (u + 1))
      have := nmA_le A u
      unfold f_X6_nameOf_23b f_X6_nameOf_111
      rw [li_10, leT (by omega) (by omega), nI_s]
      by_cases q : nmA A u = 0
      · rw [if_pos ((enc_n5 (by omega)).mpr q), if_pos q]
      · rw [if_neg (fun z => q ((enc_n5 (by omega)).mp z)), if_neg q]
    · intro k j hj
      show f_X6_nameOf_23b N M (nI t) k8 (f_X6_nameOf_23 N M (nI t) k8 k) (mkA A u) (enc (bsA A u (tkA A u) j).1) (nI u) (nI (bsA A u (tkA A u) j).2) (nI j) = f_X6_nameOf_23 N M (nI t) k8 k (mkA A u) (enc (if (bsA A u (tkA A u) j).2 < vtA A u (j + 1) ∧ tkA A u j = false then (j + 1, vtA A u (j + 1)) else bsA A u (tkA A u) j).1) (nI u) (nI (if (bsA A u (tkA A u) j).2 < vtA A u (j + 1) ∧ tkA A u j = false then (j + 1, vtA A u (j + 1)) else bsA A u (tkA A u) j).2) (nI (j + 1))
      have hv : vtA A u (j + 1) ≤ 6 := ct_le _ _
      have hb := bsA_le A u (tkA A u) j
      unfold f_X6_nameOf_23b f_X6_nameOf_56 f_X6_nameOf_57 f_X6_nameOf_77 f_X6_nameOf_90
      simp only [if0, if1, if_true]
      rw [li_10, leF hj (by omega), g_votesFor hN hS ok (by omega) (by omega), bd_some, bd_some, nI_s]
      cases z : tkA A u j with
      | true =>
        rw [if_neg (fun w => by
          have := (bit1 (by omega)).mp w
          rw [mkA_bt A u j hj, z] at this
          cases this), if_neg (fun w => by cases w.2)]
      | false =>
        rw [if_pos ((bit1 (by omega)).mpr (by rw [mkA_bt A u j hj, z]))]
        by_cases q : (bsA A u (tkA A u) j).2 < vtA A u (j + 1)
        · rw [leF q (by omega), if_pos ⟨q, rfl⟩, enc_s]
        · rw [leT (by omega) (by omega), if_neg (fun w => q w.1)]
  have h := lp_run (F := fun k (q : Int32 × Int32 × Int32) => f_X6_nameOf_8 N M (nI t) k q.1 q.2.1 q.2.2) (s := fun u => (mkA A u, (if u = 0 then -5 else enc (nmA A (u - 1))), nI u)) (t + 1) (some (enc (nmA A t))) (by
    intro k
    show f_X6_nameOf_8b N M (nI t) (f_X6_nameOf_8 N M (nI t) k) (mkA A (t + 1)) (enc (nmA A t)) (nI (t + 1)) = _
    unfold f_X6_nameOf_8b
    rw [ltT (by omega) (by omega)]) (by
    intro k u hu
    show f_X6_nameOf_8b N M (nI t) (f_X6_nameOf_8 N M (nI t) k) (mkA A u) _ (nI u) = f_X6_nameOf_8 N M (nI t) k (mkA A (u + 1)) (enc (nmA A u)) (nI (u + 1))
    unfold f_X6_nameOf_8b
    rw [ltF (by omega) (by omega), one _ u (by omega)]) N (by omega)
  exact h
theorem g_named (hN : 1000 ≤ N) (hS : RS (M 0) A) (ok : okA A) : f_X6_named N M = some (nI (ct (fun t => nmA A t != 0) (A 5 0))) := by
  have o2 := ok.2.1
  refine lp_run (F := fun k (q : Int32 × Int32) => f_X6_named_4 N M k q.1 q.2) (s := fun i => (nI (ct (fun t => nmA A t != 0) i), nI i)) (A 5 0) _ ?_ ?_ N (by omega)
  · intro k
    show f_X6_named_4b N M (f_X6_named_4 N M k) (nI _) (nI (A 5 0)) = _
    unfold f_X6_named_4b
    rw [cl_1, hS.2.1, leT (Nat.le_refl _) (by omega)]
  · intro k t ht
    show f_X6_named_4b N M (f_X6_named_4 N M k) (nI _) (nI t) = f_X6_named_4 N M k (nI (ct (fun t => nmA A t != 0) t + (if nmA A t != 0 then 1 else 0))) (nI (t + 1))
    have := nmA_le A t
    unfold f_X6_named_4b f_X6_named_30
    rw [cl_1, hS.2.1, leF ht (by omega), g_nameOf hN hS ok ht, bd_some, nI_s]
    by_cases q : nmA A t = 0
    · rw [if_pos ((enc_n5 (by omega)).mpr q), li_0, nI_add]
      simp [q]
    · rw [if_neg (fun z => q ((enc_n5 (by omega)).mp z)), li_1, nI_add]
      simp [q]
end NAM
theorem up_vote {B M' : tS} {A : tA} (hB : RB B A) (hS : RS (M' 0) A) (ok : okA A) {t p c : Nat} (ht : t < A 5 0) (hp : p < 6) (hc : c ≤ 10) : RelB (va_up B 6 (upd (B 6) (t * 6 + p) (enc c))) (upd (M' 0) (185 + 6 * t + p) (nI c)) (upA A 6 (t * 6 + p) c) := by
  have o2 := ok.2.1
  refine ⟨ok_up ok (by decide) (by decide) (by decide) ⟨fun h => absurd h (by decide), fun h => absurd h (by decide), fun h => absurd h (by decide), fun h => absurd h (by decide), fun _ => hc⟩, RB_up hB (by decide) (by decide) rfl, ?_⟩
  have := RS_up (v := c) ok hS (f := 6) (i := t * 6 + p) (by decide) (by decide) (by unfold vaf; omega)
  rw [show ixf 6 (t * 6 + p) = 185 + 6 * t + p by show 185 + (t * 6 + p) = _; omega] at this
  exact this
theorem m_vote {N : Nat} (hN : 1000 ≤ N) {Tn B Sn Tx Tr E F Nm Bt M : tS} {Hs : tH} (hR : Rel Tn B Hs Sn Tx Tr E F Nm Bt M) (p0 p1 p2 : Int32) : ∃ (r : Int32) (Bz : tS) (Hsz : tH) (Nmz : tS) (Mz : tS), f_X5_vote N Tn B Hs Nm p0 p1 p2 = some (r, Bz, Hsz, Nmz) ∧ f_X6_vote N M p0 p1 p2 = some (r, Mz) ∧ Rel Tn Bz Hsz Sn Tx Tr E F Nmz Bt Mz := by
  have hR0 := hR
  obtain ⟨⟨A, ok, hB, hS⟩, hH, hK, hT⟩ := hR
  have o2 := ok.2.1
  unfold f_X5_vote f_X6_vote
  rcases pers_c N p0 with ⟨e1, e2⟩ | ⟨p, hp, rfl, e1, e2⟩
  · rw [e1, e2, bd_some, bd_some, if0, if0]
    exact ⟨_, _, _, _, _, rfl, rfl, hR0⟩
  rw [e1, e2, bd_some, bd_some, if1, if1]
  rcases theme_c (N := N) hB hS ok p1 with ⟨e1, e2⟩ | ⟨t, ht, rfl, e1, e2⟩
  · rw [e1, e2, bd_some, bd_some, if0, if0]
    exact ⟨_, _, _, _, _, rfl, rfl, hR0⟩
  rw [e1, e2, bd_some, bd_some, if1, if1]
  have bv := ok.2.2.2.2.2.2 t ht p hp
  have key : ∀ c, c ≤ 10 → ∃ (r : Int32) (Bz : tS) (Hsz : tH) (Nmz : tS) (Mz : tS), f_X5_vote_36 N Tn (nI p) (nI t) (enc c) B Hs Nm = some (r, Bz, Hsz, Nmz) ∧ f_X6_vote_47 N (nI p) (nI t) (enc c) (nI c - 1) M = some (r, Mz) ∧ Rel Tn Bz Hsz Sn Tx Tr E F Nmz Bt Mz := by
    intro c hc
    unfold f_X5_vote_36 f_X6_vote_47
    rw [s_voteOf hB ok ht hp, g_voteOf hS ok ht hp, bd_some, bd_some]
    by_cases q : A 6 (t * 6 + p) = c
    · rw [q, if_pos rfl, if_pos rfl]
      exact ⟨_, _, _, _, _, rfl, rfl, hR0⟩
    obtain ⟨Hs', M', r1, r2, r3, r4⟩ := m_rec hN hH ⟨ok, hB, hS⟩
    have hS' : RS (M' 0) A := by rw [r4 0 (by decide) (by decide)]; exact hS
    obtain ⟨ok2, hB2, hS2⟩ := up_vote (M' := M') hB hS' ok ht hp hc
    have h5 : upA A 6 (t * 6 + p) c 5 0 = A 5 0 := upA_o _ _ (Or.inl (by decide))
    have e3 : f_X0_setVote N B (nI p) (nI t) (enc c) = some (va_up B 6 (upd (B 6) (t * 6 + p) (enc c))) := by
      unfold f_X0_setVote
      rw [li_6, pk_mul, nI_add, gdI (by omega) (by decide), clI (by omega)]
    obtain ⟨Nm', e4, hNm⟩ := s_choose hN hB2 ok2 Nm
    have nl := nmA_le (upA A 6 (t * 6 + p) c) t
    rw [if_neg (fun z => q ((enc_eq (by omega) (by omega)).mp z)), if_neg (fun z => q ((m1_eq2 (by omega) (by omega)).mp z)), r1, r2, bd_some, bd_some, e3, bd_some, e4, bd2_some, gdI (by omega) (by decide), clI (by omega), gdJ (by omega) (by decide), hNm t (by rw [h5]; exact ht), show nI c - 1 + 1 = nI c by grind, li_185, li_6, pk_mul, nI_add, nI_add, gdI (by omega) (by decide), clI (by omega), g_nameOf hN (M := va_up M' 0 (upd (M' 0) (185 + 6 * t + p) (nI c))) (by rw [va_up_self]; exact hS2) ok2 (by rw [h5]; exact ht), bd_some]
    have hrel : ∀ Nm', Rel Tn (va_up B 6 (upd (B 6) (t * 6 + p) (enc c))) Hs' Sn Tx Tr E F Nm' Bt (va_up M' 0 (upd (M' 0) (185 + 6 * t + p) (nI c))) := fun Nm' => Rel_mk (M := M) ⟨ok2, hB2, by rw [va_up_self]; exact hS2⟩ r3 r4 (fun k k1 k2 => va_up_ne _ _ (by omega)) hK hT
    by_cases z : nmA (upA A 6 (t * 6 + p) c) t = 0
    · rw [if_pos ((enc_n5 (by omega)).mpr z), if_pos ((enc_n5 (by omega)).mpr z)]
      exact ⟨_, _, _, _, _, rfl, rfl, hrel _⟩
    · rw [if_neg (fun w => z ((enc_n5 (by omega)).mp w)), if_neg (fun w => z ((enc_n5 (by omega)).mp w))]
      exact ⟨_, _, _, _, _, rfl, rfl, hrel _⟩
  by_cases q : p2 = -5
  · subst q
    rw [if_pos rfl, if_pos rfl]
    unfold f_X6_vote_36
    rw [if_pos rfl]
    exact key 0 (by omega)
  · rw [if_neg q, if_neg q]
    rcases name_c N p2 with ⟨e1, e2⟩ | ⟨c, hc, rfl, e1, e2⟩
    · rw [e1, e2, bd_some, bd_some, if0, if0]
      exact ⟨_, _, _, _, _, rfl, rfl, hR0⟩
    rw [e1, e2, bd_some, bd_some, if1, if1]
    unfold f_X6_vote_36
    rw [if_neg q]
    have := key (c + 1) (by omega)
    rw [enc_s, show nI (c + 1) - 1 = nI c by rw [li_1, pk_sub (by omega)]; rfl] at this
    exact this
