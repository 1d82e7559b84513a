/-! names -/
def bsA (A : tA) (t : Nat) (tk : Nat → Bool) : Nat → Nat × Nat
  | 0 => (0, 1)
  | k + 1 => if (bsA A t tk k).2 < vtA A t (k + 1) ∧ tk k = false then (k + 1, vtA A t (k + 1)) else bsA A t tk k
def tkA (A : tA) : Nat → Nat → Bool
  | 0 => fun _ => false
  | t + 1 => fun k => tkA A t k || ((bsA A t (tkA A t) 10).1 == k + 1)
def nmA (A : tA) (t : Nat) : Nat := (bsA A t (tkA A t) 10).1
theorem bsA_le (A : tA) (t : Nat) (tk : Nat → Bool) : ∀ k, (bsA A t tk k).1 ≤ k ∧ (bsA A t tk k).2 ≤ 6
  | 0 => ⟨Nat.le_refl _, by show 1 ≤ 6; omega⟩
  | k + 1 => by
    have h := bsA_le A t tk k
    have hv : vtA A t (k + 1) ≤ 6 := ct_le _ _
    show (if _ then _ else _ : Nat × Nat).1 ≤ _ ∧ (if _ then _ else _ : Nat × Nat).2 ≤ _
    split
    · exact ⟨Nat.le_refl _, hv⟩
    · exact ⟨by omega, h.2⟩
theorem nmA_le (A : tA) (t : Nat) : nmA A t ≤ 10 := (bsA_le A t _ 10).1
theorem tkA_any (A : tA) (k : Nat) : ∀ t, tkA A t k = anyB (fun j => nmA A j == k + 1) t
  | 0 => rfl
  | t + 1 => by
    show (tkA A t k || (nmA A t == k + 1)) = (anyB (fun j => nmA A j == k + 1) t || (nmA A t == k + 1))
    rw [tkA_any A k t]
theorem tT {α : Type} {a b : α} : (if true = true then a else b) = a := if_pos rfl
theorem tF {α : Type} {a b : α} : (if false = true then a else b) = b := if_neg (fun h => by cases h)
section NAM
variable {N : Nat} {B M S : tS} {A : tA}
theorem s_taken (hN : 1000 ≤ N) {t k : Nat} (ht : t ≤ 8) (hk : k < 10) (hS : ∀ j, j < t → S 0 j = enc (nmA A j)) : f_X4_isTaken N S (nI k) (nI t) = some (if tkA A t k = true then 1 else 0) := by
  have h := lp_any (F := fun n x => f_X4_isTaken_2 N S (nI k) (nI t) n x) (fun j => nmA A j == k + 1) t (some (1 : Int32)) (some (0 : Int32)) (by
    intro n
    show f_X4_isTaken_2b N S (nI k) (nI t) (f_X4_isTaken_2 N S (nI k) (nI t) n) (nI t) = _
    unfold f_X4_isTaken_2b
    rw [leT (Nat.le_refl _) (by omega)]) (by
    intro n j hj
    show f_X4_isTaken_2b N S (nI k) (nI t) (f_X4_isTaken_2 N S (nI k) (nI t) n) (nI j) = _
    have := nmA_le A j
    unfold f_X4_isTaken_2b
    rw [leF hj (by omega), gdI (by omega) (by decide), clI (by omega), hS j hj, ← enc_s k, nI_s]
    by_cases q : nmA A j = k + 1
    · rw [if_pos (by rw [q]), if_pos (by simp [q])]
    · rw [if_neg (fun z => q ((enc_eq (by omega) (by omega)).mp z)), if_neg (by simp [q])]) N (by omega)
  unfold f_X4_isTaken
  rw [show (0 : Int32) = nI 0 from rfl, h, tkA_any]
  split <;> rfl
theorem s_best (hN : 1000 ≤ N) (hB : RB B A) (ok : okA A) {t : Nat} (ht : t < A 5 0) (hS : ∀ j, j < t → S 0 j = enc (nmA A j)) : f_X4_bestName N S B (nI t) = some (enc (nmA A t)) := by
  have o2 := ok.2.1
  refine lp_run (F := fun k (q : Int32 × Int32 × Int32) => f_X4_bestName_9 N S B (nI t) k q.1 q.2.1 q.2.2) (s := fun k => (enc (bsA A t (tkA A t) k).1, nI (bsA A t (tkA A t) k).2, nI k)) 10 _ ?_ ?_ N (by omega)
  · intro k
    show f_X4_bestName_9b N S B (nI t) (f_X4_bestName_9 N S B (nI t) k) (enc (bsA A t (tkA A t) 10).1) (nI (bsA A t (tkA A t) 10).2) (nI 10) = _
    unfold f_X4_bestName_9b
    rw [li_10, leT (by omega) (by omega)]
    rfl
  · intro k j hj
    show f_X4_bestName_9b N S B (nI t) (f_X4_bestName_9 N S B (nI t) k) (enc (bsA A t (tkA A t) j).1) (nI (bsA A t (tkA A t) j).2) (nI j) = f_X4_bestName_9 N S B (nI t) k (enc (if (bsA A t (tkA A t) j).2 < vtA A t (j + 1) ∧ tkA A t j = false then (j + 1, vtA A t (j + 1)) else bsA A t (tkA A t) j).1) (nI (if (bsA A t (tkA A t) j).2 < vtA A t (j + 1) ∧ tkA A t j = false then (j + 1, vtA A t (j + 1)) else bsA A t (tkA A t) j).2) (nI (j + 1))
    have hv : vtA A t (j + 1) ≤ 6 := ct_le _ _
    have hb := bsA_le A t (tkA A t) j
    have e := s_votesFor hN hB ok ht (c := j + 1) (by omega)
    rw [enc_s] at e
    unfold f_X4_bestName_9b f_X4_bestName_49
    rw [li_10, leF hj (by omega), e, bd_some, s_taken hN (by omega) hj hS, bd_some, nI_s]
    by_cases q : (bsA A t (tkA A t) j).2 < vtA A t (j + 1)
    · rw [leF q (by omega)]
      cases z : tkA A t j with
      | true => rw [tT, if1, if_neg (fun w => by cases w.2)]
      | false => rw [tF, if0, if_pos ⟨q, rfl⟩, enc_s]
    · rw [leT (by omega) (by omega), if_neg (fun z => q z.1)]
theorem s_choose (hN : 1000 ≤ N) (hB : RB B A) (ok : okA A) (S : tS) : ∃ S', f_X4_choose N S B = some (nI (ct (fun t => nmA A t != 0) (A 5 0)), S') ∧ ∀ j, j < A 5 0 → S' 0 j = enc (nmA A j) := by
  have o2 := ok.2.1
  obtain ⟨y, ⟨hy1, hy2, hy3⟩, e⟩ := lp_to (F := fun k (q : Int32 × Int32 × tS) => f_X4_choose_4 N B k q.1 q.2.1 q.2.2) (fun t q => q.1 = nI (ct (fun t => nmA A t != 0) t) ∧ q.2.1 = nI t ∧ ∀ j, j < t → q.2.2 0 j = enc (nmA A j)) (A 5 0) (fun q => some (q.1, q.2.2)) (by
    rintro k ⟨x, i, S⟩ ⟨h1, h2, h3⟩
    simp only at h1 h2 h3
    subst h1 h2
    show f_X4_choose_4b N B (f_X4_choose_4 N B k) (nI _) (nI (A 5 0)) S = _
    unfold f_X4_choose_4b
    rw [hB.2.1, leT (Nat.le_refl _) (by omega)]) (by
    rintro k t ⟨x, i, S⟩ ht ⟨h1, h2, h3⟩
    simp only at h1 h2 h3
    subst h1 h2
    refine ⟨(nI (ct (fun t => nmA A t != 0) (t + 1)), nI (t + 1), va_up S 0 (upd (S 0) t (enc (nmA A t)))), ?_, rfl, rfl, ?_⟩
    · show f_X4_choose_4b N B (f_X4_choose_4 N B k) (nI _) (nI t) S = f_X4_choose_4 N B k (nI (ct (fun t => nmA A t != 0) t + (if nmA A t != 0 then 1 else 0))) (nI (t + 1)) (va_up S 0 (upd (S 0) t (enc (nmA A t))))
      have := nmA_le A t
      unfold f_X4_choose_4b f_X4_choose_38
      rw [hB.2.1, leF ht (by omega), s_best hN hB ok ht h3, bd_some, gdI (by omega) (by decide), clI (by omega), gdJ (by omega) (by decide), upd_s, nI_s, nI_s]
      by_cases q : nmA A t = 0
      · rw [if_pos ((enc_n5 (by omega)).mpr q)]
        simp [q]
      · rw [if_neg (fun z => q ((enc_n5 (by omega)).mp z))]
        simp [q]
    · intro j hj
      show va_up S 0 (upd (S 0) t (enc (nmA A t))) 0 j = _
      rw [va_up_self]
      by_cases z : j = t
      · rw [z, upd_s]
      · rw [upd_o _ z]
        exact h3 j (by omega)) N (by omega) (nI 0, nI 0, S) ⟨rfl, rfl, fun j hj => absurd hj (Nat.not_lt_zero j)⟩
  refine ⟨y.2.2, ?_, hy3⟩
  rw [← hy1]
  exact e
def mkA (A : tA) : Nat → Int32
  | 0 => 0
  | t + 1 => mkA A t ||| (if nmA A t = 0 then 0 else (1 : Int32) <<< (enc (nmA A t) &&& 31))
theorem mkA_bt (A : tA) : ∀ t k, k < 10 → bt (mkA A t) k = tkA A t k
  | 0, k, hk => b_0 k
  | t + 1, k, hk => by
    show bt (mkA A t ||| _) k = (tkA A t k || (nmA A t == k + 1))
    rw [b_or, mkA_bt A t k hk]
    congr 1
    have := nmA_le A t
    split
    · next h => rw [b_0, h]; simp
    · next h =>
      obtain ⟨w, hw⟩ : ∃ w, nmA A t = w + 1 := ⟨nmA A t - 1, by omega⟩
      rw [hw, enc_s, bt_sh (by omega) (by omega)]
      by_cases z : k = w
      · simp [z]
      · have : ¬ w = k := fun h => z h.symm
        simp [z, this]
end NAM
