/-! theme, count, ifDragged, reachFor (nx_and is the kit's, pasted) -/
theorem nx_and (a b : Nat) : nI a &&& nI b = nI (a &&& b) := by
  apply Int32.toBitVec_inj.1
  show BitVec.ofNat 32 a &&& BitVec.ofNat 32 b = BitVec.ofNat 32 (a &&& b)
  apply BitVec.eq_of_getLsbD_eq
  intro i hi
  simp [hi]
theorem nx_or (a b : Nat) : nI a ||| nI b = nI (a ||| b) := by
  apply Int32.toBitVec_inj.mp
  rw [Int32.toBitVec_or]
  show BitVec.ofNat 32 a ||| BitVec.ofNat 32 b = BitVec.ofNat 32 (a ||| b)
  apply BitVec.eq_of_getLsbD_eq
  intro i hi
  simp [BitVec.getLsbD_or, BitVec.getLsbD_ofNat, hi]
theorem sh_nI : ∀ l, l < 20 → (1 : Int32) <<< (nI l &&& 31) = nI (2 ^ l) := by decide +kernel
def pcN (n k : Nat) : Nat := ct (fun i => k.testBit i) n
theorem ct_head (p : Nat → Bool) : ∀ n, ct p (n + 1) = (if p 0 then 1 else 0) + ct (fun i => p (i + 1)) n
  | 0 => by
    rw [ct_succ]
    show ct p 0 + _ = _ + ct _ 0
    simp [ct, sm]
  | n + 1 => by
    rw [ct_succ, ct_head p n, ct_succ]
    omega
theorem pc_head (n k : Nat) : pcN (n + 1) k = k % 2 + pcN n (k / 2) := by
  unfold pcN
  rw [ct_head]
  have e : (fun i => k.testBit (i + 1)) = (fun i => (k / 2).testBit i) := by
    funext i
    rw [Nat.testBit_succ]
  rw [e]
  congr 1
  rw [Nat.testBit_zero]
  by_cases q : k % 2 = 1
  · simp [q]
  · have : k % 2 = 0 := by omega
    simp [this]
theorem pc_low : ∀ (n k : Nat), 0 < k → k < 2 ^ n → pcN n (k &&& (k - 1)) + 1 = pcN n k
  | 0, k, h0, h => by
    rw [Nat.pow_zero] at h
    omega
  | n + 1, k, h0, h => by
    rw [pc_head, pc_head]
    have hd : (k &&& (k - 1)) / 2 = (k / 2) &&& ((k - 1) / 2) := by
      apply Nat.eq_of_testBit_eq
      intro i
      rw [Nat.testBit_and, ← Nat.testBit_succ, ← Nat.testBit_succ, ← Nat.testBit_succ, Nat.testBit_and]
    have hm : (k &&& (k - 1)) % 2 = 0 := by
      have : (k &&& (k - 1)).testBit 0 = false := by
        rw [Nat.testBit_and, Nat.testBit_zero, Nat.testBit_zero]
        by_cases q : k % 2 = 1
        · have : ¬ (k - 1) % 2 = 1 := by omega
          simp [this]
        · simp [q]
      rw [Nat.testBit_zero] at this
      have := of_decide_eq_false this
      omega
    rw [hd, hm]
    by_cases q : k % 2 = 1
    · have e : (k - 1) / 2 = k / 2 := by omega
      rw [e, Nat.and_self, q]
      omega
    · have e : (k - 1) / 2 = k / 2 - 1 := by omega
      have z : k % 2 = 0 := by omega
      rw [e, z]
      have := pc_low n (k / 2) (by omega) (by
        rw [Nat.pow_succ] at h
        omega)
      omega
theorem ct_ext {p : Nat → Bool} {a : Nat} : ∀ {m : Nat}, a ≤ m → (∀ i, a ≤ i → i < m → p i = false) → ct p m = ct p a
  | 0, h, _ => by rw [show a = 0 by omega]
  | m + 1, h, hp => by
    by_cases q : a = m + 1
    · rw [q]
    · rw [ct_succ, hp m (by omega) (by omega), ct_ext (m := m) (by omega) (fun i h1 h2 => hp i h1 (by omega))]
      rfl
def mskA (A : tA) (h : Nat → Nat) (t : Nat) : Nat → Nat
  | 0 => 0
  | j + 1 => if A 3 j = t + 1 then mskA A h t j ||| 2 ^ h j else mskA A h t j
theorem msk_bit (A : tA) (h : Nat → Nat) (t g : Nat) : ∀ n, (mskA A h t n).testBit g = mtA A h g t n
  | 0 => by
    show (0 : Nat).testBit g = false
    exact Nat.zero_testBit g
  | j + 1 => by
    show (if A 3 j = t + 1 then mskA A h t j ||| 2 ^ h j else mskA A h t j).testBit g = (mtA A h g t j || (h j == g && A 3 j == t + 1))
    by_cases q : A 3 j = t + 1
    · rw [if_pos q, Nat.testBit_or, msk_bit A h t g j, Nat.testBit_two_pow]
      congr 1
      by_cases z : h j = g
      · simp [z, q]
      · simp [z]
    · rw [if_neg q, msk_bit A h t g j]
      simp [q]
theorem msk_lt (A : tA) {h : Nat → Nat} (t : Nat) : ∀ {n : Nat}, (∀ j, j < n → h j < 20) → mskA A h t n < 2 ^ 20
  | 0, _ => by
    show 0 < 2 ^ 20
    omega
  | j + 1, hh => by
    have ih := msk_lt A t (n := j) (fun i hi => hh i (by omega))
    unfold mskA
    split
    · exact Nat.or_lt_two_pow ih (Nat.pow_lt_pow_right (by omega) (hh j (by omega)))
    · exact ih
section THM
variable {N : Nat} {B M Tn E : tS} {A : tA}
theorem s_heapsOf (hN : 1000 ≤ N) (hB : RB B A) (ok : okA A) {S : tS} {num : Nat} {h : Nat → Nat} (hE : HE S (A 0 0) num h) (hh : ∀ i, i < A 0 0 → h i < 1000) (hnum : num ≤ 20) {t : Nat} (ht : t < 1000) : f_X5_heapsOfTheme_10 N Tn B (nI t) N (nI num) 0 0 S = some (nI (ct (fun g => mtA A h g t (A 0 0)) num), S) := by
  refine lp_run (F := fun k (q : Int32 × Int32) => f_X5_heapsOfTheme_10 N Tn B (nI t) k (nI num) q.1 q.2 S) (s := fun i => (nI (ct (fun g => mtA A h g t (A 0 0)) i), nI i)) num _ ?_ ?_ N (by omega)
  · intro k
    show f_X5_heapsOfTheme_10b N Tn B (nI t) (f_X5_heapsOfTheme_10 N Tn B (nI t) k) (nI num) (nI _) (nI num) S = _
    unfold f_X5_heapsOfTheme_10b
    rw [leT (Nat.le_refl _) (by omega)]
  · intro k g hg
    show f_X5_heapsOfTheme_10b N Tn B (nI t) (f_X5_heapsOfTheme_10 N Tn B (nI t) k) (nI num) (nI _) (nI g) S = f_X5_heapsOfTheme_10 N Tn B (nI t) k (nI num) (nI (ct (fun g => mtA A h g t (A 0 0)) g + (if mtA A h g t (A 0 0) then 1 else 0))) (nI (g + 1)) S
    unfold f_X5_heapsOfTheme_10b f_X5_heapsOfTheme_29
    rw [leF hg (by omega), s_meet hN hB ok hE hh (by omega) ht, bd_some, nI_s, nI_s]
    cases z : mtA A h g t (A 0 0) with
    | true => rw [tT, if1, tT]
    | false =>
      rw [tF, if0, tF]
      rfl
end THM
