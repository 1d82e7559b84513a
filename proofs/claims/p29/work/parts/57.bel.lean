/-! themes: belong, merge; names (the rows on bits are the kit's, pasted) -/
def bt (x : Int32) (i : Nat) : Bool := x.toBitVec.getLsbD i
theorem b_ext {x y : Int32} (h : ∀ i, i < 32 → bt x i = bt y i) : x = y := Int32.toBitVec_inj.mp (BitVec.eq_of_getLsbD_eq (fun i hi => h i hi))
theorem b_or (x y : Int32) (i : Nat) : bt (x ||| y) i = (bt x i || bt y i) := by unfold bt; rw [Int32.toBitVec_or, BitVec.getLsbD_or]
theorem b_and (x y : Int32) (i : Nat) : bt (x &&& y) i = (bt x i && bt y i) := by unfold bt; rw [Int32.toBitVec_and, BitVec.getLsbD_and]
theorem b_big {x : Int32} {i : Nat} (h : 32 ≤ i) : bt x i = false := BitVec.getLsbD_of_ge _ _ h
theorem b_0 (i : Nat) : bt 0 i = false := BitVec.getLsbD_zero
theorem s_l : ∀ n, n < 32 → ((nI n &&& 31).toBitVec.smod 32).toNat = n := by decide +kernel
theorem b_shl (n : Nat) (hn : n < 32) (x : Int32) {i : Nat} (hi : i < 32) : bt (x <<< (nI n &&& 31)) i = (decide (n ≤ i) && bt x (i - n)) := by
  unfold bt
  rw [Int32.toBitVec_shiftLeft]
  show (x.toBitVec <<< ((nI n &&& 31).toBitVec.smod 32).toNat).getLsbD i = _
  rw [s_l n hn, BitVec.getLsbD_shiftLeft]
  rcases Nat.lt_or_ge i n with h | h
  · simp [h, Nat.not_le.mpr h]
  · simp [hi, h, Nat.not_lt.mpr h]
theorem b_sshr (n : Nat) (hn : n < 32) (x : Int32) {i : Nat} (hi : i < 32) : bt (x >>> (nI n &&& 31)) i = if n + i < 32 then bt x (n + i) else bt x 31 := by
  unfold bt
  rw [Int32.toBitVec_shiftRight]
  show (x.toBitVec.sshiftRight ((nI n &&& 31).toBitVec.smod 32).toNat).getLsbD i = _
  rw [s_l n hn, BitVec.getLsbD_sshiftRight, BitVec.msb_eq_getLsbD_last]
  simp [hi]
theorem b_1 : ∀ i, i < 32 → bt 1 i = decide (i = 0) := by decide +kernel
theorem bit1 {m : Int32} {k : Nat} (hk : k < 32) : ((m >>> (nI k &&& 31)) &&& 1) = 0 ↔ bt m k = false := by
  constructor
  · intro h
    have := congrArg (fun x => bt x 0) h
    simp only [b_and, b_0, b_sshr k hk _ (show 0 < 32 by decide), b_1 0 (by decide)] at this
    simpa [hk] using this
  · intro h
    refine b_ext (fun i hi => ?_)
    rw [b_and, b_0, b_1 i hi]
    by_cases z : i = 0
    · subst z
      rw [b_sshr k hk _ hi]
      simp [hk, h]
    · simp [z]
theorem bt_sh {j i : Nat} (hj : j < 32) (hi : i < 32) : bt ((1 : Int32) <<< (nI j &&& 31)) i = decide (i = j) := by
  rw [b_shl j hj _ hi]
  by_cases h : j ≤ i
  · rw [b_1 _ (by omega)]
    by_cases z : i = j
    · simp [z]
    · have : ¬ i - j = 0 := by omega
      simp [h, z, this]
  · have : ¬ i = j := by omega
    simp [h, this]
/-- any -/
def anyB (p : Nat → Bool) : Nat → Bool
  | 0 => false
  | n + 1 => anyB p n || p n
theorem anyB_f {p : Nat → Bool} : ∀ {n : Nat}, anyB p n = false ↔ ∀ i, i < n → p i = false
  | 0 => ⟨fun _ i hi => absurd hi (Nat.not_lt_zero i), fun _ => rfl⟩
  | n + 1 => by
    show (anyB p n || p n) = false ↔ _
    rw [Bool.or_eq_false_iff, anyB_f (n := n)]
    constructor
    · rintro ⟨h1, h2⟩ i hi
      rcases Nat.lt_or_ge i n with q | q
      · exact h1 i q
      · rw [show i = n by omega]
        exact h2
    · exact fun h => ⟨fun i hi => h i (by omega), h n (by omega)⟩
theorem anyB_t {p : Nat → Bool} {n : Nat} : anyB p n = true ↔ ∃ i, i < n ∧ p i = true := by
  constructor
  · intro h
    apply Classical.byContradiction
    intro q
    have : anyB p n = false := anyB_f.mpr (fun i hi => by
      cases e : p i with
      | false => rfl
      | true => exact absurd ⟨i, hi, e⟩ q)
    rw [this] at h
    cases h
  · rintro ⟨i, hi, e⟩
    cases h : anyB p n with
    | true => rfl
    | false =>
      rw [anyB_f.mp h i hi] at e
      cases e
theorem lp_any {ρ : Type} (F : Nat → Int32 → Option ρ) (p : Nat → Bool) (n : Nat) (yes no : Option ρ) (hend : ∀ k, F (k + 1) (nI n) = no) (hstep : ∀ k i, i < n → F (k + 1) (nI i) = if p i = true then yes else F k (nI (i + 1))) : ∀ N, n < N → F N (nI 0) = if anyB p n = true then yes else no := by
  have key : ∀ (d i N : Nat), i + d = n → d < N → anyB p i = false → F N (nI i) = if anyB p n = true then yes else no := by
    intro d
    induction d with
    | zero =>
      intro i N h1 h2 h3
      obtain ⟨k, rfl⟩ : ∃ k, N = k + 1 := ⟨N - 1, by omega⟩
      rw [show i = n by omega] at h3 ⊢
      rw [hend k, h3]
      simp
    | succ d ih =>
      intro i N h1 h2 h3
      obtain ⟨k, rfl⟩ : ∃ k, N = k + 1 := ⟨N - 1, by omega⟩
      rw [hstep k i (by omega)]
      cases e : p i with
      | true =>
        rw [if_pos rfl, if_pos (anyB_t.mpr ⟨i, by omega, e⟩)]
      | false =>
        rw [if_neg (by simp)]
        exact ih (i + 1) k (by omega) (by omega) (by show (anyB p i || p i) = false; rw [h3, e]; rfl)
  intro N hN
  exact key n 0 N (by omega) hN rfl
section BEL
variable {N : Nat} {Tn B Sn Tx Tr E F Nm Bt M : tS} {Hs : tH}
def mgA (A : tA) (a b : Nat) : tA := fun f j => if f = 3 then (if A 3 j = b + 1 then a + 1 else A 3 j) else if f = 6 ∧ a * 6 ≤ j ∧ j < a * 6 + 6 then (if A 6 j = 0 then A 6 (b * 6 + (j - a * 6)) else A 6 j) else A f j
theorem mgA_3 (A : tA) (a b j : Nat) : mgA A a b 3 j = if A 3 j = b + 1 then a + 1 else A 3 j := rfl
theorem mgA_6 (A : tA) (a b j : Nat) : mgA A a b 6 j = if a * 6 ≤ j ∧ j < a * 6 + 6 then (if A 6 j = 0 then A 6 (b * 6 + (j - a * 6)) else A 6 j) else A 6 j := by simp [mgA]
theorem mgA_o (A : tA) (a b : Nat) {f j : Nat} (h3 : f ≠ 3) (h6 : f ≠ 6) : mgA A a b f j = A f j := by simp [mgA, h3, h6]
theorem va_cpyN {f g : Nat → Int32} {p q i : Nat} (e : f (p + i) = g (q + i)) : va_cpy f g p q i = va_cpy f g p q (i + 1) := by
  rw [← va_cpyS, e]
  funext j
  unfold upd
  by_cases z : j = q + i
  · rw [if_pos z, z, va_cpy_out (by omega)]
  · rw [if_neg z]
theorem ok_mg {A : tA} (ok : okA A) {a b : Nat} (ha : a < A 5 0) (hb : b < A 5 0) : okA (mgA A a b) := by
  obtain ⟨o1, o2, o3, o4, o5, o6, o8⟩ := ok
  refine ⟨o1, o2, o3, o4, o5, fun i hi => ?_, fun t ht p hp => ?_⟩
  · obtain ⟨x, y, z, w⟩ := o6 i hi
    refine ⟨x, y, ?_, w⟩
    show _ ≤ A 5 0
    rw [mgA_3]
    split <;> omega
  · rw [mgA_6]
    split
    · next q =>
      have e : t = a := by omega
      subst e
      split
      · have := o8 b hb p hp
        rw [show b * 6 + (t * 6 + p - t * 6) = b * 6 + p by omega]
        exact this
      · exact o8 t ht p hp
    · exact o8 t ht p hp
def mgB (B : tS) (a b : Nat) : Nat → Int32 := fun j => if B 3 j = nI b then nI a else B 3 j
def mvB (B : tS) (a b : Nat) : Nat → Int32 := fun j => if B 6 (a * 6 + j) = -5 then B 6 (b * 6 + j) else B 6 (a * 6 + j)
theorem s_merge (hN : 1000 ≤ N) {A : tA} (hB : RB B A) (ok : okA A) {a b : Nat} (ha : a < A 5 0) (hb : b < A 5 0) (hab : a ≠ b) : ∃ B1, f_X0_mergeThemes N B (nI a) (nI b) = (bd (f_X0_removeThemeIfEmpty N B1 (nI b)) (fun B2 => some B2)) ∧ RB B1 (mgA A a b) := by
  obtain ⟨h1, h2, h3, h4, h6⟩ := hB
  have o1 := ok.1
  have o2 := ok.2.1
  refine ⟨va_up (va_up B 3 (prg (B 3) (mgB B a b) (A 0 0))) 6 (va_cpy (mvB B a b) (B 6) 0 (a * 6) 6), ?_, ?_⟩
  · have hv := lp_run (F := fun k (x : Int32 × tS) => f_X0_mergeThemes_35 N (nI a) (nI b) k x.1 x.2) (s := fun p => (nI p, va_up (va_up B 3 (prg (B 3) (mgB B a b) (A 0 0))) 6 (va_cpy (mvB B a b) (B 6) 0 (a * 6) p))) 6 (bd (f_X0_removeThemeIfEmpty N (va_up (va_up B 3 (prg (B 3) (mgB B a b) (A 0 0))) 6 (va_cpy (mvB B a b) (B 6) 0 (a * 6) 6)) (nI b)) (fun B2 => some B2)) (by
      intro k
      show f_X0_mergeThemes_35b N (nI a) (nI b) (f_X0_mergeThemes_35 N (nI a) (nI b) k) (nI 6) (va_up (va_up B 3 (prg (B 3) (mgB B a b) (A 0 0))) 6 (va_cpy (mvB B a b) (B 6) 0 (a * 6) 6)) = _
      unfold f_X0_mergeThemes_35b
      rw [li_6, leT (by omega) (by omega)]) (by
      intro k p hp
      show f_X0_mergeThemes_35b N (nI a) (nI b) (f_X0_mergeThemes_35 N (nI a) (nI b) k) (nI p) (va_up (va_up B 3 (prg (B 3) (mgB B a b) (A 0 0))) 6 (va_cpy (mvB B a b) (B 6) 0 (a * 6) p)) = f_X0_mergeThemes_35 N (nI a) (nI b) k (nI (p + 1)) (va_up (va_up B 3 (prg (B 3) (mgB B a b) (A 0 0))) 6 (va_cpy (mvB B a b) (B 6) 0 (a * 6) (p + 1)))
      unfold f_X0_mergeThemes_35b f_X0_mergeThemes_64 f_X0_voteOf f_X0_setVote
      rw [li_6, leF hp (by omega), pk_mul, nI_add, pk_mul, nI_add, gdI (by omega) (by decide), clI (by omega), bd_some, gdI (by omega) (by decide), clI (by omega), bd_some, gdJ (by omega) (by decide), bd_some, va_up_self, va_up_up, va_cpy_out (by omega), va_cpy_out (by omega), nI_s]
      by_cases q : B 6 (a * 6 + p) = -5
      · rw [if_pos q, show B 6 (b * 6 + p) = mvB B a b (0 + p) by unfold mvB; rw [Nat.zero_add, if_pos q], va_cpyS]
      · rw [if_neg q, ← va_cpyN (show mvB B a b (0 + p) = B 6 (a * 6 + p) by unfold mvB; rw [Nat.zero_add, if_neg q])]) N (by omega)
    have e0 : va_up (va_up B 3 (prg (B 3) (mgB B a b) (A 0 0))) 6 (va_cpy (mvB B a b) (B 6) 0 (a * 6) 0) = va_up B 3 (prg (B 3) (mgB B a b) (A 0 0)) := va_up_eq (by rw [va_up_ne _ _ (by decide : (6 : Nat) ≠ 3)]; exact va_cpy0 _ _)
    simp only [e0] at hv
    have hw := lp_run (F := fun k (x : Int32 × tS) => f_X0_mergeThemes_2 N (nI a) (nI b) k x.1 x.2) (s := fun i => (nI i, va_up B 3 (prg (B 3) (mgB B a b) i))) (A 0 0) (f_X0_mergeThemes_35 N (nI a) (nI b) N (nI 0) (va_up B 3 (prg (B 3) (mgB B a b) (A 0 0)))) (by
      intro k
      show f_X0_mergeThemes_2b N (nI a) (nI b) (f_X0_mergeThemes_2 N (nI a) (nI b) k) (nI (A 0 0)) (va_up B 3 (prg (B 3) (mgB B a b) (A 0 0))) = _
      unfold f_X0_mergeThemes_2b
      rw [va_up_ne _ _ (by decide : (0 : Nat) ≠ 3), h1, leT (by omega) (by omega)]
      rfl) (by
      intro k i hi
      show f_X0_mergeThemes_2b N (nI a) (nI b) (f_X0_mergeThemes_2 N (nI a) (nI b) k) (nI i) (va_up B 3 (prg (B 3) (mgB B a b) i)) = f_X0_mergeThemes_2 N (nI a) (nI b) k (nI (i + 1)) (va_up B 3 (prg (B 3) (mgB B a b) (i + 1)))
      unfold f_X0_mergeThemes_2b f_X0_mergeThemes_27
      rw [va_up_ne _ _ (by decide : (0 : Nat) ≠ 3), h1, leF hi (by omega), gdI (by omega) (by decide), clI (by omega), gdJ (by omega) (by decide), va_up_self, va_up_up, prg_at, nI_s]
      by_cases q : B 3 i = nI b
      · rw [if_pos q, ← show mgB B a b i = nI a from if_pos q, prg_S]
      · rw [if_neg q, ← prg_N (show mgB B a b i = B 3 i from if_neg q)]) N (by omega)
    simp only [prg_0, va_up_id] at hw
    unfold f_X0_mergeThemes
    rw [show (0 : Int32) = nI 0 from rfl, hw]
    exact hv
  · refine ⟨?_, ?_, fun j hj => ?_, fun i hi => ?_, fun u hu p hp => ?_⟩
    · simp [va_up, mgA]; exact h1
    · simp [va_up, mgA]; exact h2
    · simp [va_up, mgA]; exact h3 j hj
    · have hi' : i < A 0 0 := hi
      obtain ⟨x, y, c, d⟩ := h4 i hi'
      have b3 := (ok.2.2.2.2.2.1 i hi').2.2.1
      refine ⟨by simp [va_up, mgA]; exact x, by simp [va_up, mgA]; exact y, ?_, fun p hp => by simp [va_up, mgA]; exact d p hp⟩
      rw [va_up_ne _ _ (by decide : (3 : Nat) ≠ 6), va_up_self, mgA_3]
      show (if i < A 0 0 then mgB B a b i else B 3 i) = _
      rw [if_pos hi']
      unfold mgB
      rw [c, ← enc_s b, ← enc_s a]
      by_cases q : A 3 i = b + 1
      · rw [if_pos q, if_pos (by rw [q])]
      · rw [if_neg q, if_neg (fun z => q ((enc_eq (by omega) (by omega)).mp z))]
    · have hu' : u < A 5 0 := hu
      rw [va_up_self, mgA_6]
      by_cases q : u = a
      · subst q
        have ba := ok.2.2.2.2.2.2 u ha p hp
        rw [va_cpy_in (by omega) (by omega), if_pos (by omega), show 0 + (u * 6 + p - u * 6) = p by omega, show u * 6 + p - u * 6 = p by omega]
        unfold mvB
        rw [h6 u hu' p hp, h6 b hb p hp]
        by_cases z : A 6 (u * 6 + p) = 0
        · rw [if_pos z, if_pos ((enc_n5 (by omega)).mpr z)]
        · rw [if_neg z, if_neg (fun w => z ((enc_n5 (by omega)).mp w))]
      · rw [va_cpy_out (by omega), if_neg (by omega), h6 u hu' p hp]
def mS (a b : Nat) (s : Nat → Int32) (m : Nat) : Nat → Int32 := fun k => if 7 ≤ k ∧ k < 7 + 9 * m ∧ (k - 7) % 9 = 0 then (if s k - 1 = nI b then nI (a + 1) else s k) else s k
theorem mS_0 (a b : Nat) (s : Nat → Int32) : mS a b s 0 = s := by
  funext k
  unfold mS
  rw [if_neg (by omega)]
def mvS (a b : Nat) (s : Nat → Int32) : Nat → Int32 := fun j => if s (185 + 6 * a + j) ≤ 0 then s (185 + 6 * b + j) else s (185 + 6 * a + j)
end BEL
