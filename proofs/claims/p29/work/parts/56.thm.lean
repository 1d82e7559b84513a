/-! themes that go, notes that go -/
def prg (g h : Nat → Int32) (i : Nat) : Nat → Int32 := fun j => if j < i then h j else g j
theorem prg_0 (g h : Nat → Int32) : prg g h 0 = g := by
  funext j
  simp [prg]
theorem prg_S (g h : Nat → Int32) (i : Nat) : upd (prg g h i) i (h i) = prg g h (i + 1) := by
  funext j
  simp only [prg, upd]
  by_cases q : j = i
  · rw [if_pos q, if_pos (by omega), q]
  · rw [if_neg q]
    by_cases q2 : j < i
    · rw [if_pos q2, if_pos (by omega)]
    · rw [if_neg q2, if_neg (by omega)]
theorem prg_N {g h : Nat → Int32} {i : Nat} (e : h i = g i) : prg g h i = prg g h (i + 1) := by
  funext j
  simp only [prg]
  by_cases q : j = i
  · rw [if_neg (by omega), if_pos (by omega), q, e]
  · by_cases q2 : j < i
    · rw [if_pos q2, if_pos (by omega)]
    · rw [if_neg q2, if_neg (by omega)]
theorem prg_at {g h : Nat → Int32} {i : Nat} : prg g h i i = g i := by simp [prg]
/-- shifting copies in place -/
theorem shS {g : Nat → Int32} {p q i : Nat} (h : q < p) : upd (va_cpy g g p q i) (q + i) (va_cpy g g p q i (p + i)) = va_cpy g g p q (i + 1) := by
  rw [va_cpy_out (by omega : p + i < q ∨ q + i ≤ p + i), va_cpyS]
def dropA (A : tA) (t : Nat) : tA := fun f j => if f = 5 then A 5 0 - 1 else if f = 3 then (if t + 1 < A 3 j then A 3 j - 1 else A 3 j) else if f = 6 ∧ t * 6 ≤ j then A 6 (j + 6) else A f j
theorem ok_drop {A : tA} (ok : okA A) {t : Nat} (ht : t < A 5 0) (hn : ∀ i, i < A 0 0 → A 3 i ≠ t + 1) : okA (dropA A t) := by
  obtain ⟨o1, o2, o3, o4, o5, o6, o8⟩ := ok
  refine ⟨o1, ?_, o3, o4, o5, fun i hi => ?_, fun u hu p hp => ?_⟩
  · show A 5 0 - 1 ≤ 8
    omega
  · obtain ⟨a, b, c, d⟩ := o6 i hi
    have := hn i hi
    refine ⟨a, b, ?_, d⟩
    show (if t + 1 < A 3 i then A 3 i - 1 else A 3 i) ≤ A 5 0 - 1
    split <;> omega
  · have hu' : u < A 5 0 - 1 := hu
    show (if 6 = 5 then A 5 0 - 1 else if 6 = 3 then _ else if 6 = 6 ∧ t * 6 ≤ u * 6 + p then A 6 (u * 6 + p + 6) else A 6 (u * 6 + p)) ≤ 10
    rw [if_neg (by decide), if_neg (by decide)]
    split
    · have := o8 (u + 1) (by omega) p hp
      rw [show (u + 1) * 6 + p = u * 6 + p + 6 by omega] at this
      exact this
    · exact o8 u (by omega) p hp
def dhB (t : Nat) (B : tS) : Nat → Int32 := fun j => if B 3 j ≤ nI t then B 3 j else B 3 j - 1
def dropB (B : tS) (t m : Nat) : tS := va_up (va_up B 3 (prg (B 3) (dhB t B) m)) 6 (B 6)
theorem dv_in {N : Nat} (hN : 1000 ≤ N) {C : tS} {G : Nat → Int32} {t m u : Nat} (k53 : Int32 → tS → Option tS) (p0 : Int32) (hu : u < 7) (hm : t * 6 + m = u * 6) (hC : C 6 = va_cpy G G (t * 6 + 6) (t * 6) m) : f_X0_removeThemeIfEmpty_65 N p0 k53 N (nI u) 0 C = k53 (nI (u + 1)) (va_up C 6 (va_cpy G G (t * 6 + 6) (t * 6) (m + 6))) := by
  have h := lp_run (F := fun k (x : Int32 × tS) => f_X0_removeThemeIfEmpty_65 N p0 k53 k (nI u) x.1 x.2) (s := fun p => (nI p, va_up C 6 (va_cpy G G (t * 6 + 6) (t * 6) (m + p)))) 6 (k53 (nI (u + 1)) (va_up C 6 (va_cpy G G (t * 6 + 6) (t * 6) (m + 6)))) (by
    intro k
    show f_X0_removeThemeIfEmpty_65b N p0 k53 (f_X0_removeThemeIfEmpty_65 N p0 k53 k) (nI u) (nI 6) (va_up C 6 (va_cpy G G (t * 6 + 6) (t * 6) (m + 6))) = _
    unfold f_X0_removeThemeIfEmpty_65b
    rw [li_6, leT (by omega) (by omega), nI_s]) (by
    intro k p hp
    show f_X0_removeThemeIfEmpty_65b N p0 k53 (f_X0_removeThemeIfEmpty_65 N p0 k53 k) (nI u) (nI p) (va_up C 6 (va_cpy G G (t * 6 + 6) (t * 6) (m + p))) = f_X0_removeThemeIfEmpty_65 N p0 k53 k (nI u) (nI (p + 1)) (va_up C 6 (va_cpy G G (t * 6 + 6) (t * 6) (m + (p + 1))))
    unfold f_X0_removeThemeIfEmpty_65b f_X0_voteOf f_X0_setVote
    rw [li_6, leF hp (by omega), li_1, nI_add, pk_mul, nI_add, pk_mul, nI_add, gdI (by omega) (by decide), clI (by omega), bd_some, gdI (by omega) (by decide), clI (by omega), bd_some, va_up_self, va_up_up, nI_add]
    have := shS (g := G) (p := t * 6 + 6) (q := t * 6) (i := m + p) (by omega)
    rw [show (u + 1) * 6 + p = t * 6 + 6 + (m + p) by omega, show u * 6 + p = t * 6 + (m + p) by omega, this]
    rfl) N (by omega)
  have e0 : va_up C 6 (va_cpy G G (t * 6 + 6) (t * 6) (m + 0)) = C := va_up_eq (by rw [hC]; rfl)
  simp only [e0] at h
  exact h
theorem s_drop {N : Nat} (hN : 1000 ≤ N) {B : tS} {A : tA} (hB : RB B A) (ok : okA A) {t : Nat} (ht : t < A 5 0) (hn : ∀ i, i < A 0 0 → A 3 i ≠ t + 1) : ∃ B', f_X0_removeThemeIfEmpty_17 N (nI t) N 0 B = some B' ∧ RB B' (dropA A t) := by
  obtain ⟨h1, h2, h3, h4, h6⟩ := hB
  have o1 := ok.1
  have o2 := ok.2.1
  refine ⟨va_up (va_up (va_up B 3 (prg (B 3) (dhB t B) (A 0 0))) 6 (va_cpy (B 6) (B 6) (t * 6 + 6) (t * 6) ((A 5 0 - 1 - t) * 6))) 5 (fun _ => nI (A 5 0 - 1)), ?_, ?_⟩
  · have hv := lp_run (F := fun k (x : Int32 × tS) => f_X0_removeThemeIfEmpty_53 N (nI t) k x.1 x.2) (s := fun m => (nI (t + m), va_up (va_up B 3 (prg (B 3) (dhB t B) (A 0 0))) 6 (va_cpy (B 6) (B 6) (t * 6 + 6) (t * 6) (m * 6)))) (A 5 0 - 1 - t) (some (va_up (va_up (va_up B 3 (prg (B 3) (dhB t B) (A 0 0))) 6 (va_cpy (B 6) (B 6) (t * 6 + 6) (t * 6) ((A 5 0 - 1 - t) * 6))) 5 (fun _ => nI (A 5 0 - 1)))) (by
      intro k
      show f_X0_removeThemeIfEmpty_53b N (nI t) (f_X0_removeThemeIfEmpty_53 N (nI t) k) (nI (t + (A 5 0 - 1 - t))) (va_up (va_up B 3 (prg (B 3) (dhB t B) (A 0 0))) 6 (va_cpy (B 6) (B 6) (t * 6 + 6) (t * 6) ((A 5 0 - 1 - t) * 6))) = _
      unfold f_X0_removeThemeIfEmpty_53b
      rw [va_up_ne _ _ (by decide : (5 : Nat) ≠ 6), va_up_ne _ _ (by decide : (5 : Nat) ≠ 3), h2, li_1, pk_sub (by omega), leT (by omega) (by omega)]) (by
      intro k m hm
      show f_X0_removeThemeIfEmpty_53b N (nI t) (f_X0_removeThemeIfEmpty_53 N (nI t) k) (nI (t + m)) (va_up (va_up B 3 (prg (B 3) (dhB t B) (A 0 0))) 6 (va_cpy (B 6) (B 6) (t * 6 + 6) (t * 6) (m * 6))) = f_X0_removeThemeIfEmpty_53 N (nI t) k (nI (t + (m + 1))) (va_up (va_up B 3 (prg (B 3) (dhB t B) (A 0 0))) 6 (va_cpy (B 6) (B 6) (t * 6 + 6) (t * 6) ((m + 1) * 6)))
      unfold f_X0_removeThemeIfEmpty_53b
      rw [va_up_ne _ _ (by decide : (5 : Nat) ≠ 6), va_up_ne _ _ (by decide : (5 : Nat) ≠ 3), h2, li_1, pk_sub (by omega), leF (by omega) (by omega), dv_in hN (t := t) (m := m * 6) (u := t + m) (G := B 6) _ _ (by omega) (by omega) (va_up_self _ _ _), va_up_up, show m * 6 + 6 = (m + 1) * 6 by omega]
      rfl) N (by omega)
    have e0 : va_up (va_up B 3 (prg (B 3) (dhB t B) (A 0 0))) 6 (va_cpy (B 6) (B 6) (t * 6 + 6) (t * 6) (0 * 6)) = va_up B 3 (prg (B 3) (dhB t B) (A 0 0)) := va_up_eq (by rw [va_up_ne _ _ (by decide : (6 : Nat) ≠ 3)]; exact va_cpy0 _ _)
    simp only [e0] at hv
    have hw := lp_run (F := fun k (x : Int32 × tS) => f_X0_removeThemeIfEmpty_17 N (nI t) k x.1 x.2) (s := fun i => (nI i, va_up B 3 (prg (B 3) (dhB t B) i))) (A 0 0) (f_X0_removeThemeIfEmpty_53 N (nI t) N (nI t) (va_up B 3 (prg (B 3) (dhB t B) (A 0 0)))) (by
      intro k
      show f_X0_removeThemeIfEmpty_17b N (nI t) (f_X0_removeThemeIfEmpty_17 N (nI t) k) (nI (A 0 0)) (va_up B 3 (prg (B 3) (dhB t B) (A 0 0))) = _
      unfold f_X0_removeThemeIfEmpty_17b
      rw [va_up_ne _ _ (by decide : (0 : Nat) ≠ 3), h1, leT (by omega) (by omega)]) (by
      intro k i hi
      show f_X0_removeThemeIfEmpty_17b N (nI t) (f_X0_removeThemeIfEmpty_17 N (nI t) k) (nI i) (va_up B 3 (prg (B 3) (dhB t B) i)) = f_X0_removeThemeIfEmpty_17 N (nI t) k (nI (i + 1)) (va_up B 3 (prg (B 3) (dhB t B) (i + 1)))
      unfold f_X0_removeThemeIfEmpty_17b f_X0_removeThemeIfEmpty_45
      rw [va_up_ne _ _ (by decide : (0 : Nat) ≠ 3), h1, leF hi (by omega), gdI (by omega) (by decide), clI (by omega), gdJ (by omega) (by decide), gdJ (by omega) (by decide), va_up_self, va_up_up, prg_at, nI_s]
      by_cases q : B 3 i ≤ nI t
      · rw [if_pos q, ← prg_N (show dhB t B i = B 3 i from if_pos q)]
      · rw [if_neg q, ← show dhB t B i = B 3 i - 1 from if_neg q, prg_S]) N (by omega)
    simp only [prg_0, va_up_id] at hw
    rw [show (0 : Int32) = nI 0 from rfl, hw]
    exact hv
  · refine ⟨?_, ?_, fun j hj => ?_, fun i hi => ?_, fun u hu p hp => ?_⟩
    · simp [va_up, dropA]; exact h1
    · simp [va_up, dropA]
    · simp [va_up, dropA]; exact h3 j hj
    · have hi' : i < A 0 0 := hi
      obtain ⟨a, b, c, d⟩ := h4 i hi'
      have b3 := (ok.2.2.2.2.2.1 i hi').2.2.1
      refine ⟨by simp [va_up, dropA]; exact a, by simp [va_up, dropA]; exact b, ?_, fun p hp => by simp [va_up, dropA]; exact d p hp⟩
      rw [va_up_ne _ _ (by decide : (3 : Nat) ≠ 5), va_up_ne _ _ (by decide : (3 : Nat) ≠ 6), va_up_self]
      show (if i < A 0 0 then dhB t B i else B 3 i) = enc (if t + 1 < A 3 i then A 3 i - 1 else A 3 i)
      rw [if_pos hi']
      unfold dhB
      rw [c]
      cases e : A 3 i with
      | zero => rw [if_pos (by rw [I_le, nI_T (by omega)]; simp [enc]), if_neg (by omega)]
      | succ w =>
        rw [e] at b3
        rw [enc_s]
        by_cases q : w ≤ t
        · rw [leT q (by omega), if_neg (by omega)]
          rfl
        · rw [leF (by omega) (by omega), if_pos (by omega), li_1, pk_sub (by omega)]
          obtain ⟨v, rfl⟩ : ∃ v, w = v + 1 := ⟨w - 1, by omega⟩
          rfl
    · have hu' : u < A 5 0 - 1 := hu
      rw [va_up_ne _ _ (by decide : (6 : Nat) ≠ 5), va_up_self]
      show _ = enc (if 6 = 5 then A 5 0 - 1 else if 6 = 3 then _ else if 6 = 6 ∧ t * 6 ≤ u * 6 + p then A 6 (u * 6 + p + 6) else A 6 (u * 6 + p))
      rw [if_neg (by decide), if_neg (by decide)]
      by_cases q : t ≤ u
      · rw [va_cpy_in (by omega) (by omega), if_pos (by omega), show t * 6 + 6 + (u * 6 + p - t * 6) = (u + 1) * 6 + p by omega, h6 (u + 1) (by omega) p hp]
        congr 2
        omega
      · rw [va_cpy_out (by omega), if_neg (by omega), h6 u (by omega) p hp]
def zS (n : Nat) (s : Nat → Int32) : Nat → Int32 := fun j => if j < n then s j else 0
theorem zcp {n : Nat} {s : Nat → Int32} {p q i : Nat} (h : q < p) : upd (va_cpy (zS n s) s p q i) (q + i) (if p + i < n then va_cpy (zS n s) s p q i (p + i) else 0) = va_cpy (zS n s) s p q (i + 1) := by
  rw [va_cpy_out (by omega : p + i < q ∨ q + i ≤ p + i), ← va_cpyS]
  rfl
def dgS (t : Nat) (s : Nat → Int32) (m : Nat) : Nat → Int32 := fun k => if 7 ≤ k ∧ k < 7 + 9 * m ∧ (k - 7) % 9 = 0 then (if s k - 1 ≤ nI t then s k else s k - 1) else s k
theorem dgS_0 (t : Nat) (s : Nat → Int32) : dgS t s 0 = s := by
  funext k
  unfold dgS
  rw [if_neg (by omega)]
/-- a note goes -/
def rmA (A : tA) (i : Nat) : tA := fun f j => if f = 0 then A 0 0 - 1 else if (f = 1 ∨ f = 2 ∨ f = 3) ∧ i ≤ j then A f (j + 1) else if f = 4 ∧ i * 6 ≤ j then A 4 (j + 6) else A f j
theorem rmA_n (A : tA) (i : Nat) : rmA A i 0 0 = A 0 0 - 1 := rfl
theorem rmA_1 (A : tA) {i j : Nat} : rmA A i 1 j = if i ≤ j then A 1 (j + 1) else A 1 j := by simp [rmA]
theorem rmA_2 (A : tA) {i j : Nat} : rmA A i 2 j = if i ≤ j then A 2 (j + 1) else A 2 j := by simp [rmA]
theorem rmA_3 (A : tA) {i j : Nat} : rmA A i 3 j = if i ≤ j then A 3 (j + 1) else A 3 j := by simp [rmA]
theorem rmA_4 (A : tA) {i j : Nat} : rmA A i 4 j = if i * 6 ≤ j then A 4 (j + 6) else A 4 j := by simp [rmA]
theorem ok_rm {A : tA} (ok : okA A) {i : Nat} (hi : i < A 0 0) : okA (rmA A i) := by
  obtain ⟨o1, o2, o3, o4, o5, o6, o8⟩ := ok
  refine ⟨?_, ?_, ?_, ?_, ?_, fun j hj => ?_, fun t ht p hp => ?_⟩
  · show A 0 0 - 1 ≤ 20
    omega
  · simp [rmA]; exact o2
  · simp [rmA]; exact o3
  · simp [rmA]; exact o4
  · simp [rmA]; exact o5
  · have hj' : j < A 0 0 - 1 := hj
    obtain ⟨a, b, c, d⟩ := o6 j (by omega)
    obtain ⟨a', b', c', d'⟩ := o6 (j + 1) (by omega)
    have e5 : rmA A i 5 0 = A 5 0 := by simp [rmA]
    rw [rmA_1, rmA_2, rmA_3, e5]
    refine ⟨by split <;> omega, by split <;> omega, by split <;> omega, fun p hp => ?_⟩
    rw [rmA_4]
    split
    · have := d' p hp
      rw [show (j + 1) * 6 + p = j * 6 + p + 6 by omega] at this
      exact this
    · exact d p hp
  · have ht' : t < A 5 0 := by simpa [rmA] using ht
    simp [rmA]
    exact o8 t ht' p hp
def rmB (B : tS) (i m : Nat) : tS := va_up (va_up (va_up (va_up B 1 (va_cpy (B 1) (B 1) (i + 1) i m)) 2 (va_cpy (B 2) (B 2) (i + 1) i m)) 3 (va_cpy (B 3) (B 3) (i + 1) i m)) 4 (va_cpy (B 4) (B 4) (i * 6 + 6) (i * 6) (m * 6))
theorem rmB_0 (B : tS) (i : Nat) : rmB B i 0 = B := by
  unfold rmB
  funext j
  simp only [va_up, va_cpy0, Nat.zero_mul]
  split
  · next h => rw [h]
  · split
    · next h => rw [h]
    · split
      · next h => rw [h]
      · split
        · next h => rw [h]
        · rfl
theorem s_copyNote {N : Nat} (hN : 1000 ≤ N) {B : tS} {i m : Nat} (h : i + m + 1 < 20) : f_X0_copyNote N (rmB B i m) (nI (i + m) + 1) (nI (i + m)) = some (rmB B i (m + 1)) := by
  unfold f_X0_copyNote f_X0_moveNote
  rw [nI_s, gdI h (by decide), gdI h (by decide), gdI (by omega) (by decide), gdI (by omega) (by decide), bd_some, gdI h (by decide), gdI (by omega) (by decide), clI (by omega), clI (by omega)]
  have e1 : rmB B i m 1 = va_cpy (B 1) (B 1) (i + 1) i m := by simp [rmB, va_up]
  have e2 : rmB B i m 2 = va_cpy (B 2) (B 2) (i + 1) i m := by simp [rmB, va_up]
  have e3 : rmB B i m 3 = va_cpy (B 3) (B 3) (i + 1) i m := by simp [rmB, va_up]
  have e4 : rmB B i m 4 = va_cpy (B 4) (B 4) (i * 6 + 6) (i * 6) (m * 6) := by simp [rmB, va_up]
  rw [va_up_ne _ _ (by decide : (3 : Nat) ≠ 2), va_up_ne _ _ (by decide : (3 : Nat) ≠ 1), e1, e2, e3]
  have s1 := shS (g := B 1) (p := i + 1) (q := i) (i := m) (by omega)
  have s2 := shS (g := B 2) (p := i + 1) (q := i) (i := m) (by omega)
  have s3 := shS (g := B 3) (p := i + 1) (q := i) (i := m) (by omega)
  rw [show i + 1 + m = i + m + 1 by omega] at s1 s2 s3
  rw [s1, s2, s3]
  have hr := lp_run (F := fun k (x : Int32 × tS) => f_X0_copyNote_31 N (nI (i + m + 1)) (nI (i + m)) k x.1 x.2) (s := fun d => (nI d, va_up (va_up (va_up (va_up (rmB B i m) 1 (va_cpy (B 1) (B 1) (i + 1) i (m + 1))) 2 (va_cpy (B 2) (B 2) (i + 1) i (m + 1))) 3 (va_cpy (B 3) (B 3) (i + 1) i (m + 1))) 4 (va_cpy (B 4) (B 4) (i * 6 + 6) (i * 6) (m * 6 + d)))) 6 (some (rmB B i (m + 1))) (by
    intro k
    show f_X0_copyNote_31b N (nI (i + m + 1)) (nI (i + m)) (f_X0_copyNote_31 N (nI (i + m + 1)) (nI (i + m)) k) (nI 6) (va_up (va_up (va_up (va_up (rmB B i m) 1 (va_cpy (B 1) (B 1) (i + 1) i (m + 1))) 2 (va_cpy (B 2) (B 2) (i + 1) i (m + 1))) 3 (va_cpy (B 3) (B 3) (i + 1) i (m + 1))) 4 (va_cpy (B 4) (B 4) (i * 6 + 6) (i * 6) (m * 6 + 6))) = _
    unfold f_X0_copyNote_31b
    rw [li_6, leT (by omega) (by omega)]
    congr 1
    unfold rmB
    funext j
    simp only [va_up, show (m + 1) * 6 = m * 6 + 6 by omega]
    split
    · rfl
    · split
      · rfl
      · split
        · rfl
        · split <;> rfl) (by
    intro k d hd
    show f_X0_copyNote_31b N (nI (i + m + 1)) (nI (i + m)) (f_X0_copyNote_31 N (nI (i + m + 1)) (nI (i + m)) k) (nI d) (va_up (va_up (va_up (va_up (rmB B i m) 1 (va_cpy (B 1) (B 1) (i + 1) i (m + 1))) 2 (va_cpy (B 2) (B 2) (i + 1) i (m + 1))) 3 (va_cpy (B 3) (B 3) (i + 1) i (m + 1))) 4 (va_cpy (B 4) (B 4) (i * 6 + 6) (i * 6) (m * 6 + d))) = f_X0_copyNote_31 N (nI (i + m + 1)) (nI (i + m)) k (nI (d + 1)) (va_up (va_up (va_up (va_up (rmB B i m) 1 (va_cpy (B 1) (B 1) (i + 1) i (m + 1))) 2 (va_cpy (B 2) (B 2) (i + 1) i (m + 1))) 3 (va_cpy (B 3) (B 3) (i + 1) i (m + 1))) 4 (va_cpy (B 4) (B 4) (i * 6 + 6) (i * 6) (m * 6 + (d + 1))))
    unfold f_X0_copyNote_31b
    rw [li_6, leF hd (by omega), pk_mul, nI_add, pk_mul, nI_add, gdI (by omega) (by decide), gdI (by omega) (by decide), clI (by omega), clI (by omega), va_up_up, va_up_self, nI_s]
    have s4 := shS (g := B 4) (p := i * 6 + 6) (q := i * 6) (i := m * 6 + d) (by omega)
    rw [show (i + m + 1) * 6 + d = i * 6 + 6 + (m * 6 + d) by omega, show (i + m) * 6 + d = i * 6 + (m * 6 + d) by omega, s4]
    rfl) N (by omega)
  have e0 : va_up (va_up (va_up (va_up (rmB B i m) 1 (va_cpy (B 1) (B 1) (i + 1) i (m + 1))) 2 (va_cpy (B 2) (B 2) (i + 1) i (m + 1))) 3 (va_cpy (B 3) (B 3) (i + 1) i (m + 1))) 4 (va_cpy (B 4) (B 4) (i * 6 + 6) (i * 6) (m * 6 + 0)) = va_up (va_up (va_up (rmB B i m) 1 (va_cpy (B 1) (B 1) (i + 1) i (m + 1))) 2 (va_cpy (B 2) (B 2) (i + 1) i (m + 1))) 3 (va_cpy (B 3) (B 3) (i + 1) i (m + 1)) := va_up_eq (by
    rw [va_up_ne _ _ (by decide : (4 : Nat) ≠ 3), va_up_ne _ _ (by decide : (4 : Nat) ≠ 2), va_up_ne _ _ (by decide : (4 : Nat) ≠ 1), e4]
    rfl)
  simp only [e0] at hr
  exact hr
theorem s_rm {N : Nat} (hN : 1000 ≤ N) {B : tS} {A : tA} (hB : RB B A) (ok : okA A) {i : Nat} (hi : i < A 0 0) : ∃ B1, f_X0_removeNote N B (nI i) = (bd (f_X0_removeThemeIfEmpty N B1 (enc (A 3 i))) (fun B2 => some B2)) ∧ RB B1 (rmA A i) := by
  obtain ⟨h1, h2, h3, h4, h6⟩ := hB
  have o1 := ok.1
  refine ⟨va_up (rmB B i (A 0 0 - 1 - i)) 0 (fun _ => nI (A 0 0 - 1)), ?_, ?_⟩
  · unfold f_X0_removeNote
    rw [gdI (by omega) (by decide), clI (by omega), (h4 i hi).2.2.1]
    have hr := lp_run (F := fun k (x : Int32 × tS) => f_X0_removeNote_9 N (nI i) k (enc (A 3 i)) x.1 x.2) (s := fun m => (nI (i + m), rmB B i m)) (A 0 0 - 1 - i) (bd (f_X0_removeThemeIfEmpty N (va_up (rmB B i (A 0 0 - 1 - i)) 0 (fun _ => nI (A 0 0 - 1))) (enc (A 3 i))) (fun B2 => some B2)) (by
      intro k
      show f_X0_removeNote_9b N (nI i) (f_X0_removeNote_9 N (nI i) k) (enc (A 3 i)) (nI (i + (A 0 0 - 1 - i))) (rmB B i (A 0 0 - 1 - i)) = _
      unfold f_X0_removeNote_9b
      rw [show rmB B i (A 0 0 - 1 - i) 0 0 = nI (A 0 0) by simp [rmB, va_up]; exact h1, li_1, pk_sub (by omega), leT (by omega) (by omega)]) (by
      intro k m hm
      show f_X0_removeNote_9b N (nI i) (f_X0_removeNote_9 N (nI i) k) (enc (A 3 i)) (nI (i + m)) (rmB B i m) = f_X0_removeNote_9 N (nI i) k (enc (A 3 i)) (nI (i + (m + 1))) (rmB B i (m + 1))
      unfold f_X0_removeNote_9b
      rw [show rmB B i m 0 0 = nI (A 0 0) by simp [rmB, va_up]; exact h1, show nI (A 0 0) - 1 = nI (A 0 0 - 1) by rw [li_1, pk_sub (by omega)], leF (by omega) (by omega), s_copyNote hN (by omega), bd_some, nI_s]
      rfl) N (by omega)
    simp only [rmB_0] at hr
    exact hr
  · refine ⟨?_, ?_, fun j hj => ?_, fun j hj => ?_, fun t ht p hp => ?_⟩
    · rw [va_up_self, rmA_n]
    · simp [rmB, va_up, rmA]; exact h2
    · simp [rmB, va_up, rmA]; exact h3 j hj
    · have hj' : j < A 0 0 - 1 := hj
      obtain ⟨a, b, c, d⟩ := h4 j (by omega)
      obtain ⟨a', b', c', d'⟩ := h4 (j + 1) (by omega)
      have q1 : va_up (rmB B i (A 0 0 - 1 - i)) 0 (fun _ => nI (A 0 0 - 1)) 1 = va_cpy (B 1) (B 1) (i + 1) i (A 0 0 - 1 - i) := by simp [rmB, va_up]
      have q2 : va_up (rmB B i (A 0 0 - 1 - i)) 0 (fun _ => nI (A 0 0 - 1)) 2 = va_cpy (B 2) (B 2) (i + 1) i (A 0 0 - 1 - i) := by simp [rmB, va_up]
      have q3 : va_up (rmB B i (A 0 0 - 1 - i)) 0 (fun _ => nI (A 0 0 - 1)) 3 = va_cpy (B 3) (B 3) (i + 1) i (A 0 0 - 1 - i) := by simp [rmB, va_up]
      have q4 : va_up (rmB B i (A 0 0 - 1 - i)) 0 (fun _ => nI (A 0 0 - 1)) 4 = va_cpy (B 4) (B 4) (i * 6 + 6) (i * 6) ((A 0 0 - 1 - i) * 6) := by simp [rmB, va_up]
      rw [q1, q2, q3, q4, rmA_1, rmA_2, rmA_3]
      by_cases q : i ≤ j
      · rw [if_pos q, if_pos q, if_pos q, va_cpy_in (by omega) (by omega), va_cpy_in (by omega) (by omega), va_cpy_in (by omega) (by omega), show i + 1 + (j - i) = j + 1 by omega]
        refine ⟨a', b', c', fun p hp => ?_⟩
        rw [rmA_4, if_pos (by omega), va_cpy_in (by omega) (by omega), show i * 6 + 6 + (j * 6 + p - i * 6) = (j + 1) * 6 + p by omega, d' p hp]
        congr 2
        omega
      · rw [if_neg q, if_neg q, if_neg q, va_cpy_out (by omega), va_cpy_out (by omega), va_cpy_out (by omega)]
        refine ⟨a, b, c, fun p hp => ?_⟩
        rw [rmA_4, if_neg (by omega), va_cpy_out (by omega), d p hp]
    · have ht' : t < A 5 0 := by simpa [rmA] using ht
      simp [rmB, va_up, rmA]
      exact h6 t ht' p hp
