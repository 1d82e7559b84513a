/-! numbers, guards, loops -/
def enc : Nat → Int32
  | 0 => -5
  | t + 1 => nI t
theorem gdI {ρ : Type} {i n : Nat} {T : Option ρ} (h : i < n) (hn : n < 2147483648) : (if nI i < 0 ∨ n ≤ (nI i).toNatClampNeg then none else T) = T := if_neg (vp_in_nI h hn)
theorem gdJ {ρ : Type} {i n : Nat} {T : Option ρ} (h : i < n) (hn : n < 2147483648) : (if nI i < 0 ∨ n ≤ i then none else T) = T := by
  rw [if_neg]
  intro q
  rcases q with q | q
  · exact nI_pos (by omega) q
  · omega
theorem clI {i : Nat} (h : i < 2147483648) : (nI i).toNatClampNeg = i := nI_clamp h
theorem lp_run {ρ σ : Type} (F : Nat → σ → Option ρ) (s : Nat → σ) (n : Nat) (out : Option ρ) (hend : ∀ k, F (k + 1) (s n) = out) (hstep : ∀ k i, i < n → F (k + 1) (s i) = F k (s (i + 1))) : ∀ (N : Nat), n < N → F N (s 0) = out := by
  have key : ∀ (d i N : Nat), i + d = n → d < N → F N (s i) = out := by
    intro d
    induction d with
    | zero =>
      intro i N h1 h2
      obtain ⟨k, rfl⟩ : ∃ k, N = k + 1 := ⟨N - 1, by omega⟩
      rw [show i = n by omega]
      exact hend k
    | succ d ih =>
      intro i N h1 h2
      obtain ⟨k, rfl⟩ : ∃ k, N = k + 1 := ⟨N - 1, by omega⟩
      rw [hstep k i (by omega)]
      exact ih (i + 1) k (by omega) (by omega)
  intro N hN
  exact key n 0 N (by omega) hN
/-- a loop that may leave early: at step i, if e i, with x i -/
theorem lp_find {ρ σ : Type} (F : Nat → σ → Option ρ) (s : Nat → σ) (n : Nat) (out : Option ρ) (i0 : Nat) (h0 : i0 ≤ n) (hend : ∀ k, F (k + 1) (s i0) = out) (hstep : ∀ k i, i < i0 → F (k + 1) (s i) = F k (s (i + 1))) : ∀ (N : Nat), n < N → F N (s 0) = out := fun N hN => lp_run F s i0 out hend hstep N (by omega)
/-- sums and counts below n -/
def sm (f : Nat → Nat) : Nat → Nat
  | 0 => 0
  | n + 1 => sm f n + f n
def ct (p : Nat → Bool) (n : Nat) : Nat := sm (fun i => if p i then 1 else 0) n
theorem sm_congr {f g : Nat → Nat} : ∀ {n : Nat}, (∀ i, i < n → f i = g i) → sm f n = sm g n
  | 0, _ => rfl
  | n + 1, h => by
    show sm f n + f n = sm g n + g n
    rw [sm_congr (fun i hi => h i (by omega)), h n (by omega)]
theorem sm_le {f : Nat → Nat} {c : Nat} : ∀ {n : Nat}, (∀ i, i < n → f i ≤ c) → sm f n ≤ n * c
  | 0, _ => by simp [sm]
  | n + 1, h => by
    have h1 := sm_le (f := f) (c := c) (n := n) (fun i hi => h i (by omega))
    have h2 := h n (by omega)
    show sm f n + f n ≤ (n + 1) * c
    rw [Nat.succ_mul]
    omega
theorem ct_le (p : Nat → Bool) (n : Nat) : ct p n ≤ n := by
  have h := sm_le (f := fun i => if p i then 1 else 0) (c := 1) (n := n) (fun i _ => by split <;> omega)
  simpa [ct] using h
theorem ct_congr {p q : Nat → Bool} {n : Nat} (h : ∀ i, i < n → p i = q i) : ct p n = ct q n := sm_congr (fun i hi => by rw [h i hi])
theorem ct_succ (p : Nat → Bool) (n : Nat) : ct p (n + 1) = ct p n + (if p n then 1 else 0) := rfl
theorem ct_zero {p : Nat → Bool} : ∀ {n : Nat}, ct p n = 0 ↔ ∀ i, i < n → p i = false
  | 0 => ⟨fun _ i hi => absurd hi (Nat.not_lt_zero i), fun _ => rfl⟩
  | n + 1 => by
    rw [ct_succ, Nat.add_eq_zero_iff, ct_zero (n := n)]
    constructor
    · rintro ⟨h1, h2⟩ i hi
      rcases Nat.lt_or_ge i n with q | q
      · exact h1 i q
      · rw [show i = n by omega]
        cases hp : p n with
        | false => rfl
        | true => rw [hp] at h2; simp at h2
    · intro h
      exact ⟨fun i hi => h i (by omega), by rw [h n (by omega)]; rfl⟩
theorem li_0 : (0 : Int32) = nI 0 := rfl
theorem li_1 : (1 : Int32) = nI 1 := rfl
theorem li_2 : (2 : Int32) = nI 2 := rfl
theorem li_3 : (3 : Int32) = nI 3 := rfl
theorem li_4 : (4 : Int32) = nI 4 := rfl
theorem li_5 : (5 : Int32) = nI 5 := rfl
theorem li_6 : (6 : Int32) = nI 6 := rfl
theorem li_8 : (8 : Int32) = nI 8 := rfl
theorem li_9 : (9 : Int32) = nI 9 := rfl
theorem li_10 : (10 : Int32) = nI 10 := rfl
theorem li_19 : (19 : Int32) = nI 19 := rfl
theorem li_20 : (20 : Int32) = nI 20 := rfl
theorem li_29 : (29 : Int32) = nI 29 := rfl
theorem nI_T {n : Nat} (h : n < 2147483648) : (nI n).toInt = (n : Int) := nI_toInt h
theorem nI_inj {a b : Nat} (ha : a < 2147483648) (hb : b < 2147483648) (h : nI a = nI b) : a = b := (nI_eq ha hb).mp h
theorem enc_T {t : Nat} (h : t < 2147483648) : (enc t).toInt = if t = 0 then -5 else (t : Int) - 1 := by
  cases t with
  | zero => rfl
  | succ t => simp only [enc]; rw [nI_T (by omega)]; simp
theorem enc_inj {a b : Nat} (ha : a < 2147483648) (hb : b < 2147483648) (h : enc a = enc b) : a = b := by
  have := congrArg Int32.toInt h
  rw [enc_T ha, enc_T hb] at this
  split at this <;> split at this <;> omega
/-- an int against the numbers below n -/
theorem ix3 (x : Int32) (n : Nat) (hn : n < 2147483648) : x.toInt < 0 ∨ (n : Int) ≤ x.toInt ∨ ∃ j, j < n ∧ x = nI j := by
  rcases pk_ix x hn with h | h | h
  · left; simpa [Int32.lt_iff_toInt_lt] using h
  · right; left; rw [Int32.le_iff_toInt_le, nI_T hn] at h; exact h
  · right; right; exact h
theorem I_le (x y : Int32) : x ≤ y ↔ x.toInt ≤ y.toInt := Int32.le_iff_toInt_le
theorem I_lt (x y : Int32) : x < y ↔ x.toInt < y.toInt := Int32.lt_iff_toInt_lt
theorem I_0 : (0 : Int32).toInt = 0 := rfl
theorem leT {ρ : Type} {a b : Nat} {X Y : ρ} (h : a ≤ b) (hb : b < 2147483648) : (if nI a ≤ nI b then X else Y) = X := if_pos (nI_le h hb)
theorem leF {ρ : Type} {a b : Nat} {X Y : ρ} (h : b < a) (ha : a < 2147483648) : (if nI a ≤ nI b then X else Y) = Y := if_neg (nI_ge h ha)
theorem ltT {ρ : Type} {a b : Nat} {X Y : ρ} (h : a < b) (hb : b < 2147483648) : (if nI a < nI b then X else Y) = X := if_pos (nI_lt h hb)
theorem ltF {ρ : Type} {a b : Nat} {X Y : ρ} (h : b ≤ a) (ha : a < 2147483648) : (if nI a < nI b then X else Y) = Y := if_neg (nI_nlt h ha)
theorem eqT {ρ : Type} {a b : Nat} {X Y : ρ} (h : a = b) : (if nI a = nI b then X else Y) = X := if_pos (by rw [h])
theorem eqF {ρ : Type} {a b : Nat} {X Y : ρ} (h : a ≠ b) (ha : a < 2147483648) (hb : b < 2147483648) : (if nI a = nI b then X else Y) = Y := if_neg (fun q => h (nI_inj ha hb q))
theorem lt0F {ρ : Type} {a : Nat} {X Y : ρ} (ha : a < 2147483648) : (if nI a < 0 then X else Y) = Y := if_neg (nI_pos ha)
theorem ge0T {ρ : Type} {a : Nat} {X Y : ρ} (ha : a < 2147483648) : (if 0 ≤ nI a then X else Y) = X := if_pos (nI_pos' ha)
theorem nI_s (a : Nat) : nI a + 1 = nI (a + 1) := nI_1 a
def ad (a b : Nat) : Nat := if a < b then b - a else a - b
theorem abs_nI {a b : Nat} (ha : a < 1000000) (hb : b < 1000000) : (if 0 ≤ nI a - nI b then nI a - nI b else 0 - (nI a - nI b)) = nI (ad a b) := by
  unfold ad
  by_cases h : a < b
  · rw [if_pos h, if_neg]
    · rw [← pk_sub (Nat.le_of_lt h)]
      grind
    · rw [I_le, I_0, pk_sub_toInt (by omega) (by omega)]
      omega
  · rw [if_neg h, if_pos]
    · exact pk_sub (by omega)
    · rw [I_le, I_0, pk_sub_toInt (by omega) (by omega)]
      omega

