/-! heaps found by both; drag, dragHeap, make -/
theorem ct_mono {p : Nat → Bool} {m : Nat} : ∀ {n : Nat}, m ≤ n → ct p m ≤ ct p n
  | 0, h => by rw [show m = 0 by omega]; exact Nat.le_refl _
  | n + 1, h => by
    by_cases q : m = n + 1
    · rw [q]; exact Nat.le_refl _
    · rw [ct_succ]
      have := ct_mono (p := p) (m := m) (n := n) (by omega)
      omega
theorem ct_lt {p : Nat → Bool} {k n : Nat} (h : k < n) (e : p k = true) : ct p k < ct p n := by
  have h1 : ct p (k + 1) ≤ ct p n := ct_mono h
  rw [ct_succ, e] at h1
  exact h1
theorem hp_lt {n : Nat} {E : Nat → Nat → Prop} {L : Nat → Nat} {c : Nat} (hL : Lo n c E L) {i : Nat} (hi : i < n) (hc : i ≠ c) : hpA c L i < nmH n c L := by
  obtain ⟨a, b, d⟩ := hL.1 i ⟨hi, hc⟩
  exact ct_lt (by omega) (decide_eq_true ⟨b, d⟩)
theorem hp_eq {n : Nat} {E : Nat → Nat → Prop} {L : Nat → Nat} {c : Nat} (hL : Lo n c E L) {i j : Nat} (hi : i < n) (hj : j < n) (hci : i ≠ c) (hcj : j ≠ c) : hpA c L i = hpA c L j ↔ L i = L j := by
  constructor
  · intro h
    obtain ⟨a, b, d⟩ := hL.1 i ⟨hi, hci⟩
    obtain ⟨a', b', d'⟩ := hL.1 j ⟨hj, hcj⟩
    unfold hpA at h
    rcases Nat.lt_trichotomy (L i) (L j) with q | q | q
    · have := ct_lt q (show rtB c L (L i) = true from decide_eq_true ⟨b, d⟩)
      omega
    · exact q
    · have := ct_lt q (show rtB c L (L j) = true from decide_eq_true ⟨b', d'⟩)
      omega
  · intro h
    unfold hpA
    rw [h]
theorem nm_le (n c : Nat) (L : Nat → Nat) : nmH n c L ≤ n := ct_le _ _
def mvA (A : tA) (i c r : Nat) : tA := upA (upA A 1 i c) 2 i r
theorem mvA_0 (A : tA) (i c r : Nat) {f j : Nat} (h1 : f ≠ 1) (h2 : f ≠ 2) : mvA A i c r f j = A f j := by
  unfold mvA
  rw [upA_o _ _ (Or.inl h2), upA_o _ _ (Or.inl h1)]
theorem s_move {N : Nat} {B : tS} {A : tA} (hB : RB B A) (ok : okA A) {i c r : Nat} (hi : i < A 0 0) (hc : c < 30) (hr : r < 20) : ∃ B', f_X0_moveNote N B (nI i) (nI c) (nI r) = some B' ∧ RB B' (mvA A i c r) ∧ okA (mvA A i c r) := by
  have o1 := ok.1
  refine ⟨va_up (va_up B 1 (upd (B 1) i (nI c))) 2 (upd (B 2) i (nI r)), ?_, ?_, ?_⟩
  · unfold f_X0_moveNote
    rw [gdI (by omega) (by decide), gdI (by omega) (by decide), clI (by omega)]
  · have h1 := RB_up (f := 1) (i := i) (v := c) hB (by decide) (by decide) rfl
    have h2 := RB_up (f := 2) (i := i) (v := r) h1 (by decide) (by decide) rfl
    rw [va_up_ne _ _ (by decide : (2 : Nat) ≠ 1)] at h2
    exact h2
  · have h1 := ok_up (f := 1) (i := i) (v := c) ok (by decide) (by decide) (by decide) ⟨fun _ => hc, fun h => absurd h (by decide), fun h => absurd h (by decide), fun h => absurd h (by decide), fun h => absurd h (by decide)⟩
    exact ok_up (f := 2) (i := i) (v := r) h1 (by decide) (by decide) (by decide) ⟨fun h => absurd h (by decide), fun _ => hr, fun h => absurd h (by decide), fun h => absurd h (by decide), fun h => absurd h (by decide)⟩
/-- the heap that is dragged -/
def shN (x : Int32) : Nat := x.toInt.toNat
def mhA (A : tA) (h : Nat → Nat) (g : Nat) (p1 p2 : Int32) (m : Nat) : tA := fun f j => if f = 1 ∧ j < m ∧ h j = g then shN (nI (A 1 j) + p1) else if f = 2 ∧ j < m ∧ h j = g then shN (nI (A 2 j) + p2) else A f j
theorem mhA_0 (A : tA) (h : Nat → Nat) (g : Nat) (p1 p2 : Int32) : mhA A h g p1 p2 0 = A := by
  funext f j
  simp [mhA]
theorem mhA_n {A : tA} {h : Nat → Nat} {g : Nat} {p1 p2 : Int32} {m : Nat} (q : h m ≠ g) : mhA A h g p1 p2 (m + 1) = mhA A h g p1 p2 m := by
  funext f j
  unfold mhA
  by_cases z : j = m
  · subst z
    rw [if_neg (fun w => q w.2.2), if_neg (fun w => q w.2.2), if_neg (fun w => q w.2.2), if_neg (fun w => q w.2.2)]
  · by_cases w : j < m
    · have : j < m + 1 := by omega
      simp [w, this]
    · have : ¬ j < m + 1 := by omega
      simp [w, this]
theorem mhA_s {A : tA} {h : Nat → Nat} {g : Nat} {p1 p2 : Int32} {m : Nat} (q : h m = g) : mhA A h g p1 p2 (m + 1) = mvA (mhA A h g p1 p2 m) m (shN (nI (A 1 m) + p1)) (shN (nI (A 2 m) + p2)) := by
  funext f j
  unfold mvA upA mhA
  by_cases z : j = m
  · subst z
    by_cases f1 : f = 1
    · subst f1
      simp [q]
    · by_cases f2 : f = 2
      · subst f2
        simp [q]
      · simp [f1, f2]
  · by_cases w : j < m
    · have : j < m + 1 := by omega
      simp [w, this, z]
    · have : ¬ j < m + 1 := by omega
      simp [w, this, z]
theorem mhA_c {A : tA} {h : Nat → Nat} {g : Nat} {p1 p2 : Int32} {m f j : Nat} (q : (f ≠ 1 ∧ f ≠ 2) ∨ m ≤ j) : mhA A h g p1 p2 m f j = A f j := by
  unfold mhA
  rw [if_neg (by omega), if_neg (by omega)]
