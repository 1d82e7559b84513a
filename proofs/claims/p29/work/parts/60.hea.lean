/-! heaps: what hangs together, and how the class finds it -/
def Cn (V : Nat → Prop) (E : Nat → Nat → Prop) (i j : Nat) : Prop := ∀ P : Nat → Prop, P i → (∀ a b, V a → V b → P a → E a b → P b) → P j
section CN
variable {V : Nat → Prop} {E E' : Nat → Nat → Prop} {i j k : Nat}
theorem cn_r : Cn V E i i := fun _ h _ => h
theorem cn_t (h1 : Cn V E i j) (h2 : Cn V E j k) : Cn V E i k := fun P h s => h2 P (h1 P h s) s
theorem cn_1 (hi : V i) (hj : V j) (e : E i j) : Cn V E i j := fun _ h s => s i j hi hj h e
theorem cn_s (hs : ∀ a b, E a b → E b a) (h : Cn V E i j) : Cn V E j i := h (fun x => Cn V E x i) cn_r (fun a b ha hb p e => cn_t (cn_1 hb ha (hs a b e)) p)
theorem cn_m (hE : ∀ a b, V a → V b → E a b → E' a b) (h : Cn V E i j) : Cn V E' i j := h (fun x => Cn V E' i x) cn_r (fun a b ha hb p e => cn_t p (cn_1 ha hb (hE a b ha hb e)))
end CN
def nV (n c : Nat) (i : Nat) : Prop := i < n ∧ i ≠ c
def Lo (n c : Nat) (E : Nat → Nat → Prop) (L : Nat → Nat) : Prop := (∀ i, nV n c i → L i ≤ i ∧ L i ≠ c ∧ L (L i) = L i) ∧ ∀ i j, nV n c i → nV n c j → (L i = L j ↔ Cn (nV n c) E i j)
def rtB (c : Nat) (L : Nat → Nat) (k : Nat) : Bool := decide (k ≠ c ∧ L k = k)
def hpA (c : Nat) (L : Nat → Nat) (i : Nat) : Nat := ct (rtB c L) (L i)
def nmH (n c : Nat) (L : Nat → Nat) : Nat := ct (rtB c L) n
def eA (A : tA) (r : Nat) (a b : Nat) : Prop := dA A a b ≤ r
theorem eA_s (A : tA) (r : Nat) : ∀ a b, eA A r a b → eA A r b a := fun a b h => by
  unfold eA at h ⊢
  rw [dA_comm]
  exact h
theorem s_join {N : Nat} (hN : 1000 ≤ N) {S : tS} {n x y : Nat} (h1 : S 1 0 = nI n) (hn : n ≤ 20) (hx : x < 20) (hy : y < 20) : f_X2_join N S (nI x) (nI y) = some (va_up S 3 (prg (S 3) (fun k => if S 3 k = nI (max x y) then nI (min x y) else S 3 k) n)) := by
  have emin : (if nI y < nI x then nI y else nI x) = nI (min x y) := by
    by_cases q : y < x
    · rw [ltT q (by omega), Nat.min_eq_right (by omega)]
    · rw [ltF (by omega) (by omega), Nat.min_eq_left (by omega)]
  have emax : (if nI x < nI y then nI y else nI x) = nI (max x y) := by
    by_cases q : x < y
    · rw [ltT q (by omega), Nat.max_eq_right (by omega)]
    · rw [ltF (by omega) (by omega), Nat.max_eq_left (by omega)]
  unfold f_X2_join
  rw [emin, emax]
  have hw := lp_run (F := fun k (q : Int32 × tS) => f_X2_join_16 N (nI x) (nI y) k (nI (min x y)) (nI (max x y)) q.1 q.2) (s := fun i => (nI i, va_up S 3 (prg (S 3) (fun k => if S 3 k = nI (max x y) then nI (min x y) else S 3 k) i))) n (some (va_up S 3 (prg (S 3) (fun k => if S 3 k = nI (max x y) then nI (min x y) else S 3 k) n))) (by
    intro k
    show f_X2_join_16b N (nI x) (nI y) (f_X2_join_16 N (nI x) (nI y) k) (nI (min x y)) (nI (max x y)) (nI n) (va_up S 3 (prg (S 3) (fun k => if S 3 k = nI (max x y) then nI (min x y) else S 3 k) n)) = _
    unfold f_X2_join_16b
    rw [va_up_ne _ _ (by decide : (1 : Nat) ≠ 3), h1, leT (by omega) (by omega)]) (by
    intro k i hi
    show f_X2_join_16b N (nI x) (nI y) (f_X2_join_16 N (nI x) (nI y) k) (nI (min x y)) (nI (max x y)) (nI i) (va_up S 3 (prg (S 3) (fun k => if S 3 k = nI (max x y) then nI (min x y) else S 3 k) i)) = f_X2_join_16 N (nI x) (nI y) k (nI (min x y)) (nI (max x y)) (nI (i + 1)) (va_up S 3 (prg (S 3) (fun k => if S 3 k = nI (max x y) then nI (min x y) else S 3 k) (i + 1)))
    unfold f_X2_join_16b f_X2_join_45
    rw [va_up_ne _ _ (by decide : (1 : Nat) ≠ 3), h1, leF hi (by omega), gdI (by omega) (by decide), clI (by omega), gdJ (by omega) (by decide), va_up_self, va_up_up, prg_at, nI_s]
    by_cases q : S 3 i = nI (max x y)
    · rw [if_pos q, ← prg_S]
      simp only [q, if_true]
    · rw [if_neg q, ← prg_N (h := fun k => if S 3 k = nI (max x y) then nI (min x y) else S 3 k) (i := i) (if_neg q)]) N (by omega)
  simp only [prg_0, va_up_id] at hw
  exact hw
/-- the labels while the class joins -/
def fiA (A : tA) (r : Nat) (S : tS) (i j : Nat) : Prop := S 1 0 = nI (A 0 0) ∧ ∃ L : Nat → Nat, (∀ k, k < A 0 0 → S 3 k = nI (L k) ∧ L k ≤ k ∧ L (L k) = L k) ∧ (∀ a b, a < A 0 0 → b < A 0 0 → L a = L b → Cn (nV (A 0 0) 1000) (eA A r) a b) ∧ ∀ a b, b < a → a < A 0 0 → (a < i ∨ (a = i ∧ b < j)) → eA A r b a → L b = L a
theorem relab {n : Nat} {L : Nat → Nat} {V : Nat → Prop} {E : Nat → Nat → Prop} (hs : ∀ a b, E a b → E b a) {u v x y : Nat} (huv : u < v) (hx : x < n) (hy : y < n) (ex : L x = u) (ey : L y = v) (hc : Cn V E x y) (h1 : ∀ k, k < n → L k ≤ k ∧ L (L k) = L k) (h2 : ∀ a b, a < n → b < n → L a = L b → Cn V E a b) : (∀ k, k < n → (if L k = v then u else L k) ≤ k ∧ (if L (if L k = v then u else L k) = v then u else L (if L k = v then u else L k)) = (if L k = v then u else L k)) ∧ ∀ a b, a < n → b < n → (if L a = v then u else L a) = (if L b = v then u else L b) → Cn V E a b := by
  have hu : L u = u := by
    rw [← ex]
    exact (h1 x hx).2
  constructor
  · intro k hk
    obtain ⟨a, b⟩ := h1 k hk
    by_cases q : L k = v
    · rw [if_pos q, hu, if_neg (by omega)]
      exact ⟨by omega, rfl⟩
    · rw [if_neg q, b, if_neg q]
      exact ⟨a, rfl⟩
  · intro a b ha hb h
    by_cases qa : L a = v <;> by_cases qb : L b = v
    · exact h2 a b ha hb (qa.trans qb.symm)
    · rw [if_pos qa, if_neg qb] at h
      exact cn_t (h2 a y ha hy (qa.trans ey.symm)) (cn_t (cn_s hs hc) (h2 x b hx hb (ex.trans h)))
    · rw [if_neg qa, if_pos qb] at h
      exact cn_t (h2 a x ha hx (h.trans ex.symm)) (cn_t hc (h2 y b hy hb (ey.trans qb.symm)))
    · rw [if_neg qa, if_neg qb] at h
      exact h2 a b ha hb h
section FI
variable {N : Nat} {B M : tS} {A : tA}
theorem s_find_in (hN : 1000 ≤ N) (hB : RB B A) (ok : okA A) {r i : Nat} (hr : r < 1000) (hi : i < A 0 0) (k33 : Int32 → tS → Option (Int32 × tS)) (S : tS) (h : fiA A r S i 0) : ∃ S', fiA A r S' (i + 1) 0 ∧ f_X2_find_44 N B (nI r) k33 N (nI i) 0 S = k33 (nI (i + 1)) S' := by
  have o1 := ok.1
  obtain ⟨y, ⟨y1, y2⟩, e⟩ := lp_to (F := fun k (q : Int32 × tS) => f_X2_find_44 N B (nI r) k33 k (nI i) q.1 q.2) (fun j q => q.1 = nI j ∧ fiA A r q.2 i j) i (fun q => k33 (nI (i + 1)) q.2) (by
    rintro k ⟨x, S⟩ ⟨h1, h2⟩
    simp only at h1 h2
    subst h1
    show f_X2_find_44b N B (nI r) k33 (f_X2_find_44 N B (nI r) k33 k) (nI i) (nI i) S = k33 (nI (i + 1)) S
    unfold f_X2_find_44b
    rw [leT (Nat.le_refl _) (by omega), nI_s]) (by
    rintro k j ⟨x, S⟩ hj ⟨h1, h2, L, f1, f2, f3⟩
    simp only at h1 h2 f1
    subst h1
    have hj' : j < A 0 0 := by omega
    obtain ⟨a1, a2, a3⟩ := f1 j hj'
    obtain ⟨b1, b2, b3⟩ := f1 i hi
    have skip : (eA A r j i → L j = L i) → fiA A r S i (j + 1) := by
      intro hs
      refine ⟨h2, L, f1, f2, fun a b hba ha hp he => ?_⟩
      rcases hp with hp | ⟨hp1, hp2⟩
      · exact f3 a b hba ha (Or.inl hp) he
      · by_cases z : b = j
        · subst z; subst hp1
          exact hs he
        · exact f3 a b hba ha (Or.inr ⟨hp1, by omega⟩) he
    by_cases q : L j = L i
    · refine ⟨(nI (j + 1), S), ?_, rfl, skip (fun _ => q)⟩
      show f_X2_find_44b N B (nI r) k33 (f_X2_find_44 N B (nI r) k33 k) (nI i) (nI j) S = f_X2_find_44 N B (nI r) k33 k (nI i) (nI (j + 1)) S
      unfold f_X2_find_44b f_X2_find_94
      rw [leF hj (by omega), gdI (by omega) (by decide), gdI (by omega) (by decide), clI (by omega), clI (by omega), a1, b1, eqT q, nI_s]
    · by_cases q2 : dA A j i ≤ r
      · have hd := dA_le ok hj' hi
        have ej := s_join hN (S := S) h2 o1 (x := L j) (y := L i) (by omega) (by omega)
        refine ⟨(nI (j + 1), va_up S 3 (prg (S 3) (fun k => if S 3 k = nI (max (L j) (L i)) then nI (min (L j) (L i)) else S 3 k) (A 0 0))), ?_, rfl, ?_⟩
        · show f_X2_find_44b N B (nI r) k33 (f_X2_find_44 N B (nI r) k33 k) (nI i) (nI j) S = f_X2_find_44 N B (nI r) k33 k (nI i) (nI (j + 1)) _
          unfold f_X2_find_44b f_X2_find_94
          rw [leF hj (by omega), gdI (by omega) (by decide), gdI (by omega) (by decide), clI (by omega), clI (by omega), a1, b1, eqF q (by omega) (by omega), s_dist hB ok hj' hi, bd_some, ltF q2 (by omega), gdJ (by omega) (by decide), gdJ (by omega) (by decide), ej, bd_some, nI_s]
        · have hcij : Cn (nV (A 0 0) 1000) (eA A r) j i := cn_1 ⟨hj', by omega⟩ ⟨hi, by omega⟩ q2
          have fin : ∀ u v, u < v → min (L j) (L i) = u → max (L j) (L i) = v → (∀ k, k < A 0 0 → (if L k = v then u else L k) ≤ k ∧ (if L (if L k = v then u else L k) = v then u else L (if L k = v then u else L k)) = (if L k = v then u else L k)) → (∀ a b, a < A 0 0 → b < A 0 0 → (if L a = v then u else L a) = (if L b = v then u else L b) → Cn (nV (A 0 0) 1000) (eA A r) a b) → fiA A r (va_up S 3 (prg (S 3) (fun k => if S 3 k = nI (max (L j) (L i)) then nI (min (L j) (L i)) else S 3 k) (A 0 0))) i (j + 1) := by
            intro u v huv eu ev g1 g2
            refine ⟨by rw [va_up_ne _ _ (by decide)]; exact h2, fun k => if L k = v then u else L k, fun k hk => ⟨?_, g1 k hk⟩, g2, fun a b hba ha hp he => ?_⟩
            · obtain ⟨c1, c2, c3⟩ := f1 k hk
              rw [va_up_self]
              show (if k < A 0 0 then (if S 3 k = nI (max (L j) (L i)) then nI (min (L j) (L i)) else S 3 k) else S 3 k) = nI (if L k = v then u else L k)
              rw [if_pos hk, c1, eu, ev]
              by_cases z : L k = v
              · rw [if_pos z, if_pos (by rw [z])]
              · rw [if_neg z, eqF z (by omega) (by omega)]
            · show (if L b = v then u else L b) = (if L a = v then u else L a)
              rcases hp with hp | ⟨hp1, hp2⟩
              · rw [f3 a b hba ha (Or.inl hp) he]
              · by_cases z : b = j
                · subst z; subst hp1
                  split <;> split <;> omega
                · rw [f3 a b hba ha (Or.inr ⟨hp1, by omega⟩) he]
          rcases Nat.lt_or_gt_of_ne q with w | w
          · have g := relab (eA_s A r) w hj' hi rfl rfl hcij (fun k hk => (f1 k hk).2) f2
            exact fin _ _ w (by omega) (by omega) g.1 g.2
          · have g := relab (eA_s A r) w hi hj' rfl rfl (cn_s (eA_s A r) hcij) (fun k hk => (f1 k hk).2) f2
            exact fin _ _ w (by omega) (by omega) g.1 g.2
      · have hd := dA_le ok hj' hi
        refine ⟨(nI (j + 1), S), ?_, rfl, skip (fun h => absurd h q2)⟩
        show f_X2_find_44b N B (nI r) k33 (f_X2_find_44 N B (nI r) k33 k) (nI i) (nI j) S = f_X2_find_44 N B (nI r) k33 k (nI i) (nI (j + 1)) S
        unfold f_X2_find_44b f_X2_find_94
        rw [leF hj (by omega), gdI (by omega) (by decide), gdI (by omega) (by decide), clI (by omega), clI (by omega), a1, b1, eqF q (by omega) (by omega), s_dist hB ok hj' hi, bd_some, ltT (by omega) (by omega), nI_s]) N (by omega) (nI 0, S) ⟨rfl, h⟩
  refine ⟨y.2, ?_, e⟩
  obtain ⟨z1, L, z2, z3, z4⟩ := y2
  exact ⟨z1, L, z2, z3, fun a b hba ha hp he => z4 a b hba ha (by omega) he⟩
theorem s_number (hN : 1000 ≤ N) {S : tS} {n : Nat} {L : Nat → Nat} (hn : n ≤ 20) (h1 : S 1 0 = nI n) (hL : ∀ k, k < n → S 3 k = nI (L k) ∧ L k ≤ k ∧ L (L k) = L k) : ∃ S', f_X2_numberThem N S = some S' ∧ S' 0 0 = nI (nmH n 1000 L) ∧ S' 1 0 = nI n ∧ ∀ i, i < n → S' 2 i = nI (hpA 1000 L i) := by
  obtain ⟨y, ⟨y1, y2, y3, y4, y5⟩, e⟩ := lp_to (F := fun k (q : Int32 × tS) => f_X2_numberThem_7 N k q.1 q.2) (fun m q => q.1 = nI m ∧ q.2 1 0 = nI n ∧ q.2 3 = S 3 ∧ q.2 0 0 = nI (ct (rtB 1000 L) m) ∧ ∀ i, i < m → q.2 2 i = nI (hpA 1000 L i)) n (fun q => some q.2) (by
    rintro k ⟨x, T⟩ ⟨h1, h2, h3, h4, h5⟩
    simp only at h1 h2 h3 h4 h5
    subst h1
    show f_X2_numberThem_7b N (f_X2_numberThem_7 N k) (nI n) T = some T
    unfold f_X2_numberThem_7b
    rw [h2, leT (Nat.le_refl _) (by omega)]) (by
    rintro k m ⟨x, T⟩ hm ⟨g1, h2, h3, h4, h5⟩
    simp only at g1 h2 h3 h4 h5
    subst g1
    obtain ⟨c1, c2, c3⟩ := hL m hm
    by_cases q : L m = m
    · refine ⟨(nI (m + 1), va_up (va_up T 2 (upd (T 2) m (nI (ct (rtB 1000 L) m)))) 0 (fun _ => nI (ct (rtB 1000 L) m + 1))), ?_, rfl, ?_, ?_, ?_, fun i hi => ?_⟩
      · show f_X2_numberThem_7b N (f_X2_numberThem_7 N k) (nI m) T = f_X2_numberThem_7 N k (nI (m + 1)) _
        unfold f_X2_numberThem_7b f_X2_numberThem_65
        rw [h2, leF hm (by omega), gdI (by omega) (by decide), clI (by omega), h3, c1, eqT q, gdJ (by omega) (by decide), h4, nI_s, nI_s]
      · dsimp only
        rw [va_up_ne _ _ (by decide : (1 : Nat) ≠ 0), va_up_ne _ _ (by decide : (1 : Nat) ≠ 2)]
        exact h2
      · dsimp only
        rw [va_up_ne _ _ (by decide : (3 : Nat) ≠ 0), va_up_ne _ _ (by decide : (3 : Nat) ≠ 2)]
        exact h3
      · dsimp only
        rw [va_up_self, ct_succ, show rtB 1000 L m = true from decide_eq_true ⟨by omega, q⟩]
        rfl
      · dsimp only
        rw [va_up_ne _ _ (by decide : (2 : Nat) ≠ 0), va_up_self]
        by_cases z : i = m
        · rw [z, upd_s]
          unfold hpA
          rw [q]
        · rw [upd_o _ z]
          exact h5 i (by omega)
    · have e5 := h5 (L m) (by omega)
      refine ⟨(nI (m + 1), va_up T 2 (upd (T 2) m (T 2 (L m)))), ?_, rfl, ?_, ?_, ?_, fun i hi => ?_⟩
      · show f_X2_numberThem_7b N (f_X2_numberThem_7 N k) (nI m) T = f_X2_numberThem_7 N k (nI (m + 1)) _
        unfold f_X2_numberThem_7b f_X2_numberThem_65
        rw [h2, leF hm (by omega), gdI (by omega) (by decide), clI (by omega), h3, c1, eqF q (by omega) (by omega), gdJ (by omega) (by decide), gdI (by omega) (by decide), gdJ (by omega) (by decide), clI (by omega), nI_s]
      · dsimp only
        rw [va_up_ne _ _ (by decide : (1 : Nat) ≠ 2)]
        exact h2
      · dsimp only
        rw [va_up_ne _ _ (by decide : (3 : Nat) ≠ 2)]
        exact h3
      · dsimp only
        rw [va_up_ne _ _ (by decide : (0 : Nat) ≠ 2), h4, ct_succ, show rtB 1000 L m = false from decide_eq_false (fun w => q w.2)]
        rfl
      · dsimp only
        rw [va_up_self]
        by_cases z : i = m
        · rw [z, upd_s, e5]
          unfold hpA
          rw [c3]
        · rw [upd_o _ z]
          exact h5 i (by omega)) N (by omega) (nI 0, va_up S 0 (fun _ => 0)) ⟨rfl, by dsimp only; rw [va_up_ne _ _ (by decide)]; exact h1, by dsimp only; rw [va_up_ne _ _ (by decide)], by dsimp only; rw [va_up_self]; rfl, fun i hi => absurd hi (Nat.not_lt_zero i)⟩
  exact ⟨y.2, e, y4, y2, y5⟩
def HE (S : tS) (n num : Nat) (h : Nat → Nat) : Prop := S 0 0 = nI num ∧ S 1 0 = nI n ∧ ∀ i, i < n → S 2 i = nI (h i)
theorem s_find (hN : 1000 ≤ N) (hB : RB B A) (ok : okA A) {r : Nat} (hr : r < 1000) (S : tS) : ∃ S' L, f_X2_find N S B (nI r) = some (nI (nmH (A 0 0) 1000 L), S') ∧ HE S' (A 0 0) (nmH (A 0 0) 1000 L) (hpA 1000 L) ∧ Lo (A 0 0) 1000 (eA A r) L := by
  have o1 := ok.1
  unfold f_X2_find
  rw [hB.1]
  have hw := lp_run (F := fun k (q : Int32 × tS) => f_X2_find_10 N B (nI r) k q.1 q.2) (s := fun i => (nI i, va_up (va_up S 1 (fun _ => nI (A 0 0))) 3 (prg (S 3) nI i))) (A 0 0) (f_X2_find_33 N B (nI r) N 0 (va_up (va_up S 1 (fun _ => nI (A 0 0))) 3 (prg (S 3) nI (A 0 0)))) (by
    intro k
    show f_X2_find_10b N B (nI r) (f_X2_find_10 N B (nI r) k) (nI (A 0 0)) (va_up (va_up S 1 (fun _ => nI (A 0 0))) 3 (prg (S 3) nI (A 0 0))) = _
    unfold f_X2_find_10b
    rw [va_up_ne _ _ (by decide : (1 : Nat) ≠ 3), va_up_self, leT (by omega) (by omega)]) (by
    intro k i hi
    show f_X2_find_10b N B (nI r) (f_X2_find_10 N B (nI r) k) (nI i) (va_up (va_up S 1 (fun _ => nI (A 0 0))) 3 (prg (S 3) nI i)) = f_X2_find_10 N B (nI r) k (nI (i + 1)) (va_up (va_up S 1 (fun _ => nI (A 0 0))) 3 (prg (S 3) nI (i + 1)))
    unfold f_X2_find_10b
    rw [va_up_ne _ _ (by decide : (1 : Nat) ≠ 3), va_up_self, leF hi (by omega), gdI (by omega) (by decide), clI (by omega), va_up_up, va_up_self, prg_S, nI_s]) N (by omega)
  have e0 : va_up (va_up S 1 (fun _ => nI (A 0 0))) 3 (prg (S 3) nI 0) = va_up S 1 (fun _ => nI (A 0 0)) := va_up_eq (by rw [prg_0, va_up_ne _ _ (by decide)])
  simp only [e0] at hw
  rw [show (0 : Int32) = nI 0 from rfl, hw]
  obtain ⟨y, ⟨y1, y2, L, y3, y4, y5⟩, e⟩ := lp_to (F := fun k (q : Int32 × tS) => f_X2_find_33 N B (nI r) k q.1 q.2) (fun i q => q.1 = nI i ∧ fiA A r q.2 i 0) (A 0 0) (fun q => bd (f_X2_numberThem N q.2) (fun S1 => some (S1 0 0, S1))) (by
    rintro k ⟨x, T⟩ ⟨h1, h2⟩
    simp only at h1 h2
    subst h1
    show f_X2_find_33b N B (nI r) (f_X2_find_33 N B (nI r) k) (nI (A 0 0)) T = _
    unfold f_X2_find_33b
    rw [h2.1, leT (Nat.le_refl _) (by omega)]) (by
    rintro k i ⟨x, T⟩ hi ⟨h1, h2⟩
    simp only at h1 h2
    subst h1
    obtain ⟨S', f1, f2⟩ := s_find_in hN hB ok hr hi (f_X2_find_33 N B (nI r) k) T h2
    refine ⟨(nI (i + 1), S'), ?_, rfl, f1⟩
    show f_X2_find_33b N B (nI r) (f_X2_find_33 N B (nI r) k) (nI i) T = f_X2_find_33 N B (nI r) k (nI (i + 1)) S'
    unfold f_X2_find_33b
    rw [h2.1, leF hi (by omega), f2]) N (by omega) (nI 0, va_up (va_up S 1 (fun _ => nI (A 0 0))) 3 (prg (S 3) nI (A 0 0))) ⟨rfl, by
      dsimp only
      rw [va_up_ne _ _ (by decide : (1 : Nat) ≠ 3), va_up_self], fun k => k, fun k hk => ⟨by
      dsimp only
      rw [va_up_self]
      exact if_pos hk, Nat.le_refl _, rfl⟩, fun a b ha hb h => by
      have h' : a = b := h
      subst h'
      exact cn_r, fun a b hba ha hp he => by omega⟩
  obtain ⟨S', s1, s2, s3, s4⟩ := s_number hN o1 y2 y3
  refine ⟨S', L, ?_, ⟨s2, s3, s4⟩, fun i hi => ⟨(y3 i hi.1).2.1, by have := (y3 i hi.1).2.1; have := hi.1; omega, (y3 i hi.1).2.2⟩, fun i j hi hj => ⟨fun h => y4 i j hi.1 hj.1 h, fun h => ?_⟩⟩
  · show f_X2_find_33 N B (nI r) N (nI 0) (va_up (va_up S 1 (fun _ => nI (A 0 0))) 3 (prg (S 3) nI (A 0 0))) = _
    have e' : f_X2_find_33 N B (nI r) N (nI 0) (va_up (va_up S 1 (fun _ => nI (A 0 0))) 3 (prg (S 3) nI (A 0 0))) = _ := e
    rw [e', s1, bd_some, s2]
  · refine h (fun x => L i = L x) rfl (fun a b ha hb p he => ?_)
    rw [p]
    rcases Nat.lt_trichotomy a b with q | q | q
    · exact y5 b a q hb.1 (Or.inl hb.1) he
    · rw [q]
    · exact (y5 a b q ha.1 (Or.inl ha.1) (eA_s A r a b he)).symm
end FI
