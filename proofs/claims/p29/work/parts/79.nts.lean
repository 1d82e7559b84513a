/-! notes: put, drag, takeOff, dragHeap -/
def oA (B' : tS) (Hs' : tH) (A : tA) (kn : Nat) (As : Nat → tA) : Prop := (RB B' A ∧ RHx Hs' kn As) ∨ ∃ A', ac B' Hs' A' A kn As
theorem ad_sub {a b c d : Nat} (ha : a < 1000000) (hb : b < 1000000) (hc : c < 1000000) (hd : d < 1000000) (e : nI a - nI b = nI c - nI d) : ad a b = ad c d := by
  have h1 := abs_nI ha hb
  have h2 := abs_nI hc hd
  rw [e] at h1
  have l1 : ad a b < 1000000 := by unfold ad; split <;> omega
  have l2 : ad c d < 1000000 := by unfold ad; split <;> omega
  exact nI_inj (by omega) (by omega) (h1.symm.trans h2)
theorem mh_d {A : tA} (ok : okA A) {h : Nat → Nat} {g : Nat} {p1 p2 : Int32} (hpl : plH A h g p1 p2) {i j : Nat} (hi : i < A 0 0) (hj : j < A 0 0) (hh : h i = h j) : dA (mhA A h g p1 p2 (A 0 0)) i j = dA A i j := by
  have b1 := ok.2.2.2.2.2.1 i hi
  have b2 := ok.2.2.2.2.2.1 j hj
  unfold dA
  by_cases q : h i = g
  · have q2 : h j = g := hh ▸ q
    have e1 : ∀ k, k < A 0 0 → h k = g → mhA A h g p1 p2 (A 0 0) 1 k = shN (nI (A 1 k) + p1) := fun k hk hg => by unfold mhA; rw [if_pos ⟨rfl, hk, hg⟩]
    have e2 : ∀ k, k < A 0 0 → h k = g → mhA A h g p1 p2 (A 0 0) 2 k = shN (nI (A 2 k) + p2) := fun k hk hg => by unfold mhA; rw [if_neg (fun w => absurd w.1 (by decide)), if_pos ⟨rfl, hk, hg⟩]
    obtain ⟨x1, x2, x3, x4⟩ := hpl i hi q
    obtain ⟨y1, y2, y3, y4⟩ := hpl j hj q2
    rw [e1 i hi q, e1 j hj q2, e2 i hi q, e2 j hj q2, ad_sub (a := shN (nI (A 1 i) + p1)) (b := shN (nI (A 1 j) + p1)) (c := A 1 i) (d := A 1 j) (by omega) (by omega) (by omega) (by omega) (by rw [← x3, ← y3]; grind), ad_sub (a := shN (nI (A 2 i) + p2)) (b := shN (nI (A 2 j) + p2)) (c := A 2 i) (d := A 2 j) (by omega) (by omega) (by omega) (by omega) (by rw [← x4, ← y4]; grind)]
  · have q2 : ¬ h j = g := fun w => q (hh.trans w)
    have e : ∀ f k, ¬ h k = g → mhA A h g p1 p2 (A 0 0) f k = A f k := fun f k hg => by unfold mhA; rw [if_neg (fun w => hg w.2.2), if_neg (fun w => hg w.2.2)]
    rw [e 1 i q, e 1 j q2, e 2 i q, e 2 j q2]
theorem wi9 (N : Nat) {k b : Nat} (hk : k < 9) (hb : 4 ≤ b) (hb2 : b < 1000) : f_X5_isWithin N (nI k - 4) (nI 0 - nI b) (nI b) = some 1 := by
  unfold f_X5_isWithin
  have e1 : (nI k - 4 : Int32).toInt = (k : Int) - 4 := by rw [li_4, pk_sub_toInt (by omega) (by omega)]; rfl
  have e2 : (nI 0 - nI b : Int32).toInt = 0 - (b : Int) := by rw [pk_sub_toInt (by omega) (by omega)]; rfl
  rw [if_neg (fun w => by rw [I_lt, e1, e2] at w; omega), if_neg (fun w => by rw [I_lt, e1, nI_T (by omega)] at w; omega)]
section NT
variable {N : Nat} {Tn B Tr E F Nm : tS} {Hs : tH} {A : tA} {kn : Nat} {As : Nat → tA} {p1 p2 : Int32}
theorem n_put (hN : 1000 ≤ N) (hB : RB B A) (hi : inv A) (hH : RHx Hs kn As) {c r : Nat} (hc : c < 31) (hr : r < 21) {fo : Int32} (ho : (fo = 1 ∧ (c = 30 ∨ r = 20)) ∨ (fo = 0 ∧ ¬ (c = 30 ∨ r = 20))) : Rt (bd3 (f_X5_put N Tn B Hs (nI c) (nI r)) (fun r9 B9 Hs9 => (if fo = 0 then (if nI (A 0 0) = 20 then f_L_notes_136 N Tn p1 p2 (nI (A 0 0)) (nI c) fo (-3) r9 B9 Hs9 Tr E F Nm else f_L_notes_136 N Tn p1 p2 (nI (A 0 0)) (nI c) fo (nI (A 0 0)) r9 B9 Hs9 Tr E F Nm) else f_L_notes_136 N Tn p1 p2 (nI (A 0 0)) (nI c) fo (-1) r9 B9 Hs9 Tr E F Nm))) (fun q => q.1 = 1 ∧ oA q.2.1 q.2.2.1 A kn As) := by
  have ok := hi.1
  have o1 := ok.1
  unfold f_L_notes_136 f_L_notes_181
  rcases ho with ⟨rfl, h⟩ | ⟨rfl, h⟩
  · rw [t_put_no (by omega) (by omega) (by omega), bd3_some, if1, if_pos rfl, if1]
    exact rt_ok ⟨rfl, Or.inl ⟨hB, hH⟩⟩
  by_cases q : A 0 0 = 20
  · rw [t_put_full hB q (by omega) (by omega), bd3_some, if0, if_pos (show nI (A 0 0) = 20 by rw [q]; rfl), if_pos rfl, if0, if_pos (show nI (A 0 0) = 20 by rw [q]; rfl)]
    exact rt_ok ⟨rfl, Or.inl ⟨hB, hH⟩⟩
  · obtain ⟨B', Hs', e, ha⟩ := t_put (Tn := Tn) hN hB hi hH (c := c) (r := r) (by omega) (by omega) (by omega)
    have n20 : ¬ nI (A 0 0) = 20 := fun w => q (nI_inj (by omega) (by omega) (show _ = nI 20 from w))
    have ha0 := ha
    obtain ⟨hB', hi', -⟩ := ha
    have hlt : A 0 0 < addA A c r 0 0 := by rw [addA_0]; omega
    rw [e, bd3_some, if0, if_neg n20, if_pos rfl, if0, if_neg n20]
    refine rt4 (q_n0 hB' hi'.1 hlt) (fun Tr E F => ?_)
    rw [show addA A c r 1 (A 0 0) = c by simp [addA], if_pos rfl]
    refine rt4 (q_n4 hB' hi'.1 hlt) (fun Tr E F => ?_)
    rw [show addA A c r 3 (A 0 0) = 0 by simp [addA], if_pos (show enc 0 = -5 from rfl)]
    refine rt4 (q_n2 hN hB' hi'.1 hlt) (fun Tr E F => ?_)
    have hd : dtA (addA A c r) (A 0 0) = 0 := by
      have e : dtA (addA A c r) (A 0 0) = sm (fun _ => 0) 6 := sm_congr (fun p hp => by unfold addA; simp; omega)
      rw [e]
      rfl
    rw [hd, if_pos (show nI 0 = 0 from rfl)]
    exact rt_ok ⟨rfl, Or.inr ⟨_, ha0⟩⟩
theorem n_drag (hN : 1000 ≤ N) (hB : RB B A) (hi : inv A) (hH : RHx Hs kn As) {c r i : Nat} (hc : c < 31) (hr : r < 21) (hin : i ≤ A 0 0) {fo fn : Int32} (ho : (fo = 1 ∧ (c = 30 ∨ r = 20)) ∨ (fo = 0 ∧ ¬ (c = 30 ∨ r = 20))) (hn : (fn = 1 ∧ i = A 0 0) ∨ (fn = 0 ∧ i < A 0 0)) : Rt (if fn = 0 then (bd4 (f_X5_note N Tn B Tr E F (nI i) 0) (fun r7 Tr7 E7 F7 => (if r7 = nI c then (bd4 (f_X5_note N Tn B Tr7 E7 F7 (nI i) 1) (fun r8 Tr8 E8 F8 => (if r8 = nI r then f_L_notes_227 N Tn p1 p2 (nI i) fn (nI c) (nI r) fo 1 B Hs Tr8 E8 F8 Nm else f_L_notes_226 N Tn p1 p2 (nI i) fn (nI c) (nI r) fo B Hs Tr8 E8 F8 Nm))) else f_L_notes_226 N Tn p1 p2 (nI i) fn (nI c) (nI r) fo B Hs Tr7 E7 F7 Nm))) else f_L_notes_226 N Tn p1 p2 (nI i) fn (nI c) (nI r) fo B Hs Tr E F Nm) (fun q => q.1 = 1 ∧ oA q.2.1 q.2.2.1 A kn As) := by
  have ok := hi.1
  have o1 := ok.1
  unfold f_L_notes_226
  have g304 : ∀ B Hs Tr E F Nm, oA B Hs A kn As → Rt (f_L_notes_304 N Tn p1 p2 B Hs Tr E F Nm) (fun q => q.1 = 1 ∧ oA q.2.1 q.2.2.1 A kn As) := fun B Hs Tr E F Nm h => rt_ok ⟨rfl, h⟩
  rcases hn with ⟨rfl, h⟩ | ⟨rfl, h⟩
  · subst h
    rw [if1]
    unfold f_L_notes_227 f_L_notes_253 f_L_notes_272
    rw [t_drag_n hB ok, bd4_some, if1, if_pos rfl, if_pos (show (-1 : Int32) < 0 by decide)]
    exact g304 _ _ _ _ _ _ (Or.inl ⟨hB, hH⟩)
  rw [if0]
  have b := ok.2.2.2.2.2.1 i h
  -- behind the comparison of places
  have go : ∀ (fs : Int32), ((fs = 1 ∧ A 1 i = c ∧ A 2 i = r) ∨ (fs = 0 ∧ ¬ (A 1 i = c ∧ A 2 i = r))) → ∀ Tr E F Nm, Rt (f_L_notes_227 N Tn p1 p2 (nI i) 0 (nI c) (nI r) fo fs B Hs Tr E F Nm) (fun q => q.1 = 1 ∧ oA q.2.1 q.2.2.1 A kn As) := by
    intro fs hs Tr E F Nm
    unfold f_L_notes_227 f_L_notes_253 f_L_notes_272
    rcases ho with ⟨rfl, hp⟩ | ⟨rfl, hp⟩
    · rw [t_drag_p hB ok h (by omega) (by omega) (by omega), bd4_some, if0, if1, if_pos rfl, if_pos (show (-1 : Int32) < 0 by decide)]
      exact g304 _ _ _ _ _ _ (Or.inl ⟨hB, hH⟩)
    rcases hs with ⟨rfl, h1, h2⟩ | ⟨rfl, hne⟩
    · rw [t_drag_s hB ok h (by omega) (by omega) h1 h2, bd4_some, if0, if0, if1, if_pos rfl, if_pos (show (-5 : Int32) < 0 by decide)]
      exact g304 _ _ _ _ _ _ (Or.inl ⟨hB, hH⟩)
    · obtain ⟨B', Hs', E', e, ha⟩ := t_drag (Tn := Tn) (E := E) hN hB hi hH h (c := c) (r := r) (by omega) (by omega) hne
      have ha0 := ha
      obtain ⟨hB', hi', -⟩ := ha
      have hlt : i < mvA A i c r 0 0 := by rw [mvA_0 A i c r (by decide) (by decide)]; exact h
      have hnl := nh_le (mvA A i c r) (mvA A i c r 7 0)
      rw [mvA_0 A i c r (f := 0) (by decide) (by decide)] at hnl
      rw [e, bd4_some, if0, if0, if0]
      refine rt3 (q_c1 hN hB' hi'.1) (fun E Nm => ?_)
      rw [if_pos rfl, lt0F (by omega)]
      refine rt4 (q_n0 hB' hi'.1 hlt) (fun Tr E F => ?_)
      rw [show mvA A i c r 1 i = c by unfold mvA; rw [upA_o _ _ (Or.inl (by decide)), upA_s], if_pos rfl]
      refine rt4 (q_n1 hB' hi'.1 hlt) (fun Tr E F => ?_)
      rw [show mvA A i c r 2 i = r by unfold mvA; rw [upA_s], if_pos rfl]
      exact g304 _ _ _ _ _ _ (Or.inr ⟨_, ha0⟩)
  refine rt4 (q_n0 hB ok h) (fun Tr E F => ?_)
  by_cases q1 : A 1 i = c
  · rw [eqT q1]
    refine rt4 (q_n1 hB ok h) (fun Tr E F => ?_)
    by_cases q2 : A 2 i = r
    · rw [eqT q2]
      exact go 1 (Or.inl ⟨rfl, q1, q2⟩) _ _ _ _
    · rw [eqF q2 (by omega) (by omega)]
      exact go 0 (Or.inr ⟨rfl, fun w => q2 w.2⟩) _ _ _ _
  · rw [eqF q1 (by omega) (by omega)]
    exact go 0 (Or.inr ⟨rfl, fun w => q1 w.1⟩) _ _ _ _
theorem n_take (hN : 1000 ≤ N) (hB : RB B A) (hi : inv A) (hH : RHx Hs kn As) {i : Nat} (hin : i ≤ A 0 0) {fn : Int32} (hn : (fn = 1 ∧ i = A 0 0) ∨ (fn = 0 ∧ i < A 0 0)) : Rt (if fn = 0 then (bd4 (f_X5_note N Tn B Tr E F (nI i) 2) (fun r6 Tr6 E6 F6 => f_L_notes_332 N Tn p1 p2 (nI (A 0 0)) (nI i) fn r6 B Hs Tr6 E6 F6 Nm)) else f_L_notes_332 N Tn p1 p2 (nI (A 0 0)) (nI i) fn 0 B Hs Tr E F Nm) (fun q => q.1 = 1 ∧ oA q.2.1 q.2.2.1 A kn As) := by
  have ok := hi.1
  have o1 := ok.1
  unfold f_L_notes_332 f_L_notes_351 f_L_notes_370
  rcases hn with ⟨rfl, h⟩ | ⟨rfl, h⟩
  · subst h
    rw [if1, t_take_no hB ok, bd3_some, if1, if_pos rfl]
    refine rt3 (q_c0 hB) (fun E Nm => ?_)
    rw [if1, li_0, pk_sub (by omega), Nat.sub_zero, if_pos rfl]
    exact rt_ok ⟨rfl, Or.inl ⟨hB, hH⟩⟩
  · rw [if0]
    refine rt4 (q_n2 hN hB ok h) (fun Tr E F => ?_)
    obtain ⟨B', Hs', e, ha⟩ := t_take (Tn := Tn) hN hB hi hH h
    have ha0 := ha
    obtain ⟨hB', hi', -⟩ := ha
    rw [e, bd3_some, if0, if_pos rfl]
    refine rt3 (q_c0 hB') (fun E Nm => ?_)
    rw [if0, drA_0, rmA_n, li_1, pk_sub (by omega), if_pos rfl]
    exact rt_ok ⟨rfl, Or.inr ⟨_, ha0⟩⟩
theorem n_dh (hN : 1000 ≤ N) (hB : RB B A) (hi : inv A) (hH : RHx Hs kn As) {g k3 k4 : Nat} (hg : g ≤ nh A (A 7 0)) (h3 : k3 < 9) (h4 : k4 < 9) : Rt (if nI g = nI (nh A (A 7 0)) then f_L_notes_440 N Tn p1 p2 (nI (nh A (A 7 0))) (nI g) (nI k3 - 4) (nI k4 - 4) 0 B Hs Tr E F Nm else (bd2 (f_X5_heap N Tn B E (nI g) 1) (fun r5 E5 => f_L_notes_440 N Tn p1 p2 (nI (nh A (A 7 0))) (nI g) (nI k3 - 4) (nI k4 - 4) r5 B Hs Tr E5 F Nm))) (fun q => q.1 = 1 ∧ oA q.2.1 q.2.2.1 A kn As) := by
  have ok := hi.1
  have o1 := ok.1
  have o3 := ok.2.2.1
  have nml := nh_le A (A 7 0)
  have g593 : ∀ B Hs Tr E F Nm, oA B Hs A kn As → Rt (f_L_notes_593 N Tn p1 p2 B Hs Tr E F Nm) (fun q => q.1 = 1 ∧ oA q.2.1 q.2.2.1 A kn As) := fun B Hs Tr E F Nm h => rt_ok ⟨rfl, h⟩
  unfold f_L_notes_440 f_L_notes_460 f_L_notes_481
  by_cases q : g = nh A (A 7 0)
  · subst q
    rw [if_pos rfl, if_pos rfl, if_pos rfl]
    obtain ⟨E', e⟩ := t_dh_x (Tn := Tn) (E := E) (Hs := Hs) hN hB ok (nI k3 - 4) (nI k4 - 4)
    rw [e, bd4_some, if_pos rfl, if_pos rfl]
    exact rt_ok ⟨rfl, Or.inl ⟨hB, hH⟩⟩
  have hgl : g < nh A (A 7 0) := by omega
  have ne : ¬ nI g = nI (nh A (A 7 0)) := fun w => q (nI_inj (by omega) (by omega) w)
  rw [if_neg ne]
  refine rt2 (q_h1 hN hB ok hgl) (fun E => ?_)
  obtain ⟨i0, hi0, hi0g⟩ := hp_sur hgl
  obtain ⟨a, ea, -, ha, hag⟩ := fd_le (h := hp A (A 7 0)) (g := g) (n := A 0 0) (A 0 0) (Nat.le_refl _) i0 (by omega) hi0 hi0g
  rw [ea, enc_s, if_neg ne]
  refine rt4 (q_n0 hB ok ha) (fun Tr E F => ?_)
  rw [if_neg ne]
  obtain ⟨w1, w2⟩ := q_h6 (Tn := Tn) (E := E) hN hB ok hgl
  refine rt2 w2 (fun E => ?_)
  rcases t_dh (Tn := Tn) (E := E) hN hB hi hH hgl (p1 := nI k3 - 4) (p2 := nI k4 - 4) (wi9 N h3 (b := 29) (by omega) (by omega)) (wi9 N h4 (b := 19) (by omega) (by omega)) with ⟨E', e⟩ | ⟨z1, z2, E', e⟩ | ⟨nz, hpl, B', Hs', E', e, hac⟩
  · rw [e, bd4_some, if_neg ne, if_pos rfl]
    exact g593 _ _ _ _ _ _ (Or.inl ⟨hB, hH⟩)
  · rw [e, bd4_some, if_neg ne, if_neg (by decide), if_pos z1, if_pos z2, if_pos rfl]
    exact g593 _ _ _ _ _ _ (Or.inl ⟨hB, hH⟩)
  · have hac0 := hac
    obtain ⟨hB', hi', -⟩ := hac
    have ok' := hi'.1
    have e0 : mhA A (hp A (A 7 0)) g (nI k3 - 4) (nI k4 - 4) (A 0 0) 0 0 = A 0 0 := mhA_c (Or.inl ⟨by decide, by decide⟩)
    have e7 : mhA A (hp A (A 7 0)) g (nI k3 - 4) (nI k4 - 4) (A 0 0) 7 0 = A 7 0 := mhA_c (Or.inl ⟨by decide, by decide⟩)
    have near : ∀ x y, x < A 0 0 → y < A 0 0 → dA A x y ≤ A 7 0 → dA (mhA A (hp A (A 7 0)) g (nI k3 - 4) (nI k4 - 4) (A 0 0)) x y ≤ A 7 0 := fun x y hx hy hd => by
      rw [mh_d ok hpl hx hy (hp_near ok (by omega) hx hy hd)]
      exact hd
    have hle : nh (mhA A (hp A (A 7 0)) g (nI k3 - 4) (nI k4 - 4) (A 0 0)) (A 7 0) ≤ nh A (A 7 0) := nh_mono ok ok' (by omega) (by omega) e0 near
    have hm : ∀ x, x < A 0 0 → hp A (A 7 0) x = g → hp (mhA A (hp A (A 7 0)) g (nI k3 - 4) (nI k4 - 4) (A 0 0)) (A 7 0) x = hp (mhA A (hp A (A 7 0)) g (nI k3 - 4) (nI k4 - 4) (A 0 0)) (A 7 0) a := fun x hx hxg => hp_mono ok ok' (by omega) (by omega) e0 near hx ha (hxg.trans hag.symm)
    have hdd : ∀ x y, x < A 0 0 → y < A 0 0 → hp A (A 7 0) x = hp A (A 7 0) y → dA (mhA A (hp A (A 7 0)) g (nI k3 - 4) (nI k4 - 4) (A 0 0)) x y = dA A x y := fun x y hx hy h => mh_d ok hpl hx hy h
    obtain ⟨x1, x2, x3, x4⟩ := hpl a ha hag
    have e1a : nI (mhA A (hp A (A 7 0)) g (nI k3 - 4) (nI k4 - 4) (A 0 0) 1 a) = nI (A 1 a) + (nI k3 - 4) := by
      rw [x3]
      congr 1
      unfold mhA
      rw [if_pos ⟨rfl, ha, hag⟩]
    generalize mhA A (hp A (A 7 0)) g (nI k3 - 4) (nI k4 - 4) (A 0 0) = A' at *
    have go : ∀ Tr E F Nm, Rt (f_L_notes_543 N Tn p1 p2 (nI (nh A (A 7 0))) (nI k3 - 4) (nI a) (nI (A 1 a)) (nI (wd A g)) (nI (nh A' (A 7 0))) B' Hs' Tr E F Nm) (fun q => q.1 = 1 ∧ oA q.2.1 q.2.2.1 A kn As) := by
      intro Tr E F Nm
      unfold f_L_notes_543
      refine rt3 (q_c1 hN hB' ok') (fun E Nm => ?_)
      rw [e7, if_pos rfl, ltF hle (by omega)]
      refine rt4 (q_n0 hB' ok' (i := a) (by omega)) (fun Tr E F => ?_)
      rw [e1a, if_pos rfl]
      refine rt4 (q_n3 hN hB' ok' (i := a) (by omega)) (fun Tr E F => ?_)
      have hg' := hp_l ok' (r := A' 7 0) (by omega) (i := a) (by omega)
      obtain ⟨v1, v2⟩ := q_h6 (Tn := Tn) (E := E) hN hB' ok' hg'
      refine rt2 v2 (fun E => ?_)
      have hwide : wd A g ≤ wd A' (hp A' (A' 7 0) a) := by
        rcases w1.2 with z | ⟨x, y, hx, hy, hxg, hyg, z⟩
        · omega
        · rw [← z]
          have := v1.1 x y (by omega) (by omega) trivial (by rw [e7]; exact hm x hx hxg) (by rw [e7]; exact hm y hy hyg)
          have hd : dA A' x y = dA A x y := hdd x y hx hy (hxg.trans hyg.symm)
          omega
      have hw48 : wd A' (hp A' (A' 7 0) a) ≤ 48 := by
        rcases v1.2 with z | ⟨x, y, hx, hy, -, -, z⟩
        · omega
        · rw [← z]
          exact dA_le ok' hx hy
      rw [ltF hwide (by omega)]
      exact g593 _ _ _ _ _ _ (Or.inr ⟨_, hac0⟩)
    have pos : ¬ nI (nh A' (A 7 0)) = -4 := fun w => by
      have := congrArg Int32.toInt w
      rw [nI_T (by omega)] at this
      have h1 : (-4 : Int32).toInt = -4 := by decide
      omega
    rw [e, bd4_some, if_neg ne, if_neg pos]
    by_cases z1 : (nI k3 - 4 : Int32) = 0
    · rw [if_pos z1, if_neg (fun z2 => nz ⟨z1, z2⟩)]
      exact go _ _ _ _
    · rw [if_neg z1]
      exact go _ _ _ _
theorem t_notes (hN : 1000 ≤ N) (hB : RB B A) (hi : inv A) (hH : RHx Hs kn As) {how : Nat} (hhow : how < 8) (y : Int32) : Rt (f_L_notes N Tn B Hs Tr E F Nm (nI how) y) (fun q => q.1 = 1 ∧ oA q.2.1 q.2.2.1 A kn As) := by
  have ok := hi.1
  have o1 := ok.1
  have nml := nh_le A (A 7 0)
  unfold f_L_notes
  refine rt3 (q_c0 hB) (fun E Nm => ?_)
  rw [nI_s]
  have hl := lw_lt y (n := A 0 0 + 1) (by omega)
  refine rt1 (t_low N _ (by omega) (by omega)) ?_
  generalize lw y (A 0 0 + 1) = i at *
  -- behind the choice of the note and the place
  have k100 : ∀ (fn fo : Int32) (c r : Nat), c < 31 → r < 21 → ((fn = 1 ∧ i = A 0 0) ∨ (fn = 0 ∧ i < A 0 0)) → ((fo = 1 ∧ (c = 30 ∨ r = 20)) ∨ (fo = 0 ∧ ¬ (c = 30 ∨ r = 20))) → Rt (f_L_notes_100 N Tn (nI how) y (nI (A 0 0)) (nI i) fn (nI c) (nI r) fo B Hs Tr E F Nm) (fun q => q.1 = 1 ∧ oA q.2.1 q.2.2.1 A kn As) := by
    intro fn fo c r hc hr hn ho
    unfold f_L_notes_100
    by_cases q4 : how < 4
    · rw [li_4, leF q4 (by omega)]
      exact n_put hN hB hi hH hc hr ho
    rw [li_4, leT (by omega) (by omega), ← li_4]
    by_cases q6 : how < 6
    · rw [li_6, leF q6 (by omega)]
      exact n_drag hN hB hi hH hc hr (by omega) ho hn
    rw [li_6, leT (by omega) (by omega)]
    by_cases q7 : how = 6
    · rw [eqT q7]
      exact n_take hN hB hi hH (by omega) hn
    rw [eqF q7 (by omega) (by omega)]
    refine rt3 (q_c1 hN hB ok) (fun E Nm => ?_)
    rw [nI_s]
    have hg := lw_lt y (n := nh A (A 7 0) + 1) (by omega)
    refine rt1 (t_low N _ (by omega) (by omega)) ?_
    have h3 := lw_lt (y >>> ((5 : Int32) &&& 31)) (n := 9) (by omega)
    refine rt1 (t_low N _ (n := 9) (by omega) (by omega)) ?_
    have h4 := lw_lt (y >>> ((9 : Int32) &&& 31)) (n := 9) (by omega)
    refine rt1 (t_low N _ (n := 9) (by omega) (by omega)) ?_
    exact n_dh hN hB hi hH (by omega) h3 h4
  have k76 : ∀ (fn : Int32) (c w : Nat) (t1 : Int32), c < 31 → 0 < w → w < 22 → ((fn = 1 ∧ i = A 0 0) ∨ (fn = 0 ∧ i < A 0 0)) → Rt (f_L_notes_76 N Tn (nI how) y (nI (A 0 0)) (nI i) fn (nI c) (nI w) t1 B Hs Tr E F Nm) (fun q => q.1 = 1 ∧ oA q.2.1 q.2.2.1 A kn As) := by
    intro fn c w t1 hc hw0 hw hn
    unfold f_L_notes_76 f_L_notes_95
    have hr := lw_lt t1 hw0
    refine rt1 (t_low N _ hw0 (by omega)) ?_
    by_cases qc : c = 30
    · rw [if_pos (show nI c = 30 by rw [qc]; rfl)]
      exact k100 fn 1 c _ hc (by omega) hn (Or.inl ⟨rfl, Or.inl qc⟩)
    rw [if_neg (show ¬ nI c = 30 from fun w => qc (nI_inj (by omega) (by omega) (show _ = nI 30 from w)))]
    by_cases qr : lw t1 w = 20
    · rw [if_pos (show nI (lw t1 w) = 20 by rw [qr]; rfl)]
      exact k100 fn 1 c _ hc (by omega) hn (Or.inl ⟨rfl, Or.inr qr⟩)
    rw [if_neg (show ¬ nI (lw t1 w) = 20 from fun w => qr (nI_inj (by omega) (by omega) (show _ = nI 20 from w)))]
    exact k100 fn 0 c _ hc (by omega) hn (Or.inr ⟨rfl, by omega⟩)
  have k49 : ∀ (fn : Int32) (w : Nat) (t1 : Int32), 0 < w → w < 32 → ((fn = 1 ∧ i = A 0 0) ∨ (fn = 0 ∧ i < A 0 0)) → Rt (f_L_notes_49 N Tn (nI how) y (nI (A 0 0)) (nI i) fn (nI w) t1 B Hs Tr E F Nm) (fun q => q.1 = 1 ∧ oA q.2.1 q.2.2.1 A kn As) := by
    intro fn w t1 hw0 hw hn
    unfold f_L_notes_49
    have hc := lw_lt t1 hw0
    refine rt1 (t_low N _ hw0 (by omega)) ?_
    refine rt1 (t_low N _ (n := 3) (by omega) (by omega)) ?_
    refine rt_if (fun _ => ?_) (fun _ => ?_)
    · exact k76 fn _ 21 _ (by omega) (by omega) (by omega) hn
    · exact k76 fn _ 8 _ (by omega) (by omega) (by omega) hn
  have k26 : ∀ (fn : Int32), ((fn = 1 ∧ i = A 0 0) ∨ (fn = 0 ∧ i < A 0 0)) → Rt (f_L_notes_26 N Tn (nI how) y (nI (A 0 0)) (nI i) fn B Hs Tr E F Nm) (fun q => q.1 = 1 ∧ oA q.2.1 q.2.2.1 A kn As) := by
    intro fn hn
    unfold f_L_notes_26
    refine rt1 (t_low N _ (n := 3) (by omega) (by omega)) ?_
    refine rt_if (fun _ => ?_) (fun _ => ?_)
    · exact k49 fn 31 _ (by omega) (by omega) hn
    · exact k49 fn 12 _ (by omega) (by omega) hn
  by_cases q : i = A 0 0
  · rw [eqT q]
    exact k26 1 (Or.inl ⟨rfl, q⟩)
  · rw [eqF q (by omega) (by omega)]
    exact k26 0 (Or.inr ⟨rfl, by omega⟩)
end NT
