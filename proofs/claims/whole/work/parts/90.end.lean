/-! THE CLAIM OUT OF ONE WALK OF THE LAW'S BODY. Your part is whole_start (and what it stands on); all else here is the same for every law, but numbers. -/
def R_law : String := "NoteThemesLaw"
def lw_P (b : Addr) (xs : List Int32) (args : Array Value) (s : State) : Prop := args = #[.ref b] ∧ s.IntsAt b xs ∧ xs.length ≤ 2560 ∧ (Jvm.Cond.and given_1 narrow_1).before args s = true
def lw_Q (_ : Array Value) (s : State) (o : Outcome) (t : State) : Prop := o = .returned (some (.int 1)) ∧ Framed s o t [] 600000 7302250
def lw_Z (below : List Frame) (a : Array Value) (s : State) : State → Prop := fun t => ∃ o, t.status = .running ∧ Ended t below o ∧ lw_Q a s o t
/-- the law's own end, with 1 on the stack, nothing written that was there before, its room as the claim has it -/
theorem lw_ret {p : Program} {l : Launch} {e : Env} {s : State} {m : MethodId} {below : List Frame} {meth : Method} {c : Code} {b : Nat} (hx : p.tables.exec = Jvm.exec) (hb : c.code = code) (hr : meth.sig.returnType = ret) (hlocks : meth.locks = false) {pc : Nat} {H : Heap} {ls : Array Slot} (hdg : decode code pc = .ok (.ireturn, 1)) : W p l e room_1 s m #[Value.ref b] below meth c H [] 600000 7302250 (lw_Z below #[Value.ref b] s) (F0 m pc ls [.int 1]) := by
  intro T hT X
  obtain ⟨fs, hret, hrun, hended, hW, hframe⟩ := X.leave (v := some (.int 1)) (hlocks := hlocks) (fun h => by rw [hr] at h; cases h)
  have hmeth' : T.vm.method? m = some meth := X.method'
  refine ⟨T.setFrames fs, ?_, .returned (some (.int 1)), hrun, hended, rfl, ⟨_, rfl⟩, hW, hframe⟩
  jvm_step X.here [X.here.top, hx, hb, hdg, hmeth', hr, ret, narrow_b1]
  (try refine ⟨rfl, ?_⟩); (try refine ⟨rfl, ?_⟩)
  first | (intro acts; rw [hret _ acts rfl rfl rfl]) | rw [hret _ _ rfl rfl rfl]
  exact Steps.refl _
/-- what holds at the law's entry: the machine, the code, the tables' words (any of lw_tbl by 'hts w (by decide +kernel)'), the script of L ints xs at the cell b, what the Statement gives of the start (any of its parts by flat_of_before) -/
def lw_At (p : Program) (s : State) (m : MethodId) (meth : Method) (c : Code) (b L : Nat) (xs : Nat → Int32) : Prop :=
  p.tables.exec = Jvm.exec ∧ c.code = code ∧ meth.sig.returnType = ret ∧ c.maxLocals = 4 ∧ s.vm.findClass R_law = some m.cls ∧ (∀ w ∈ lw_tbl, w.before #[Value.ref b] s = true) ∧ va_X b L xs s s.heap ∧ b < s.heap.size ∧ meth.locks = false ∧ (Jvm.Cond.and given_1 narrow_1).before #[Value.ref b] s = true
section GE
variable {X : gX} {own : String} {cc : ByteArray} {nL : Nat} {ret0 : Option FieldType} {Ts : List Cond} {fr lm : Nat} {Q : State → Prop} {ms : List va_W} {L : List (Option Value)} {st : List Value} {pc pc' kc ks : Nat}
def QL (X : gX) (b : Nat) : State → Prop :=
  match X with
  | (_, _, _, _, s, _, _, below, _, _, _, _, _, _) => lw_Z below #[Value.ref b] s
/-- what is fixed at the law's entry -/
def lF (X : gX) (b : Nat) : Prop :=
  match X with
  | (_, _, _, R, s, _, args, _, _, _, _, _, A, _) => R = room_1 ∧ args = #[Value.ref b] ∧ ∀ q, A q → s.heap.size ≤ q
theorem g_lawret {b : Nat} (C : cx X RL cL_law 4 ret Ts fr lm) (hF : lF X b) (d : decode code pc = .ok (.ireturn, 1)) : GN X 600000 7302250 (QL X b) ms L [.int 1] pc := by
  obtain ⟨p, l, e, R, s, m, args, below, meth, c, D, cA, A, H0⟩ := X
  obtain ⟨hx, hb, -, hr, hown, hts, hlk, hK, -, -, -, h0⟩ := C
  obtain ⟨rfl, rfl, hA⟩ := hF
  intro H locs ls hP hD hS hl
  refine va_forget (fun q hq => hA _ (hS.2.2 q hq)) ?_
  exact lw_ret hx hb hr hlk d
theorem GN_widen {k n : Nat} (h1 : kc ≤ k) (h2 : ks ≤ n) (kk : GN X k n Q ms L st pc) : GN X kc ks Q ms L st pc := by
  obtain ⟨p, l, e, R, s, m, args, below, meth, c, D, cA, A, H0⟩ := X
  intro H locs ls hP hD hS hl
  exact W.widen h1 h2 (kk H locs ls hP hD hS hl)
end GE
set_option maxRecDepth 100000 in
set_option maxHeartbeats 8000000 in
theorem law_end {X : gX} (C : cx X RL cL_law 4 ret wsL_law 9 322) (hf : cf X) {b n : Nat} {xs : Nat → Int32} (hF : lF X b) (hRm : gR X = room_1) (hs : sX X b n xs) (hn : n ≤ 2560) (pa : tP) (a : Nat → Nat) (j : Nat) (h1 : n < j + 5) (h2 : j ≤ n + 5) {Tn B Sn Tx Tr E F Nm Bt M : tS} {Hs : tH} : G X (QL X b) [ntW pa Tn, bdW (gcA X) (pa 1) B, hsW (gcA X) (pa 2) (fun j => pa (10 + j)) Hs, bdW (gcA X) (pa 3) Sn, txW (gcA X) (pa 4) Tx, bdW (gcA X) (pa 5) Tr, heW (gcA X) (pa 6) E, heW (gcA X) (pa 7) F, nmW (gcA X) (pa 8) Nm, btW (pa 9) (pa 5 0) Bt, mdW (gcA X) a M] [some (.ref b), some (.ref (pa 0 0)), some (.ref (a 0)), some (.int (nI j))] [] 18 := by
  refine g_iload_n (pc' := 19) C dL_law_18 rfl rfl ?_
  refine g_aload_n (pc' := 20) C dL_law_19 rfl rfl ?_
  refine g_slen (pc' := 21) C hs dL_law_20 rfl ?_
  refine g_iconst (pc' := 22) (v := 5) C dL_law_21 (by decide) rfl ?_
  refine g_isub (pc' := 23) C dL_law_22 rfl ?_
  have hlt : Int32.ofNat n - 5 < nI j := by
    rw [Int32.lt_iff_toInt_lt, show Int32.ofNat n - 5 = nI n - nI 5 from rfl, pk_sub_toInt (by omega) (by omega), nI_toInt (by omega)]
    omega
  refine g_icmp_gt (pc' := 26) (tgt := 908) (T := some ()) (F := (none : Option Unit)) (res := ()) C dL_law_23 (by decide) rfl (if_pos hlt) (fun c h => ?_) (fun c h => absurd hlt c)
  refine g_iconst (pc' := 909) (v := 1) C dL_law_908 (by decide) rfl ?_
  rw [hRm]
  exact g_lawret C hF dL_law_909
set_option maxRecDepth 100000 in
set_option maxHeartbeats 8000000 in
theorem law_loop {X : gX} (C : cx X RL cL_law 4 ret wsL_law 9 322) (hf : cf X) {b n : Nat} {xs : Nat → Int32} (hF : lF X b) (hRm : gR X = room_1) (hs : sX X b n xs) (hn : n ≤ 2560) (pa : tP) (a : Nat → Nat) {N : Nat} (hN : 1000 ≤ N) : ∀ (k j : Nat), n < j + k → j ≤ n + 5 → ∀ {Tn B Sn Tx Tr E F Nm Bt M : tS} {Hs : tH}, Rel Tn B Hs Sn Tx Tr E F Nm Bt M → G X (QL X b) [ntW pa Tn, bdW (gcA X) (pa 1) B, hsW (gcA X) (pa 2) (fun j => pa (10 + j)) Hs, bdW (gcA X) (pa 3) Sn, txW (gcA X) (pa 4) Tx, bdW (gcA X) (pa 5) Tr, heW (gcA X) (pa 6) E, heW (gcA X) (pa 7) F, nmW (gcA X) (pa 8) Nm, btW (pa 9) (pa 5 0) Bt, mdW (gcA X) a M] [some (.ref b), some (.ref (pa 0 0)), some (.ref (a 0)), some (.int (nI j))] [] 18 := by
  intro k
  induction k with
  | zero => intro j h1 h2; exact fun {Tn} {B} {Sn} {Tx} {Tr} {E} {F} {Nm} {Bt} {M} {Hs} hR => law_end C hf hF hRm hs hn pa a j (by omega) h2
  | succ k ih =>
    intro j h1 h2 Tn B Sn Tx Tr E F Nm Bt M Hs hR
    by_cases hle : j + 5 ≤ n
    case neg => exact law_end C hf hF hRm hs hn pa a j (by omega) h2
    have hj : (nI j).toNatClampNeg = j := nI_clamp (by omega)
    have k0 : vp_in (nI j) n := vp_in_nI (by omega) (by omega)
    have k1 : vp_in (nI j + 1) n := by rw [nI_1]; exact vp_in_nI (by omega) (by omega)
    have k2 : vp_in (nI j + 2) n := by rw [show (2 : Int32) = nI 2 from rfl, nI_add]; exact vp_in_nI (by omega) (by omega)
    have k3 : vp_in (nI j + 3) n := by rw [show (3 : Int32) = nI 3 from rfl, nI_add]; exact vp_in_nI (by omega) (by omega)
    have k4 : vp_in (nI j + 4) n := by rw [show (4 : Int32) = nI 4 from rfl, nI_add]; exact vp_in_nI (by omega) (by omega)
    refine g_iload_n (pc' := 19) C dL_law_18 rfl rfl ?_
    refine g_aload_n (pc' := 20) C dL_law_19 rfl rfl ?_
    refine g_slen (pc' := 21) C hs dL_law_20 rfl ?_
    refine g_iconst (pc' := 22) (v := 5) C dL_law_21 (by decide) rfl ?_
    refine g_isub (pc' := 23) C dL_law_22 rfl ?_
    have hlt : ¬ (Int32.ofNat n - 5 < nI j) := by
      rw [Int32.lt_iff_toInt_lt, show Int32.ofNat n - 5 = nI n - nI 5 from rfl, pk_sub_toInt (by omega) (by omega), nI_toInt (by omega)]
      omega
    refine g_icmp_gt (pc' := 26) (tgt := 908) (T := (none : Option Unit)) (F := some ()) (res := ()) C dL_law_23 (by decide) rfl (if_neg hlt) (fun c h => absurd c hlt) (fun c h => ?_)
    refine g_aload_n (pc' := 27) C dL_law_26 rfl rfl ?_
    refine g_iload_n (pc' := 28) C dL_law_27 rfl rfl ?_
    refine g_sld (pc' := 29) C hs k0 dL_law_28 rfl ?_
    refine g_bipush (pc' := 31) (v := 31) C dL_law_29 (by decide) rfl ?_
    refine g_iand (pc' := 32) C dL_law_31 rfl ?_
    have kk2 : ∀ (Tn : tS) (B : tS) (Hs : tH) (Sn : tS) (Tx : tS) (Tr : tS) (E : tS) (F : tS) (Nm : tS) (Bt : tS) (M : tS), Rel Tn B Hs Sn Tx Tr E F Nm Bt M → G X (QL X b) [ntW pa Tn, bdW (gcA X) (pa 1) B, hsW (gcA X) (pa 2) (fun j => pa (10 + j)) Hs, bdW (gcA X) (pa 3) Sn, txW (gcA X) (pa 4) Tx, bdW (gcA X) (pa 5) Tr, heW (gcA X) (pa 6) E, heW (gcA X) (pa 7) F, nmW (gcA X) (pa 8) Nm, btW (pa 9) (pa 5 0) Bt, mdW (gcA X) a M] [some (.ref b), some (.ref (pa 0 0)), some (.ref (a 0)), some (.int (nI j))] [] 902 := by
      intro Tn B Hs Sn Tx Tr E F Nm Bt M hR
      refine g_iinc (pc' := 905) (v := nI (j + 5)) C dL_law_902 rfl (by rw [show Int32.ofInt 5 = nI 5 from rfl, nI_add]) rfl (L' := [some (.ref b), some (.ref (pa 0 0)), some (.ref (a 0)), some (.int (nI (j + 5)))]) rfl ?_
      refine g_goto (pc' := 18) C dL_law_905 (by decide) ?_
      exact ih (j + 5) (by omega) (by omega) hR
    by_cases c0 : xs (nI j).toNatClampNeg &&& 31 = 0
    · refine g_tabIn (pc' := 152) (off := 120) C dL_law_32 (by rw [c0] <;> decide) (by rw [c0] <;> decide) (by rw [c0] <;> decide) (by decide) ?_
      exact lc_put C hf hs pa a (nI j) k1 k2 k3 k4 hN hR kk2
    by_cases c1 : xs (nI j).toNatClampNeg &&& 31 = 1
    · refine g_tabIn (pc' := 185) (off := 153) C dL_law_32 (by rw [c1] <;> decide) (by rw [c1] <;> decide) (by rw [c1] <;> decide) (by decide) ?_
      exact lc_load C hf hs pa a (nI j) k1 k2 k3 k4 hN hR kk2
    by_cases c2 : xs (nI j).toNatClampNeg &&& 31 = 2
    · refine g_tabIn (pc' := 198) (off := 166) C dL_law_32 (by rw [c2] <;> decide) (by rw [c2] <;> decide) (by rw [c2] <;> decide) (by decide) ?_
      exact lc_takeOff C hf hs pa a (nI j) k1 k2 k3 k4 hN hR kk2
    by_cases c3 : xs (nI j).toNatClampNeg &&& 31 = 3
    · refine g_tabIn (pc' := 221) (off := 189) C dL_law_32 (by rw [c3] <;> decide) (by rw [c3] <;> decide) (by rw [c3] <;> decide) (by decide) ?_
      exact lc_drag C hf hs pa a (nI j) k1 k2 k3 k4 hN hR kk2
    by_cases c4 : xs (nI j).toNatClampNeg &&& 31 = 4
    · refine g_tabIn (pc' := 264) (off := 232) C dL_law_32 (by rw [c4] <;> decide) (by rw [c4] <;> decide) (by rw [c4] <;> decide) (by decide) ?_
      exact lc_dragHeap C hf hs pa a (nI j) k1 k2 k3 k4 hN hR kk2
    by_cases c5 : xs (nI j).toNatClampNeg &&& 31 = 5
    · refine g_tabIn (pc' := 307) (off := 275) C dL_law_32 (by rw [c5] <;> decide) (by rw [c5] <;> decide) (by rw [c5] <;> decide) (by decide) ?_
      exact lc_stick C hf hs pa a (nI j) k1 k2 k3 k4 hN hR kk2
    by_cases c6 : xs (nI j).toNatClampNeg &&& 31 = 6
    · refine g_tabIn (pc' := 340) (off := 308) C dL_law_32 (by rw [c6] <;> decide) (by rw [c6] <;> decide) (by rw [c6] <;> decide) (by decide) ?_
      exact lc_unstick C hf hs pa a (nI j) k1 k2 k3 k4 hN hR kk2
    by_cases c7 : xs (nI j).toNatClampNeg &&& 31 = 7
    · refine g_tabIn (pc' := 373) (off := 341) C dL_law_32 (by rw [c7] <;> decide) (by rw [c7] <;> decide) (by rw [c7] <;> decide) (by decide) ?_
      exact lc_make C hf hs pa a (nI j) k1 k2 k3 k4 hN hR kk2
    by_cases c8 : xs (nI j).toNatClampNeg &&& 31 = 8
    · refine g_tabIn (pc' := 396) (off := 364) C dL_law_32 (by rw [c8] <;> decide) (by rw [c8] <;> decide) (by rw [c8] <;> decide) (by decide) ?_
      exact lc_merge C hf hs pa a (nI j) k1 k2 k3 k4 hN hR kk2
    by_cases c9 : xs (nI j).toNatClampNeg &&& 31 = 9
    · refine g_tabIn (pc' := 429) (off := 397) C dL_law_32 (by rw [c9] <;> decide) (by rw [c9] <;> decide) (by rw [c9] <;> decide) (by decide) ?_
      exact lc_belong C hf hs pa a (nI j) k1 k2 k3 k4 hN hR kk2
    by_cases c10 : xs (nI j).toNatClampNeg &&& 31 = 10
    · refine g_tabIn (pc' := 462) (off := 430) C dL_law_32 (by rw [c10] <;> decide) (by rw [c10] <;> decide) (by rw [c10] <;> decide) (by decide) ?_
      exact lc_vote C hf hs pa a (nI j) k1 k2 k3 k4 hN hR kk2
    by_cases c11 : xs (nI j).toNatClampNeg &&& 31 = 11
    · refine g_tabIn (pc' := 505) (off := 473) C dL_law_32 (by rw [c11] <;> decide) (by rw [c11] <;> decide) (by rw [c11] <;> decide) (by decide) ?_
      exact lc_set C hf hs pa a (nI j) k1 k2 k3 k4 hN hR kk2
    by_cases c12 : xs (nI j).toNatClampNeg &&& 31 = 12
    · refine g_tabIn (pc' := 538) (off := 506) C dL_law_32 (by rw [c12] <;> decide) (by rw [c12] <;> decide) (by rw [c12] <;> decide) (by decide) ?_
      exact lc_type C hf hs pa a (nI j) k1 k2 k3 k4 hN hR kk2
    by_cases c13 : xs (nI j).toNatClampNeg &&& 31 = 13
    · refine g_tabIn (pc' := 563) (off := 531) C dL_law_32 (by rw [c13] <;> decide) (by rw [c13] <;> decide) (by rw [c13] <;> decide) (by decide) ?_
      exact lc_clearText C hf hs pa a (nI j) k1 k2 k3 k4 hN hR kk2
    by_cases c14 : xs (nI j).toNatClampNeg &&& 31 = 14
    · refine g_tabIn (pc' := 576) (off := 544) C dL_law_32 (by rw [c14] <;> decide) (by rw [c14] <;> decide) (by rw [c14] <;> decide) (by decide) ?_
      exact lc_undo C hf hs pa a (nI j) k1 k2 k3 k4 hN hR kk2
    by_cases c15 : xs (nI j).toNatClampNeg &&& 31 = 15
    · refine g_tabIn (pc' := 589) (off := 557) C dL_law_32 (by rw [c15] <;> decide) (by rw [c15] <;> decide) (by rw [c15] <;> decide) (by decide) ?_
      exact lc_keep C hf hs pa a (nI j) k1 k2 k3 k4 hN hR kk2
    by_cases c16 : xs (nI j).toNatClampNeg &&& 31 = 16
    · refine g_tabIn (pc' := 602) (off := 570) C dL_law_32 (by rw [c16] <;> decide) (by rw [c16] <;> decide) (by rw [c16] <;> decide) (by decide) ?_
      exact lc_restore C hf hs pa a (nI j) k1 k2 k3 k4 hN hR kk2
    by_cases c17 : xs (nI j).toNatClampNeg &&& 31 = 17
    · refine g_tabIn (pc' := 615) (off := 583) C dL_law_32 (by rw [c17] <;> decide) (by rw [c17] <;> decide) (by rw [c17] <;> decide) (by decide) ?_
      exact lc_note C hf hs pa a (nI j) k1 k2 k3 k4 hN hR kk2
    by_cases c18 : xs (nI j).toNatClampNeg &&& 31 = 18
    · refine g_tabIn (pc' := 648) (off := 616) C dL_law_32 (by rw [c18] <;> decide) (by rw [c18] <;> decide) (by rw [c18] <;> decide) (by decide) ?_
      exact lc_dots C hf hs pa a (nI j) k1 k2 k3 k4 hN hR kk2
    by_cases c19 : xs (nI j).toNatClampNeg &&& 31 = 19
    · refine g_tabIn (pc' := 681) (off := 649) C dL_law_32 (by rw [c19] <;> decide) (by rw [c19] <;> decide) (by rw [c19] <;> decide) (by decide) ?_
      exact lc_heap C hf hs pa a (nI j) k1 k2 k3 k4 hN hR kk2
    by_cases c20 : xs (nI j).toNatClampNeg &&& 31 = 20
    · refine g_tabIn (pc' := 714) (off := 682) C dL_law_32 (by rw [c20] <;> decide) (by rw [c20] <;> decide) (by rw [c20] <;> decide) (by decide) ?_
      exact lc_theme C hf hs pa a (nI j) k1 k2 k3 k4 hN hR kk2
    by_cases c21 : xs (nI j).toNatClampNeg &&& 31 = 21
    · refine g_tabIn (pc' := 747) (off := 715) C dL_law_32 (by rw [c21] <;> decide) (by rw [c21] <;> decide) (by rw [c21] <;> decide) (by decide) ?_
      exact lc_votes C hf hs pa a (nI j) k1 k2 k3 k4 hN hR kk2
    by_cases c22 : xs (nI j).toNatClampNeg &&& 31 = 22
    · refine g_tabIn (pc' := 780) (off := 748) C dL_law_32 (by rw [c22] <;> decide) (by rw [c22] <;> decide) (by rw [c22] <;> decide) (by decide) ?_
      exact lc_ifDragged C hf hs pa a (nI j) k1 k2 k3 k4 hN hR kk2
    by_cases c23 : xs (nI j).toNatClampNeg &&& 31 = 23
    · refine g_tabIn (pc' := 833) (off := 801) C dL_law_32 (by rw [c23] <;> decide) (by rw [c23] <;> decide) (by rw [c23] <;> decide) (by decide) ?_
      exact lc_reachFor C hf hs pa a (nI j) k1 k2 k3 k4 hN hR kk2
    by_cases c24 : xs (nI j).toNatClampNeg &&& 31 = 24
    · refine g_tabIn (pc' := 856) (off := 824) C dL_law_32 (by rw [c24] <;> decide) (by rw [c24] <;> decide) (by rw [c24] <;> decide) (by decide) ?_
      exact lc_nearest C hf hs pa a (nI j) k1 k2 k3 k4 hN hR kk2
    by_cases c25 : xs (nI j).toNatClampNeg &&& 31 = 25
    · refine g_tabIn (pc' := 879) (off := 847) C dL_law_32 (by rw [c25] <;> decide) (by rw [c25] <;> decide) (by rw [c25] <;> decide) (by decide) ?_
      exact lc_count C hf hs pa a (nI j) k1 k2 k3 k4 hN hR kk2
    have e0 := lv_neT (a := 0) c0 (by decide)
    have e1 := lv_neT (a := 1) c1 (by decide)
    have e2 := lv_neT (a := 2) c2 (by decide)
    have e3 := lv_neT (a := 3) c3 (by decide)
    have e4 := lv_neT (a := 4) c4 (by decide)
    have e5 := lv_neT (a := 5) c5 (by decide)
    have e6 := lv_neT (a := 6) c6 (by decide)
    have e7 := lv_neT (a := 7) c7 (by decide)
    have e8 := lv_neT (a := 8) c8 (by decide)
    have e9 := lv_neT (a := 9) c9 (by decide)
    have e10 := lv_neT (a := 10) c10 (by decide)
    have e11 := lv_neT (a := 11) c11 (by decide)
    have e12 := lv_neT (a := 12) c12 (by decide)
    have e13 := lv_neT (a := 13) c13 (by decide)
    have e14 := lv_neT (a := 14) c14 (by decide)
    have e15 := lv_neT (a := 15) c15 (by decide)
    have e16 := lv_neT (a := 16) c16 (by decide)
    have e17 := lv_neT (a := 17) c17 (by decide)
    have e18 := lv_neT (a := 18) c18 (by decide)
    have e19 := lv_neT (a := 19) c19 (by decide)
    have e20 := lv_neT (a := 20) c20 (by decide)
    have e21 := lv_neT (a := 21) c21 (by decide)
    have e22 := lv_neT (a := 22) c22 (by decide)
    have e23 := lv_neT (a := 23) c23 (by decide)
    have e24 := lv_neT (a := 24) c24 (by decide)
    have e25 := lv_neT (a := 25) c25 (by decide)
    refine g_tabOut (pc' := 902) C dL_law_32 (by omega) (by decide) ?_
    exact kk2 Tn B Hs Sn Tx Tr E F Nm Bt M hR
theorem inst_X0 : Cond.instantiable RX0 8 ∈ lw_tbl := wsL_law_in _ (List.mem_of_getElem? (i := 13) rfl)
theorem inst_X1 : Cond.instantiable RX1 5 ∈ lw_tbl := wsL_law_in _ (List.mem_of_getElem? (i := 36) rfl)
theorem inst_X2 : Cond.instantiable RX2 4 ∈ lw_tbl := wsL_law_in _ (List.mem_of_getElem? (i := 27) rfl)
theorem inst_X3 : Cond.instantiable RX3 2 ∈ lw_tbl := wsL_law_in _ (List.mem_of_getElem? (i := 17) rfl)
theorem inst_X4 : Cond.instantiable RX4 1 ∈ lw_tbl := wsL_law_in _ (List.mem_of_getElem? (i := 32) rfl)
theorem inst_X5 : Cond.instantiable RX5 11 ∈ lw_tbl := wsL_law_in _ (List.mem_of_getElem? (i := 1) rfl)
theorem inst_X6 : Cond.instantiable RX6 15 ∈ lw_tbl := wsL_law_in _ (List.mem_of_getElem? (i := 4) rfl)
theorem lkL_cl_X5 : Cond.classLink RL 7 RX5 ∈ wsL_law := List.mem_of_getElem? (i := 0) rfl
theorem lkL_in_X5 : Cond.instantiable RX5 11 ∈ wsL_law := List.mem_of_getElem? (i := 1) rfl
theorem lkL_ini_X5 : Cond.initialized RX5 ∈ wsL_law := List.mem_of_getElem? (i := 2) rfl
theorem lkL_cl_X6 : Cond.classLink RL 10 RX6 ∈ wsL_law := List.mem_of_getElem? (i := 3) rfl
theorem lkL_in_X6 : Cond.instantiable RX6 15 ∈ wsL_law := List.mem_of_getElem? (i := 4) rfl
theorem lkL_ini_X6 : Cond.initialized RX6 ∈ wsL_law := List.mem_of_getElem? (i := 5) rfl
theorem lkL_ml_X5 : Cond.methodLink RL 9 yX5_init ∈ wsL_law := List.mem_of_getElem? (i := 6) rfl
theorem lkL_im_X5 : Cond.instanceMethod yX5_init ∈ wsL_law := List.mem_of_getElem? (i := 7) rfl
theorem lkL_ml_X6 : Cond.methodLink RL 12 yX6_init ∈ wsL_law := List.mem_of_getElem? (i := 86) rfl
theorem lkL_im_X6 : Cond.instanceMethod yX6_init ∈ wsL_law := List.mem_of_getElem? (i := 87) rfl
set_option maxRecDepth 100000 in
set_option maxHeartbeats 8000000 in
theorem law_walk {X : gX} (C : cx X RL cL_law 4 ret wsL_law 9 322) (hf : cf X) {b n : Nat} {xs : Nat → Int32} (hF : lF X b) (hRm : gR X = room_1) (hs : sX X b n xs) (hn : n ≤ 2560) : GN X 0 0 (QL X b) [] [some (.ref b), none, none, none] [] 0 := by
  have hkc : (gR X).cells = 600000 := by rw [hRm]; rfl
  have hks : (gR X).slots = 7302250 := by rw [hRm]; rfl
  refine g_newo (pc' := 3) (kc' := 1) (ks' := 11) (fs := [.null, .null, .null, .int 0, .null, .int 0, .null, .null, .null, .null, .null]) C (ci := 5) (Cn := RX5) (T := TX5) (N := 11) (ty := tyX5) rfl hfs_X5 tyX5_ok inlX5 lkL_cl_X5 lkL_in_X5 lkL_ini_X5 (by rw [hkc]; exact Nat.le_of_ble_eq_true rfl) (by rw [hks]; exact Nat.le_of_ble_eq_true rfl) rfl rfl dL_law_0 rfl (fun q5 => ?_)
  refine g_dup (pc' := 4) C dL_law_3 rfl rfl ?_
  refine G_callC (pc' := 7) (kc' := 62) (ks' := 1872) (rest := []) (As := []) C hf (c_X5_init (gl X) (gD X) (gcA X) q5) gL_law_X5_init rfl lkL_ini_X5 lkL_ml_X5 lkL_im_X5 rfl nd_X5_init ⟨Nat.le_of_ble_eq_true rfl, Nat.le_of_ble_eq_true rfl⟩ rfl (Nat.le_of_ble_eq_true rfl) rfl (by rw [hkc]; exact Nat.le_of_ble_eq_true rfl) (by rw [hks]; exact Nat.le_of_ble_eq_true rfl) rfl rfl dL_law_4 rfl (fun pa0 => ?_)
  refine g_astore_n (pc' := 8) C dL_law_7 (Nat.le_of_ble_eq_true rfl) rfl (L' := [some (.ref b), some (.ref q5), none, none]) rfl ?_
  refine g_newo (pc' := 11) (kc' := 63) (ks' := 1887) (fs := [.null, .null, .int 0, .null, .int 0, .null, .int 0, .null, .null, .int 0, .int 0, .int 0, .null, .int 0, .null]) C (ci := 6) (Cn := RX6) (T := TX6) (N := 15) (ty := tyX6) rfl hfs_X6 tyX6_ok inlX6 lkL_cl_X6 lkL_in_X6 lkL_ini_X6 (by rw [hkc]; exact Nat.le_of_ble_eq_true rfl) (by rw [hks]; exact Nat.le_of_ble_eq_true rfl) rfl rfl dL_law_8 rfl (fun q6 => ?_)
  refine g_dup (pc' := 12) C dL_law_11 rfl rfl ?_
  refine G_callC (pc' := 15) (kc' := 71) (ks' := 3485) (rest := [] ++ NTW (gcA X) (pz pa0 q5) iZ iB iH iB iZ iB iZ iZ iZ iK) (As := []) C hf (c_X6_init (gl X) (gD X) (gcA X) q6) gL_law_X6_init rfl lkL_ini_X6 lkL_ml_X6 lkL_im_X6 rfl nd_X6_init ⟨Nat.le_of_ble_eq_true rfl, Nat.le_of_ble_eq_true rfl⟩ rfl (Nat.le_of_ble_eq_true rfl) rfl (by rw [hkc]; exact Nat.le_of_ble_eq_true rfl) (by rw [hks]; exact Nat.le_of_ble_eq_true rfl) rfl rfl dL_law_12 rfl (fun a0 => ?_)
  refine g_astore_n (pc' := 16) C dL_law_15 (Nat.le_of_ble_eq_true rfl) rfl (L' := [some (.ref b), some (.ref q5), some (.ref q6), none]) rfl ?_
  refine g_iconst (pc' := 17) (v := 0) C dL_law_16 (by decide) rfl ?_
  refine g_istore_n (pc' := 18) C dL_law_17 (Nat.le_of_ble_eq_true rfl) rfl (L' := [some (.ref b), some (.ref q5), some (.ref q6), some (.int 0)]) rfl ?_
  refine GN_widen (k := (gR X).cells) (n := (gR X).slots) (by rw [hkc]; exact Nat.le_of_ble_eq_true rfl) (by rw [hks]; exact Nat.le_of_ble_eq_true rfl) ?_
  exact law_loop C hf hF hRm hs hn (pz pa0 q5) (va_up (a0 0) 0 q6) (N := 1000) (Nat.le_refl 1000) (n + 1) 0 (by omega) (by omega) m_init
/-- a static row of the class, as the premises give it -/
theorem law_row {args : Array Value} {s : State} {nm : String} {f : Nat → Int32} {v0 v1 v2 : Int32} {A : Nat → Prop} (hl : (Cond.laysStatic "NoteThemes" nm "[I").before args s = true) (hi : (Cond.initialized "NoteThemes").before args s = true) (ha : (Cond.arrayOf (.static "NoteThemes" nm "[I") .int).before args s = true) (hn : (Cond.eq (.length (.static "NoteThemes" nm "[I")) (.int 3)).before args s = true) (h0 : (Cond.eq (.elem (.static "NoteThemes" nm "[I") (.int 0)) (.int v0)).before args s = true) (h1 : (Cond.eq (.elem (.static "NoteThemes" nm "[I") (.int 1)) (.int v1)).before args s = true) (h2 : (Cond.eq (.elem (.static "NoteThemes" nm "[I") (.int 2)) (.int v2)).before args s = true) (e0 : f 0 = v0) (e1 : f 1 = v1) (e2 : f 2 = v2) (hA : ∀ a : Nat, a < s.heap.size → ¬ A a) : sFx nm f A s s.heap := by
  obtain ⟨t, ht, hT⟩ := va_Tof (N := 3) (f := fun j => .int (f j)) (A := A) (by decide) ha (va_eqt hn) (fun j hj => by
    rcases (show j = 0 ∨ j = 1 ∨ j = 2 by omega) with rfl | rfl | rfl
    · rw [show f 0 = v0 from e0]; exact va_eqt h0
    · rw [show f 1 = v1 from e1]; exact va_eqt h1
    · rw [show f 2 = v2 from e2]; exact va_eqt h2) hA
  exact ⟨t, va_Zref hl hi ht hA, hT⟩
theorem law_arr {args : Array Value} {s : State} {ty : FieldType} (h : (Cond.arrayClass ty).before args s = true) : ∃ c : ClassId, ArrOfT s c ty ∧ s.vm.findClass ("[" ++ ty.toString) = some c := by
  obtain ⟨c, k, comp, h1, h2, h3⟩ := Cond.arrayClass_spec h
  exact ⟨c, fun n z => ⟨fun k h => (by cases h), k, h2, comp, h3⟩, h1⟩
set_option maxRecDepth 100000 in
set_option maxHeartbeats 8000000 in
/-- THE LAW, from its entry -/
theorem whole_start {p : Program} {e : Env} {s : State} {m : MethodId} {below : List Frame} {meth : Method} {c : Code} (l : Launch) (hflags : l.flags = flags0) {b L : Nat} {xs : Nat → Int32} (hL : L ≤ 2560) (C0 : lw_At p s m meth c b L xs) : W p l e room_1 s m #[Value.ref b] below meth c s.heap [] 0 0 (lw_Z below #[Value.ref b] s) (entryFrame m ([Value.ref b] : List Value).toArray 4) := by
  obtain ⟨hx, hb, hr, hml, hown, hts, hX, hbl, hlocks, hgv⟩ := id C0
  have hA : ∀ a : Nat, a < s.heap.size → ¬ (fun q : Nat => s.heap.size ≤ q) a := fun a h => Nat.not_le.mpr h
  have hfl := flat_of_before _ hgv
  obtain ⟨c0, s0, k0⟩ := u_known (C := RX0) (T := TX0) (N := 8) (n := 8) hts inX0 (hts _ (inst_X0))
  obtain ⟨c1, s1, k1⟩ := u_known (C := RX1) (T := TX1) (N := 5) (n := 5) hts inX1 (hts _ (inst_X1))
  obtain ⟨c2, s2, k2⟩ := u_known (C := RX2) (T := TX2) (N := 4) (n := 4) hts inX2 (hts _ (inst_X2))
  obtain ⟨c3, s3, k3⟩ := u_known (C := RX3) (T := TX3) (N := 2) (n := 2) hts inX3 (hts _ (inst_X3))
  obtain ⟨c4, s4, k4⟩ := u_known (C := RX4) (T := TX4) (N := 1) (n := 1) hts inX4 (hts _ (inst_X4))
  obtain ⟨c5, s5, k5⟩ := u_known (C := RX5) (T := TX5) (N := 11) (n := 11) hts inX5 (hts _ (inst_X5))
  obtain ⟨c6, s6, k6⟩ := u_known (C := RX6) (T := TX6) (N := 15) (n := 15) hts inX6 (hts _ (inst_X6))
  obtain ⟨cI, aI, nI_⟩ := law_arr (hts (.arrayClass .int) (by decide +kernel))
  obtain ⟨cC, aC, nC_⟩ := law_arr (hts (.arrayClass .char) (by decide +kernel))
  have hov := hts (.arrayOver (.object "NoteThemes$Board")) (by decide +kernel)
  obtain ⟨compB, cB, kB, o1, -, o3, o4, o5⟩ := Cond.arrayOver_spec hov
  obtain ⟨dC, dI, hKc⟩ : ∃ (dC : Nat → ClassId) (dI : Nat → Nat → Nat), ∀ (k : Nat) (q : vw_C), vwCl[k]? = some q → u_Kn s q.1 q.2.1 q.2.2 (dC k) (dI k) := by
    refine ⟨fun k => if k = 0 then c0 else if k = 1 then c1 else if k = 2 then c2 else if k = 3 then c3 else if k = 4 then c4 else if k = 5 then c5 else c6, fun k => if k = 0 then s0 else if k = 1 then s1 else if k = 2 then s2 else if k = 3 then s3 else if k = 4 then s4 else if k = 5 then s5 else s6, ?_⟩
    intro k q hq
    match k, hq with
    | 0, hq => cases hq; exact k0
    | 1, hq => cases hq; exact k1
    | 2, hq => cases hq; exact k2
    | 3, hq => cases hq; exact k3
    | 4, hq => cases hq; exact k4
    | 5, hq => cases hq; exact k5
    | 6, hq => cases hq; exact k6
    | k + 7, hq => simp [vwCl] at hq
  have hK : va_K (dC, dI) vwCl (tyl (fun k => if k = 0 then cI else if k = 1 then cC else cB)) s := by
    refine ⟨hKc, fun k q hk => ?_⟩
    match k, hk with
    | 0, hk => cases hk; exact ⟨aI, nI_⟩
    | 1, hk => cases hk; exact ⟨aC, nC_⟩
    | 2, hk => cases hk; exact ⟨fun n z => ⟨fun k h => (by cases h), kB, o3, compB, o4⟩, kB, compB, o3, o4, o1, o5⟩
    | k + 3, hk => simp at hk
  have hsF : sF (fun q : Nat => s.heap.size ≤ q) s s.heap := by
    refine ⟨va_AO.of hov, va_Nw.of rfl (hts wNest (by decide +kernel)), ?_, ?_, ?_⟩
    · exact law_row (v0 := 3) (v1 := 4) (v2 := 2) (hts (.laysStatic "NoteThemes" "FIRST_SETTING" "[I") (by decide +kernel)) (hts (.initialized "NoteThemes") (by decide +kernel)) (hfl _ (by decide +kernel)) (hfl _ (by decide +kernel)) (hfl _ (by decide +kernel)) (hfl _ (by decide +kernel)) (hfl _ (by decide +kernel)) rfl rfl rfl hA
    · exact law_row (v0 := 0) (v1 := 1) (v2 := 1) (hts (.laysStatic "NoteThemes" "LEAST_SETTING" "[I") (by decide +kernel)) (hts (.initialized "NoteThemes") (by decide +kernel)) (hfl _ (by decide +kernel)) (hfl _ (by decide +kernel)) (hfl _ (by decide +kernel)) (hfl _ (by decide +kernel)) (hfl _ (by decide +kernel)) rfl rfl rfl hA
    · exact law_row (v0 := 20) (v1 := 9) (v2 := 9) (hts (.laysStatic "NoteThemes" "MOST_SETTING" "[I") (by decide +kernel)) (hts (.initialized "NoteThemes") (by decide +kernel)) (hfl _ (by decide +kernel)) (hfl _ (by decide +kernel)) (hfl _ (by decide +kernel)) (hfl _ (by decide +kernel)) (hfl _ (by decide +kernel)) rfl rfl rfl hA
  have hl0 := lh_entry [.ref b] 4 (List.forall_mem_cons.mpr ⟨rfl, List.forall_mem_nil _⟩) (Nat.le_of_ble_eq_true rfl)
  rw [lg_entry_eq]
  exact law_walk (X := (p, l, e, room_1, s, m, #[Value.ref b], below, meth, c, (dC, dI), (fun k => if k = 0 then cI else if k = 1 then cC else cB), (fun q : Nat => s.heap.size ≤ q), s.heap)) ⟨hx, hb, hml, hr, hown, fun w h => hts w (wsL_law_in w h), hlocks, hK, fun _ h => h, rfl, rfl, rfl⟩ hsF ⟨rfl, rfl, fun _ h => h⟩ rfl ⟨hX, hbl, Nat.not_le.mpr hbl⟩ hL s.heap [] _ (fun k q h => by simp at h) ⟨fun i j p q h => by simp at h, fun k q h => by simp at h⟩ va_S.rf hl0
set_option maxHeartbeats 4000000 in
theorem lw_walk (l : Launch) (hflags : l.flags = flags0) (b : Addr) (xs : List Int32) : MetFree l x (headSpec (Jvm.Cond.code x code maxLocals ret :: tables_1) room_1) (lw_P b xs) (fun _ _ _ _ _ => True) lw_Q := by
  refine MetFree.of_bodyS (code := code) (maxLocals := maxLocals) (ret := ret) (by decide) ?_ ?_
  · intro args s m h hn
    obtain ⟨meth, c, h1, h2, h3, h4, h5, h6, -, -⟩ := Cond.code_spec hn (atoms_spec (ws := Jvm.Cond.code x code maxLocals ret :: tables_1) h _ List.mem_cons_self)
    exact ⟨meth, c, h1, h2, h3, h4, h5, h6⟩
  · intro p e s m args below meth c s₁ B hml0 hP _
    obtain ⟨rfl, hx, hbd, hgv⟩ := hP
    obtain ⟨scr, harrAt, hlist, hof, hsmall⟩ := hx
    obtain ⟨hcb, hkn, -, -⟩ := State.arrayAt?_spec harrAt
    have hown : s.vm.findClass R_law = some m.cls := findClass_of_methodNamed B.named
    have hts0 : ∀ c ∈ (Jvm.Cond.code x code maxLocals ret :: tables_1), c.before #[Value.ref b] s = true := atoms_spec (ws := Jvm.Cond.code x code maxLocals ret :: tables_1) B.pre
    have hts : ∀ w ∈ lw_tbl, w.before #[Value.ref b] s = true := k2_hts_sels lw_privs (fun w hw => hts0 w (List.mem_cons_of_mem _ hw)) lw_privs_ok
    have hml : c.maxLocals = 4 := B.maxLocals_eq (hts0 _ List.mem_cons_self)
    have X₀ : Stand p l e room_1 s m #[Value.ref b] below meth c s₁ [] 0 0 := Stand.of_body B
    have hh0 : s₁.heap = s.heap := by rw [B.state]; rfl
    have hsz : scr.slots.size = xs.length := by rw [← Array.length_toList, hlist, List.length_map]
    have hval : ∀ j : Nat, j < xs.length → scr.slots[j]? = some (.int (xs.getD j 0)) := fun j hj => by
      rw [← Array.getElem?_toList, hlist]
      simp [hj]
    have hbl : b < s.heap.size := (Array.getElem?_eq_some_iff.mp hcb).1
    have hX : va_X b xs.length (fun j => xs.getD j 0) s s.heap := ⟨scr, hcb, hof, hkn, hsz, hval⟩
    have K : W p l e room_1 s m #[Value.ref b] below meth c s₁.heap [] 0 0 (lw_Z below #[Value.ref b] s) (entryFrame m ([Value.ref b] : List Value).toArray 4) := by
      rw [hh0]
      exact whole_start l hflags hbd ⟨B.exec, B.bytes, B.returns, hml, hown, hts, hX, hbl, B.notSynchronized, hgv⟩
    obtain ⟨t, a1, o, b1, b2, b3⟩ := K s₁ rfl X₀
    exact ⟨t, o, a1, b1, b2, b3⟩
theorem lw_pre_spec {args : Array Value} {s : State} (h : (Jvm.Cond.and given_1 narrow_1).before args s = true) (hr : rest_1_c.before args s = true) : ∃ (b : Addr) (xs : List Int32), lw_P b xs args s := by
  have hs := flat_of_before _ h
  have hq := flat_of_before _ hr
  have hc : (Cond.count 1).before args s = true := hs _ (by decide +kernel)
  have harr : (Cond.arrayOf (.arg 0) .int).before args s = true := hs _ (by decide +kernel)
  have hle : (Cond.le (.length (.arg 0)) (.int 2560)).before args s = true := hs _ (by decide +kernel)
  have hlen : (Cond.isInt (.length (.arg 0))).before args s = true := hq _ (by decide +kernel)
  have hall : (Cond.all (.arg 0) (.isInt (.elem (.arg 0) (.index 0)))).before args s = true := hq _ (by decide +kernel)
  obtain ⟨b, xs, hb, hx⟩ := State.ints_of_pre rfl harr hlen hall
  have hsm : xs.length < 2 ^ 31 := hx.choose_spec.2.2.2
  have hev : (Term.length (.arg 0)).eval args s none [] s = some (.int xs.length.toInt32) := hx.length_eval hb
  have hv := Cond.le_ints hev (show (Term.int 2560).eval args s none [] s = some (.int 2560) from rfl)
  have hd : xs.length.toInt32 ≤ 2560 := by
    simpa [Cond.before, Cond.holds, hv] using hle
  have hN : xs.length ≤ 2560 := (Int32.ofNat_le_ofNat hsm (by decide)).mp (show Int32.ofNat xs.length ≤ Int32.ofNat 2560 from hd)
  exact ⟨b, xs, Cond.one_arg hc (show args[0]? = some (.ref b) from hb), hx, hN, h⟩
theorem lw_comes (l : Launch) (hflags : l.flags = flags0) : Comes l x (Jvm.Cond.code x code maxLocals ret :: tables_1) room_1 (fun tb e args s => Calls_1 tb e args s ∧ rest_1 tb e args s ∧ Pre_1 tb e args s)
    (fun _ _ args s o t => lw_Q args s o t) := by
  intro p e ha hc hk s m args below hf hfit hheap happ hpre
  obtain ⟨b, xs, hP⟩ := lw_pre_spec hpre.2.2 hpre.2.1
  obtain ⟨k, o, h1, h2, h3, hQ⟩ := lw_walk l hflags b xs p e ha hc hk s m args below hf ((Spec.applies_iff_loose hf).mp happ).1 hP trivial
  exact ⟨k, o, h1, h2, h3, hQ⟩
theorem lw_frame {s t : State} {o : Outcome} {args : Array Value} (h : Framed s o t [] 600000 7302250) :
    Framed s o t (fieldLocs frame_1_writes args s ++ arrayLocs frame_1_arrays args s ++ staticLocs frame_1_statics s) 600000 7302250 := h
theorem lw_limb (L : Cond) (hL : ∀ (args : Array Value) (s t : State), L.after args s (.returned (some (.int 1))) t = true) :
    ArmFor flags0 classFile x code maxLocals ret World_1 tables_1 room_1 Calls_1 rest_1 Pre_1
      (fun tb e a s o t => postC L tb e a s o t ∧ Framed s o t (fieldLocs frame_1_writes a s ++ arrayLocs frame_1_arrays a s ++ staticLocs frame_1_statics s) 600000 7302250) := by
  intro l hflags _ _ p e ha hc hk s m args below hf hfit hheap happ hpre
  obtain ⟨k, o, h1, h2, h3, rfl, hF⟩ := lw_comes l hflags p e ha hc hk s m args below hf hfit hheap happ hpre
  exact ⟨k, _, h1, h2, h3, hL args s _, lw_frame hF⟩
theorem i_vc : Claimed_1_1 ∧ Claimed_1_2 := ⟨lw_limb limb_1_1 (fun args s t => by simp [limb_1_1, Cond.after, Cond.holds, Cond.value]), lw_limb limb_1_2 (fun args s t => Cond.after_iff.mpr (by
  first | (rw [show limb_1_2 = Cond.eq .result (.int 1) from rfl, Cond.eq_ints (x := 1) (y := 1) rfl rfl]; simp; done) | (simp [limb_1_2, Cond.value, Term.eval]; done)))⟩

