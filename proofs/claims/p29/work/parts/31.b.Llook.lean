theorem lk_L_look_1 : Cond.constantLong RL 9 (293) ∈ wsL_look := List.mem_of_getElem? (i := 1) rfl
theorem lk_L_look_2 : Cond.constantLong RL 11 (31) ∈ wsL_look := List.mem_of_getElem? (i := 2) rfl
set_option maxRecDepth 100000 in
set_option maxHeartbeats 4000000 in
theorem B_L_look_157b {X : gX} (C : cx X RL cL_look 5 (some .long) wsL_look 6 136) (pa : Nat → Nat → Nat) (N : Nat) (Tn : tS) (B : tS) (Hs : tH) (r : Int64) (Trz : tS) (Ez : tS) (Fz : tS) (Nmz : tS) (k119 : Int64 → Int32 → tS → tS → tS → tS → Option (Int64 × tS × tS × tS × tS)) (hk119 : ∀ (x1 : Int64) (x3 : Int32) (Tr : tS) (E : tS) (F : tS) (Nm : tS), k119 x1 x3 Tr E F Nm = some (r, Trz, Ez, Fz, Nmz) → G X (QJ X r [ntW pa Tn, bdW (gcA X) (pa 1) B, hsW (gcA X) (pa 2) (fun j => pa (10 + j)) Hs, bdW (gcA X) (pa 5) Trz, heW (gcA X) (pa 6) Ez, heW (gcA X) (pa 7) Fz, nmW (gcA X) (pa 8) Nmz]) [ntW pa Tn, bdW (gcA X) (pa 1) B, hsW (gcA X) (pa 2) (fun j => pa (10 + j)) Hs, bdW (gcA X) (pa 5) Tr, heW (gcA X) (pa 6) E, heW (gcA X) (pa 7) F, nmW (gcA X) (pa 8) Nm] [some (.ref (pa 0 0)), some (.long x1), none, some (.int x3), none] [] 119) (k157 : Int64 → Int32 → Int32 → tS → tS → tS → tS → Option (Int64 × tS × tS × tS × tS)) (hk157 : ∀ (x1 : Int64) (x3 : Int32) (x4 : Int32) (Tr : tS) (E : tS) (F : tS) (Nm : tS), k157 x1 x3 x4 Tr E F Nm = some (r, Trz, Ez, Fz, Nmz) → G X (QJ X r [ntW pa Tn, bdW (gcA X) (pa 1) B, hsW (gcA X) (pa 2) (fun j => pa (10 + j)) Hs, bdW (gcA X) (pa 5) Trz, heW (gcA X) (pa 6) Ez, heW (gcA X) (pa 7) Fz, nmW (gcA X) (pa 8) Nmz]) [ntW pa Tn, bdW (gcA X) (pa 1) B, hsW (gcA X) (pa 2) (fun j => pa (10 + j)) Hs, bdW (gcA X) (pa 5) Tr, heW (gcA X) (pa 6) E, heW (gcA X) (pa 7) F, nmW (gcA X) (pa 8) Nm] [some (.ref (pa 0 0)), some (.long x1), none, some (.int x3), some (.int x4)] [] 157) (x1 : Int64) (x3 : Int32) (x4 : Int32) (Tr : tS) (E : tS) (F : tS) (Nm : tS) (h : f_L_look_157b N Tn B Hs k119 k157 x1 x3 x4 Tr E F Nm = some (r, Trz, Ez, Fz, Nmz)) : G X (QJ X r [ntW pa Tn, bdW (gcA X) (pa 1) B, hsW (gcA X) (pa 2) (fun j => pa (10 + j)) Hs, bdW (gcA X) (pa 5) Trz, heW (gcA X) (pa 6) Ez, heW (gcA X) (pa 7) Fz, nmW (gcA X) (pa 8) Nmz]) [ntW pa Tn, bdW (gcA X) (pa 1) B, hsW (gcA X) (pa 2) (fun j => pa (10 + j)) Hs, bdW (gcA X) (pa 5) Tr, heW (gcA X) (pa 6) E, heW (gcA X) (pa 7) F, nmW (gcA X) (pa 8) Nm] [some (.ref (pa 0 0)), some (.long x1), none, some (.int x3), some (.int x4)] [] 157 := by
  unfold f_L_look_157b at h
  refine g_iload (pc' := 159) C dL_look_157 rfl rfl ?_
  refine g_bipush (pc' := 161) (v := 10) C dL_look_159 (by decide) rfl ?_
  refine g_icmp_ge (pc' := 164) (tgt := 185) C dL_look_161 (by decide) rfl h (fun c h => ?_) (fun c h => ?_)
  · refine g_iinc (pc' := 188) (v := (x3 + 1)) C dL_look_185 rfl rfl rfl (L' := [some (.ref (pa 0 0)), some (.long x1), none, some (.int (x3 + 1)), some (.int x4)]) rfl ?_
    refine g_goto (pc' := 119) C dL_look_188 (by decide) ?_
    exact G_loc (lle_s (lle_s (lle_n (lle_s (lle_n lle_0))))) (hk119 x1 (x3 + 1) Tr E F Nm h)
  · refine g_ldc2 (pc' := 167) (v := 31) C lk_L_look_2 dL_look_164 rfl ?_
    refine g_lload_n (pc' := 168) C dL_look_167 rfl rfl ?_
    refine g_lmul (pc' := 169) C dL_look_168 rfl ?_
    refine g_aload_n (pc' := 170) C dL_look_169 rfl rfl ?_
    refine g_iload_n (pc' := 171) C dL_look_170 rfl rfl ?_
    refine g_iload (pc' := 173) C dL_look_171 rfl rfl ?_
    refine k_X5_votes (pc' := 176) C pa N Tn B x3 x4 [0, 1] rfl (by decide) gL_look_X5_votes ⟨Nat.le_of_ble_eq_true rfl, Nat.le_of_ble_eq_true rfl⟩ (Nat.le_of_ble_eq_true rfl) rfl dL_look_173 rfl h (fun r1 h => ?_)
    refine g_i2l (pc' := 177) C dL_look_176 rfl rfl ?_
    refine g_ladd (pc' := 178) C dL_look_177 rfl ?_
    refine g_lstore_n (pc' := 179) C dL_look_178 (Nat.le_of_ble_eq_true rfl) rfl (L' := [some (.ref (pa 0 0)), some (.long (((31 : Int64) * x1) + (r1.toInt64))), none, some (.int x3), some (.int x4)]) rfl ?_
    refine g_iinc (pc' := 182) (v := (x4 + 1)) C dL_look_179 rfl rfl rfl (L' := [some (.ref (pa 0 0)), some (.long (((31 : Int64) * x1) + (r1.toInt64))), none, some (.int x3), some (.int (x4 + 1))]) rfl ?_
    refine g_goto (pc' := 157) C dL_look_182 (by decide) ?_
    exact G_loc (lle_s (lle_s (lle_n (lle_s (lle_s lle_0))))) (hk157 (((31 : Int64) * x1) + (r1.toInt64)) x3 (x4 + 1) Tr E F Nm h)
set_option maxRecDepth 100000 in
set_option maxHeartbeats 4000000 in
theorem L_L_look_157 {X : gX} (C : cx X RL cL_look 5 (some .long) wsL_look 6 136) (pa : Nat → Nat → Nat) (N : Nat) (Tn : tS) (B : tS) (Hs : tH) (r : Int64) (Trz : tS) (Ez : tS) (Fz : tS) (Nmz : tS) (k119 : Int64 → Int32 → tS → tS → tS → tS → Option (Int64 × tS × tS × tS × tS)) (hk119 : ∀ (x1 : Int64) (x3 : Int32) (Tr : tS) (E : tS) (F : tS) (Nm : tS), k119 x1 x3 Tr E F Nm = some (r, Trz, Ez, Fz, Nmz) → G X (QJ X r [ntW pa Tn, bdW (gcA X) (pa 1) B, hsW (gcA X) (pa 2) (fun j => pa (10 + j)) Hs, bdW (gcA X) (pa 5) Trz, heW (gcA X) (pa 6) Ez, heW (gcA X) (pa 7) Fz, nmW (gcA X) (pa 8) Nmz]) [ntW pa Tn, bdW (gcA X) (pa 1) B, hsW (gcA X) (pa 2) (fun j => pa (10 + j)) Hs, bdW (gcA X) (pa 5) Tr, heW (gcA X) (pa 6) E, heW (gcA X) (pa 7) F, nmW (gcA X) (pa 8) Nm] [some (.ref (pa 0 0)), some (.long x1), none, some (.int x3), none] [] 119) : ∀ (n : Nat) (x1 : Int64) (x3 : Int32) (x4 : Int32) (Tr : tS) (E : tS) (F : tS) (Nm : tS), f_L_look_157 N Tn B Hs k119 n x1 x3 x4 Tr E F Nm = some (r, Trz, Ez, Fz, Nmz) → G X (QJ X r [ntW pa Tn, bdW (gcA X) (pa 1) B, hsW (gcA X) (pa 2) (fun j => pa (10 + j)) Hs, bdW (gcA X) (pa 5) Trz, heW (gcA X) (pa 6) Ez, heW (gcA X) (pa 7) Fz, nmW (gcA X) (pa 8) Nmz]) [ntW pa Tn, bdW (gcA X) (pa 1) B, hsW (gcA X) (pa 2) (fun j => pa (10 + j)) Hs, bdW (gcA X) (pa 5) Tr, heW (gcA X) (pa 6) E, heW (gcA X) (pa 7) F, nmW (gcA X) (pa 8) Nm] [some (.ref (pa 0 0)), some (.long x1), none, some (.int x3), some (.int x4)] [] 157 := by
  intro n
  induction n with
  | zero => intro x1 x3 x4 Tr E F Nm h; have h : (none : Option (Int64 × tS × tS × tS × tS)) = some (r, Trz, Ez, Fz, Nmz) := h; cases h
  | succ n ih => intro x1 x3 x4 Tr E F Nm h; exact B_L_look_157b C pa N Tn B Hs r Trz Ez Fz Nmz k119 hk119 (f_L_look_157 N Tn B Hs k119 n) ih x1 x3 x4 Tr E F Nm h
set_option maxRecDepth 100000 in
set_option maxHeartbeats 4000000 in
theorem B_L_look_119b {X : gX} (C : cx X RL cL_look 5 (some .long) wsL_look 6 136) (pa : Nat → Nat → Nat) (N : Nat) (Tn : tS) (B : tS) (Hs : tH) (r : Int64) (Trz : tS) (Ez : tS) (Fz : tS) (Nmz : tS)  (k119 : Int64 → Int32 → tS → tS → tS → tS → Option (Int64 × tS × tS × tS × tS)) (hk119 : ∀ (x1 : Int64) (x3 : Int32) (Tr : tS) (E : tS) (F : tS) (Nm : tS), k119 x1 x3 Tr E F Nm = some (r, Trz, Ez, Fz, Nmz) → G X (QJ X r [ntW pa Tn, bdW (gcA X) (pa 1) B, hsW (gcA X) (pa 2) (fun j => pa (10 + j)) Hs, bdW (gcA X) (pa 5) Trz, heW (gcA X) (pa 6) Ez, heW (gcA X) (pa 7) Fz, nmW (gcA X) (pa 8) Nmz]) [ntW pa Tn, bdW (gcA X) (pa 1) B, hsW (gcA X) (pa 2) (fun j => pa (10 + j)) Hs, bdW (gcA X) (pa 5) Tr, heW (gcA X) (pa 6) E, heW (gcA X) (pa 7) F, nmW (gcA X) (pa 8) Nm] [some (.ref (pa 0 0)), some (.long x1), none, some (.int x3), none] [] 119) (x1 : Int64) (x3 : Int32) (Tr : tS) (E : tS) (F : tS) (Nm : tS) (h : f_L_look_119b N Tn B Hs  k119 x1 x3 Tr E F Nm = some (r, Trz, Ez, Fz, Nmz)) : G X (QJ X r [ntW pa Tn, bdW (gcA X) (pa 1) B, hsW (gcA X) (pa 2) (fun j => pa (10 + j)) Hs, bdW (gcA X) (pa 5) Trz, heW (gcA X) (pa 6) Ez, heW (gcA X) (pa 7) Fz, nmW (gcA X) (pa 8) Nmz]) [ntW pa Tn, bdW (gcA X) (pa 1) B, hsW (gcA X) (pa 2) (fun j => pa (10 + j)) Hs, bdW (gcA X) (pa 5) Tr, heW (gcA X) (pa 6) E, heW (gcA X) (pa 7) F, nmW (gcA X) (pa 8) Nm] [some (.ref (pa 0 0)), some (.long x1), none, some (.int x3), none] [] 119 := by
  unfold f_L_look_119b at h
  refine g_iload_n (pc' := 120) C dL_look_119 rfl rfl ?_
  refine g_aload_n (pc' := 121) C dL_look_120 rfl rfl ?_
  refine g_iconst (pc' := 122) (v := 2) C dL_look_121 (by decide) rfl ?_
  refine k_X5_count (pc' := 125) C pa N Tn B Hs E Nm (2 : Int32) [0, 1, 2, 4, 6] rfl (by decide) gL_look_X5_count ⟨Nat.le_of_ble_eq_true rfl, Nat.le_of_ble_eq_true rfl⟩ (Nat.le_of_ble_eq_true rfl) rfl dL_look_122 rfl h (fun r1 E1 Nm1 h => ?_)
  show G X _ [ntW pa Tn, bdW (gcA X) (pa 1) B, hsW (gcA X) (pa 2) (fun j => pa (10 + j)) Hs, bdW (gcA X) (pa 5) Tr, heW (gcA X) (pa 6) E1, heW (gcA X) (pa 7) F, nmW (gcA X) (pa 8) Nm1] _ _ _
  refine g_icmp_ge (pc' := 128) (tgt := 191) C dL_look_125 (by decide) rfl h (fun c h => ?_) (fun c h => ?_)
  · refine g_lload_n (pc' := 192) C dL_look_191 rfl rfl ?_
    obtain ⟨rfl, rfl, rfl, rfl, rfl⟩ := pj5 (Option.some.inj h)
    exact g_lret C dL_look_192
  · refine g_ldc2 (pc' := 131) (v := 31) C lk_L_look_2 dL_look_128 rfl ?_
    refine g_ldc2 (pc' := 134) (v := 31) C lk_L_look_2 dL_look_131 rfl ?_
    refine g_lload_n (pc' := 135) C dL_look_134 rfl rfl ?_
    refine g_lmul (pc' := 136) C dL_look_135 rfl ?_
    refine g_aload_n (pc' := 137) C dL_look_136 rfl rfl ?_
    refine g_iload_n (pc' := 138) C dL_look_137 rfl rfl ?_
    refine g_iconst (pc' := 139) (v := 2) C dL_look_138 (by decide) rfl ?_
    refine k_X5_theme (pc' := 142) C pa N Tn B E1 Nm1 x3 (2 : Int32) [0, 1, 4, 6] rfl (by decide) gL_look_X5_theme ⟨Nat.le_of_ble_eq_true rfl, Nat.le_of_ble_eq_true rfl⟩ (Nat.le_of_ble_eq_true rfl) rfl dL_look_139 rfl h (fun r2 E2 Nm2 h => ?_)
    show G X _ [ntW pa Tn, bdW (gcA X) (pa 1) B, hsW (gcA X) (pa 2) (fun j => pa (10 + j)) Hs, bdW (gcA X) (pa 5) Tr, heW (gcA X) (pa 6) E2, heW (gcA X) (pa 7) F, nmW (gcA X) (pa 8) Nm2] _ _ _
    refine g_i2l (pc' := 143) C dL_look_142 rfl rfl ?_
    refine g_ladd (pc' := 144) C dL_look_143 rfl ?_
    refine g_lmul (pc' := 145) C dL_look_144 rfl ?_
    refine g_aload_n (pc' := 146) C dL_look_145 rfl rfl ?_
    refine g_iload_n (pc' := 147) C dL_look_146 rfl rfl ?_
    refine g_iconst (pc' := 148) (v := 5) C dL_look_147 (by decide) rfl ?_
    refine k_X5_theme (pc' := 151) C pa N Tn B E2 Nm2 x3 (5 : Int32) [0, 1, 4, 6] rfl (by decide) gL_look_X5_theme ⟨Nat.le_of_ble_eq_true rfl, Nat.le_of_ble_eq_true rfl⟩ (Nat.le_of_ble_eq_true rfl) rfl dL_look_148 rfl h (fun r3 E3 Nm3 h => ?_)
    show G X _ [ntW pa Tn, bdW (gcA X) (pa 1) B, hsW (gcA X) (pa 2) (fun j => pa (10 + j)) Hs, bdW (gcA X) (pa 5) Tr, heW (gcA X) (pa 6) E3, heW (gcA X) (pa 7) F, nmW (gcA X) (pa 8) Nm3] _ _ _
    refine g_i2l (pc' := 152) C dL_look_151 rfl rfl ?_
    refine g_ladd (pc' := 153) C dL_look_152 rfl ?_
    refine g_lstore_n (pc' := 154) C dL_look_153 (Nat.le_of_ble_eq_true rfl) rfl (L' := [some (.ref (pa 0 0)), some (.long (((31 : Int64) * (((31 : Int64) * x1) + (r2.toInt64))) + (r3.toInt64))), none, some (.int x3), none]) rfl ?_
    refine g_iconst (pc' := 155) (v := 0) C dL_look_154 (by decide) rfl ?_
    refine g_istore (pc' := 157) C dL_look_155 (Nat.le_of_ble_eq_true rfl) rfl (L' := [some (.ref (pa 0 0)), some (.long (((31 : Int64) * (((31 : Int64) * x1) + (r2.toInt64))) + (r3.toInt64))), none, some (.int x3), some (.int (0 : Int32))]) rfl ?_
    exact G_loc (lle_s (lle_s (lle_n (lle_s (lle_s lle_0))))) (L_L_look_157 C pa N Tn B Hs r Trz Ez Fz Nmz k119 hk119 N (((31 : Int64) * (((31 : Int64) * x1) + (r2.toInt64))) + (r3.toInt64)) x3 (0 : Int32) Tr E3 F Nm3 h)
set_option maxRecDepth 100000 in
set_option maxHeartbeats 4000000 in
theorem L_L_look_119 {X : gX} (C : cx X RL cL_look 5 (some .long) wsL_look 6 136) (pa : Nat → Nat → Nat) (N : Nat) (Tn : tS) (B : tS) (Hs : tH) (r : Int64) (Trz : tS) (Ez : tS) (Fz : tS) (Nmz : tS)  : ∀ (n : Nat) (x1 : Int64) (x3 : Int32) (Tr : tS) (E : tS) (F : tS) (Nm : tS), f_L_look_119 N Tn B Hs  n x1 x3 Tr E F Nm = some (r, Trz, Ez, Fz, Nmz) → G X (QJ X r [ntW pa Tn, bdW (gcA X) (pa 1) B, hsW (gcA X) (pa 2) (fun j => pa (10 + j)) Hs, bdW (gcA X) (pa 5) Trz, heW (gcA X) (pa 6) Ez, heW (gcA X) (pa 7) Fz, nmW (gcA X) (pa 8) Nmz]) [ntW pa Tn, bdW (gcA X) (pa 1) B, hsW (gcA X) (pa 2) (fun j => pa (10 + j)) Hs, bdW (gcA X) (pa 5) Tr, heW (gcA X) (pa 6) E, heW (gcA X) (pa 7) F, nmW (gcA X) (pa 8) Nm] [some (.ref (pa 0 0)), some (.long x1), none, some (.int x3), none] [] 119 := by
  intro n
  induction n with
  | zero => intro x1 x3 Tr E F Nm h; have h : (none : Option (Int64 × tS × tS × tS × tS)) = some (r, Trz, Ez, Fz, Nmz) := h; cases h
  | succ n ih => intro x1 x3 Tr E F Nm h; exact B_L_look_119b C pa N Tn B Hs r Trz Ez Fz Nmz  (f_L_look_119 N Tn B Hs  n) ih x1 x3 Tr E F Nm h
set_option maxRecDepth 100000 in
set_option maxHeartbeats 4000000 in
theorem B_L_look_83b {X : gX} (C : cx X RL cL_look 5 (some .long) wsL_look 6 136) (pa : Nat → Nat → Nat) (N : Nat) (Tn : tS) (B : tS) (Hs : tH) (r : Int64) (Trz : tS) (Ez : tS) (Fz : tS) (Nmz : tS) (k33 : Int64 → Int32 → tS → tS → tS → tS → Option (Int64 × tS × tS × tS × tS)) (hk33 : ∀ (x1 : Int64) (x3 : Int32) (Tr : tS) (E : tS) (F : tS) (Nm : tS), k33 x1 x3 Tr E F Nm = some (r, Trz, Ez, Fz, Nmz) → G X (QJ X r [ntW pa Tn, bdW (gcA X) (pa 1) B, hsW (gcA X) (pa 2) (fun j => pa (10 + j)) Hs, bdW (gcA X) (pa 5) Trz, heW (gcA X) (pa 6) Ez, heW (gcA X) (pa 7) Fz, nmW (gcA X) (pa 8) Nmz]) [ntW pa Tn, bdW (gcA X) (pa 1) B, hsW (gcA X) (pa 2) (fun j => pa (10 + j)) Hs, bdW (gcA X) (pa 5) Tr, heW (gcA X) (pa 6) E, heW (gcA X) (pa 7) F, nmW (gcA X) (pa 8) Nm] [some (.ref (pa 0 0)), some (.long x1), none, some (.int x3), none] [] 33) (k83 : Int64 → Int32 → Int32 → tS → tS → tS → tS → Option (Int64 × tS × tS × tS × tS)) (hk83 : ∀ (x1 : Int64) (x3 : Int32) (x4 : Int32) (Tr : tS) (E : tS) (F : tS) (Nm : tS), k83 x1 x3 x4 Tr E F Nm = some (r, Trz, Ez, Fz, Nmz) → G X (QJ X r [ntW pa Tn, bdW (gcA X) (pa 1) B, hsW (gcA X) (pa 2) (fun j => pa (10 + j)) Hs, bdW (gcA X) (pa 5) Trz, heW (gcA X) (pa 6) Ez, heW (gcA X) (pa 7) Fz, nmW (gcA X) (pa 8) Nmz]) [ntW pa Tn, bdW (gcA X) (pa 1) B, hsW (gcA X) (pa 2) (fun j => pa (10 + j)) Hs, bdW (gcA X) (pa 5) Tr, heW (gcA X) (pa 6) E, heW (gcA X) (pa 7) F, nmW (gcA X) (pa 8) Nm] [some (.ref (pa 0 0)), some (.long x1), none, some (.int x3), some (.int x4)] [] 83) (x1 : Int64) (x3 : Int32) (x4 : Int32) (Tr : tS) (E : tS) (F : tS) (Nm : tS) (h : f_L_look_83b N Tn B Hs k33 k83 x1 x3 x4 Tr E F Nm = some (r, Trz, Ez, Fz, Nmz)) : G X (QJ X r [ntW pa Tn, bdW (gcA X) (pa 1) B, hsW (gcA X) (pa 2) (fun j => pa (10 + j)) Hs, bdW (gcA X) (pa 5) Trz, heW (gcA X) (pa 6) Ez, heW (gcA X) (pa 7) Fz, nmW (gcA X) (pa 8) Nmz]) [ntW pa Tn, bdW (gcA X) (pa 1) B, hsW (gcA X) (pa 2) (fun j => pa (10 + j)) Hs, bdW (gcA X) (pa 5) Tr, heW (gcA X) (pa 6) E, heW (gcA X) (pa 7) F, nmW (gcA X) (pa 8) Nm] [some (.ref (pa 0 0)), some (.long x1), none, some (.int x3), some (.int x4)] [] 83 := by
  unfold f_L_look_83b at h
  refine g_iload (pc' := 85) C dL_look_83 rfl rfl ?_
  refine g_bipush (pc' := 87) (v := 6) C dL_look_85 (by decide) rfl ?_
  refine g_icmp_ge (pc' := 90) (tgt := 111) C dL_look_87 (by decide) rfl h (fun c h => ?_) (fun c h => ?_)
  · refine g_iinc (pc' := 114) (v := (x3 + 1)) C dL_look_111 rfl rfl rfl (L' := [some (.ref (pa 0 0)), some (.long x1), none, some (.int (x3 + 1)), some (.int x4)]) rfl ?_
    refine g_goto (pc' := 33) C dL_look_114 (by decide) ?_
    exact G_loc (lle_s (lle_s (lle_n (lle_s (lle_n lle_0))))) (hk33 x1 (x3 + 1) Tr E F Nm h)
  · refine g_ldc2 (pc' := 93) (v := 31) C lk_L_look_2 dL_look_90 rfl ?_
    refine g_lload_n (pc' := 94) C dL_look_93 rfl rfl ?_
    refine g_lmul (pc' := 95) C dL_look_94 rfl ?_
    refine g_aload_n (pc' := 96) C dL_look_95 rfl rfl ?_
    refine g_iload (pc' := 98) C dL_look_96 rfl rfl ?_
    refine g_iload_n (pc' := 99) C dL_look_98 rfl rfl ?_
    refine k_X5_dots (pc' := 102) C pa N Tn B x4 x3 [0, 1] rfl (by decide) gL_look_X5_dots ⟨Nat.le_of_ble_eq_true rfl, Nat.le_of_ble_eq_true rfl⟩ (Nat.le_of_ble_eq_true rfl) rfl dL_look_99 rfl h (fun r1 h => ?_)
    refine g_i2l (pc' := 103) C dL_look_102 rfl rfl ?_
    refine g_ladd (pc' := 104) C dL_look_103 rfl ?_
    refine g_lstore_n (pc' := 105) C dL_look_104 (Nat.le_of_ble_eq_true rfl) rfl (L' := [some (.ref (pa 0 0)), some (.long (((31 : Int64) * x1) + (r1.toInt64))), none, some (.int x3), some (.int x4)]) rfl ?_
    refine g_iinc (pc' := 108) (v := (x4 + 1)) C dL_look_105 rfl rfl rfl (L' := [some (.ref (pa 0 0)), some (.long (((31 : Int64) * x1) + (r1.toInt64))), none, some (.int x3), some (.int (x4 + 1))]) rfl ?_
    refine g_goto (pc' := 83) C dL_look_108 (by decide) ?_
    exact G_loc (lle_s (lle_s (lle_n (lle_s (lle_s lle_0))))) (hk83 (((31 : Int64) * x1) + (r1.toInt64)) x3 (x4 + 1) Tr E F Nm h)
set_option maxRecDepth 100000 in
set_option maxHeartbeats 4000000 in
theorem L_L_look_83 {X : gX} (C : cx X RL cL_look 5 (some .long) wsL_look 6 136) (pa : Nat → Nat → Nat) (N : Nat) (Tn : tS) (B : tS) (Hs : tH) (r : Int64) (Trz : tS) (Ez : tS) (Fz : tS) (Nmz : tS) (k33 : Int64 → Int32 → tS → tS → tS → tS → Option (Int64 × tS × tS × tS × tS)) (hk33 : ∀ (x1 : Int64) (x3 : Int32) (Tr : tS) (E : tS) (F : tS) (Nm : tS), k33 x1 x3 Tr E F Nm = some (r, Trz, Ez, Fz, Nmz) → G X (QJ X r [ntW pa Tn, bdW (gcA X) (pa 1) B, hsW (gcA X) (pa 2) (fun j => pa (10 + j)) Hs, bdW (gcA X) (pa 5) Trz, heW (gcA X) (pa 6) Ez, heW (gcA X) (pa 7) Fz, nmW (gcA X) (pa 8) Nmz]) [ntW pa Tn, bdW (gcA X) (pa 1) B, hsW (gcA X) (pa 2) (fun j => pa (10 + j)) Hs, bdW (gcA X) (pa 5) Tr, heW (gcA X) (pa 6) E, heW (gcA X) (pa 7) F, nmW (gcA X) (pa 8) Nm] [some (.ref (pa 0 0)), some (.long x1), none, some (.int x3), none] [] 33) : ∀ (n : Nat) (x1 : Int64) (x3 : Int32) (x4 : Int32) (Tr : tS) (E : tS) (F : tS) (Nm : tS), f_L_look_83 N Tn B Hs k33 n x1 x3 x4 Tr E F Nm = some (r, Trz, Ez, Fz, Nmz) → G X (QJ X r [ntW pa Tn, bdW (gcA X) (pa 1) B, hsW (gcA X) (pa 2) (fun j => pa (10 + j)) Hs, bdW (gcA X) (pa 5) Trz, heW (gcA X) (pa 6) Ez, heW (gcA X) (pa 7) Fz, nmW (gcA X) (pa 8) Nmz]) [ntW pa Tn, bdW (gcA X) (pa 1) B, hsW (gcA X) (pa 2) (fun j => pa (10 + j)) Hs, bdW (gcA X) (pa 5) Tr, heW (gcA X) (pa 6) E, heW (gcA X) (pa 7) F, nmW (gcA X) (pa 8) Nm] [some (.ref (pa 0 0)), some (.long x1), none, some (.int x3), some (.int x4)] [] 83 := by
  intro n
  induction n with
  | zero => intro x1 x3 x4 Tr E F Nm h; have h : (none : Option (Int64 × tS × tS × tS × tS)) = some (r, Trz, Ez, Fz, Nmz) := h; cases h
  | succ n ih => intro x1 x3 x4 Tr E F Nm h; exact B_L_look_83b C pa N Tn B Hs r Trz Ez Fz Nmz k33 hk33 (f_L_look_83 N Tn B Hs k33 n) ih x1 x3 x4 Tr E F Nm h
set_option maxRecDepth 100000 in
set_option maxHeartbeats 4000000 in
theorem B_L_look_33b {X : gX} (C : cx X RL cL_look 5 (some .long) wsL_look 6 136) (pa : Nat → Nat → Nat) (N : Nat) (Tn : tS) (B : tS) (Hs : tH) (r : Int64) (Trz : tS) (Ez : tS) (Fz : tS) (Nmz : tS)  (k33 : Int64 → Int32 → tS → tS → tS → tS → Option (Int64 × tS × tS × tS × tS)) (hk33 : ∀ (x1 : Int64) (x3 : Int32) (Tr : tS) (E : tS) (F : tS) (Nm : tS), k33 x1 x3 Tr E F Nm = some (r, Trz, Ez, Fz, Nmz) → G X (QJ X r [ntW pa Tn, bdW (gcA X) (pa 1) B, hsW (gcA X) (pa 2) (fun j => pa (10 + j)) Hs, bdW (gcA X) (pa 5) Trz, heW (gcA X) (pa 6) Ez, heW (gcA X) (pa 7) Fz, nmW (gcA X) (pa 8) Nmz]) [ntW pa Tn, bdW (gcA X) (pa 1) B, hsW (gcA X) (pa 2) (fun j => pa (10 + j)) Hs, bdW (gcA X) (pa 5) Tr, heW (gcA X) (pa 6) E, heW (gcA X) (pa 7) F, nmW (gcA X) (pa 8) Nm] [some (.ref (pa 0 0)), some (.long x1), none, some (.int x3), none] [] 33) (x1 : Int64) (x3 : Int32) (Tr : tS) (E : tS) (F : tS) (Nm : tS) (h : f_L_look_33b N Tn B Hs  k33 x1 x3 Tr E F Nm = some (r, Trz, Ez, Fz, Nmz)) : G X (QJ X r [ntW pa Tn, bdW (gcA X) (pa 1) B, hsW (gcA X) (pa 2) (fun j => pa (10 + j)) Hs, bdW (gcA X) (pa 5) Trz, heW (gcA X) (pa 6) Ez, heW (gcA X) (pa 7) Fz, nmW (gcA X) (pa 8) Nmz]) [ntW pa Tn, bdW (gcA X) (pa 1) B, hsW (gcA X) (pa 2) (fun j => pa (10 + j)) Hs, bdW (gcA X) (pa 5) Tr, heW (gcA X) (pa 6) E, heW (gcA X) (pa 7) F, nmW (gcA X) (pa 8) Nm] [some (.ref (pa 0 0)), some (.long x1), none, some (.int x3), none] [] 33 := by
  unfold f_L_look_33b at h
  refine g_iload_n (pc' := 34) C dL_look_33 rfl rfl ?_
  refine g_aload_n (pc' := 35) C dL_look_34 rfl rfl ?_
  refine g_iconst (pc' := 36) (v := 0) C dL_look_35 (by decide) rfl ?_
  refine k_X5_count (pc' := 39) C pa N Tn B Hs E Nm (0 : Int32) [0, 1, 2, 4, 6] rfl (by decide) gL_look_X5_count ⟨Nat.le_of_ble_eq_true rfl, Nat.le_of_ble_eq_true rfl⟩ (Nat.le_of_ble_eq_true rfl) rfl dL_look_36 rfl h (fun r1 E1 Nm1 h => ?_)
  show G X _ [ntW pa Tn, bdW (gcA X) (pa 1) B, hsW (gcA X) (pa 2) (fun j => pa (10 + j)) Hs, bdW (gcA X) (pa 5) Tr, heW (gcA X) (pa 6) E1, heW (gcA X) (pa 7) F, nmW (gcA X) (pa 8) Nm1] _ _ _
  refine g_icmp_ge (pc' := 42) (tgt := 117) C dL_look_39 (by decide) rfl h (fun c h => ?_) (fun c h => ?_)
  · refine g_iconst (pc' := 118) (v := 0) C dL_look_117 (by decide) rfl ?_
    refine g_istore_n (pc' := 119) C dL_look_118 (Nat.le_of_ble_eq_true rfl) rfl (L' := [some (.ref (pa 0 0)), some (.long x1), none, some (.int (0 : Int32)), none]) rfl ?_
    exact G_loc (lle_s (lle_s (lle_n (lle_s (lle_n lle_0))))) (L_L_look_119 C pa N Tn B Hs r Trz Ez Fz Nmz N x1 (0 : Int32) Tr E1 F Nm1 h)
  · refine g_ldc2 (pc' := 45) (v := 31) C lk_L_look_2 dL_look_42 rfl ?_
    refine g_ldc2 (pc' := 48) (v := 31) C lk_L_look_2 dL_look_45 rfl ?_
    refine g_ldc2 (pc' := 51) (v := 31) C lk_L_look_2 dL_look_48 rfl ?_
    refine g_lload_n (pc' := 52) C dL_look_51 rfl rfl ?_
    refine g_lmul (pc' := 53) C dL_look_52 rfl ?_
    refine g_aload_n (pc' := 54) C dL_look_53 rfl rfl ?_
    refine g_iload_n (pc' := 55) C dL_look_54 rfl rfl ?_
    refine g_iconst (pc' := 56) (v := 0) C dL_look_55 (by decide) rfl ?_
    refine k_X5_note (pc' := 59) C pa N Tn B Tr E1 F x3 (0 : Int32) [0, 1, 3, 4, 5] rfl (by decide) gL_look_X5_note ⟨Nat.le_of_ble_eq_true rfl, Nat.le_of_ble_eq_true rfl⟩ (Nat.le_of_ble_eq_true rfl) rfl dL_look_56 rfl h (fun r2 Tr2 E2 F2 h => ?_)
    show G X _ [ntW pa Tn, bdW (gcA X) (pa 1) B, hsW (gcA X) (pa 2) (fun j => pa (10 + j)) Hs, bdW (gcA X) (pa 5) Tr2, heW (gcA X) (pa 6) E2, heW (gcA X) (pa 7) F2, nmW (gcA X) (pa 8) Nm1] _ _ _
    refine g_i2l (pc' := 60) C dL_look_59 rfl rfl ?_
    refine g_ladd (pc' := 61) C dL_look_60 rfl ?_
    refine g_lmul (pc' := 62) C dL_look_61 rfl ?_
    refine g_aload_n (pc' := 63) C dL_look_62 rfl rfl ?_
    refine g_iload_n (pc' := 64) C dL_look_63 rfl rfl ?_
    refine g_iconst (pc' := 65) (v := 1) C dL_look_64 (by decide) rfl ?_
    refine k_X5_note (pc' := 68) C pa N Tn B Tr2 E2 F2 x3 (1 : Int32) [0, 1, 3, 4, 5] rfl (by decide) gL_look_X5_note ⟨Nat.le_of_ble_eq_true rfl, Nat.le_of_ble_eq_true rfl⟩ (Nat.le_of_ble_eq_true rfl) rfl dL_look_65 rfl h (fun r3 Tr3 E3 F3 h => ?_)
    show G X _ [ntW pa Tn, bdW (gcA X) (pa 1) B, hsW (gcA X) (pa 2) (fun j => pa (10 + j)) Hs, bdW (gcA X) (pa 5) Tr3, heW (gcA X) (pa 6) E3, heW (gcA X) (pa 7) F3, nmW (gcA X) (pa 8) Nm1] _ _ _
    refine g_i2l (pc' := 69) C dL_look_68 rfl rfl ?_
    refine g_ladd (pc' := 70) C dL_look_69 rfl ?_
    refine g_lmul (pc' := 71) C dL_look_70 rfl ?_
    refine g_aload_n (pc' := 72) C dL_look_71 rfl rfl ?_
    refine g_iload_n (pc' := 73) C dL_look_72 rfl rfl ?_
    refine g_iconst (pc' := 74) (v := 4) C dL_look_73 (by decide) rfl ?_
    refine k_X5_note (pc' := 77) C pa N Tn B Tr3 E3 F3 x3 (4 : Int32) [0, 1, 3, 4, 5] rfl (by decide) gL_look_X5_note ⟨Nat.le_of_ble_eq_true rfl, Nat.le_of_ble_eq_true rfl⟩ (Nat.le_of_ble_eq_true rfl) rfl dL_look_74 rfl h (fun r4 Tr4 E4 F4 h => ?_)
    show G X _ [ntW pa Tn, bdW (gcA X) (pa 1) B, hsW (gcA X) (pa 2) (fun j => pa (10 + j)) Hs, bdW (gcA X) (pa 5) Tr4, heW (gcA X) (pa 6) E4, heW (gcA X) (pa 7) F4, nmW (gcA X) (pa 8) Nm1] _ _ _
    refine g_i2l (pc' := 78) C dL_look_77 rfl rfl ?_
    refine g_ladd (pc' := 79) C dL_look_78 rfl ?_
    refine g_lstore_n (pc' := 80) C dL_look_79 (Nat.le_of_ble_eq_true rfl) rfl (L' := [some (.ref (pa 0 0)), some (.long (((31 : Int64) * (((31 : Int64) * (((31 : Int64) * x1) + (r2.toInt64))) + (r3.toInt64))) + (r4.toInt64))), none, some (.int x3), none]) rfl ?_
    refine g_iconst (pc' := 81) (v := 0) C dL_look_80 (by decide) rfl ?_
    refine g_istore (pc' := 83) C dL_look_81 (Nat.le_of_ble_eq_true rfl) rfl (L' := [some (.ref (pa 0 0)), some (.long (((31 : Int64) * (((31 : Int64) * (((31 : Int64) * x1) + (r2.toInt64))) + (r3.toInt64))) + (r4.toInt64))), none, some (.int x3), some (.int (0 : Int32))]) rfl ?_
    exact G_loc (lle_s (lle_s (lle_n (lle_s (lle_s lle_0))))) (L_L_look_83 C pa N Tn B Hs r Trz Ez Fz Nmz k33 hk33 N (((31 : Int64) * (((31 : Int64) * (((31 : Int64) * x1) + (r2.toInt64))) + (r3.toInt64))) + (r4.toInt64)) x3 (0 : Int32) Tr4 E4 F4 Nm1 h)
set_option maxRecDepth 100000 in
set_option maxHeartbeats 4000000 in
theorem L_L_look_33 {X : gX} (C : cx X RL cL_look 5 (some .long) wsL_look 6 136) (pa : Nat → Nat → Nat) (N : Nat) (Tn : tS) (B : tS) (Hs : tH) (r : Int64) (Trz : tS) (Ez : tS) (Fz : tS) (Nmz : tS)  : ∀ (n : Nat) (x1 : Int64) (x3 : Int32) (Tr : tS) (E : tS) (F : tS) (Nm : tS), f_L_look_33 N Tn B Hs  n x1 x3 Tr E F Nm = some (r, Trz, Ez, Fz, Nmz) → G X (QJ X r [ntW pa Tn, bdW (gcA X) (pa 1) B, hsW (gcA X) (pa 2) (fun j => pa (10 + j)) Hs, bdW (gcA X) (pa 5) Trz, heW (gcA X) (pa 6) Ez, heW (gcA X) (pa 7) Fz, nmW (gcA X) (pa 8) Nmz]) [ntW pa Tn, bdW (gcA X) (pa 1) B, hsW (gcA X) (pa 2) (fun j => pa (10 + j)) Hs, bdW (gcA X) (pa 5) Tr, heW (gcA X) (pa 6) E, heW (gcA X) (pa 7) F, nmW (gcA X) (pa 8) Nm] [some (.ref (pa 0 0)), some (.long x1), none, some (.int x3), none] [] 33 := by
  intro n
  induction n with
  | zero => intro x1 x3 Tr E F Nm h; have h : (none : Option (Int64 × tS × tS × tS × tS)) = some (r, Trz, Ez, Fz, Nmz) := h; cases h
  | succ n ih => intro x1 x3 Tr E F Nm h; exact B_L_look_33b C pa N Tn B Hs r Trz Ez Fz Nmz  (f_L_look_33 N Tn B Hs  n) ih x1 x3 Tr E F Nm h
set_option maxRecDepth 100000 in
set_option maxHeartbeats 4000000 in
theorem B_L_look_6b {X : gX} (C : cx X RL cL_look 5 (some .long) wsL_look 6 136) (pa : Nat → Nat → Nat) (N : Nat) (Tn : tS) (B : tS) (Hs : tH) (r : Int64) (Trz : tS) (Ez : tS) (Fz : tS) (Nmz : tS)  (k6 : Int64 → Int32 → tS → tS → tS → tS → Option (Int64 × tS × tS × tS × tS)) (hk6 : ∀ (x1 : Int64) (x3 : Int32) (Tr : tS) (E : tS) (F : tS) (Nm : tS), k6 x1 x3 Tr E F Nm = some (r, Trz, Ez, Fz, Nmz) → G X (QJ X r [ntW pa Tn, bdW (gcA X) (pa 1) B, hsW (gcA X) (pa 2) (fun j => pa (10 + j)) Hs, bdW (gcA X) (pa 5) Trz, heW (gcA X) (pa 6) Ez, heW (gcA X) (pa 7) Fz, nmW (gcA X) (pa 8) Nmz]) [ntW pa Tn, bdW (gcA X) (pa 1) B, hsW (gcA X) (pa 2) (fun j => pa (10 + j)) Hs, bdW (gcA X) (pa 5) Tr, heW (gcA X) (pa 6) E, heW (gcA X) (pa 7) F, nmW (gcA X) (pa 8) Nm] [some (.ref (pa 0 0)), some (.long x1), none, some (.int x3), none] [] 6) (x1 : Int64) (x3 : Int32) (Tr : tS) (E : tS) (F : tS) (Nm : tS) (h : f_L_look_6b N Tn B Hs  k6 x1 x3 Tr E F Nm = some (r, Trz, Ez, Fz, Nmz)) : G X (QJ X r [ntW pa Tn, bdW (gcA X) (pa 1) B, hsW (gcA X) (pa 2) (fun j => pa (10 + j)) Hs, bdW (gcA X) (pa 5) Trz, heW (gcA X) (pa 6) Ez, heW (gcA X) (pa 7) Fz, nmW (gcA X) (pa 8) Nmz]) [ntW pa Tn, bdW (gcA X) (pa 1) B, hsW (gcA X) (pa 2) (fun j => pa (10 + j)) Hs, bdW (gcA X) (pa 5) Tr, heW (gcA X) (pa 6) E, heW (gcA X) (pa 7) F, nmW (gcA X) (pa 8) Nm] [some (.ref (pa 0 0)), some (.long x1), none, some (.int x3), none] [] 6 := by
  unfold f_L_look_6b at h
  refine g_iload_n (pc' := 7) C dL_look_6 rfl rfl ?_
  refine g_bipush (pc' := 9) (v := 11) C dL_look_7 (by decide) rfl ?_
  refine g_icmp_ge (pc' := 12) (tgt := 31) C dL_look_9 (by decide) rfl h (fun c h => ?_) (fun c h => ?_)
  · refine g_iconst (pc' := 32) (v := 0) C dL_look_31 (by decide) rfl ?_
    refine g_istore_n (pc' := 33) C dL_look_32 (Nat.le_of_ble_eq_true rfl) rfl (L' := [some (.ref (pa 0 0)), some (.long x1), none, some (.int (0 : Int32)), none]) rfl ?_
    exact G_loc (lle_s (lle_s (lle_n (lle_s (lle_n lle_0))))) (L_L_look_33 C pa N Tn B Hs r Trz Ez Fz Nmz N x1 (0 : Int32) Tr E F Nm h)
  · refine g_ldc2 (pc' := 15) (v := 31) C lk_L_look_2 dL_look_12 rfl ?_
    refine g_lload_n (pc' := 16) C dL_look_15 rfl rfl ?_
    refine g_lmul (pc' := 17) C dL_look_16 rfl ?_
    refine g_aload_n (pc' := 18) C dL_look_17 rfl rfl ?_
    refine g_iload_n (pc' := 19) C dL_look_18 rfl rfl ?_
    refine k_X5_count (pc' := 22) C pa N Tn B Hs E Nm x3 [0, 1, 2, 4, 6] rfl (by decide) gL_look_X5_count ⟨Nat.le_of_ble_eq_true rfl, Nat.le_of_ble_eq_true rfl⟩ (Nat.le_of_ble_eq_true rfl) rfl dL_look_19 rfl h (fun r1 E1 Nm1 h => ?_)
    show G X _ [ntW pa Tn, bdW (gcA X) (pa 1) B, hsW (gcA X) (pa 2) (fun j => pa (10 + j)) Hs, bdW (gcA X) (pa 5) Tr, heW (gcA X) (pa 6) E1, heW (gcA X) (pa 7) F, nmW (gcA X) (pa 8) Nm1] _ _ _
    refine g_i2l (pc' := 23) C dL_look_22 rfl rfl ?_
    refine g_ladd (pc' := 24) C dL_look_23 rfl ?_
    refine g_lstore_n (pc' := 25) C dL_look_24 (Nat.le_of_ble_eq_true rfl) rfl (L' := [some (.ref (pa 0 0)), some (.long (((31 : Int64) * x1) + (r1.toInt64))), none, some (.int x3), none]) rfl ?_
    refine g_iinc (pc' := 28) (v := (x3 + 1)) C dL_look_25 rfl rfl rfl (L' := [some (.ref (pa 0 0)), some (.long (((31 : Int64) * x1) + (r1.toInt64))), none, some (.int (x3 + 1)), none]) rfl ?_
    refine g_goto (pc' := 6) C dL_look_28 (by decide) ?_
    exact G_loc (lle_s (lle_s (lle_n (lle_s (lle_n lle_0))))) (hk6 (((31 : Int64) * x1) + (r1.toInt64)) (x3 + 1) Tr E1 F Nm1 h)
set_option maxRecDepth 100000 in
set_option maxHeartbeats 4000000 in
theorem L_L_look_6 {X : gX} (C : cx X RL cL_look 5 (some .long) wsL_look 6 136) (pa : Nat → Nat → Nat) (N : Nat) (Tn : tS) (B : tS) (Hs : tH) (r : Int64) (Trz : tS) (Ez : tS) (Fz : tS) (Nmz : tS)  : ∀ (n : Nat) (x1 : Int64) (x3 : Int32) (Tr : tS) (E : tS) (F : tS) (Nm : tS), f_L_look_6 N Tn B Hs  n x1 x3 Tr E F Nm = some (r, Trz, Ez, Fz, Nmz) → G X (QJ X r [ntW pa Tn, bdW (gcA X) (pa 1) B, hsW (gcA X) (pa 2) (fun j => pa (10 + j)) Hs, bdW (gcA X) (pa 5) Trz, heW (gcA X) (pa 6) Ez, heW (gcA X) (pa 7) Fz, nmW (gcA X) (pa 8) Nmz]) [ntW pa Tn, bdW (gcA X) (pa 1) B, hsW (gcA X) (pa 2) (fun j => pa (10 + j)) Hs, bdW (gcA X) (pa 5) Tr, heW (gcA X) (pa 6) E, heW (gcA X) (pa 7) F, nmW (gcA X) (pa 8) Nm] [some (.ref (pa 0 0)), some (.long x1), none, some (.int x3), none] [] 6 := by
  intro n
  induction n with
  | zero => intro x1 x3 Tr E F Nm h; have h : (none : Option (Int64 × tS × tS × tS × tS)) = some (r, Trz, Ez, Fz, Nmz) := h; cases h
  | succ n ih => intro x1 x3 Tr E F Nm h; exact B_L_look_6b C pa N Tn B Hs r Trz Ez Fz Nmz  (f_L_look_6 N Tn B Hs  n) ih x1 x3 Tr E F Nm h
set_option maxRecDepth 100000 in
set_option maxHeartbeats 4000000 in
theorem B_L_look {X : gX} (C : cx X RL cL_look 5 (some .long) wsL_look 6 136) (pa : Nat → Nat → Nat) (N : Nat) (Tn : tS) (B : tS) (Hs : tH) (Tr : tS) (E : tS) (F : tS) (Nm : tS)  (r : Int64) (Trz : tS) (Ez : tS) (Fz : tS) (Nmz : tS) (h : f_L_look N Tn B Hs Tr E F Nm = some (r, Trz, Ez, Fz, Nmz)) : G X (QJ X r [ntW pa Tn, bdW (gcA X) (pa 1) B, hsW (gcA X) (pa 2) (fun j => pa (10 + j)) Hs, bdW (gcA X) (pa 5) Trz, heW (gcA X) (pa 6) Ez, heW (gcA X) (pa 7) Fz, nmW (gcA X) (pa 8) Nmz]) [ntW pa Tn, bdW (gcA X) (pa 1) B, hsW (gcA X) (pa 2) (fun j => pa (10 + j)) Hs, bdW (gcA X) (pa 5) Tr, heW (gcA X) (pa 6) E, heW (gcA X) (pa 7) F, nmW (gcA X) (pa 8) Nm] [some (.ref (pa 0 0)), none, none, none, none] [] 0 := by
  unfold f_L_look at h
  refine g_ldc2 (pc' := 3) (v := 293) C lk_L_look_1 dL_look_0 rfl ?_
  refine g_lstore_n (pc' := 4) C dL_look_3 (Nat.le_of_ble_eq_true rfl) rfl (L' := [some (.ref (pa 0 0)), some (.long (293 : Int64)), none, none, none]) rfl ?_
  refine g_iconst (pc' := 5) (v := 0) C dL_look_4 (by decide) rfl ?_
  refine g_istore_n (pc' := 6) C dL_look_5 (Nat.le_of_ble_eq_true rfl) rfl (L' := [some (.ref (pa 0 0)), some (.long (293 : Int64)), none, some (.int (0 : Int32)), none]) rfl ?_
  exact G_loc (lle_s (lle_s (lle_n (lle_s (lle_n lle_0))))) (L_L_look_6 C pa N Tn B Hs r Trz Ez Fz Nmz N (293 : Int64) (0 : Int32) Tr E F Nm h)
set_option maxRecDepth 100000 in
set_option maxHeartbeats 4000000 in
theorem c_L_look (l : Launch) (D : va_G) (cA : Nat → ClassId) (pa : Nat → Nat → Nat) (N : Nat) (Tn : tS) (B : tS) (Hs : tH) (Tr : tS) (E : tS) (F : tS) (Nm : tS)  (r : Int64) (Trz : tS) (Ez : tS) (Fz : tS) (Nmz : tS) (h : f_L_look N Tn B Hs Tr E F Nm = some (r, Trz, Ez, Fz, Nmz)) : MJ l D cA yL_look wsL_look 6 136 [.ref (pa 0 0)] [ntW pa Tn, bdW cA (pa 1) B, hsW cA (pa 2) (fun j => pa (10 + j)) Hs, bdW cA (pa 5) Tr, heW cA (pa 6) E, heW cA (pa 7) F, nmW cA (pa 8) Nm] r [ntW pa Tn, bdW cA (pa 1) B, hsW cA (pa 2) (fun j => pa (10 + j)) Hs, bdW cA (pa 5) Trz, heW cA (pa 6) Ez, heW cA (pa 7) Fz, nmW cA (pa 8) Nmz] := MJ_of (cc := cL_look) (maxL := 5) (rt := some .long) (by decide +kernel) rfl (List.forall_mem_cons.mpr ⟨rfl, List.forall_mem_nil _⟩) (Nat.le_of_ble_eq_true rfl) (fun X e1 e2 e3 C => by subst e1; subst e2; subst e3; exact B_L_look C pa N Tn B Hs Tr E F Nm r Trz Ez Fz Nmz h)
set_option maxRecDepth 100000 in
set_option maxHeartbeats 4000000 in
theorem nd_L_look : nd yL_look 1 := ⟨by decide +kernel, by decide +kernel, by decide +kernel⟩
set_option maxRecDepth 100000 in
set_option maxHeartbeats 4000000 in
theorem k_L_look {X : gX} {own : String} {cc : ByteArray} {nL : Nat} {ret : Option FieldType} {Ts : List Cond} {fr lm : Nat} {Q : State → Prop} {ms : List va_W} {L : List (Option Value)} {st : List Value} {pc pc' idx : Nat} {ρ : Type} {T : Int64 → tS → tS → tS → tS → Option ρ} {res : ρ} (C : cx X own cc nL ret Ts fr lm) (pa : Nat → Nat → Nat) (N : Nat) (Tn : tS) (B : tS) (Hs : tH) (Tr : tS) (E : tS) (F : tS) (Nm : tS)  (is : List Nat) (hC : is.map (fun i => ms[i]?) = [some (ntW pa Tn), some (bdW (gcA X) (pa 1) B), some (hsW (gcA X) (pa 2) (fun j => pa (10 + j)) Hs), some (bdW (gcA X) (pa 5) Tr), some (heW (gcA X) (pa 6) E), some (heW (gcA X) (pa 7) F), some (nmW (gcA X) (pa 8) Nm)]) (hn : is.Nodup) (hG : GoodIn Ts (va_wsS own idx yL_look wsL_look)) (hR : 6 + 1 ≤ fr ∧ 8 + (5 + 11) + 136 ≤ lm) (hst : (st.map fun v => v.category).sum ≤ 8) (hLn : L.length = nL) (d : decode cc pc = .ok (.invokestatic idx, 3)) (hp : pc + 3 = pc') (h : bd5 (f_L_look N Tn B Hs Tr E F Nm) T = some res) (kk : ∀ (r : Int64) (Trz : tS) (Ez : tS) (Fz : tS) (Nmz : tS), T r Trz Ez Fz Nmz = some res → G X Q (rpl ms is [ntW pa Tn, bdW (gcA X) (pa 1) B, hsW (gcA X) (pa 2) (fun j => pa (10 + j)) Hs, bdW (gcA X) (pa 5) Trz, heW (gcA X) (pa 6) Ez, heW (gcA X) (pa 7) Fz, nmW (gcA X) (pa 8) Nmz]) L (.long r :: st) pc') : G X Q ms L (.ref (pa 0 0) :: st) pc := by
  obtain ⟨r, Trz, Ez, Fz, Nmz, h1, h⟩ := ob5 h
  exact G_callSJ C (As := [.ref (pa 0 0)]) (c_L_look (gl X) (gD X) (gcA X) pa N Tn B Hs Tr E F Nm r Trz Ez Fz Nmz h1) hG rfl nd_L_look hR hC hn rfl rfl hst hLn d hp (kk r Trz Ez Fz Nmz h)
