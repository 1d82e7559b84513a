set_option maxRecDepth 100000 in
set_option maxHeartbeats 4000000 in
theorem B_L_types_278 {X : gX} (C : cx X RL cL_types 9 (some .boolean) wsL_types 1 21) (pa : Nat → Nat → Nat) (N : Nat) (p1 : Int32) (r : Int32) (Tnz : tS) (Txz : tS)  (Tn : tS) (Tx : tS) (h : f_L_types_278 N p1  Tn Tx = some (r, Tnz, Txz)) : G X (QI X r [ntW pa Tnz, txW (gcA X) (pa 4) Txz]) [ntW pa Tn, txW (gcA X) (pa 4) Tx] [some (.ref (pa 0 0)), some (.int p1), none, none, none, none, none, none, none] [] 278 := by
  unfold f_L_types_278 at h
  refine g_iconst (pc' := 279) (v := 1) C dL_types_278 (by decide) rfl ?_
  refine g_goto (pc' := 283) C dL_types_279 (by decide) ?_
  obtain ⟨rfl, rfl, rfl⟩ := pj3 (Option.some.inj h)
  exact g_zret0 C rfl dL_types_283
set_option maxRecDepth 100000 in
set_option maxHeartbeats 4000000 in
theorem B_L_types_247 {X : gX} (C : cx X RL cL_types 9 (some .boolean) wsL_types 1 21) (pa : Nat → Nat → Nat) (N : Nat) (p1 : Int32) (r : Int32) (Tnz : tS) (Txz : tS) (k25 : Int32 → Int32 → Int32 → tS → tS → Option (Int32 × tS × tS)) (hk25 : ∀ (x2 : Int32) (x3 : Int32) (x4 : Int32) (Tn : tS) (Tx : tS), k25 x2 x3 x4 Tn Tx = some (r, Tnz, Txz) → G X (QI X r [ntW pa Tnz, txW (gcA X) (pa 4) Txz]) [ntW pa Tn, txW (gcA X) (pa 4) Tx] [some (.ref (pa 0 0)), some (.int p1), some (.int x2), some (.int x3), some (.int x4), none, none, none, none] [] 25) (x2 : Int32) (x3 : Int32) (x4 : Int32) (Tn : tS) (Tx : tS) (h : f_L_types_247 N p1 k25 x2 x3 x4 Tn Tx = some (r, Tnz, Txz)) : G X (QI X r [ntW pa Tnz, txW (gcA X) (pa 4) Txz]) [ntW pa Tn, txW (gcA X) (pa 4) Tx] [some (.ref (pa 0 0)), some (.int p1), some (.int x2), some (.int x3), some (.int x4), none, none, none, none] [] 247 := by
  unfold f_L_types_247 at h
  refine g_iinc (pc' := 250) (v := (x4 + 1)) C dL_types_247 rfl rfl rfl (L' := [some (.ref (pa 0 0)), some (.int p1), some (.int x2), some (.int x3), some (.int (x4 + 1)), none, none, none, none]) rfl ?_
  refine g_goto (pc' := 25) C dL_types_250 (by decide) ?_
  exact G_loc (lle_s (lle_s (lle_s (lle_s (lle_s (lle_n (lle_n (lle_n (lle_n lle_0))))))))) (hk25 x2 x3 (x4 + 1) Tn Tx h)
set_option maxRecDepth 100000 in
set_option maxHeartbeats 4000000 in
theorem B_L_types_240 {X : gX} (C : cx X RL cL_types 9 (some .boolean) wsL_types 1 21) (pa : Nat → Nat → Nat) (N : Nat) (p1 : Int32) (r : Int32) (Tnz : tS) (Txz : tS) (k25 : Int32 → Int32 → Int32 → tS → tS → Option (Int32 × tS × tS)) (hk25 : ∀ (x2 : Int32) (x3 : Int32) (x4 : Int32) (Tn : tS) (Tx : tS), k25 x2 x3 x4 Tn Tx = some (r, Tnz, Txz) → G X (QI X r [ntW pa Tnz, txW (gcA X) (pa 4) Txz]) [ntW pa Tn, txW (gcA X) (pa 4) Tx] [some (.ref (pa 0 0)), some (.int p1), some (.int x2), some (.int x3), some (.int x4), none, none, none, none] [] 25) (k216 : Int32 → Int32 → Int32 → Int32 → tS → tS → Option (Int32 × tS × tS)) (hk216 : ∀ (x2 : Int32) (x3 : Int32) (x4 : Int32) (x8 : Int32) (Tn : tS) (Tx : tS), k216 x2 x3 x4 x8 Tn Tx = some (r, Tnz, Txz) → G X (QI X r [ntW pa Tnz, txW (gcA X) (pa 4) Txz]) [ntW pa Tn, txW (gcA X) (pa 4) Tx] [some (.ref (pa 0 0)), some (.int p1), some (.int x2), some (.int x3), some (.int x4), none, none, none, some (.int x8)] [] 216) (x2 : Int32) (x4 : Int32) (x8 : Int32) (t0 : Int32) (Tn : tS) (Tx : tS) (h : f_L_types_240 N p1 k25 k216 x2 x4 x8 t0 Tn Tx = some (r, Tnz, Txz)) : G X (QI X r [ntW pa Tnz, txW (gcA X) (pa 4) Txz]) [ntW pa Tn, txW (gcA X) (pa 4) Tx] [some (.ref (pa 0 0)), some (.int p1), some (.int x2), none, some (.int x4), none, none, none, some (.int x8)] [.int t0] 240 := by
  unfold f_L_types_240 at h
  refine g_istore_n (pc' := 241) C dL_types_240 (Nat.le_of_ble_eq_true rfl) rfl (L' := [some (.ref (pa 0 0)), some (.int p1), some (.int x2), some (.int t0), some (.int x4), none, none, none, some (.int x8)]) rfl ?_
  refine g_iinc (pc' := 244) (v := (x8 + (-1))) C dL_types_241 rfl rfl rfl (L' := [some (.ref (pa 0 0)), some (.int p1), some (.int x2), some (.int t0), some (.int x4), none, none, none, some (.int (x8 + (-1)))]) rfl ?_
  refine g_goto (pc' := 216) C dL_types_244 (by decide) ?_
  exact G_loc (lle_s (lle_s (lle_s (lle_s (lle_s (lle_n (lle_n (lle_n (lle_s lle_0))))))))) (hk216 x2 t0 x4 (x8 + (-1)) Tn Tx h)
set_option maxRecDepth 100000 in
set_option maxHeartbeats 4000000 in
theorem B_L_types_216b {X : gX} (C : cx X RL cL_types 9 (some .boolean) wsL_types 1 21) (pa : Nat → Nat → Nat) (N : Nat) (p1 : Int32) (r : Int32) (Tnz : tS) (Txz : tS) (k25 : Int32 → Int32 → Int32 → tS → tS → Option (Int32 × tS × tS)) (hk25 : ∀ (x2 : Int32) (x3 : Int32) (x4 : Int32) (Tn : tS) (Tx : tS), k25 x2 x3 x4 Tn Tx = some (r, Tnz, Txz) → G X (QI X r [ntW pa Tnz, txW (gcA X) (pa 4) Txz]) [ntW pa Tn, txW (gcA X) (pa 4) Tx] [some (.ref (pa 0 0)), some (.int p1), some (.int x2), some (.int x3), some (.int x4), none, none, none, none] [] 25) (k216 : Int32 → Int32 → Int32 → Int32 → tS → tS → Option (Int32 × tS × tS)) (hk216 : ∀ (x2 : Int32) (x3 : Int32) (x4 : Int32) (x8 : Int32) (Tn : tS) (Tx : tS), k216 x2 x3 x4 x8 Tn Tx = some (r, Tnz, Txz) → G X (QI X r [ntW pa Tnz, txW (gcA X) (pa 4) Txz]) [ntW pa Tn, txW (gcA X) (pa 4) Tx] [some (.ref (pa 0 0)), some (.int p1), some (.int x2), some (.int x3), some (.int x4), none, none, none, some (.int x8)] [] 216) (x2 : Int32) (x3 : Int32) (x4 : Int32) (x8 : Int32) (Tn : tS) (Tx : tS) (h : f_L_types_216b N p1 k25 k216 x2 x3 x4 x8 Tn Tx = some (r, Tnz, Txz)) : G X (QI X r [ntW pa Tnz, txW (gcA X) (pa 4) Txz]) [ntW pa Tn, txW (gcA X) (pa 4) Tx] [some (.ref (pa 0 0)), some (.int p1), some (.int x2), some (.int x3), some (.int x4), none, none, none, some (.int x8)] [] 216 := by
  unfold f_L_types_216b at h
  refine g_iload (pc' := 218) C dL_types_216 rfl rfl ?_
  refine g_iconst (pc' := 219) (v := 1) C dL_types_218 (by decide) rfl ?_
  refine g_icmp_le (pc' := 222) (tgt := 247) C dL_types_219 (by decide) rfl h (fun c h => ?_) (fun c h => ?_)
  · exact G_loc (lle_s (lle_s (lle_s (lle_s (lle_s (lle_n (lle_n (lle_n (lle_n lle_0))))))))) (B_L_types_247 C pa N p1 r Tnz Txz k25 hk25 x2 x3 x4 Tn Tx h)
  · refine g_iload_n (pc' := 223) C dL_types_222 rfl rfl ?_
    refine g_if_eq (pc' := 226) (tgt := 247) C dL_types_223 (by decide) rfl h (fun c h => ?_) (fun c h => ?_)
    · exact G_loc (lle_s (lle_s (lle_s (lle_s (lle_s (lle_n (lle_n (lle_n (lle_n lle_0))))))))) (B_L_types_247 C pa N p1 r Tnz Txz k25 hk25 x2 x3 x4 Tn Tx h)
    · refine g_aload_n (pc' := 227) C dL_types_226 rfl rfl ?_
      refine g_bipush (pc' := 229) (v := 42) C dL_types_227 (by decide) rfl ?_
      refine k_X5_type (pc' := 232) C pa N Tn Tx (42 : Int32) [0, 1] rfl (by decide) gL_types_X5_type ⟨Nat.le_of_ble_eq_true rfl, Nat.le_of_ble_eq_true rfl⟩ (Nat.le_of_ble_eq_true rfl) rfl dL_types_229 rfl h (fun r1 Tn1 Tx1 h => ?_)
      show G X _ [ntW pa Tn1, txW (gcA X) (pa 4) Tx1] _ _ _
      refine g_if_le (pc' := 235) (tgt := 239) C dL_types_232 (by decide) rfl h (fun c h => ?_) (fun c h => ?_)
      · refine g_iconst (pc' := 240) (v := 0) C dL_types_239 (by decide) rfl ?_
        exact G_loc (lle_s (lle_s (lle_s (lle_n (lle_s (lle_n (lle_n (lle_n (lle_s lle_0))))))))) (B_L_types_240 C pa N p1 r Tnz Txz k25 hk25 k216 hk216 x2 x4 x8 (0 : Int32) Tn1 Tx1 h)
      · refine g_iconst (pc' := 236) (v := 1) C dL_types_235 (by decide) rfl ?_
        refine g_goto (pc' := 240) C dL_types_236 (by decide) ?_
        exact G_loc (lle_s (lle_s (lle_s (lle_n (lle_s (lle_n (lle_n (lle_n (lle_s lle_0))))))))) (B_L_types_240 C pa N p1 r Tnz Txz k25 hk25 k216 hk216 x2 x4 x8 (1 : Int32) Tn1 Tx1 h)
set_option maxRecDepth 100000 in
set_option maxHeartbeats 4000000 in
theorem L_L_types_216 {X : gX} (C : cx X RL cL_types 9 (some .boolean) wsL_types 1 21) (pa : Nat → Nat → Nat) (N : Nat) (p1 : Int32) (r : Int32) (Tnz : tS) (Txz : tS) (k25 : Int32 → Int32 → Int32 → tS → tS → Option (Int32 × tS × tS)) (hk25 : ∀ (x2 : Int32) (x3 : Int32) (x4 : Int32) (Tn : tS) (Tx : tS), k25 x2 x3 x4 Tn Tx = some (r, Tnz, Txz) → G X (QI X r [ntW pa Tnz, txW (gcA X) (pa 4) Txz]) [ntW pa Tn, txW (gcA X) (pa 4) Tx] [some (.ref (pa 0 0)), some (.int p1), some (.int x2), some (.int x3), some (.int x4), none, none, none, none] [] 25) : ∀ (n : Nat) (x2 : Int32) (x3 : Int32) (x4 : Int32) (x8 : Int32) (Tn : tS) (Tx : tS), f_L_types_216 N p1 k25 n x2 x3 x4 x8 Tn Tx = some (r, Tnz, Txz) → G X (QI X r [ntW pa Tnz, txW (gcA X) (pa 4) Txz]) [ntW pa Tn, txW (gcA X) (pa 4) Tx] [some (.ref (pa 0 0)), some (.int p1), some (.int x2), some (.int x3), some (.int x4), none, none, none, some (.int x8)] [] 216 := by
  intro n
  induction n with
  | zero => intro x2 x3 x4 x8 Tn Tx h; have h : (none : Option (Int32 × tS × tS)) = some (r, Tnz, Txz) := h; cases h
  | succ n ih => intro x2 x3 x4 x8 Tn Tx h; exact B_L_types_216b C pa N p1 r Tnz Txz k25 hk25 (f_L_types_216 N p1 k25 n) ih x2 x3 x4 x8 Tn Tx h
set_option maxRecDepth 100000 in
set_option maxHeartbeats 4000000 in
theorem B_L_types_205 {X : gX} (C : cx X RL cL_types 9 (some .boolean) wsL_types 1 21) (pa : Nat → Nat → Nat) (N : Nat) (p1 : Int32) (r : Int32) (Tnz : tS) (Txz : tS) (k25 : Int32 → Int32 → Int32 → tS → tS → Option (Int32 × tS × tS)) (hk25 : ∀ (x2 : Int32) (x3 : Int32) (x4 : Int32) (Tn : tS) (Tx : tS), k25 x2 x3 x4 Tn Tx = some (r, Tnz, Txz) → G X (QI X r [ntW pa Tnz, txW (gcA X) (pa 4) Txz]) [ntW pa Tn, txW (gcA X) (pa 4) Tx] [some (.ref (pa 0 0)), some (.int p1), some (.int x2), some (.int x3), some (.int x4), none, none, none, none] [] 25) (x2 : Int32) (x4 : Int32) (x5 : Int32) (t0 : Int32) (Tn : tS) (Tx : tS) (h : f_L_types_205 N p1 k25 x2 x4 x5 t0 Tn Tx = some (r, Tnz, Txz)) : G X (QI X r [ntW pa Tnz, txW (gcA X) (pa 4) Txz]) [ntW pa Tn, txW (gcA X) (pa 4) Tx] [some (.ref (pa 0 0)), some (.int p1), some (.int x2), none, some (.int x4), some (.int x5), none, none, none] [.int t0] 205 := by
  unfold f_L_types_205 at h
  refine g_istore_n (pc' := 206) C dL_types_205 (Nat.le_of_ble_eq_true rfl) rfl (L' := [some (.ref (pa 0 0)), some (.int p1), some (.int x2), some (.int t0), some (.int x4), some (.int x5), none, none, none]) rfl ?_
  refine g_iload (pc' := 208) C dL_types_206 rfl rfl ?_
  refine g_iconst (pc' := 209) (v := 1) C dL_types_208 (by decide) rfl ?_
  refine g_ishr (pc' := 210) C dL_types_209 rfl ?_
  refine g_iconst (pc' := 211) (v := 4) C dL_types_210 (by decide) rfl ?_
  refine k_L_low (pc' := 214) C N (x5 >>> ((1 : Int32) &&& 31)) (4 : Int32) [] rfl (by decide) gL_types_L_low ⟨Nat.le_of_ble_eq_true rfl, Nat.le_of_ble_eq_true rfl⟩ (Nat.le_of_ble_eq_true rfl) rfl dL_types_211 rfl h (fun r1 h => ?_)
  refine g_istore (pc' := 216) C dL_types_214 (Nat.le_of_ble_eq_true rfl) rfl (L' := [some (.ref (pa 0 0)), some (.int p1), some (.int x2), some (.int t0), some (.int x4), some (.int x5), none, none, some (.int r1)]) rfl ?_
  exact G_loc (lle_s (lle_s (lle_s (lle_s (lle_s (lle_n (lle_n (lle_n (lle_s lle_0))))))))) (L_L_types_216 C pa N p1 r Tnz Txz k25 hk25 N x2 t0 x4 r1 Tn Tx h)
set_option maxRecDepth 100000 in
set_option maxHeartbeats 4000000 in
theorem B_L_types_204 {X : gX} (C : cx X RL cL_types 9 (some .boolean) wsL_types 1 21) (pa : Nat → Nat → Nat) (N : Nat) (p1 : Int32) (r : Int32) (Tnz : tS) (Txz : tS) (k25 : Int32 → Int32 → Int32 → tS → tS → Option (Int32 × tS × tS)) (hk25 : ∀ (x2 : Int32) (x3 : Int32) (x4 : Int32) (Tn : tS) (Tx : tS), k25 x2 x3 x4 Tn Tx = some (r, Tnz, Txz) → G X (QI X r [ntW pa Tnz, txW (gcA X) (pa 4) Txz]) [ntW pa Tn, txW (gcA X) (pa 4) Tx] [some (.ref (pa 0 0)), some (.int p1), some (.int x2), some (.int x3), some (.int x4), none, none, none, none] [] 25) (x2 : Int32) (x4 : Int32) (x5 : Int32) (Tn : tS) (Tx : tS) (h : f_L_types_204 N p1 k25 x2 x4 x5 Tn Tx = some (r, Tnz, Txz)) : G X (QI X r [ntW pa Tnz, txW (gcA X) (pa 4) Txz]) [ntW pa Tn, txW (gcA X) (pa 4) Tx] [some (.ref (pa 0 0)), some (.int p1), some (.int x2), none, some (.int x4), some (.int x5), none, none, none] [] 204 := by
  unfold f_L_types_204 at h
  refine g_iconst (pc' := 205) (v := 0) C dL_types_204 (by decide) rfl ?_
  exact G_loc (lle_s (lle_s (lle_s (lle_n (lle_s (lle_s (lle_n (lle_n (lle_n lle_0))))))))) (B_L_types_205 C pa N p1 r Tnz Txz k25 hk25 x2 x4 x5 (0 : Int32) Tn Tx h)
set_option maxRecDepth 100000 in
set_option maxHeartbeats 4000000 in
theorem B_L_types_184 {X : gX} (C : cx X RL cL_types 9 (some .boolean) wsL_types 1 21) (pa : Nat → Nat → Nat) (N : Nat) (p1 : Int32) (r : Int32) (Tnz : tS) (Txz : tS) (k25 : Int32 → Int32 → Int32 → tS → tS → Option (Int32 × tS × tS)) (hk25 : ∀ (x2 : Int32) (x3 : Int32) (x4 : Int32) (Tn : tS) (Tx : tS), k25 x2 x3 x4 Tn Tx = some (r, Tnz, Txz) → G X (QI X r [ntW pa Tnz, txW (gcA X) (pa 4) Txz]) [ntW pa Tn, txW (gcA X) (pa 4) Tx] [some (.ref (pa 0 0)), some (.int p1), some (.int x2), some (.int x3), some (.int x4), none, none, none, none] [] 25) (x2 : Int32) (x4 : Int32) (x5 : Int32) (x7 : Int32) (Tn : tS) (Tx : tS) (h : f_L_types_184 N p1 k25 x2 x4 x5 x7 Tn Tx = some (r, Tnz, Txz)) : G X (QI X r [ntW pa Tnz, txW (gcA X) (pa 4) Txz]) [ntW pa Tn, txW (gcA X) (pa 4) Tx] [some (.ref (pa 0 0)), some (.int p1), some (.int x2), none, some (.int x4), some (.int x5), none, some (.int x7), none] [] 184 := by
  unfold f_L_types_184 at h
  refine g_aload_n (pc' := 185) C dL_types_184 rfl rfl ?_
  refine g_bipush (pc' := 187) (v := 48) C dL_types_185 (by decide) rfl ?_
  refine g_iload (pc' := 189) C dL_types_187 rfl rfl ?_
  refine g_bipush (pc' := 191) (v := 10) C dL_types_189 (by decide) rfl ?_
  refine g_irem (pc' := 192) C dL_types_191 rfl h (fun h => ?_)
  refine g_iadd (pc' := 193) C dL_types_192 rfl ?_
  refine g_i2c (pc' := 194) C dL_types_193 rfl rfl ?_
  refine k_X5_type (pc' := 197) C pa N Tn Tx ((((48 : Int32) + (x7 - x7 / (10 : Int32) * (10 : Int32))).toUInt32 % 65536).toInt32) [0, 1] rfl (by decide) gL_types_X5_type ⟨Nat.le_of_ble_eq_true rfl, Nat.le_of_ble_eq_true rfl⟩ (Nat.le_of_ble_eq_true rfl) rfl dL_types_194 rfl h (fun r1 Tn1 Tx1 h => ?_)
  show G X _ [ntW pa Tn1, txW (gcA X) (pa 4) Tx1] _ _ _
  refine g_if_le (pc' := 200) (tgt := 204) C dL_types_197 (by decide) rfl h (fun c h => ?_) (fun c h => ?_)
  · exact G_loc (lle_s (lle_s (lle_s (lle_n (lle_s (lle_s (lle_n (lle_n (lle_n lle_0))))))))) (B_L_types_204 C pa N p1 r Tnz Txz k25 hk25 x2 x4 x5 Tn1 Tx1 h)
  · refine g_iconst (pc' := 201) (v := 1) C dL_types_200 (by decide) rfl ?_
    refine g_goto (pc' := 205) C dL_types_201 (by decide) ?_
    exact G_loc (lle_s (lle_s (lle_s (lle_n (lle_s (lle_s (lle_n (lle_n (lle_n lle_0))))))))) (B_L_types_205 C pa N p1 r Tnz Txz k25 hk25 x2 x4 x5 (1 : Int32) Tn1 Tx1 h)
set_option maxRecDepth 100000 in
set_option maxHeartbeats 4000000 in
theorem B_L_types_136 {X : gX} (C : cx X RL cL_types 9 (some .boolean) wsL_types 1 21) (pa : Nat → Nat → Nat) (N : Nat) (p1 : Int32) (r : Int32) (Tnz : tS) (Txz : tS) (k25 : Int32 → Int32 → Int32 → tS → tS → Option (Int32 × tS × tS)) (hk25 : ∀ (x2 : Int32) (x3 : Int32) (x4 : Int32) (Tn : tS) (Tx : tS), k25 x2 x3 x4 Tn Tx = some (r, Tnz, Txz) → G X (QI X r [ntW pa Tnz, txW (gcA X) (pa 4) Txz]) [ntW pa Tn, txW (gcA X) (pa 4) Tx] [some (.ref (pa 0 0)), some (.int p1), some (.int x2), some (.int x3), some (.int x4), none, none, none, none] [] 25) (x2 : Int32) (x4 : Int32) (x5 : Int32) (x6 : Int32) (x7 : Int32) (Tn : tS) (Tx : tS) (h : f_L_types_136 N p1 k25 x2 x4 x5 x6 x7 Tn Tx = some (r, Tnz, Txz)) : G X (QI X r [ntW pa Tnz, txW (gcA X) (pa 4) Txz]) [ntW pa Tn, txW (gcA X) (pa 4) Tx] [some (.ref (pa 0 0)), some (.int p1), some (.int x2), none, some (.int x4), some (.int x5), some (.int x6), some (.int x7), none] [] 136 := by
  unfold f_L_types_136 at h
  refine g_aload_n (pc' := 137) C dL_types_136 rfl rfl ?_
  refine g_bipush (pc' := 139) (v := 48) C dL_types_137 (by decide) rfl ?_
  refine g_iload (pc' := 141) C dL_types_139 rfl rfl ?_
  refine g_bipush (pc' := 143) (v := 10) C dL_types_141 (by decide) rfl ?_
  refine g_irem (pc' := 144) C dL_types_143 rfl h (fun h => ?_)
  refine g_iadd (pc' := 145) C dL_types_144 rfl ?_
  refine g_i2c (pc' := 146) C dL_types_145 rfl rfl ?_
  refine k_X5_type (pc' := 149) C pa N Tn Tx ((((48 : Int32) + (x6 - x6 / (10 : Int32) * (10 : Int32))).toUInt32 % 65536).toInt32) [0, 1] rfl (by decide) gL_types_X5_type ⟨Nat.le_of_ble_eq_true rfl, Nat.le_of_ble_eq_true rfl⟩ (Nat.le_of_ble_eq_true rfl) rfl dL_types_146 rfl h (fun r1 Tn1 Tx1 h => ?_)
  show G X _ [ntW pa Tn1, txW (gcA X) (pa 4) Tx1] _ _ _
  refine g_if_le (pc' := 152) (tgt := 204) C dL_types_149 (by decide) rfl h (fun c h => ?_) (fun c h => ?_)
  · exact G_loc (lle_s (lle_s (lle_s (lle_n (lle_s (lle_s (lle_n (lle_n (lle_n lle_0))))))))) (B_L_types_204 C pa N p1 r Tnz Txz k25 hk25 x2 x4 x5 Tn1 Tx1 h)
  · refine g_aload_n (pc' := 153) C dL_types_152 rfl rfl ?_
    refine g_bipush (pc' := 155) (v := 44) C dL_types_153 (by decide) rfl ?_
    refine k_X5_type (pc' := 158) C pa N Tn1 Tx1 (44 : Int32) [0, 1] rfl (by decide) gL_types_X5_type ⟨Nat.le_of_ble_eq_true rfl, Nat.le_of_ble_eq_true rfl⟩ (Nat.le_of_ble_eq_true rfl) rfl dL_types_155 rfl h (fun r2 Tn2 Tx2 h => ?_)
    show G X _ [ntW pa Tn2, txW (gcA X) (pa 4) Tx2] _ _ _
    refine g_if_le (pc' := 161) (tgt := 204) C dL_types_158 (by decide) rfl h (fun c h => ?_) (fun c h => ?_)
    · exact G_loc (lle_s (lle_s (lle_s (lle_n (lle_s (lle_s (lle_n (lle_n (lle_n lle_0))))))))) (B_L_types_204 C pa N p1 r Tnz Txz k25 hk25 x2 x4 x5 Tn2 Tx2 h)
    · refine g_iload (pc' := 163) C dL_types_161 rfl rfl ?_
      refine g_bipush (pc' := 165) (v := 10) C dL_types_163 (by decide) rfl ?_
      refine g_icmp_lt (pc' := 168) (tgt := 184) C dL_types_165 (by decide) rfl h (fun c h => ?_) (fun c h => ?_)
      · exact G_loc (lle_s (lle_s (lle_s (lle_n (lle_s (lle_s (lle_n (lle_s (lle_n lle_0))))))))) (B_L_types_184 C pa N p1 r Tnz Txz k25 hk25 x2 x4 x5 x7 Tn2 Tx2 h)
      · refine g_aload_n (pc' := 169) C dL_types_168 rfl rfl ?_
        refine g_bipush (pc' := 171) (v := 48) C dL_types_169 (by decide) rfl ?_
        refine g_iload (pc' := 173) C dL_types_171 rfl rfl ?_
        refine g_bipush (pc' := 175) (v := 10) C dL_types_173 (by decide) rfl ?_
        refine g_idiv (pc' := 176) C dL_types_175 rfl h (fun h => ?_)
        refine g_iadd (pc' := 177) C dL_types_176 rfl ?_
        refine g_i2c (pc' := 178) C dL_types_177 rfl rfl ?_
        refine k_X5_type (pc' := 181) C pa N Tn2 Tx2 ((((48 : Int32) + (x7 / (10 : Int32))).toUInt32 % 65536).toInt32) [0, 1] rfl (by decide) gL_types_X5_type ⟨Nat.le_of_ble_eq_true rfl, Nat.le_of_ble_eq_true rfl⟩ (Nat.le_of_ble_eq_true rfl) rfl dL_types_178 rfl h (fun r3 Tn3 Tx3 h => ?_)
        show G X _ [ntW pa Tn3, txW (gcA X) (pa 4) Tx3] _ _ _
        refine g_if_le (pc' := 184) (tgt := 204) C dL_types_181 (by decide) rfl h (fun c h => ?_) (fun c h => ?_)
        · exact G_loc (lle_s (lle_s (lle_s (lle_n (lle_s (lle_s (lle_n (lle_n (lle_n lle_0))))))))) (B_L_types_204 C pa N p1 r Tnz Txz k25 hk25 x2 x4 x5 Tn3 Tx3 h)
        · exact G_loc (lle_s (lle_s (lle_s (lle_n (lle_s (lle_s (lle_n (lle_s (lle_n lle_0))))))))) (B_L_types_184 C pa N p1 r Tnz Txz k25 hk25 x2 x4 x5 x7 Tn3 Tx3 h)
set_option maxRecDepth 100000 in
set_option maxHeartbeats 4000000 in
theorem B_L_types_113 {X : gX} (C : cx X RL cL_types 9 (some .boolean) wsL_types 1 21) (pa : Nat → Nat → Nat) (N : Nat) (p1 : Int32) (r : Int32) (Tnz : tS) (Txz : tS) (k25 : Int32 → Int32 → Int32 → tS → tS → Option (Int32 × tS × tS)) (hk25 : ∀ (x2 : Int32) (x3 : Int32) (x4 : Int32) (Tn : tS) (Tx : tS), k25 x2 x3 x4 Tn Tx = some (r, Tnz, Txz) → G X (QI X r [ntW pa Tnz, txW (gcA X) (pa 4) Txz]) [ntW pa Tn, txW (gcA X) (pa 4) Tx] [some (.ref (pa 0 0)), some (.int p1), some (.int x2), some (.int x3), some (.int x4), none, none, none, none] [] 25) (x2 : Int32) (x4 : Int32) (x5 : Int32) (x6 : Int32) (x7 : Int32) (Tn : tS) (Tx : tS) (h : f_L_types_113 N p1 k25 x2 x4 x5 x6 x7 Tn Tx = some (r, Tnz, Txz)) : G X (QI X r [ntW pa Tnz, txW (gcA X) (pa 4) Txz]) [ntW pa Tn, txW (gcA X) (pa 4) Tx] [some (.ref (pa 0 0)), some (.int p1), some (.int x2), none, some (.int x4), some (.int x5), some (.int x6), some (.int x7), none] [] 113 := by
  unfold f_L_types_113 at h
  refine g_iload (pc' := 115) C dL_types_113 rfl rfl ?_
  refine g_bipush (pc' := 117) (v := 10) C dL_types_115 (by decide) rfl ?_
  refine g_icmp_lt (pc' := 120) (tgt := 136) C dL_types_117 (by decide) rfl h (fun c h => ?_) (fun c h => ?_)
  · exact G_loc (lle_s (lle_s (lle_s (lle_n (lle_s (lle_s (lle_s (lle_s (lle_n lle_0))))))))) (B_L_types_136 C pa N p1 r Tnz Txz k25 hk25 x2 x4 x5 x6 x7 Tn Tx h)
  · refine g_aload_n (pc' := 121) C dL_types_120 rfl rfl ?_
    refine g_bipush (pc' := 123) (v := 48) C dL_types_121 (by decide) rfl ?_
    refine g_iload (pc' := 125) C dL_types_123 rfl rfl ?_
    refine g_bipush (pc' := 127) (v := 10) C dL_types_125 (by decide) rfl ?_
    refine g_idiv (pc' := 128) C dL_types_127 rfl h (fun h => ?_)
    refine g_iadd (pc' := 129) C dL_types_128 rfl ?_
    refine g_i2c (pc' := 130) C dL_types_129 rfl rfl ?_
    refine k_X5_type (pc' := 133) C pa N Tn Tx ((((48 : Int32) + (x6 / (10 : Int32))).toUInt32 % 65536).toInt32) [0, 1] rfl (by decide) gL_types_X5_type ⟨Nat.le_of_ble_eq_true rfl, Nat.le_of_ble_eq_true rfl⟩ (Nat.le_of_ble_eq_true rfl) rfl dL_types_130 rfl h (fun r1 Tn1 Tx1 h => ?_)
    show G X _ [ntW pa Tn1, txW (gcA X) (pa 4) Tx1] _ _ _
    refine g_if_le (pc' := 136) (tgt := 204) C dL_types_133 (by decide) rfl h (fun c h => ?_) (fun c h => ?_)
    · exact G_loc (lle_s (lle_s (lle_s (lle_n (lle_s (lle_s (lle_n (lle_n (lle_n lle_0))))))))) (B_L_types_204 C pa N p1 r Tnz Txz k25 hk25 x2 x4 x5 Tn1 Tx1 h)
    · exact G_loc (lle_s (lle_s (lle_s (lle_n (lle_s (lle_s (lle_s (lle_s (lle_n lle_0))))))))) (B_L_types_136 C pa N p1 r Tnz Txz k25 hk25 x2 x4 x5 x6 x7 Tn1 Tx1 h)
set_option maxRecDepth 100000 in
set_option maxHeartbeats 4000000 in
theorem B_L_types_90 {X : gX} (C : cx X RL cL_types 9 (some .boolean) wsL_types 1 21) (pa : Nat → Nat → Nat) (N : Nat) (p1 : Int32) (r : Int32) (Tnz : tS) (Txz : tS) (k25 : Int32 → Int32 → Int32 → tS → tS → Option (Int32 × tS × tS)) (hk25 : ∀ (x2 : Int32) (x3 : Int32) (x4 : Int32) (Tn : tS) (Tx : tS), k25 x2 x3 x4 Tn Tx = some (r, Tnz, Txz) → G X (QI X r [ntW pa Tnz, txW (gcA X) (pa 4) Txz]) [ntW pa Tn, txW (gcA X) (pa 4) Tx] [some (.ref (pa 0 0)), some (.int p1), some (.int x2), some (.int x3), some (.int x4), none, none, none, none] [] 25) (x2 : Int32) (x3 : Int32) (x4 : Int32) (x5 : Int32) (x6 : Int32) (t0 : Int32) (t1 : Int32) (Tn : tS) (Tx : tS) (h : f_L_types_90 N p1 k25 x2 x3 x4 x5 x6 t0 t1 Tn Tx = some (r, Tnz, Txz)) : G X (QI X r [ntW pa Tnz, txW (gcA X) (pa 4) Txz]) [ntW pa Tn, txW (gcA X) (pa 4) Tx] [some (.ref (pa 0 0)), some (.int p1), some (.int x2), some (.int x3), some (.int x4), some (.int x5), some (.int x6), none, none] [.int t0, .int t1] 90 := by
  unfold f_L_types_90 at h
  refine k_L_low (pc' := 93) C N t1 t0 [] rfl (by decide) gL_types_L_low ⟨Nat.le_of_ble_eq_true rfl, Nat.le_of_ble_eq_true rfl⟩ (Nat.le_of_ble_eq_true rfl) rfl dL_types_90 rfl h (fun r1 h => ?_)
  refine g_istore (pc' := 95) C dL_types_93 (Nat.le_of_ble_eq_true rfl) rfl (L' := [some (.ref (pa 0 0)), some (.int p1), some (.int x2), some (.int x3), some (.int x4), some (.int x5), some (.int x6), some (.int r1), none]) rfl ?_
  refine g_iload_n (pc' := 96) C dL_types_95 rfl rfl ?_
  refine g_if_eq (pc' := 99) (tgt := 204) C dL_types_96 (by decide) rfl h (fun c h => ?_) (fun c h => ?_)
  · exact G_loc (lle_s (lle_s (lle_s (lle_n (lle_s (lle_s (lle_n (lle_n (lle_n lle_0))))))))) (B_L_types_204 C pa N p1 r Tnz Txz k25 hk25 x2 x4 x5 Tn Tx h)
  · refine g_iload (pc' := 101) C dL_types_99 rfl rfl ?_
    refine g_if_eq (pc' := 104) (tgt := 113) C dL_types_101 (by decide) rfl h (fun c h => ?_) (fun c h => ?_)
    · exact G_loc (lle_s (lle_s (lle_s (lle_n (lle_s (lle_s (lle_s (lle_s (lle_n lle_0))))))))) (B_L_types_113 C pa N p1 r Tnz Txz k25 hk25 x2 x4 x5 x6 r1 Tn Tx h)
    · refine g_aload_n (pc' := 105) C dL_types_104 rfl rfl ?_
      refine g_bipush (pc' := 107) (v := 59) C dL_types_105 (by decide) rfl ?_
      refine k_X5_type (pc' := 110) C pa N Tn Tx (59 : Int32) [0, 1] rfl (by decide) gL_types_X5_type ⟨Nat.le_of_ble_eq_true rfl, Nat.le_of_ble_eq_true rfl⟩ (Nat.le_of_ble_eq_true rfl) rfl dL_types_107 rfl h (fun r2 Tn2 Tx2 h => ?_)
      show G X _ [ntW pa Tn2, txW (gcA X) (pa 4) Tx2] _ _ _
      refine g_if_le (pc' := 113) (tgt := 204) C dL_types_110 (by decide) rfl h (fun c h => ?_) (fun c h => ?_)
      · exact G_loc (lle_s (lle_s (lle_s (lle_n (lle_s (lle_s (lle_n (lle_n (lle_n lle_0))))))))) (B_L_types_204 C pa N p1 r Tnz Txz k25 hk25 x2 x4 x5 Tn2 Tx2 h)
      · exact G_loc (lle_s (lle_s (lle_s (lle_n (lle_s (lle_s (lle_s (lle_s (lle_n lle_0))))))))) (B_L_types_113 C pa N p1 r Tnz Txz k25 hk25 x2 x4 x5 x6 r1 Tn2 Tx2 h)
set_option maxRecDepth 100000 in
set_option maxHeartbeats 4000000 in
theorem B_L_types_62 {X : gX} (C : cx X RL cL_types 9 (some .boolean) wsL_types 1 21) (pa : Nat → Nat → Nat) (N : Nat) (p1 : Int32) (r : Int32) (Tnz : tS) (Txz : tS) (k25 : Int32 → Int32 → Int32 → tS → tS → Option (Int32 × tS × tS)) (hk25 : ∀ (x2 : Int32) (x3 : Int32) (x4 : Int32) (Tn : tS) (Tx : tS), k25 x2 x3 x4 Tn Tx = some (r, Tnz, Txz) → G X (QI X r [ntW pa Tnz, txW (gcA X) (pa 4) Txz]) [ntW pa Tn, txW (gcA X) (pa 4) Tx] [some (.ref (pa 0 0)), some (.int p1), some (.int x2), some (.int x3), some (.int x4), none, none, none, none] [] 25) (x2 : Int32) (x3 : Int32) (x4 : Int32) (x5 : Int32) (t0 : Int32) (t1 : Int32) (Tn : tS) (Tx : tS) (h : f_L_types_62 N p1 k25 x2 x3 x4 x5 t0 t1 Tn Tx = some (r, Tnz, Txz)) : G X (QI X r [ntW pa Tnz, txW (gcA X) (pa 4) Txz]) [ntW pa Tn, txW (gcA X) (pa 4) Tx] [some (.ref (pa 0 0)), some (.int p1), some (.int x2), some (.int x3), some (.int x4), some (.int x5), none, none, none] [.int t0, .int t1] 62 := by
  unfold f_L_types_62 at h
  refine k_L_low (pc' := 65) C N t1 t0 [] rfl (by decide) gL_types_L_low ⟨Nat.le_of_ble_eq_true rfl, Nat.le_of_ble_eq_true rfl⟩ (Nat.le_of_ble_eq_true rfl) rfl dL_types_62 rfl h (fun r1 h => ?_)
  refine g_istore (pc' := 67) C dL_types_65 (Nat.le_of_ble_eq_true rfl) rfl (L' := [some (.ref (pa 0 0)), some (.int p1), some (.int x2), some (.int x3), some (.int x4), some (.int x5), some (.int r1), none, none]) rfl ?_
  refine g_iload (pc' := 69) C dL_types_67 rfl rfl ?_
  refine g_iconst (pc' := 70) (v := 2) C dL_types_69 (by decide) rfl ?_
  refine g_ishr (pc' := 71) C dL_types_70 rfl ?_
  refine g_iload_n (pc' := 72) C dL_types_71 rfl rfl ?_
  refine g_bipush (pc' := 74) (v := 22) C dL_types_72 (by decide) rfl ?_
  refine g_ishr (pc' := 75) C dL_types_74 rfl ?_
  refine g_bipush (pc' := 77) (v := 9) C dL_types_75 (by decide) rfl ?_
  refine k_L_low (pc' := 80) C N (p1 >>> ((22 : Int32) &&& 31)) (9 : Int32) [] rfl (by decide) gL_types_L_low ⟨Nat.le_of_ble_eq_true rfl, Nat.le_of_ble_eq_true rfl⟩ (Nat.le_of_ble_eq_true rfl) rfl dL_types_77 rfl h (fun r2 h => ?_)
  refine g_if_ne (pc' := 83) (tgt := 88) C dL_types_80 (by decide) rfl h (fun c h => ?_) (fun c h => ?_)
  · refine g_bipush (pc' := 85) (v := 22) C dL_types_83 (by decide) rfl ?_
    refine g_goto (pc' := 90) C dL_types_85 (by decide) ?_
    exact G_loc (lle_s (lle_s (lle_s (lle_s (lle_s (lle_s (lle_s (lle_n (lle_n lle_0))))))))) (B_L_types_90 C pa N p1 r Tnz Txz k25 hk25 x2 x3 x4 x5 r1 (22 : Int32) (x5 >>> ((2 : Int32) &&& 31)) Tn Tx h)
  · refine g_bipush (pc' := 90) (v := 20) C dL_types_88 (by decide) rfl ?_
    exact G_loc (lle_s (lle_s (lle_s (lle_s (lle_s (lle_s (lle_s (lle_n (lle_n lle_0))))))))) (B_L_types_90 C pa N p1 r Tnz Txz k25 hk25 x2 x3 x4 x5 r1 (20 : Int32) (x5 >>> ((2 : Int32) &&& 31)) Tn Tx h)
set_option maxRecDepth 100000 in
set_option maxHeartbeats 4000000 in
theorem B_L_types_25b {X : gX} (C : cx X RL cL_types 9 (some .boolean) wsL_types 1 21) (pa : Nat → Nat → Nat) (N : Nat) (p1 : Int32) (r : Int32) (Tnz : tS) (Txz : tS)  (k25 : Int32 → Int32 → Int32 → tS → tS → Option (Int32 × tS × tS)) (hk25 : ∀ (x2 : Int32) (x3 : Int32) (x4 : Int32) (Tn : tS) (Tx : tS), k25 x2 x3 x4 Tn Tx = some (r, Tnz, Txz) → G X (QI X r [ntW pa Tnz, txW (gcA X) (pa 4) Txz]) [ntW pa Tn, txW (gcA X) (pa 4) Tx] [some (.ref (pa 0 0)), some (.int p1), some (.int x2), some (.int x3), some (.int x4), none, none, none, none] [] 25) (x2 : Int32) (x3 : Int32) (x4 : Int32) (Tn : tS) (Tx : tS) (h : f_L_types_25b N p1  k25 x2 x3 x4 Tn Tx = some (r, Tnz, Txz)) : G X (QI X r [ntW pa Tnz, txW (gcA X) (pa 4) Txz]) [ntW pa Tn, txW (gcA X) (pa 4) Tx] [some (.ref (pa 0 0)), some (.int p1), some (.int x2), some (.int x3), some (.int x4), none, none, none, none] [] 25 := by
  unfold f_L_types_25b at h
  refine g_iload (pc' := 27) C dL_types_25 rfl rfl ?_
  refine g_iload_n (pc' := 28) C dL_types_27 rfl rfl ?_
  refine g_icmp_ge (pc' := 31) (tgt := 253) C dL_types_28 (by decide) rfl h (fun c h => ?_) (fun c h => ?_)
  · refine g_iload_n (pc' := 254) C dL_types_253 rfl rfl ?_
    refine g_if_eq (pc' := 257) (tgt := 282) C dL_types_254 (by decide) rfl h (fun c h => ?_) (fun c h => ?_)
    · refine g_iconst (pc' := 283) (v := 0) C dL_types_282 (by decide) rfl ?_
      obtain ⟨rfl, rfl, rfl⟩ := pj3 (Option.some.inj h)
      exact g_zret0 C rfl dL_types_283
    · refine g_iload_n (pc' := 258) C dL_types_257 rfl rfl ?_
      refine g_bipush (pc' := 260) (v := 26) C dL_types_258 (by decide) rfl ?_
      refine g_ishr (pc' := 261) C dL_types_260 rfl ?_
      refine g_bipush (pc' := 263) (v := 6) C dL_types_261 (by decide) rfl ?_
      refine k_L_low (pc' := 266) C N (p1 >>> ((26 : Int32) &&& 31)) (6 : Int32) [] rfl (by decide) gL_types_L_low ⟨Nat.le_of_ble_eq_true rfl, Nat.le_of_ble_eq_true rfl⟩ (Nat.le_of_ble_eq_true rfl) rfl dL_types_263 rfl h (fun r1 h => ?_)
      refine g_if_gt (pc' := 269) (tgt := 278) C dL_types_266 (by decide) rfl h (fun c h => ?_) (fun c h => ?_)
      · exact G_loc (lle_s (lle_s (lle_n (lle_n (lle_n (lle_n (lle_n (lle_n (lle_n lle_0))))))))) (B_L_types_278 C pa N p1 r Tnz Txz Tn Tx h)
      · refine g_aload_n (pc' := 270) C dL_types_269 rfl rfl ?_
        refine g_bipush (pc' := 272) (v := 59) C dL_types_270 (by decide) rfl ?_
        refine k_X5_type (pc' := 275) C pa N Tn Tx (59 : Int32) [0, 1] rfl (by decide) gL_types_X5_type ⟨Nat.le_of_ble_eq_true rfl, Nat.le_of_ble_eq_true rfl⟩ (Nat.le_of_ble_eq_true rfl) rfl dL_types_272 rfl h (fun r2 Tn2 Tx2 h => ?_)
        show G X _ [ntW pa Tn2, txW (gcA X) (pa 4) Tx2] _ _ _
        refine g_if_le (pc' := 278) (tgt := 282) C dL_types_275 (by decide) rfl h (fun c h => ?_) (fun c h => ?_)
        · refine g_iconst (pc' := 283) (v := 0) C dL_types_282 (by decide) rfl ?_
          obtain ⟨rfl, rfl, rfl⟩ := pj3 (Option.some.inj h)
          exact g_zret0 C rfl dL_types_283
        · exact G_loc (lle_s (lle_s (lle_n (lle_n (lle_n (lle_n (lle_n (lle_n (lle_n lle_0))))))))) (B_L_types_278 C pa N p1 r Tnz Txz Tn2 Tx2 h)
  · refine g_iload_n (pc' := 32) C dL_types_31 rfl rfl ?_
    refine g_iconst (pc' := 33) (v := 3) C dL_types_32 (by decide) rfl ?_
    refine g_iconst (pc' := 34) (v := 4) C dL_types_33 (by decide) rfl ?_
    refine g_iload (pc' := 36) C dL_types_34 rfl rfl ?_
    refine g_imul (pc' := 37) C dL_types_36 rfl ?_
    refine g_iadd (pc' := 38) C dL_types_37 rfl ?_
    refine g_ishr (pc' := 39) C dL_types_38 rfl ?_
    refine g_istore (pc' := 41) C dL_types_39 (Nat.le_of_ble_eq_true rfl) rfl (L' := [some (.ref (pa 0 0)), some (.int p1), some (.int x2), some (.int x3), some (.int x4), some (.int (p1 >>> (((3 : Int32) + ((4 : Int32) * x4)) &&& 31))), none, none, none]) rfl ?_
    refine g_iload (pc' := 43) C dL_types_41 rfl rfl ?_
    refine g_iload_n (pc' := 44) C dL_types_43 rfl rfl ?_
    refine g_bipush (pc' := 46) (v := 21) C dL_types_44 (by decide) rfl ?_
    refine g_ishr (pc' := 47) C dL_types_46 rfl ?_
    refine g_bipush (pc' := 49) (v := 9) C dL_types_47 (by decide) rfl ?_
    refine k_L_low (pc' := 52) C N (p1 >>> ((21 : Int32) &&& 31)) (9 : Int32) [] rfl (by decide) gL_types_L_low ⟨Nat.le_of_ble_eq_true rfl, Nat.le_of_ble_eq_true rfl⟩ (Nat.le_of_ble_eq_true rfl) rfl dL_types_49 rfl h (fun r3 h => ?_)
    refine g_if_ne (pc' := 55) (tgt := 60) C dL_types_52 (by decide) rfl h (fun c h => ?_) (fun c h => ?_)
    · refine g_bipush (pc' := 57) (v := 32) C dL_types_55 (by decide) rfl ?_
      refine g_goto (pc' := 62) C dL_types_57 (by decide) ?_
      exact G_loc (lle_s (lle_s (lle_s (lle_s (lle_s (lle_s (lle_n (lle_n (lle_n lle_0))))))))) (B_L_types_62 C pa N p1 r Tnz Txz k25 hk25 x2 x3 x4 (p1 >>> (((3 : Int32) + ((4 : Int32) * x4)) &&& 31)) (32 : Int32) (p1 >>> (((3 : Int32) + ((4 : Int32) * x4)) &&& 31)) Tn Tx h)
    · refine g_bipush (pc' := 62) (v := 30) C dL_types_60 (by decide) rfl ?_
      exact G_loc (lle_s (lle_s (lle_s (lle_s (lle_s (lle_s (lle_n (lle_n (lle_n lle_0))))))))) (B_L_types_62 C pa N p1 r Tnz Txz k25 hk25 x2 x3 x4 (p1 >>> (((3 : Int32) + ((4 : Int32) * x4)) &&& 31)) (30 : Int32) (p1 >>> (((3 : Int32) + ((4 : Int32) * x4)) &&& 31)) Tn Tx h)
set_option maxRecDepth 100000 in
set_option maxHeartbeats 4000000 in
theorem L_L_types_25 {X : gX} (C : cx X RL cL_types 9 (some .boolean) wsL_types 1 21) (pa : Nat → Nat → Nat) (N : Nat) (p1 : Int32) (r : Int32) (Tnz : tS) (Txz : tS)  : ∀ (n : Nat) (x2 : Int32) (x3 : Int32) (x4 : Int32) (Tn : tS) (Tx : tS), f_L_types_25 N p1  n x2 x3 x4 Tn Tx = some (r, Tnz, Txz) → G X (QI X r [ntW pa Tnz, txW (gcA X) (pa 4) Txz]) [ntW pa Tn, txW (gcA X) (pa 4) Tx] [some (.ref (pa 0 0)), some (.int p1), some (.int x2), some (.int x3), some (.int x4), none, none, none, none] [] 25 := by
  intro n
  induction n with
  | zero => intro x2 x3 x4 Tn Tx h; have h : (none : Option (Int32 × tS × tS)) = some (r, Tnz, Txz) := h; cases h
  | succ n ih => intro x2 x3 x4 Tn Tx h; exact B_L_types_25b C pa N p1 r Tnz Txz  (f_L_types_25 N p1  n) ih x2 x3 x4 Tn Tx h
set_option maxRecDepth 100000 in
set_option maxHeartbeats 4000000 in
theorem B_L_types_21 {X : gX} (C : cx X RL cL_types 9 (some .boolean) wsL_types 1 21) (pa : Nat → Nat → Nat) (N : Nat) (p1 : Int32) (r : Int32) (Tnz : tS) (Txz : tS)  (x2 : Int32) (t0 : Int32) (Tn : tS) (Tx : tS) (h : f_L_types_21 N p1  x2 t0 Tn Tx = some (r, Tnz, Txz)) : G X (QI X r [ntW pa Tnz, txW (gcA X) (pa 4) Txz]) [ntW pa Tn, txW (gcA X) (pa 4) Tx] [some (.ref (pa 0 0)), some (.int p1), some (.int x2), none, none, none, none, none, none] [.int t0] 21 := by
  unfold f_L_types_21 at h
  refine g_istore_n (pc' := 22) C dL_types_21 (Nat.le_of_ble_eq_true rfl) rfl (L' := [some (.ref (pa 0 0)), some (.int p1), some (.int x2), some (.int t0), none, none, none, none, none]) rfl ?_
  refine g_iconst (pc' := 23) (v := 0) C dL_types_22 (by decide) rfl ?_
  refine g_istore (pc' := 25) C dL_types_23 (Nat.le_of_ble_eq_true rfl) rfl (L' := [some (.ref (pa 0 0)), some (.int p1), some (.int x2), some (.int t0), some (.int (0 : Int32)), none, none, none, none]) rfl ?_
  exact G_loc (lle_s (lle_s (lle_s (lle_s (lle_s (lle_n (lle_n (lle_n (lle_n lle_0))))))))) (L_L_types_25 C pa N p1 r Tnz Txz N x2 t0 (0 : Int32) Tn Tx h)
set_option maxRecDepth 100000 in
set_option maxHeartbeats 4000000 in
theorem B_L_types {X : gX} (C : cx X RL cL_types 9 (some .boolean) wsL_types 1 21) (pa : Nat → Nat → Nat) (N : Nat) (Tn : tS) (Tx : tS) (p1 : Int32) (r : Int32) (Tnz : tS) (Txz : tS) (h : f_L_types N Tn Tx p1 = some (r, Tnz, Txz)) : G X (QI X r [ntW pa Tnz, txW (gcA X) (pa 4) Txz]) [ntW pa Tn, txW (gcA X) (pa 4) Tx] [some (.ref (pa 0 0)), some (.int p1), none, none, none, none, none, none, none] [] 0 := by
  unfold f_L_types at h
  refine g_iconst (pc' := 1) (v := 1) C dL_types_0 (by decide) rfl ?_
  refine g_iload_n (pc' := 2) C dL_types_1 rfl rfl ?_
  refine g_bipush (pc' := 4) (v := 6) C dL_types_2 (by decide) rfl ?_
  refine k_L_low (pc' := 7) C N p1 (6 : Int32) [] rfl (by decide) gL_types_L_low ⟨Nat.le_of_ble_eq_true rfl, Nat.le_of_ble_eq_true rfl⟩ (Nat.le_of_ble_eq_true rfl) rfl dL_types_4 rfl h (fun r1 h => ?_)
  refine g_iadd (pc' := 8) C dL_types_7 rfl ?_
  refine g_istore_n (pc' := 9) C dL_types_8 (Nat.le_of_ble_eq_true rfl) rfl (L' := [some (.ref (pa 0 0)), some (.int p1), some (.int ((1 : Int32) + r1)), none, none, none, none, none, none]) rfl ?_
  refine g_aload_n (pc' := 10) C dL_types_9 rfl rfl ?_
  refine k_X5_clearText (pc' := 13) C pa N Tn [0] rfl (by decide) gL_types_X5_clearText ⟨Nat.le_of_ble_eq_true rfl, Nat.le_of_ble_eq_true rfl⟩ (Nat.le_of_ble_eq_true rfl) rfl dL_types_10 rfl h (fun r2 Tn2 h => ?_)
  show G X _ [ntW pa Tn2, txW (gcA X) (pa 4) Tx] _ _ _
  refine g_if_lt (pc' := 16) (tgt := 20) C dL_types_13 (by decide) rfl h (fun c h => ?_) (fun c h => ?_)
  · refine g_iconst (pc' := 21) (v := 0) C dL_types_20 (by decide) rfl ?_
    exact G_loc (lle_s (lle_s (lle_s (lle_n (lle_n (lle_n (lle_n (lle_n (lle_n lle_0))))))))) (B_L_types_21 C pa N p1 r Tnz Txz ((1 : Int32) + r1) (0 : Int32) Tn2 Tx h)
  · refine g_iconst (pc' := 17) (v := 1) C dL_types_16 (by decide) rfl ?_
    refine g_goto (pc' := 21) C dL_types_17 (by decide) ?_
    exact G_loc (lle_s (lle_s (lle_s (lle_n (lle_n (lle_n (lle_n (lle_n (lle_n lle_0))))))))) (B_L_types_21 C pa N p1 r Tnz Txz ((1 : Int32) + r1) (1 : Int32) Tn2 Tx h)
set_option maxRecDepth 100000 in
set_option maxHeartbeats 4000000 in
theorem c_L_types (l : Launch) (D : va_G) (cA : Nat → ClassId) (pa : Nat → Nat → Nat) (N : Nat) (Tn : tS) (Tx : tS) (p1 : Int32) (r : Int32) (Tnz : tS) (Txz : tS) (h : f_L_types N Tn Tx p1 = some (r, Tnz, Txz)) : MI l D cA yL_types wsL_types 1 21 [.ref (pa 0 0), .int p1] [ntW pa Tn, txW cA (pa 4) Tx] r [ntW pa Tnz, txW cA (pa 4) Txz] := MI_of (cc := cL_types) (maxL := 9) (rt := some .boolean) (by decide +kernel) rfl (List.forall_mem_cons.mpr ⟨rfl, List.forall_mem_cons.mpr ⟨rfl, List.forall_mem_nil _⟩⟩) (Nat.le_of_ble_eq_true rfl) (fun X e1 e2 e3 C => by subst e1; subst e2; subst e3; exact B_L_types C pa N Tn Tx p1 r Tnz Txz h)
set_option maxRecDepth 100000 in
set_option maxHeartbeats 4000000 in
theorem nd_L_types : nd yL_types 2 := ⟨by decide +kernel, by decide +kernel, by decide +kernel⟩
set_option maxRecDepth 100000 in
set_option maxHeartbeats 4000000 in
theorem k_L_types {X : gX} {own : String} {cc : ByteArray} {nL : Nat} {ret : Option FieldType} {Ts : List Cond} {fr lm : Nat} {Q : State → Prop} {ms : List va_W} {L : List (Option Value)} {st : List Value} {pc pc' idx : Nat} {ρ : Type} {T : Int32 → tS → tS → Option ρ} {res : ρ} (C : cx X own cc nL ret Ts fr lm) (pa : Nat → Nat → Nat) (N : Nat) (Tn : tS) (Tx : tS) (p1 : Int32) (is : List Nat) (hC : is.map (fun i => ms[i]?) = [some (ntW pa Tn), some (txW (gcA X) (pa 4) Tx)]) (hn : is.Nodup) (hG : GoodIn Ts (va_wsS own idx yL_types wsL_types)) (hR : 1 + 1 ≤ fr ∧ 8 + (9 + 11) + 21 ≤ lm) (hst : (st.map fun v => v.category).sum ≤ 8) (hLn : L.length = nL) (d : decode cc pc = .ok (.invokestatic idx, 3)) (hp : pc + 3 = pc') (h : bd3 (f_L_types N Tn Tx p1) T = some res) (kk : ∀ (r : Int32) (Tnz : tS) (Txz : tS), T r Tnz Txz = some res → G X Q (rpl ms is [ntW pa Tnz, txW (gcA X) (pa 4) Txz]) L (.int r :: st) pc') : G X Q ms L (.int p1 :: .ref (pa 0 0) :: st) pc := by
  obtain ⟨r, Tnz, Txz, h1, h⟩ := ob3 h
  exact G_callSI C (As := [.ref (pa 0 0), .int p1]) (c_L_types (gl X) (gD X) (gcA X) pa N Tn Tx p1 r Tnz Txz h1) hG rfl nd_L_types hR hC hn rfl rfl hst hLn d hp (kk r Tnz Txz h)
