set_option maxRecDepth 100000 in
set_option maxHeartbeats 4000000 in
theorem B_L_would_285 {X : gX} (C : cx X RL cL_would 13 (some .boolean) wsL_would 6 134) (pa : Nat → Nat → Nat) (N : Nat) (Tn : tS) (B : tS) (Hs : tH) (p1 : Int32) (r : Int32) (Trz : tS) (Ez : tS) (Fz : tS) (Nmz : tS)  (Tr : tS) (E : tS) (F : tS) (Nm : tS) (h : f_L_would_285 N Tn B Hs p1  Tr E F Nm = some (r, Trz, Ez, Fz, Nmz)) : G X (QI X r [ntW pa Tn, bdW (gcA X) (pa 1) B, hsW (gcA X) (pa 2) (fun j => pa (10 + j)) Hs, bdW (gcA X) (pa 5) Trz, heW (gcA X) (pa 6) Ez, heW (gcA X) (pa 7) Fz, nmW (gcA X) (pa 8) Nmz]) [ntW pa Tn, bdW (gcA X) (pa 1) B, hsW (gcA X) (pa 2) (fun j => pa (10 + j)) Hs, bdW (gcA X) (pa 5) Tr, heW (gcA X) (pa 6) E, heW (gcA X) (pa 7) F, nmW (gcA X) (pa 8) Nm] [some (.ref (pa 0 0)), some (.int p1), none, none, none, none, none, none, none, none, none, none, none] [] 285 := by
  unfold f_L_would_285 at h
  refine g_iconst (pc' := 286) (v := 1) C dL_would_285 (by decide) rfl ?_
  refine g_goto (pc' := 290) C dL_would_286 (by decide) ?_
  obtain ⟨rfl, rfl, rfl, rfl, rfl⟩ := pj5 (Option.some.inj h)
  exact g_zret0 C rfl dL_would_290
set_option maxRecDepth 100000 in
set_option maxHeartbeats 4000000 in
theorem B_L_would_208 {X : gX} (C : cx X RL cL_would 13 (some .boolean) wsL_would 6 134) (pa : Nat → Nat → Nat) (N : Nat) (Tn : tS) (B : tS) (Hs : tH) (p1 : Int32) (r : Int32) (Trz : tS) (Ez : tS) (Fz : tS) (Nmz : tS)  (x7 : Int32) (x8 : Int32) (x11 : Int32) (t0 : Int32) (Tr : tS) (E : tS) (F : tS) (Nm : tS) (h : f_L_would_208 N Tn B Hs p1  x7 x8 x11 t0 Tr E F Nm = some (r, Trz, Ez, Fz, Nmz)) : G X (QI X r [ntW pa Tn, bdW (gcA X) (pa 1) B, hsW (gcA X) (pa 2) (fun j => pa (10 + j)) Hs, bdW (gcA X) (pa 5) Trz, heW (gcA X) (pa 6) Ez, heW (gcA X) (pa 7) Fz, nmW (gcA X) (pa 8) Nmz]) [ntW pa Tn, bdW (gcA X) (pa 1) B, hsW (gcA X) (pa 2) (fun j => pa (10 + j)) Hs, bdW (gcA X) (pa 5) Tr, heW (gcA X) (pa 6) E, heW (gcA X) (pa 7) F, nmW (gcA X) (pa 8) Nm] [some (.ref (pa 0 0)), some (.int p1), none, none, none, none, none, some (.int x7), some (.int x8), none, none, some (.int x11), none] [.int t0] 208 := by
  unfold f_L_would_208 at h
  refine g_istore (pc' := 210) C dL_would_208 (Nat.le_of_ble_eq_true rfl) rfl (L' := [some (.ref (pa 0 0)), some (.int p1), none, none, none, none, none, some (.int x7), some (.int x8), none, none, some (.int x11), some (.int t0)]) rfl ?_
  refine g_iload (pc' := 212) C dL_would_210 rfl rfl ?_
  refine g_if_eq (pc' := 215) (tgt := 289) C dL_would_212 (by decide) rfl h (fun c h => ?_) (fun c h => ?_)
  · refine g_iconst (pc' := 290) (v := 0) C dL_would_289 (by decide) rfl ?_
    obtain ⟨rfl, rfl, rfl, rfl, rfl⟩ := pj5 (Option.some.inj h)
    exact g_zret0 C rfl dL_would_290
  · refine g_iload (pc' := 217) C dL_would_215 rfl rfl ?_
    refine g_if_eq (pc' := 220) (tgt := 229) C dL_would_217 (by decide) rfl h (fun c h => ?_) (fun c h => ?_)
    · refine g_iload (pc' := 231) C dL_would_229 rfl rfl ?_
      refine g_iconst (pc' := 232) (v := 3) C dL_would_231 (by decide) rfl ?_
      refine g_icmp_ne (pc' := 235) (tgt := 245) C dL_would_232 (by decide) rfl h (fun c h => ?_) (fun c h => ?_)
      · refine g_iload (pc' := 237) C dL_would_235 rfl rfl ?_
        refine g_bipush (pc' := 239) (v := -2) C dL_would_237 (by decide) rfl ?_
        refine g_icmp_ne (pc' := 242) (tgt := 289) C dL_would_239 (by decide) rfl h (fun c h => ?_) (fun c h => ?_)
        · refine g_goto (pc' := 285) C dL_would_242 (by decide) ?_
          exact G_loc (lle_s (lle_s (lle_n (lle_n (lle_n (lle_n (lle_n (lle_n (lle_n (lle_n (lle_n (lle_n (lle_n lle_0))))))))))))) (B_L_would_285 C pa N Tn B Hs p1 r Trz Ez Fz Nmz Tr E F Nm h)
        · refine g_iconst (pc' := 290) (v := 0) C dL_would_289 (by decide) rfl ?_
          obtain ⟨rfl, rfl, rfl, rfl, rfl⟩ := pj5 (Option.some.inj h)
          exact g_zret0 C rfl dL_would_290
      · refine g_iload (pc' := 247) C dL_would_245 rfl rfl ?_
        refine g_iconst (pc' := 248) (v := 2) C dL_would_247 (by decide) rfl ?_
        refine g_icmp_ne (pc' := 251) (tgt := 269) C dL_would_248 (by decide) rfl h (fun c h => ?_) (fun c h => ?_)
        · refine g_iload (pc' := 253) C dL_would_251 rfl rfl ?_
          refine g_if_lt (pc' := 256) (tgt := 289) C dL_would_253 (by decide) rfl h (fun c h => ?_) (fun c h => ?_)
          · refine g_iconst (pc' := 290) (v := 0) C dL_would_289 (by decide) rfl ?_
            obtain ⟨rfl, rfl, rfl, rfl, rfl⟩ := pj5 (Option.some.inj h)
            exact g_zret0 C rfl dL_would_290
          · refine g_iload (pc' := 258) C dL_would_256 rfl rfl ?_
            refine g_aload_n (pc' := 259) C dL_would_258 rfl rfl ?_
            refine g_iconst (pc' := 260) (v := 0) C dL_would_259 (by decide) rfl ?_
            refine k_X5_count (pc' := 263) C pa N Tn B Hs E Nm (0 : Int32) [0, 1, 2, 4, 6] rfl (by decide) gL_would_X5_count ⟨Nat.le_of_ble_eq_true rfl, Nat.le_of_ble_eq_true rfl⟩ (Nat.le_of_ble_eq_true rfl) rfl dL_would_260 rfl h (fun r2 E2 Nm2 h => ?_)
            show G X _ [ntW pa Tn, bdW (gcA X) (pa 1) B, hsW (gcA X) (pa 2) (fun j => pa (10 + j)) Hs, bdW (gcA X) (pa 5) Tr, heW (gcA X) (pa 6) E2, heW (gcA X) (pa 7) F, nmW (gcA X) (pa 8) Nm2] _ _ _
            refine g_icmp_ge (pc' := 266) (tgt := 289) C dL_would_263 (by decide) rfl h (fun c h => ?_) (fun c h => ?_)
            · refine g_iconst (pc' := 290) (v := 0) C dL_would_289 (by decide) rfl ?_
              obtain ⟨rfl, rfl, rfl, rfl, rfl⟩ := pj5 (Option.some.inj h)
              exact g_zret0 C rfl dL_would_290
            · refine g_goto (pc' := 285) C dL_would_266 (by decide) ?_
              exact G_loc (lle_s (lle_s (lle_n (lle_n (lle_n (lle_n (lle_n (lle_n (lle_n (lle_n (lle_n (lle_n (lle_n lle_0))))))))))))) (B_L_would_285 C pa N Tn B Hs p1 r Trz Ez Fz Nmz Tr E2 F Nm2 h)
        · refine g_iload (pc' := 271) C dL_would_269 rfl rfl ?_
          refine g_iconst (pc' := 272) (v := 1) C dL_would_271 (by decide) rfl ?_
          refine g_icmp_lt (pc' := 275) (tgt := 289) C dL_would_272 (by decide) rfl h (fun c h => ?_) (fun c h => ?_)
          · refine g_iconst (pc' := 290) (v := 0) C dL_would_289 (by decide) rfl ?_
            obtain ⟨rfl, rfl, rfl, rfl, rfl⟩ := pj5 (Option.some.inj h)
            exact g_zret0 C rfl dL_would_290
          · refine g_iload (pc' := 277) C dL_would_275 rfl rfl ?_
            refine g_aload_n (pc' := 278) C dL_would_277 rfl rfl ?_
            refine g_iconst (pc' := 279) (v := 0) C dL_would_278 (by decide) rfl ?_
            refine k_X5_count (pc' := 282) C pa N Tn B Hs E Nm (0 : Int32) [0, 1, 2, 4, 6] rfl (by decide) gL_would_X5_count ⟨Nat.le_of_ble_eq_true rfl, Nat.le_of_ble_eq_true rfl⟩ (Nat.le_of_ble_eq_true rfl) rfl dL_would_279 rfl h (fun r1 E1 Nm1 h => ?_)
            show G X _ [ntW pa Tn, bdW (gcA X) (pa 1) B, hsW (gcA X) (pa 2) (fun j => pa (10 + j)) Hs, bdW (gcA X) (pa 5) Tr, heW (gcA X) (pa 6) E1, heW (gcA X) (pa 7) F, nmW (gcA X) (pa 8) Nm1] _ _ _
            refine g_icmp_gt (pc' := 285) (tgt := 289) C dL_would_282 (by decide) rfl h (fun c h => ?_) (fun c h => ?_)
            · refine g_iconst (pc' := 290) (v := 0) C dL_would_289 (by decide) rfl ?_
              obtain ⟨rfl, rfl, rfl, rfl, rfl⟩ := pj5 (Option.some.inj h)
              exact g_zret0 C rfl dL_would_290
            · exact G_loc (lle_s (lle_s (lle_n (lle_n (lle_n (lle_n (lle_n (lle_n (lle_n (lle_n (lle_n (lle_n (lle_n lle_0))))))))))))) (B_L_would_285 C pa N Tn B Hs p1 r Trz Ez Fz Nmz Tr E1 F Nm1 h)
    · refine g_iload (pc' := 222) C dL_would_220 rfl rfl ?_
      refine g_iconst (pc' := 223) (v := -1) C dL_would_222 (by decide) rfl ?_
      refine g_icmp_ne (pc' := 226) (tgt := 289) C dL_would_223 (by decide) rfl h (fun c h => ?_) (fun c h => ?_)
      · refine g_goto (pc' := 285) C dL_would_226 (by decide) ?_
        exact G_loc (lle_s (lle_s (lle_n (lle_n (lle_n (lle_n (lle_n (lle_n (lle_n (lle_n (lle_n (lle_n (lle_n lle_0))))))))))))) (B_L_would_285 C pa N Tn B Hs p1 r Trz Ez Fz Nmz Tr E F Nm h)
      · refine g_iconst (pc' := 290) (v := 0) C dL_would_289 (by decide) rfl ?_
        obtain ⟨rfl, rfl, rfl, rfl, rfl⟩ := pj5 (Option.some.inj h)
        exact g_zret0 C rfl dL_would_290
set_option maxRecDepth 100000 in
set_option maxHeartbeats 4000000 in
theorem B_L_would_207 {X : gX} (C : cx X RL cL_would 13 (some .boolean) wsL_would 6 134) (pa : Nat → Nat → Nat) (N : Nat) (Tn : tS) (B : tS) (Hs : tH) (p1 : Int32) (r : Int32) (Trz : tS) (Ez : tS) (Fz : tS) (Nmz : tS)  (x7 : Int32) (x8 : Int32) (x11 : Int32) (Tr : tS) (E : tS) (F : tS) (Nm : tS) (h : f_L_would_207 N Tn B Hs p1  x7 x8 x11 Tr E F Nm = some (r, Trz, Ez, Fz, Nmz)) : G X (QI X r [ntW pa Tn, bdW (gcA X) (pa 1) B, hsW (gcA X) (pa 2) (fun j => pa (10 + j)) Hs, bdW (gcA X) (pa 5) Trz, heW (gcA X) (pa 6) Ez, heW (gcA X) (pa 7) Fz, nmW (gcA X) (pa 8) Nmz]) [ntW pa Tn, bdW (gcA X) (pa 1) B, hsW (gcA X) (pa 2) (fun j => pa (10 + j)) Hs, bdW (gcA X) (pa 5) Tr, heW (gcA X) (pa 6) E, heW (gcA X) (pa 7) F, nmW (gcA X) (pa 8) Nm] [some (.ref (pa 0 0)), some (.int p1), none, none, none, none, none, some (.int x7), some (.int x8), none, none, some (.int x11), none] [] 207 := by
  unfold f_L_would_207 at h
  refine g_iconst (pc' := 208) (v := 0) C dL_would_207 (by decide) rfl ?_
  exact G_loc (lle_s (lle_s (lle_n (lle_n (lle_n (lle_n (lle_n (lle_s (lle_s (lle_n (lle_n (lle_s (lle_n lle_0))))))))))))) (B_L_would_208 C pa N Tn B Hs p1 r Trz Ez Fz Nmz x7 x8 x11 (0 : Int32) Tr E F Nm h)
set_option maxRecDepth 100000 in
set_option maxHeartbeats 4000000 in
theorem B_L_would_203 {X : gX} (C : cx X RL cL_would 13 (some .boolean) wsL_would 6 134) (pa : Nat → Nat → Nat) (N : Nat) (Tn : tS) (B : tS) (Hs : tH) (p1 : Int32) (r : Int32) (Trz : tS) (Ez : tS) (Fz : tS) (Nmz : tS)  (x7 : Int32) (x8 : Int32) (x11 : Int32) (Tr : tS) (E : tS) (F : tS) (Nm : tS) (h : f_L_would_203 N Tn B Hs p1  x7 x8 x11 Tr E F Nm = some (r, Trz, Ez, Fz, Nmz)) : G X (QI X r [ntW pa Tn, bdW (gcA X) (pa 1) B, hsW (gcA X) (pa 2) (fun j => pa (10 + j)) Hs, bdW (gcA X) (pa 5) Trz, heW (gcA X) (pa 6) Ez, heW (gcA X) (pa 7) Fz, nmW (gcA X) (pa 8) Nmz]) [ntW pa Tn, bdW (gcA X) (pa 1) B, hsW (gcA X) (pa 2) (fun j => pa (10 + j)) Hs, bdW (gcA X) (pa 5) Tr, heW (gcA X) (pa 6) E, heW (gcA X) (pa 7) F, nmW (gcA X) (pa 8) Nm] [some (.ref (pa 0 0)), some (.int p1), none, none, none, none, none, some (.int x7), some (.int x8), none, none, some (.int x11), none] [] 203 := by
  unfold f_L_would_203 at h
  refine g_iconst (pc' := 204) (v := 1) C dL_would_203 (by decide) rfl ?_
  refine g_goto (pc' := 208) C dL_would_204 (by decide) ?_
  exact G_loc (lle_s (lle_s (lle_n (lle_n (lle_n (lle_n (lle_n (lle_s (lle_s (lle_n (lle_n (lle_s (lle_n lle_0))))))))))))) (B_L_would_208 C pa N Tn B Hs p1 r Trz Ez Fz Nmz x7 x8 x11 (1 : Int32) Tr E F Nm h)
set_option maxRecDepth 100000 in
set_option maxHeartbeats 4000000 in
theorem B_L_would_167 {X : gX} (C : cx X RL cL_would 13 (some .boolean) wsL_would 6 134) (pa : Nat → Nat → Nat) (N : Nat) (Tn : tS) (B : tS) (Hs : tH) (p1 : Int32) (r : Int32) (Trz : tS) (Ez : tS) (Fz : tS) (Nmz : tS)  (x7 : Int32) (x8 : Int32) (x9 : Int32) (x10 : Int32) (x11 : Int32) (Tr : tS) (E : tS) (F : tS) (Nm : tS) (h : f_L_would_167 N Tn B Hs p1  x7 x8 x9 x10 x11 Tr E F Nm = some (r, Trz, Ez, Fz, Nmz)) : G X (QI X r [ntW pa Tn, bdW (gcA X) (pa 1) B, hsW (gcA X) (pa 2) (fun j => pa (10 + j)) Hs, bdW (gcA X) (pa 5) Trz, heW (gcA X) (pa 6) Ez, heW (gcA X) (pa 7) Fz, nmW (gcA X) (pa 8) Nmz]) [ntW pa Tn, bdW (gcA X) (pa 1) B, hsW (gcA X) (pa 2) (fun j => pa (10 + j)) Hs, bdW (gcA X) (pa 5) Tr, heW (gcA X) (pa 6) E, heW (gcA X) (pa 7) F, nmW (gcA X) (pa 8) Nm] [some (.ref (pa 0 0)), some (.int p1), none, none, none, none, none, some (.int x7), some (.int x8), some (.int x9), some (.int x10), some (.int x11), none] [] 167 := by
  unfold f_L_would_167 at h
  refine g_iload (pc' := 169) C dL_would_167 rfl rfl ?_
  refine g_if_eq (pc' := 172) (tgt := 181) C dL_would_169 (by decide) rfl h (fun c h => ?_) (fun c h => ?_)
  · refine g_iload (pc' := 183) C dL_would_181 rfl rfl ?_
    refine g_bipush (pc' := 185) (v := -5) C dL_would_183 (by decide) rfl ?_
    refine g_icmp_eq (pc' := 188) (tgt := 203) C dL_would_185 (by decide) rfl h (fun c h => ?_) (fun c h => ?_)
    · exact G_loc (lle_s (lle_s (lle_n (lle_n (lle_n (lle_n (lle_n (lle_s (lle_s (lle_n (lle_n (lle_s (lle_n lle_0))))))))))))) (B_L_would_203 C pa N Tn B Hs p1 r Trz Ez Fz Nmz x7 x8 x11 Tr E F Nm h)
    · refine g_iload (pc' := 190) C dL_would_188 rfl rfl ?_
      refine g_if_lt (pc' := 193) (tgt := 207) C dL_would_190 (by decide) rfl h (fun c h => ?_) (fun c h => ?_)
      · exact G_loc (lle_s (lle_s (lle_n (lle_n (lle_n (lle_n (lle_n (lle_s (lle_s (lle_n (lle_n (lle_s (lle_n lle_0))))))))))))) (B_L_would_207 C pa N Tn B Hs p1 r Trz Ez Fz Nmz x7 x8 x11 Tr E F Nm h)
      · refine g_iload (pc' := 195) C dL_would_193 rfl rfl ?_
        refine g_aload_n (pc' := 196) C dL_would_195 rfl rfl ?_
        refine g_iconst (pc' := 197) (v := 2) C dL_would_196 (by decide) rfl ?_
        refine k_X5_count (pc' := 200) C pa N Tn B Hs E Nm (2 : Int32) [0, 1, 2, 4, 6] rfl (by decide) gL_would_X5_count ⟨Nat.le_of_ble_eq_true rfl, Nat.le_of_ble_eq_true rfl⟩ (Nat.le_of_ble_eq_true rfl) rfl dL_would_197 rfl h (fun r1 E1 Nm1 h => ?_)
        show G X _ [ntW pa Tn, bdW (gcA X) (pa 1) B, hsW (gcA X) (pa 2) (fun j => pa (10 + j)) Hs, bdW (gcA X) (pa 5) Tr, heW (gcA X) (pa 6) E1, heW (gcA X) (pa 7) F, nmW (gcA X) (pa 8) Nm1] _ _ _
        refine g_icmp_ge (pc' := 203) (tgt := 207) C dL_would_200 (by decide) rfl h (fun c h => ?_) (fun c h => ?_)
        · exact G_loc (lle_s (lle_s (lle_n (lle_n (lle_n (lle_n (lle_n (lle_s (lle_s (lle_n (lle_n (lle_s (lle_n lle_0))))))))))))) (B_L_would_207 C pa N Tn B Hs p1 r Trz Ez Fz Nmz x7 x8 x11 Tr E1 F Nm1 h)
        · exact G_loc (lle_s (lle_s (lle_n (lle_n (lle_n (lle_n (lle_n (lle_s (lle_s (lle_n (lle_n (lle_s (lle_n lle_0))))))))))))) (B_L_would_203 C pa N Tn B Hs p1 r Trz Ez Fz Nmz x7 x8 x11 Tr E1 F Nm1 h)
  · refine g_iload (pc' := 174) C dL_would_172 rfl rfl ?_
    refine g_iconst (pc' := 175) (v := -1) C dL_would_174 (by decide) rfl ?_
    refine g_icmp_ne (pc' := 178) (tgt := 207) C dL_would_175 (by decide) rfl h (fun c h => ?_) (fun c h => ?_)
    · refine g_goto (pc' := 203) C dL_would_178 (by decide) ?_
      exact G_loc (lle_s (lle_s (lle_n (lle_n (lle_n (lle_n (lle_n (lle_s (lle_s (lle_n (lle_n (lle_s (lle_n lle_0))))))))))))) (B_L_would_203 C pa N Tn B Hs p1 r Trz Ez Fz Nmz x7 x8 x11 Tr E F Nm h)
    · exact G_loc (lle_s (lle_s (lle_n (lle_n (lle_n (lle_n (lle_n (lle_s (lle_s (lle_n (lle_n (lle_s (lle_n lle_0))))))))))))) (B_L_would_207 C pa N Tn B Hs p1 r Trz Ez Fz Nmz x7 x8 x11 Tr E F Nm h)
set_option maxRecDepth 100000 in
set_option maxHeartbeats 4000000 in
theorem B_L_would_135 {X : gX} (C : cx X RL cL_would 13 (some .boolean) wsL_would 6 134) (pa : Nat → Nat → Nat) (N : Nat) (Tn : tS) (B : tS) (Hs : tH) (p1 : Int32) (r : Int32) (Trz : tS) (Ez : tS) (Fz : tS) (Nmz : tS)  (x3 : Int32) (x7 : Int32) (x8 : Int32) (x9 : Int32) (x10 : Int32) (x11 : Int32) (Tr : tS) (E : tS) (F : tS) (Nm : tS) (h : f_L_would_135 N Tn B Hs p1  x3 x7 x8 x9 x10 x11 Tr E F Nm = some (r, Trz, Ez, Fz, Nmz)) : G X (QI X r [ntW pa Tn, bdW (gcA X) (pa 1) B, hsW (gcA X) (pa 2) (fun j => pa (10 + j)) Hs, bdW (gcA X) (pa 5) Trz, heW (gcA X) (pa 6) Ez, heW (gcA X) (pa 7) Fz, nmW (gcA X) (pa 8) Nmz]) [ntW pa Tn, bdW (gcA X) (pa 1) B, hsW (gcA X) (pa 2) (fun j => pa (10 + j)) Hs, bdW (gcA X) (pa 5) Tr, heW (gcA X) (pa 6) E, heW (gcA X) (pa 7) F, nmW (gcA X) (pa 8) Nm] [some (.ref (pa 0 0)), some (.int p1), none, some (.int x3), none, none, none, some (.int x7), some (.int x8), some (.int x9), some (.int x10), some (.int x11), none] [] 135 := by
  unfold f_L_would_135 at h
  refine g_iload_n (pc' := 136) C dL_would_135 rfl rfl ?_
  refine g_bipush (pc' := 138) (v := -2) C dL_would_136 (by decide) rfl ?_
  refine g_icmp_ne (pc' := 141) (tgt := 207) C dL_would_138 (by decide) rfl h (fun c h => ?_) (fun c h => ?_)
  · refine g_goto (pc' := 167) C dL_would_141 (by decide) ?_
    exact G_loc (lle_s (lle_s (lle_n (lle_n (lle_n (lle_n (lle_n (lle_s (lle_s (lle_s (lle_s (lle_s (lle_n lle_0))))))))))))) (B_L_would_167 C pa N Tn B Hs p1 r Trz Ez Fz Nmz x7 x8 x9 x10 x11 Tr E F Nm h)
  · exact G_loc (lle_s (lle_s (lle_n (lle_n (lle_n (lle_n (lle_n (lle_s (lle_s (lle_n (lle_n (lle_s (lle_n lle_0))))))))))))) (B_L_would_207 C pa N Tn B Hs p1 r Trz Ez Fz Nmz x7 x8 x11 Tr E F Nm h)
set_option maxRecDepth 100000 in
set_option maxHeartbeats 4000000 in
theorem B_L_would_123 {X : gX} (C : cx X RL cL_would 13 (some .boolean) wsL_would 6 134) (pa : Nat → Nat → Nat) (N : Nat) (Tn : tS) (B : tS) (Hs : tH) (p1 : Int32) (r : Int32) (Trz : tS) (Ez : tS) (Fz : tS) (Nmz : tS)  (x2 : Int32) (x3 : Int32) (x7 : Int32) (x8 : Int32) (x9 : Int32) (x10 : Int32) (t0 : Int32) (Tr : tS) (E : tS) (F : tS) (Nm : tS) (h : f_L_would_123 N Tn B Hs p1  x2 x3 x7 x8 x9 x10 t0 Tr E F Nm = some (r, Trz, Ez, Fz, Nmz)) : G X (QI X r [ntW pa Tn, bdW (gcA X) (pa 1) B, hsW (gcA X) (pa 2) (fun j => pa (10 + j)) Hs, bdW (gcA X) (pa 5) Trz, heW (gcA X) (pa 6) Ez, heW (gcA X) (pa 7) Fz, nmW (gcA X) (pa 8) Nmz]) [ntW pa Tn, bdW (gcA X) (pa 1) B, hsW (gcA X) (pa 2) (fun j => pa (10 + j)) Hs, bdW (gcA X) (pa 5) Tr, heW (gcA X) (pa 6) E, heW (gcA X) (pa 7) F, nmW (gcA X) (pa 8) Nm] [some (.ref (pa 0 0)), some (.int p1), some (.int x2), some (.int x3), none, none, none, some (.int x7), some (.int x8), some (.int x9), some (.int x10), none, none] [.int t0] 123 := by
  unfold f_L_would_123 at h
  refine g_istore (pc' := 125) C dL_would_123 (Nat.le_of_ble_eq_true rfl) rfl (L' := [some (.ref (pa 0 0)), some (.int p1), some (.int x2), some (.int x3), none, none, none, some (.int x7), some (.int x8), some (.int x9), some (.int x10), some (.int t0), none]) rfl ?_
  refine g_iload_n (pc' := 126) C dL_would_125 rfl rfl ?_
  refine g_if_eq (pc' := 129) (tgt := 135) C dL_would_126 (by decide) rfl h (fun c h => ?_) (fun c h => ?_)
  · exact G_loc (lle_s (lle_s (lle_n (lle_s (lle_n (lle_n (lle_n (lle_s (lle_s (lle_s (lle_s (lle_s (lle_n lle_0))))))))))))) (B_L_would_135 C pa N Tn B Hs p1 r Trz Ez Fz Nmz x3 x7 x8 x9 x10 t0 Tr E F Nm h)
  · refine g_iload_n (pc' := 130) C dL_would_129 rfl rfl ?_
    refine g_bipush (pc' := 132) (v := 21) C dL_would_130 (by decide) rfl ?_
    refine g_icmp_ne (pc' := 135) (tgt := 144) C dL_would_132 (by decide) rfl h (fun c h => ?_) (fun c h => ?_)
    · exact G_loc (lle_s (lle_s (lle_n (lle_s (lle_n (lle_n (lle_n (lle_s (lle_s (lle_s (lle_s (lle_s (lle_n lle_0))))))))))))) (B_L_would_135 C pa N Tn B Hs p1 r Trz Ez Fz Nmz x3 x7 x8 x9 x10 t0 Tr E F Nm h)
    · refine g_iload_n (pc' := 145) C dL_would_144 rfl rfl ?_
      refine g_if_lt (pc' := 148) (tgt := 207) C dL_would_145 (by decide) rfl h (fun c h => ?_) (fun c h => ?_)
      · exact G_loc (lle_s (lle_s (lle_n (lle_n (lle_n (lle_n (lle_n (lle_s (lle_s (lle_n (lle_n (lle_s (lle_n lle_0))))))))))))) (B_L_would_207 C pa N Tn B Hs p1 r Trz Ez Fz Nmz x7 x8 t0 Tr E F Nm h)
      · refine g_iload_n (pc' := 149) C dL_would_148 rfl rfl ?_
        refine g_bipush (pc' := 151) (v := 48) C dL_would_149 (by decide) rfl ?_
        refine g_icmp_gt (pc' := 154) (tgt := 207) C dL_would_151 (by decide) rfl h (fun c h => ?_) (fun c h => ?_)
        · exact G_loc (lle_s (lle_s (lle_n (lle_n (lle_n (lle_n (lle_n (lle_s (lle_s (lle_n (lle_n (lle_s (lle_n lle_0))))))))))))) (B_L_would_207 C pa N Tn B Hs p1 r Trz Ez Fz Nmz x7 x8 t0 Tr E F Nm h)
        · refine g_iload_n (pc' := 155) C dL_would_154 rfl rfl ?_
          refine g_aload_n (pc' := 156) C dL_would_155 rfl rfl ?_
          refine g_iconst (pc' := 157) (v := 0) C dL_would_156 (by decide) rfl ?_
          refine k_X5_count (pc' := 160) C pa N Tn B Hs E Nm (0 : Int32) [0, 1, 2, 4, 6] rfl (by decide) gL_would_X5_count ⟨Nat.le_of_ble_eq_true rfl, Nat.le_of_ble_eq_true rfl⟩ (Nat.le_of_ble_eq_true rfl) rfl dL_would_157 rfl h (fun r1 E1 Nm1 h => ?_)
          show G X _ [ntW pa Tn, bdW (gcA X) (pa 1) B, hsW (gcA X) (pa 2) (fun j => pa (10 + j)) Hs, bdW (gcA X) (pa 5) Tr, heW (gcA X) (pa 6) E1, heW (gcA X) (pa 7) F, nmW (gcA X) (pa 8) Nm1] _ _ _
          refine g_icmp_lt (pc' := 163) (tgt := 167) C dL_would_160 (by decide) rfl h (fun c h => ?_) (fun c h => ?_)
          · exact G_loc (lle_s (lle_s (lle_n (lle_n (lle_n (lle_n (lle_n (lle_s (lle_s (lle_s (lle_s (lle_s (lle_n lle_0))))))))))))) (B_L_would_167 C pa N Tn B Hs p1 r Trz Ez Fz Nmz x7 x8 x9 x10 t0 Tr E1 F Nm1 h)
          · refine g_iload_n (pc' := 164) C dL_would_163 rfl rfl ?_
            refine g_if_ne (pc' := 167) (tgt := 207) C dL_would_164 (by decide) rfl h (fun c h => ?_) (fun c h => ?_)
            · exact G_loc (lle_s (lle_s (lle_n (lle_n (lle_n (lle_n (lle_n (lle_s (lle_s (lle_s (lle_s (lle_s (lle_n lle_0))))))))))))) (B_L_would_167 C pa N Tn B Hs p1 r Trz Ez Fz Nmz x7 x8 x9 x10 t0 Tr E1 F Nm1 h)
            · exact G_loc (lle_s (lle_s (lle_n (lle_n (lle_n (lle_n (lle_n (lle_s (lle_s (lle_n (lle_n (lle_s (lle_n lle_0))))))))))))) (B_L_would_207 C pa N Tn B Hs p1 r Trz Ez Fz Nmz x7 x8 t0 Tr E1 F Nm1 h)
set_option maxRecDepth 100000 in
set_option maxHeartbeats 4000000 in
theorem B_L_would_118 {X : gX} (C : cx X RL cL_would 13 (some .boolean) wsL_would 6 134) (pa : Nat → Nat → Nat) (N : Nat) (Tn : tS) (B : tS) (Hs : tH) (p1 : Int32) (r : Int32) (Trz : tS) (Ez : tS) (Fz : tS) (Nmz : tS)  (x2 : Int32) (x3 : Int32) (x7 : Int32) (x8 : Int32) (x9 : Int32) (x10 : Int32) (Tr : tS) (E : tS) (F : tS) (Nm : tS) (h : f_L_would_118 N Tn B Hs p1  x2 x3 x7 x8 x9 x10 Tr E F Nm = some (r, Trz, Ez, Fz, Nmz)) : G X (QI X r [ntW pa Tn, bdW (gcA X) (pa 1) B, hsW (gcA X) (pa 2) (fun j => pa (10 + j)) Hs, bdW (gcA X) (pa 5) Trz, heW (gcA X) (pa 6) Ez, heW (gcA X) (pa 7) Fz, nmW (gcA X) (pa 8) Nmz]) [ntW pa Tn, bdW (gcA X) (pa 1) B, hsW (gcA X) (pa 2) (fun j => pa (10 + j)) Hs, bdW (gcA X) (pa 5) Tr, heW (gcA X) (pa 6) E, heW (gcA X) (pa 7) F, nmW (gcA X) (pa 8) Nm] [some (.ref (pa 0 0)), some (.int p1), some (.int x2), some (.int x3), none, none, none, some (.int x7), some (.int x8), some (.int x9), some (.int x10), none, none] [] 118 := by
  unfold f_L_would_118 at h
  refine g_iconst (pc' := 119) (v := 1) C dL_would_118 (by decide) rfl ?_
  refine g_goto (pc' := 123) C dL_would_119 (by decide) ?_
  exact G_loc (lle_s (lle_s (lle_s (lle_s (lle_n (lle_n (lle_n (lle_s (lle_s (lle_s (lle_s (lle_n (lle_n lle_0))))))))))))) (B_L_would_123 C pa N Tn B Hs p1 r Trz Ez Fz Nmz x2 x3 x7 x8 x9 x10 (1 : Int32) Tr E F Nm h)
set_option maxRecDepth 100000 in
set_option maxHeartbeats 4000000 in
theorem B_L_would_97 {X : gX} (C : cx X RL cL_would 13 (some .boolean) wsL_would 6 134) (pa : Nat → Nat → Nat) (N : Nat) (Tn : tS) (B : tS) (Hs : tH) (p1 : Int32) (r : Int32) (Trz : tS) (Ez : tS) (Fz : tS) (Nmz : tS)  (x2 : Int32) (x3 : Int32) (x5 : Int32) (x6 : Int32) (x7 : Int32) (x8 : Int32) (x9 : Int32) (t0 : Int32) (Tr : tS) (E : tS) (F : tS) (Nm : tS) (h : f_L_would_97 N Tn B Hs p1  x2 x3 x5 x6 x7 x8 x9 t0 Tr E F Nm = some (r, Trz, Ez, Fz, Nmz)) : G X (QI X r [ntW pa Tn, bdW (gcA X) (pa 1) B, hsW (gcA X) (pa 2) (fun j => pa (10 + j)) Hs, bdW (gcA X) (pa 5) Trz, heW (gcA X) (pa 6) Ez, heW (gcA X) (pa 7) Fz, nmW (gcA X) (pa 8) Nmz]) [ntW pa Tn, bdW (gcA X) (pa 1) B, hsW (gcA X) (pa 2) (fun j => pa (10 + j)) Hs, bdW (gcA X) (pa 5) Tr, heW (gcA X) (pa 6) E, heW (gcA X) (pa 7) F, nmW (gcA X) (pa 8) Nm] [some (.ref (pa 0 0)), some (.int p1), some (.int x2), some (.int x3), none, some (.int x5), some (.int x6), some (.int x7), some (.int x8), some (.int x9), none, none, none] [.int t0] 97 := by
  unfold f_L_would_97 at h
  refine g_istore (pc' := 99) C dL_would_97 (Nat.le_of_ble_eq_true rfl) rfl (L' := [some (.ref (pa 0 0)), some (.int p1), some (.int x2), some (.int x3), none, some (.int x5), some (.int x6), some (.int x7), some (.int x8), some (.int x9), some (.int t0), none, none]) rfl ?_
  refine g_iload (pc' := 101) C dL_would_99 rfl rfl ?_
  refine g_if_ne (pc' := 104) (tgt := 118) C dL_would_101 (by decide) rfl h (fun c h => ?_) (fun c h => ?_)
  · refine g_iload (pc' := 106) C dL_would_104 rfl rfl ?_
    refine g_bipush (pc' := 108) (v := 30) C dL_would_106 (by decide) rfl ?_
    refine g_icmp_eq (pc' := 111) (tgt := 118) C dL_would_108 (by decide) rfl h (fun c h => ?_) (fun c h => ?_)
    · exact G_loc (lle_s (lle_s (lle_s (lle_s (lle_n (lle_n (lle_n (lle_s (lle_s (lle_s (lle_s (lle_n (lle_n lle_0))))))))))))) (B_L_would_118 C pa N Tn B Hs p1 r Trz Ez Fz Nmz x2 x3 x7 x8 x9 t0 Tr E F Nm h)
    · refine g_iload (pc' := 113) C dL_would_111 rfl rfl ?_
      refine g_bipush (pc' := 115) (v := 20) C dL_would_113 (by decide) rfl ?_
      refine g_icmp_ne (pc' := 118) (tgt := 122) C dL_would_115 (by decide) rfl h (fun c h => ?_) (fun c h => ?_)
      · exact G_loc (lle_s (lle_s (lle_s (lle_s (lle_n (lle_n (lle_n (lle_s (lle_s (lle_s (lle_s (lle_n (lle_n lle_0))))))))))))) (B_L_would_118 C pa N Tn B Hs p1 r Trz Ez Fz Nmz x2 x3 x7 x8 x9 t0 Tr E F Nm h)
      · refine g_iconst (pc' := 123) (v := 0) C dL_would_122 (by decide) rfl ?_
        exact G_loc (lle_s (lle_s (lle_s (lle_s (lle_n (lle_n (lle_n (lle_s (lle_s (lle_s (lle_s (lle_n (lle_n lle_0))))))))))))) (B_L_would_123 C pa N Tn B Hs p1 r Trz Ez Fz Nmz x2 x3 x7 x8 x9 t0 (0 : Int32) Tr E F Nm h)
  · exact G_loc (lle_s (lle_s (lle_s (lle_s (lle_n (lle_n (lle_n (lle_s (lle_s (lle_s (lle_s (lle_n (lle_n lle_0))))))))))))) (B_L_would_118 C pa N Tn B Hs p1 r Trz Ez Fz Nmz x2 x3 x7 x8 x9 t0 Tr E F Nm h)
set_option maxRecDepth 100000 in
set_option maxHeartbeats 4000000 in
theorem B_L_would {X : gX} (C : cx X RL cL_would 13 (some .boolean) wsL_would 6 134) (pa : Nat → Nat → Nat) (N : Nat) (Tn : tS) (B : tS) (Hs : tH) (Tr : tS) (E : tS) (F : tS) (Nm : tS) (p1 : Int32) (r : Int32) (Trz : tS) (Ez : tS) (Fz : tS) (Nmz : tS) (h : f_L_would N Tn B Hs Tr E F Nm p1 = some (r, Trz, Ez, Fz, Nmz)) : G X (QI X r [ntW pa Tn, bdW (gcA X) (pa 1) B, hsW (gcA X) (pa 2) (fun j => pa (10 + j)) Hs, bdW (gcA X) (pa 5) Trz, heW (gcA X) (pa 6) Ez, heW (gcA X) (pa 7) Fz, nmW (gcA X) (pa 8) Nmz]) [ntW pa Tn, bdW (gcA X) (pa 1) B, hsW (gcA X) (pa 2) (fun j => pa (10 + j)) Hs, bdW (gcA X) (pa 5) Tr, heW (gcA X) (pa 6) E, heW (gcA X) (pa 7) F, nmW (gcA X) (pa 8) Nm] [some (.ref (pa 0 0)), some (.int p1), none, none, none, none, none, none, none, none, none, none, none] [] 0 := by
  unfold f_L_would at h
  refine g_iload_n (pc' := 1) C dL_would_0 rfl rfl ?_
  refine g_bipush (pc' := 3) (v := 22) C dL_would_1 (by decide) rfl ?_
  refine k_L_low (pc' := 6) C N p1 (22 : Int32) [] rfl (by decide) gL_would_L_low ⟨Nat.le_of_ble_eq_true rfl, Nat.le_of_ble_eq_true rfl⟩ (Nat.le_of_ble_eq_true rfl) rfl dL_would_3 rfl h (fun r1 h => ?_)
  refine g_istore_n (pc' := 7) C dL_would_6 (Nat.le_of_ble_eq_true rfl) rfl (L' := [some (.ref (pa 0 0)), some (.int p1), some (.int r1), none, none, none, none, none, none, none, none, none, none]) rfl ?_
  refine g_aload_n (pc' := 8) C dL_would_7 rfl rfl ?_
  refine g_iload_n (pc' := 9) C dL_would_8 rfl rfl ?_
  refine k_X5_reachFor (pc' := 12) C pa N Tn B F r1 [0, 1, 5] rfl (by decide) gL_would_X5_reachFor ⟨Nat.le_of_ble_eq_true rfl, Nat.le_of_ble_eq_true rfl⟩ (Nat.le_of_ble_eq_true rfl) rfl dL_would_9 rfl h (fun r2 F2 h => ?_)
  show G X _ [ntW pa Tn, bdW (gcA X) (pa 1) B, hsW (gcA X) (pa 2) (fun j => pa (10 + j)) Hs, bdW (gcA X) (pa 5) Tr, heW (gcA X) (pa 6) E, heW (gcA X) (pa 7) F2, nmW (gcA X) (pa 8) Nm] _ _ _
  refine g_istore_n (pc' := 13) C dL_would_12 (Nat.le_of_ble_eq_true rfl) rfl (L' := [some (.ref (pa 0 0)), some (.int p1), some (.int r1), some (.int r2), none, none, none, none, none, none, none, none, none]) rfl ?_
  refine g_iload_n (pc' := 14) C dL_would_13 rfl rfl ?_
  refine g_iconst (pc' := 15) (v := 5) C dL_would_14 (by decide) rfl ?_
  refine g_ishr (pc' := 16) C dL_would_15 rfl ?_
  refine g_aload_n (pc' := 17) C dL_would_16 rfl rfl ?_
  refine g_iconst (pc' := 18) (v := 0) C dL_would_17 (by decide) rfl ?_
  refine k_X5_count (pc' := 21) C pa N Tn B Hs E Nm (0 : Int32) [0, 1, 2, 4, 6] rfl (by decide) gL_would_X5_count ⟨Nat.le_of_ble_eq_true rfl, Nat.le_of_ble_eq_true rfl⟩ (Nat.le_of_ble_eq_true rfl) rfl dL_would_18 rfl h (fun r3 E3 Nm3 h => ?_)
  show G X _ [ntW pa Tn, bdW (gcA X) (pa 1) B, hsW (gcA X) (pa 2) (fun j => pa (10 + j)) Hs, bdW (gcA X) (pa 5) Tr, heW (gcA X) (pa 6) E3, heW (gcA X) (pa 7) F2, nmW (gcA X) (pa 8) Nm3] _ _ _
  refine g_iconst (pc' := 22) (v := 1) C dL_would_21 (by decide) rfl ?_
  refine g_iadd (pc' := 23) C dL_would_22 rfl ?_
  refine k_L_low (pc' := 26) C N (p1 >>> ((5 : Int32) &&& 31)) (r3 + (1 : Int32)) [] rfl (by decide) gL_would_L_low ⟨Nat.le_of_ble_eq_true rfl, Nat.le_of_ble_eq_true rfl⟩ (Nat.le_of_ble_eq_true rfl) rfl dL_would_23 rfl h (fun r4 h => ?_)
  refine g_istore (pc' := 28) C dL_would_26 (Nat.le_of_ble_eq_true rfl) rfl (L' := [some (.ref (pa 0 0)), some (.int p1), some (.int r1), some (.int r2), some (.int r4), none, none, none, none, none, none, none, none]) rfl ?_
  refine g_iload_n (pc' := 29) C dL_would_28 rfl rfl ?_
  refine g_bipush (pc' := 31) (v := 9) C dL_would_29 (by decide) rfl ?_
  refine g_ishr (pc' := 32) C dL_would_31 rfl ?_
  refine g_bipush (pc' := 34) (v := 31) C dL_would_32 (by decide) rfl ?_
  refine k_L_low (pc' := 37) C N (p1 >>> ((9 : Int32) &&& 31)) (31 : Int32) [] rfl (by decide) gL_would_L_low ⟨Nat.le_of_ble_eq_true rfl, Nat.le_of_ble_eq_true rfl⟩ (Nat.le_of_ble_eq_true rfl) rfl dL_would_34 rfl h (fun r5 h => ?_)
  refine g_istore (pc' := 39) C dL_would_37 (Nat.le_of_ble_eq_true rfl) rfl (L' := [some (.ref (pa 0 0)), some (.int p1), some (.int r1), some (.int r2), some (.int r4), some (.int r5), none, none, none, none, none, none, none]) rfl ?_
  refine g_iload_n (pc' := 40) C dL_would_39 rfl rfl ?_
  refine g_bipush (pc' := 42) (v := 14) C dL_would_40 (by decide) rfl ?_
  refine g_ishr (pc' := 43) C dL_would_42 rfl ?_
  refine g_bipush (pc' := 45) (v := 21) C dL_would_43 (by decide) rfl ?_
  refine k_L_low (pc' := 48) C N (p1 >>> ((14 : Int32) &&& 31)) (21 : Int32) [] rfl (by decide) gL_would_L_low ⟨Nat.le_of_ble_eq_true rfl, Nat.le_of_ble_eq_true rfl⟩ (Nat.le_of_ble_eq_true rfl) rfl dL_would_45 rfl h (fun r6 h => ?_)
  refine g_istore (pc' := 50) C dL_would_48 (Nat.le_of_ble_eq_true rfl) rfl (L' := [some (.ref (pa 0 0)), some (.int p1), some (.int r1), some (.int r2), some (.int r4), some (.int r5), some (.int r6), none, none, none, none, none, none]) rfl ?_
  refine g_iload_n (pc' := 51) C dL_would_50 rfl rfl ?_
  refine g_bipush (pc' := 53) (v := 18) C dL_would_51 (by decide) rfl ?_
  refine g_ishr (pc' := 54) C dL_would_53 rfl ?_
  refine g_iconst (pc' := 55) (v := 4) C dL_would_54 (by decide) rfl ?_
  refine k_L_low (pc' := 58) C N (p1 >>> ((18 : Int32) &&& 31)) (4 : Int32) [] rfl (by decide) gL_would_L_low ⟨Nat.le_of_ble_eq_true rfl, Nat.le_of_ble_eq_true rfl⟩ (Nat.le_of_ble_eq_true rfl) rfl dL_would_55 rfl h (fun r7 h => ?_)
  refine g_istore (pc' := 60) C dL_would_58 (Nat.le_of_ble_eq_true rfl) rfl (L' := [some (.ref (pa 0 0)), some (.int p1), some (.int r1), some (.int r2), some (.int r4), some (.int r5), some (.int r6), some (.int r7), none, none, none, none, none]) rfl ?_
  refine g_aload_n (pc' := 61) C dL_would_60 rfl rfl ?_
  refine g_iload (pc' := 63) C dL_would_61 rfl rfl ?_
  refine g_iload (pc' := 65) C dL_would_63 rfl rfl ?_
  refine g_iload (pc' := 67) C dL_would_65 rfl rfl ?_
  refine g_iload (pc' := 69) C dL_would_67 rfl rfl ?_
  refine k_X5_ifDragged (pc' := 72) C pa N Tn B Tr E3 F2 r4 r5 r6 r7 [0, 1, 3, 4, 5] rfl (by decide) gL_would_X5_ifDragged ⟨Nat.le_of_ble_eq_true rfl, Nat.le_of_ble_eq_true rfl⟩ (Nat.le_of_ble_eq_true rfl) rfl dL_would_69 rfl h (fun r8 Tr8 E8 F8 h => ?_)
  show G X _ [ntW pa Tn, bdW (gcA X) (pa 1) B, hsW (gcA X) (pa 2) (fun j => pa (10 + j)) Hs, bdW (gcA X) (pa 5) Tr8, heW (gcA X) (pa 6) E8, heW (gcA X) (pa 7) F8, nmW (gcA X) (pa 8) Nm3] _ _ _
  refine g_istore (pc' := 74) C dL_would_72 (Nat.le_of_ble_eq_true rfl) rfl (L' := [some (.ref (pa 0 0)), some (.int p1), some (.int r1), some (.int r2), some (.int r4), some (.int r5), some (.int r6), some (.int r7), some (.int r8), none, none, none, none]) rfl ?_
  refine g_aload_n (pc' := 75) C dL_would_74 rfl rfl ?_
  refine g_iload (pc' := 77) C dL_would_75 rfl rfl ?_
  refine k_X5_nearest (pc' := 80) C pa N Tn B r4 [0, 1] rfl (by decide) gL_would_X5_nearest ⟨Nat.le_of_ble_eq_true rfl, Nat.le_of_ble_eq_true rfl⟩ (Nat.le_of_ble_eq_true rfl) rfl dL_would_77 rfl h (fun r9 h => ?_)
  refine g_istore (pc' := 82) C dL_would_80 (Nat.le_of_ble_eq_true rfl) rfl (L' := [some (.ref (pa 0 0)), some (.int p1), some (.int r1), some (.int r2), some (.int r4), some (.int r5), some (.int r6), some (.int r7), some (.int r8), some (.int r9), none, none, none]) rfl ?_
  refine g_iload (pc' := 84) C dL_would_82 rfl rfl ?_
  refine g_aload_n (pc' := 85) C dL_would_84 rfl rfl ?_
  refine g_iconst (pc' := 86) (v := 0) C dL_would_85 (by decide) rfl ?_
  refine k_X5_count (pc' := 89) C pa N Tn B Hs E8 Nm3 (0 : Int32) [0, 1, 2, 4, 6] rfl (by decide) gL_would_X5_count ⟨Nat.le_of_ble_eq_true rfl, Nat.le_of_ble_eq_true rfl⟩ (Nat.le_of_ble_eq_true rfl) rfl dL_would_86 rfl h (fun r10 E10 Nm10 h => ?_)
  show G X _ [ntW pa Tn, bdW (gcA X) (pa 1) B, hsW (gcA X) (pa 2) (fun j => pa (10 + j)) Hs, bdW (gcA X) (pa 5) Tr8, heW (gcA X) (pa 6) E10, heW (gcA X) (pa 7) F8, nmW (gcA X) (pa 8) Nm10] _ _ _
  refine g_icmp_ne (pc' := 92) (tgt := 96) C dL_would_89 (by decide) rfl h (fun c h => ?_) (fun c h => ?_)
  · refine g_iconst (pc' := 93) (v := 1) C dL_would_92 (by decide) rfl ?_
    refine g_goto (pc' := 97) C dL_would_93 (by decide) ?_
    exact G_loc (lle_s (lle_s (lle_s (lle_s (lle_n (lle_s (lle_s (lle_s (lle_s (lle_s (lle_n (lle_n (lle_n lle_0))))))))))))) (B_L_would_97 C pa N Tn B Hs p1 r Trz Ez Fz Nmz r1 r2 r5 r6 r7 r8 r9 (1 : Int32) Tr8 E10 F8 Nm10 h)
  · refine g_iconst (pc' := 97) (v := 0) C dL_would_96 (by decide) rfl ?_
    exact G_loc (lle_s (lle_s (lle_s (lle_s (lle_n (lle_s (lle_s (lle_s (lle_s (lle_s (lle_n (lle_n (lle_n lle_0))))))))))))) (B_L_would_97 C pa N Tn B Hs p1 r Trz Ez Fz Nmz r1 r2 r5 r6 r7 r8 r9 (0 : Int32) Tr8 E10 F8 Nm10 h)
set_option maxRecDepth 100000 in
set_option maxHeartbeats 4000000 in
theorem c_L_would (l : Launch) (D : va_G) (cA : Nat → ClassId) (pa : Nat → Nat → Nat) (N : Nat) (Tn : tS) (B : tS) (Hs : tH) (Tr : tS) (E : tS) (F : tS) (Nm : tS) (p1 : Int32) (r : Int32) (Trz : tS) (Ez : tS) (Fz : tS) (Nmz : tS) (h : f_L_would N Tn B Hs Tr E F Nm p1 = some (r, Trz, Ez, Fz, Nmz)) : MI l D cA yL_would wsL_would 6 134 [.ref (pa 0 0), .int p1] [ntW pa Tn, bdW cA (pa 1) B, hsW cA (pa 2) (fun j => pa (10 + j)) Hs, bdW cA (pa 5) Tr, heW cA (pa 6) E, heW cA (pa 7) F, nmW cA (pa 8) Nm] r [ntW pa Tn, bdW cA (pa 1) B, hsW cA (pa 2) (fun j => pa (10 + j)) Hs, bdW cA (pa 5) Trz, heW cA (pa 6) Ez, heW cA (pa 7) Fz, nmW cA (pa 8) Nmz] := MI_of (cc := cL_would) (maxL := 13) (rt := some .boolean) (by decide +kernel) rfl (List.forall_mem_cons.mpr ⟨rfl, List.forall_mem_cons.mpr ⟨rfl, List.forall_mem_nil _⟩⟩) (Nat.le_of_ble_eq_true rfl) (fun X e1 e2 e3 C => by subst e1; subst e2; subst e3; exact B_L_would C pa N Tn B Hs Tr E F Nm p1 r Trz Ez Fz Nmz h)
set_option maxRecDepth 100000 in
set_option maxHeartbeats 4000000 in
theorem nd_L_would : nd yL_would 2 := ⟨by decide +kernel, by decide +kernel, by decide +kernel⟩
set_option maxRecDepth 100000 in
set_option maxHeartbeats 4000000 in
theorem k_L_would {X : gX} {own : String} {cc : ByteArray} {nL : Nat} {ret : Option FieldType} {Ts : List Cond} {fr lm : Nat} {Q : State → Prop} {ms : List va_W} {L : List (Option Value)} {st : List Value} {pc pc' idx : Nat} {ρ : Type} {T : Int32 → tS → tS → tS → tS → Option ρ} {res : ρ} (C : cx X own cc nL ret Ts fr lm) (pa : Nat → Nat → Nat) (N : Nat) (Tn : tS) (B : tS) (Hs : tH) (Tr : tS) (E : tS) (F : tS) (Nm : tS) (p1 : Int32) (is : List Nat) (hC : is.map (fun i => ms[i]?) = [some (ntW pa Tn), some (bdW (gcA X) (pa 1) B), some (hsW (gcA X) (pa 2) (fun j => pa (10 + j)) Hs), some (bdW (gcA X) (pa 5) Tr), some (heW (gcA X) (pa 6) E), some (heW (gcA X) (pa 7) F), some (nmW (gcA X) (pa 8) Nm)]) (hn : is.Nodup) (hG : GoodIn Ts (va_wsS own idx yL_would wsL_would)) (hR : 6 + 1 ≤ fr ∧ 8 + (13 + 11) + 134 ≤ lm) (hst : (st.map fun v => v.category).sum ≤ 8) (hLn : L.length = nL) (d : decode cc pc = .ok (.invokestatic idx, 3)) (hp : pc + 3 = pc') (h : bd5 (f_L_would N Tn B Hs Tr E F Nm p1) T = some res) (kk : ∀ (r : Int32) (Trz : tS) (Ez : tS) (Fz : tS) (Nmz : tS), T r Trz Ez Fz Nmz = some res → G X Q (rpl ms is [ntW pa Tn, bdW (gcA X) (pa 1) B, hsW (gcA X) (pa 2) (fun j => pa (10 + j)) Hs, bdW (gcA X) (pa 5) Trz, heW (gcA X) (pa 6) Ez, heW (gcA X) (pa 7) Fz, nmW (gcA X) (pa 8) Nmz]) L (.int r :: st) pc') : G X Q ms L (.int p1 :: .ref (pa 0 0) :: st) pc := by
  obtain ⟨r, Trz, Ez, Fz, Nmz, h1, h⟩ := ob5 h
  exact G_callSI C (As := [.ref (pa 0 0), .int p1]) (c_L_would (gl X) (gD X) (gcA X) pa N Tn B Hs Tr E F Nm p1 r Trz Ez Fz Nmz h1) hG rfl nd_L_would hR hC hn rfl rfl hst hLn d hp (kk r Trz Ez Fz Nmz h)
