/-! the law, case by case -/
def sX (X : gX) (b n : Nat) (xs : Nat → Int32) : Prop :=
  match X with
  | (_, _, _, _, s, _, _, _, _, _, _, _, A, H0) => va_X b n xs s H0 ∧ b < H0.size ∧ ¬ A b
section GS
variable {X : gX} {own : String} {cc : ByteArray} {nL : Nat} {ret : Option FieldType} {Ts : List Cond} {fr lm : Nat} {Q : State → Prop} {ms : List va_W} {L : List (Option Value)} {st : List Value} {pc pc' kc ks : Nat} {b n : Nat} {xs : Nat → Int32}
theorem g_sld (C : cx X own cc nL ret Ts fr lm) (hs : sX X b n xs) {x : Int32} (hin : vp_in x n) (d : decode cc pc = .ok (.iaload, 1)) (hp : pc + 1 = pc') (kk : GN X kc ks Q ms L (.int (xs x.toNatClampNeg) :: st) pc') : GN X kc ks Q ms L (.int x :: .ref b :: st) pc := by
  subst hp
  obtain ⟨p, l, e, R, s, m, args, below, meth, c, D, cA, A, H0⟩ := X
  obtain ⟨hx, hb, -⟩ := C
  obtain ⟨hX, hlt, hnA⟩ := hs
  intro H locs ls hP hD hS hl
  exact va_sld hx hb hX hlt hnA hS hin d (kk H locs ls hP hD hS hl)
theorem g_slen (C : cx X own cc nL ret Ts fr lm) (hs : sX X b n xs) (d : decode cc pc = .ok (.arraylength, 1)) (hp : pc + 1 = pc') (kk : GN X kc ks Q ms L (.int (Int32.ofNat n) :: st) pc') : GN X kc ks Q ms L (.ref b :: st) pc := by
  subst hp
  obtain ⟨p, l, e, R, s, m, args, below, meth, c, D, cA, A, H0⟩ := X
  obtain ⟨hx, hb, -⟩ := C
  obtain ⟨hX, hlt, hnA⟩ := hs
  intro H locs ls hP hD hS hl
  exact va_slen hx hb hX hlt hnA hS d (kk H locs ls hP hD hS hl)
end GS
set_option maxRecDepth 100000 in
set_option maxHeartbeats 4000000 in
theorem lc_put {X : gX} {Q : State → Prop} (C : cx X RL cL_law 4 ret wsL_law 9 322) (hf : cf X) {b n : Nat} {xs : Nat → Int32} (hs : sX X b n xs) (pa : tP) (a : Nat → Nat) (i : Int32) (h1 : vp_in (i + 1) n) (h2 : vp_in (i + 2) n) (h3 : vp_in (i + 3) n) (h4 : vp_in (i + 4) n) {N : Nat} (hN : 1000 ≤ N) {Tn B Sn Tx Tr E F Nm Bt M : tS} {Hs : tH} (hR : Rel Tn B Hs Sn Tx Tr E F Nm Bt M) (kk : ∀ (Tn : tS) (B : tS) (Hs : tH) (Sn : tS) (Tx : tS) (Tr : tS) (E : tS) (F : tS) (Nm : tS) (Bt : tS) (M : tS), Rel Tn B Hs Sn Tx Tr E F Nm Bt M → G X Q [ntW pa Tn, bdW (gcA X) (pa 1) B, hsW (gcA X) (pa 2) (fun j => pa (10 + j)) Hs, bdW (gcA X) (pa 3) Sn, txW (gcA X) (pa 4) Tx, bdW (gcA X) (pa 5) Tr, heW (gcA X) (pa 6) E, heW (gcA X) (pa 7) F, nmW (gcA X) (pa 8) Nm, btW (pa 9) (pa 5 0) Bt, mdW (gcA X) a M] [some (.ref b), some (.ref (pa 0 0)), some (.ref (a 0)), some (.int i)] [] 902) : G X Q [ntW pa Tn, bdW (gcA X) (pa 1) B, hsW (gcA X) (pa 2) (fun j => pa (10 + j)) Hs, bdW (gcA X) (pa 3) Sn, txW (gcA X) (pa 4) Tx, bdW (gcA X) (pa 5) Tr, heW (gcA X) (pa 6) E, heW (gcA X) (pa 7) F, nmW (gcA X) (pa 8) Nm, btW (pa 9) (pa 5 0) Bt, mdW (gcA X) a M] [some (.ref b), some (.ref (pa 0 0)), some (.ref (a 0)), some (.int i)] [] 152 := by
  obtain ⟨r, Bz, Hsz, Mz, e1, e2, hR⟩ := m_put hN hR ((xs (i + (1 : Int32)).toNatClampNeg)) ((xs (i + (2 : Int32)).toNatClampNeg))
  refine g_aload_n (pc' := 153) C dL_law_152 rfl rfl ?_
  refine g_aload_n (pc' := 154) C dL_law_153 rfl rfl ?_
  refine g_iload_n (pc' := 155) C dL_law_154 rfl rfl ?_
  refine g_iconst (pc' := 156) (v := 1) C dL_law_155 (by decide) rfl ?_
  refine g_iadd (pc' := 157) C dL_law_156 rfl ?_
  refine g_sld (pc' := 158) C hs h1 dL_law_157 rfl ?_
  refine g_aload_n (pc' := 159) C dL_law_158 rfl rfl ?_
  refine g_iload_n (pc' := 160) C dL_law_159 rfl rfl ?_
  refine g_iconst (pc' := 161) (v := 2) C dL_law_160 (by decide) rfl ?_
  refine g_iadd (pc' := 162) C dL_law_161 rfl ?_
  refine g_sld (pc' := 163) C hs h2 dL_law_162 rfl ?_
  refine G_callVI (pc' := 166) C (As := [.int ((xs (i + (1 : Int32)).toNatClampNeg)), .int ((xs (i + (2 : Int32)).toNatClampNeg))]) (c_X5_put (gl X) (gD X) (gcA X) pa N Tn B Hs ((xs (i + (1 : Int32)).toNatClampNeg)) ((xs (i + (2 : Int32)).toNatClampNeg)) r Bz Hsz e1) gL_law_X5_put rfl nd_X5_put ⟨Nat.le_of_ble_eq_true rfl, Nat.le_of_ble_eq_true rfl⟩ (q0 := 0) rfl rfl (is := [0, 1, 2]) rfl (by decide) rfl rfl (Nat.le_of_ble_eq_true rfl) rfl dL_law_163 rfl ?_
  show G X _ [ntW pa Tn, bdW (gcA X) (pa 1) Bz, hsW (gcA X) (pa 2) (fun j => pa (10 + j)) Hsz, bdW (gcA X) (pa 3) Sn, txW (gcA X) (pa 4) Tx, bdW (gcA X) (pa 5) Tr, heW (gcA X) (pa 6) E, heW (gcA X) (pa 7) F, nmW (gcA X) (pa 8) Nm, btW (pa 9) (pa 5 0) Bt, mdW (gcA X) a M] _ _ _
  refine g_aload_n (pc' := 167) C dL_law_166 rfl rfl ?_
  refine g_aload_n (pc' := 168) C dL_law_167 rfl rfl ?_
  refine g_iload_n (pc' := 169) C dL_law_168 rfl rfl ?_
  refine g_iconst (pc' := 170) (v := 1) C dL_law_169 (by decide) rfl ?_
  refine g_iadd (pc' := 171) C dL_law_170 rfl ?_
  refine g_sld (pc' := 172) C hs h1 dL_law_171 rfl ?_
  refine g_aload_n (pc' := 173) C dL_law_172 rfl rfl ?_
  refine g_iload_n (pc' := 174) C dL_law_173 rfl rfl ?_
  refine g_iconst (pc' := 175) (v := 2) C dL_law_174 (by decide) rfl ?_
  refine g_iadd (pc' := 176) C dL_law_175 rfl ?_
  refine g_sld (pc' := 177) C hs h2 dL_law_176 rfl ?_
  refine G_callVI (pc' := 180) C (As := [.int ((xs (i + (1 : Int32)).toNatClampNeg)), .int ((xs (i + (2 : Int32)).toNatClampNeg))]) (c_X6_put (gl X) (gD X) (gcA X) a N M ((xs (i + (1 : Int32)).toNatClampNeg)) ((xs (i + (2 : Int32)).toNatClampNeg)) r Mz e2) gL_law_X6_put rfl nd_X6_put ⟨Nat.le_of_ble_eq_true rfl, Nat.le_of_ble_eq_true rfl⟩ (q0 := 0) rfl rfl (is := [10]) rfl (by decide) rfl rfl (Nat.le_of_ble_eq_true rfl) rfl dL_law_177 rfl ?_
  show G X _ [ntW pa Tn, bdW (gcA X) (pa 1) Bz, hsW (gcA X) (pa 2) (fun j => pa (10 + j)) Hsz, bdW (gcA X) (pa 3) Sn, txW (gcA X) (pa 4) Tx, bdW (gcA X) (pa 5) Tr, heW (gcA X) (pa 6) E, heW (gcA X) (pa 7) F, nmW (gcA X) (pa 8) Nm, btW (pa 9) (pa 5 0) Bt, mdW (gcA X) a Mz] _ _ _
  refine g_icmp_eq (pc' := 183) (tgt := 902) (T := some ()) (F := (none : Option Unit)) (res := ()) C dL_law_180 (by decide) rfl (if_pos rfl) (fun c h => ?_) (fun c h => absurd rfl c)
  exact kk Tn Bz Hsz Sn Tx Tr E F Nm Bt Mz hR
set_option maxRecDepth 100000 in
set_option maxHeartbeats 4000000 in
theorem lc_load {X : gX} {Q : State → Prop} (C : cx X RL cL_law 4 ret wsL_law 9 322) (hf : cf X) {b n : Nat} {xs : Nat → Int32} (hs : sX X b n xs) (pa : tP) (a : Nat → Nat) (i : Int32) (h1 : vp_in (i + 1) n) (h2 : vp_in (i + 2) n) (h3 : vp_in (i + 3) n) (h4 : vp_in (i + 4) n) {N : Nat} (hN : 1000 ≤ N) {Tn B Sn Tx Tr E F Nm Bt M : tS} {Hs : tH} (hR : Rel Tn B Hs Sn Tx Tr E F Nm Bt M) (kk : ∀ (Tn : tS) (B : tS) (Hs : tH) (Sn : tS) (Tx : tS) (Tr : tS) (E : tS) (F : tS) (Nm : tS) (Bt : tS) (M : tS), Rel Tn B Hs Sn Tx Tr E F Nm Bt M → G X Q [ntW pa Tn, bdW (gcA X) (pa 1) B, hsW (gcA X) (pa 2) (fun j => pa (10 + j)) Hs, bdW (gcA X) (pa 3) Sn, txW (gcA X) (pa 4) Tx, bdW (gcA X) (pa 5) Tr, heW (gcA X) (pa 6) E, heW (gcA X) (pa 7) F, nmW (gcA X) (pa 8) Nm, btW (pa 9) (pa 5 0) Bt, mdW (gcA X) a M] [some (.ref b), some (.ref (pa 0 0)), some (.ref (a 0)), some (.int i)] [] 902) : G X Q [ntW pa Tn, bdW (gcA X) (pa 1) B, hsW (gcA X) (pa 2) (fun j => pa (10 + j)) Hs, bdW (gcA X) (pa 3) Sn, txW (gcA X) (pa 4) Tx, bdW (gcA X) (pa 5) Tr, heW (gcA X) (pa 6) E, heW (gcA X) (pa 7) F, nmW (gcA X) (pa 8) Nm, btW (pa 9) (pa 5 0) Bt, mdW (gcA X) a M] [some (.ref b), some (.ref (pa 0 0)), some (.ref (a 0)), some (.int i)] [] 185 := by
  obtain ⟨r, Bz, Hsz, Trz, Btz, Mz, e1, e2, hR⟩ := m_load hN hR 
  refine g_aload_n (pc' := 186) C dL_law_185 rfl rfl ?_
  refine G_callVI (pc' := 189) C (As := []) (c_X5_load (gl X) (gD X) (gcA X) pa N Tn B Hs Tx Tr Bt  r Bz Hsz Trz Btz e1) gL_law_X5_load rfl nd_X5_load ⟨Nat.le_of_ble_eq_true rfl, Nat.le_of_ble_eq_true rfl⟩ (q0 := 0) rfl rfl (is := [0, 1, 2, 4, 5, 9]) rfl (by decide) rfl rfl (Nat.le_of_ble_eq_true rfl) rfl dL_law_186 rfl ?_
  show G X _ [ntW pa Tn, bdW (gcA X) (pa 1) Bz, hsW (gcA X) (pa 2) (fun j => pa (10 + j)) Hsz, bdW (gcA X) (pa 3) Sn, txW (gcA X) (pa 4) Tx, bdW (gcA X) (pa 5) Trz, heW (gcA X) (pa 6) E, heW (gcA X) (pa 7) F, nmW (gcA X) (pa 8) Nm, btW (pa 9) (pa 5 0) Btz, mdW (gcA X) a M] _ _ _
  refine g_aload_n (pc' := 190) C dL_law_189 rfl rfl ?_
  refine G_callVI (pc' := 193) C (As := []) (c_X6_load (gl X) (gD X) (gcA X) a N M  r Mz e2) gL_law_X6_load rfl nd_X6_load ⟨Nat.le_of_ble_eq_true rfl, Nat.le_of_ble_eq_true rfl⟩ (q0 := 0) rfl rfl (is := [10]) rfl (by decide) rfl rfl (Nat.le_of_ble_eq_true rfl) rfl dL_law_190 rfl ?_
  show G X _ [ntW pa Tn, bdW (gcA X) (pa 1) Bz, hsW (gcA X) (pa 2) (fun j => pa (10 + j)) Hsz, bdW (gcA X) (pa 3) Sn, txW (gcA X) (pa 4) Tx, bdW (gcA X) (pa 5) Trz, heW (gcA X) (pa 6) E, heW (gcA X) (pa 7) F, nmW (gcA X) (pa 8) Nm, btW (pa 9) (pa 5 0) Btz, mdW (gcA X) a Mz] _ _ _
  refine g_icmp_eq (pc' := 196) (tgt := 902) (T := some ()) (F := (none : Option Unit)) (res := ()) C dL_law_193 (by decide) rfl (if_pos rfl) (fun c h => ?_) (fun c h => absurd rfl c)
  exact kk Tn Bz Hsz Sn Tx Trz E F Nm Btz Mz hR
set_option maxRecDepth 100000 in
set_option maxHeartbeats 4000000 in
theorem lc_takeOff {X : gX} {Q : State → Prop} (C : cx X RL cL_law 4 ret wsL_law 9 322) (hf : cf X) {b n : Nat} {xs : Nat → Int32} (hs : sX X b n xs) (pa : tP) (a : Nat → Nat) (i : Int32) (h1 : vp_in (i + 1) n) (h2 : vp_in (i + 2) n) (h3 : vp_in (i + 3) n) (h4 : vp_in (i + 4) n) {N : Nat} (hN : 1000 ≤ N) {Tn B Sn Tx Tr E F Nm Bt M : tS} {Hs : tH} (hR : Rel Tn B Hs Sn Tx Tr E F Nm Bt M) (kk : ∀ (Tn : tS) (B : tS) (Hs : tH) (Sn : tS) (Tx : tS) (Tr : tS) (E : tS) (F : tS) (Nm : tS) (Bt : tS) (M : tS), Rel Tn B Hs Sn Tx Tr E F Nm Bt M → G X Q [ntW pa Tn, bdW (gcA X) (pa 1) B, hsW (gcA X) (pa 2) (fun j => pa (10 + j)) Hs, bdW (gcA X) (pa 3) Sn, txW (gcA X) (pa 4) Tx, bdW (gcA X) (pa 5) Tr, heW (gcA X) (pa 6) E, heW (gcA X) (pa 7) F, nmW (gcA X) (pa 8) Nm, btW (pa 9) (pa 5 0) Bt, mdW (gcA X) a M] [some (.ref b), some (.ref (pa 0 0)), some (.ref (a 0)), some (.int i)] [] 902) : G X Q [ntW pa Tn, bdW (gcA X) (pa 1) B, hsW (gcA X) (pa 2) (fun j => pa (10 + j)) Hs, bdW (gcA X) (pa 3) Sn, txW (gcA X) (pa 4) Tx, bdW (gcA X) (pa 5) Tr, heW (gcA X) (pa 6) E, heW (gcA X) (pa 7) F, nmW (gcA X) (pa 8) Nm, btW (pa 9) (pa 5 0) Bt, mdW (gcA X) a M] [some (.ref b), some (.ref (pa 0 0)), some (.ref (a 0)), some (.int i)] [] 198 := by
  obtain ⟨r, Bz, Hsz, Mz, e1, e2, hR⟩ := m_takeOff hN hR ((xs (i + (1 : Int32)).toNatClampNeg))
  refine g_aload_n (pc' := 199) C dL_law_198 rfl rfl ?_
  refine g_aload_n (pc' := 200) C dL_law_199 rfl rfl ?_
  refine g_iload_n (pc' := 201) C dL_law_200 rfl rfl ?_
  refine g_iconst (pc' := 202) (v := 1) C dL_law_201 (by decide) rfl ?_
  refine g_iadd (pc' := 203) C dL_law_202 rfl ?_
  refine g_sld (pc' := 204) C hs h1 dL_law_203 rfl ?_
  refine G_callVI (pc' := 207) C (As := [.int ((xs (i + (1 : Int32)).toNatClampNeg))]) (c_X5_takeOff (gl X) (gD X) (gcA X) pa N Tn B Hs ((xs (i + (1 : Int32)).toNatClampNeg)) r Bz Hsz e1) gL_law_X5_takeOff rfl nd_X5_takeOff ⟨Nat.le_of_ble_eq_true rfl, Nat.le_of_ble_eq_true rfl⟩ (q0 := 0) rfl rfl (is := [0, 1, 2]) rfl (by decide) rfl rfl (Nat.le_of_ble_eq_true rfl) rfl dL_law_204 rfl ?_
  show G X _ [ntW pa Tn, bdW (gcA X) (pa 1) Bz, hsW (gcA X) (pa 2) (fun j => pa (10 + j)) Hsz, bdW (gcA X) (pa 3) Sn, txW (gcA X) (pa 4) Tx, bdW (gcA X) (pa 5) Tr, heW (gcA X) (pa 6) E, heW (gcA X) (pa 7) F, nmW (gcA X) (pa 8) Nm, btW (pa 9) (pa 5 0) Bt, mdW (gcA X) a M] _ _ _
  refine g_aload_n (pc' := 208) C dL_law_207 rfl rfl ?_
  refine g_aload_n (pc' := 209) C dL_law_208 rfl rfl ?_
  refine g_iload_n (pc' := 210) C dL_law_209 rfl rfl ?_
  refine g_iconst (pc' := 211) (v := 1) C dL_law_210 (by decide) rfl ?_
  refine g_iadd (pc' := 212) C dL_law_211 rfl ?_
  refine g_sld (pc' := 213) C hs h1 dL_law_212 rfl ?_
  refine G_callVI (pc' := 216) C (As := [.int ((xs (i + (1 : Int32)).toNatClampNeg))]) (c_X6_takeOff (gl X) (gD X) (gcA X) a N M ((xs (i + (1 : Int32)).toNatClampNeg)) r Mz e2) gL_law_X6_takeOff rfl nd_X6_takeOff ⟨Nat.le_of_ble_eq_true rfl, Nat.le_of_ble_eq_true rfl⟩ (q0 := 0) rfl rfl (is := [10]) rfl (by decide) rfl rfl (Nat.le_of_ble_eq_true rfl) rfl dL_law_213 rfl ?_
  show G X _ [ntW pa Tn, bdW (gcA X) (pa 1) Bz, hsW (gcA X) (pa 2) (fun j => pa (10 + j)) Hsz, bdW (gcA X) (pa 3) Sn, txW (gcA X) (pa 4) Tx, bdW (gcA X) (pa 5) Tr, heW (gcA X) (pa 6) E, heW (gcA X) (pa 7) F, nmW (gcA X) (pa 8) Nm, btW (pa 9) (pa 5 0) Bt, mdW (gcA X) a Mz] _ _ _
  refine g_icmp_eq (pc' := 219) (tgt := 902) (T := some ()) (F := (none : Option Unit)) (res := ()) C dL_law_216 (by decide) rfl (if_pos rfl) (fun c h => ?_) (fun c h => absurd rfl c)
  exact kk Tn Bz Hsz Sn Tx Tr E F Nm Bt Mz hR
set_option maxRecDepth 100000 in
set_option maxHeartbeats 4000000 in
theorem lc_drag {X : gX} {Q : State → Prop} (C : cx X RL cL_law 4 ret wsL_law 9 322) (hf : cf X) {b n : Nat} {xs : Nat → Int32} (hs : sX X b n xs) (pa : tP) (a : Nat → Nat) (i : Int32) (h1 : vp_in (i + 1) n) (h2 : vp_in (i + 2) n) (h3 : vp_in (i + 3) n) (h4 : vp_in (i + 4) n) {N : Nat} (hN : 1000 ≤ N) {Tn B Sn Tx Tr E F Nm Bt M : tS} {Hs : tH} (hR : Rel Tn B Hs Sn Tx Tr E F Nm Bt M) (kk : ∀ (Tn : tS) (B : tS) (Hs : tH) (Sn : tS) (Tx : tS) (Tr : tS) (E : tS) (F : tS) (Nm : tS) (Bt : tS) (M : tS), Rel Tn B Hs Sn Tx Tr E F Nm Bt M → G X Q [ntW pa Tn, bdW (gcA X) (pa 1) B, hsW (gcA X) (pa 2) (fun j => pa (10 + j)) Hs, bdW (gcA X) (pa 3) Sn, txW (gcA X) (pa 4) Tx, bdW (gcA X) (pa 5) Tr, heW (gcA X) (pa 6) E, heW (gcA X) (pa 7) F, nmW (gcA X) (pa 8) Nm, btW (pa 9) (pa 5 0) Bt, mdW (gcA X) a M] [some (.ref b), some (.ref (pa 0 0)), some (.ref (a 0)), some (.int i)] [] 902) : G X Q [ntW pa Tn, bdW (gcA X) (pa 1) B, hsW (gcA X) (pa 2) (fun j => pa (10 + j)) Hs, bdW (gcA X) (pa 3) Sn, txW (gcA X) (pa 4) Tx, bdW (gcA X) (pa 5) Tr, heW (gcA X) (pa 6) E, heW (gcA X) (pa 7) F, nmW (gcA X) (pa 8) Nm, btW (pa 9) (pa 5 0) Bt, mdW (gcA X) a M] [some (.ref b), some (.ref (pa 0 0)), some (.ref (a 0)), some (.int i)] [] 221 := by
  obtain ⟨r, Bz, Hsz, Ez, Mz, e1, e2, hR⟩ := m_drag hN hR ((xs (i + (1 : Int32)).toNatClampNeg)) ((xs (i + (2 : Int32)).toNatClampNeg)) ((xs (i + (3 : Int32)).toNatClampNeg))
  refine g_aload_n (pc' := 222) C dL_law_221 rfl rfl ?_
  refine g_aload_n (pc' := 223) C dL_law_222 rfl rfl ?_
  refine g_iload_n (pc' := 224) C dL_law_223 rfl rfl ?_
  refine g_iconst (pc' := 225) (v := 1) C dL_law_224 (by decide) rfl ?_
  refine g_iadd (pc' := 226) C dL_law_225 rfl ?_
  refine g_sld (pc' := 227) C hs h1 dL_law_226 rfl ?_
  refine g_aload_n (pc' := 228) C dL_law_227 rfl rfl ?_
  refine g_iload_n (pc' := 229) C dL_law_228 rfl rfl ?_
  refine g_iconst (pc' := 230) (v := 2) C dL_law_229 (by decide) rfl ?_
  refine g_iadd (pc' := 231) C dL_law_230 rfl ?_
  refine g_sld (pc' := 232) C hs h2 dL_law_231 rfl ?_
  refine g_aload_n (pc' := 233) C dL_law_232 rfl rfl ?_
  refine g_iload_n (pc' := 234) C dL_law_233 rfl rfl ?_
  refine g_iconst (pc' := 235) (v := 3) C dL_law_234 (by decide) rfl ?_
  refine g_iadd (pc' := 236) C dL_law_235 rfl ?_
  refine g_sld (pc' := 237) C hs h3 dL_law_236 rfl ?_
  refine G_callVI (pc' := 240) C (As := [.int ((xs (i + (1 : Int32)).toNatClampNeg)), .int ((xs (i + (2 : Int32)).toNatClampNeg)), .int ((xs (i + (3 : Int32)).toNatClampNeg))]) (c_X5_drag (gl X) (gD X) (gcA X) pa N Tn B Hs E ((xs (i + (1 : Int32)).toNatClampNeg)) ((xs (i + (2 : Int32)).toNatClampNeg)) ((xs (i + (3 : Int32)).toNatClampNeg)) r Bz Hsz Ez e1) gL_law_X5_drag rfl nd_X5_drag ⟨Nat.le_of_ble_eq_true rfl, Nat.le_of_ble_eq_true rfl⟩ (q0 := 0) rfl rfl (is := [0, 1, 2, 6]) rfl (by decide) rfl rfl (Nat.le_of_ble_eq_true rfl) rfl dL_law_237 rfl ?_
  show G X _ [ntW pa Tn, bdW (gcA X) (pa 1) Bz, hsW (gcA X) (pa 2) (fun j => pa (10 + j)) Hsz, bdW (gcA X) (pa 3) Sn, txW (gcA X) (pa 4) Tx, bdW (gcA X) (pa 5) Tr, heW (gcA X) (pa 6) Ez, heW (gcA X) (pa 7) F, nmW (gcA X) (pa 8) Nm, btW (pa 9) (pa 5 0) Bt, mdW (gcA X) a M] _ _ _
  refine g_aload_n (pc' := 241) C dL_law_240 rfl rfl ?_
  refine g_aload_n (pc' := 242) C dL_law_241 rfl rfl ?_
  refine g_iload_n (pc' := 243) C dL_law_242 rfl rfl ?_
  refine g_iconst (pc' := 244) (v := 1) C dL_law_243 (by decide) rfl ?_
  refine g_iadd (pc' := 245) C dL_law_244 rfl ?_
  refine g_sld (pc' := 246) C hs h1 dL_law_245 rfl ?_
  refine g_aload_n (pc' := 247) C dL_law_246 rfl rfl ?_
  refine g_iload_n (pc' := 248) C dL_law_247 rfl rfl ?_
  refine g_iconst (pc' := 249) (v := 2) C dL_law_248 (by decide) rfl ?_
  refine g_iadd (pc' := 250) C dL_law_249 rfl ?_
  refine g_sld (pc' := 251) C hs h2 dL_law_250 rfl ?_
  refine g_aload_n (pc' := 252) C dL_law_251 rfl rfl ?_
  refine g_iload_n (pc' := 253) C dL_law_252 rfl rfl ?_
  refine g_iconst (pc' := 254) (v := 3) C dL_law_253 (by decide) rfl ?_
  refine g_iadd (pc' := 255) C dL_law_254 rfl ?_
  refine g_sld (pc' := 256) C hs h3 dL_law_255 rfl ?_
  refine G_callVI (pc' := 259) C (As := [.int ((xs (i + (1 : Int32)).toNatClampNeg)), .int ((xs (i + (2 : Int32)).toNatClampNeg)), .int ((xs (i + (3 : Int32)).toNatClampNeg))]) (c_X6_drag (gl X) (gD X) (gcA X) a N M ((xs (i + (1 : Int32)).toNatClampNeg)) ((xs (i + (2 : Int32)).toNatClampNeg)) ((xs (i + (3 : Int32)).toNatClampNeg)) r Mz e2) gL_law_X6_drag rfl nd_X6_drag ⟨Nat.le_of_ble_eq_true rfl, Nat.le_of_ble_eq_true rfl⟩ (q0 := 0) rfl rfl (is := [10]) rfl (by decide) rfl rfl (Nat.le_of_ble_eq_true rfl) rfl dL_law_256 rfl ?_
  show G X _ [ntW pa Tn, bdW (gcA X) (pa 1) Bz, hsW (gcA X) (pa 2) (fun j => pa (10 + j)) Hsz, bdW (gcA X) (pa 3) Sn, txW (gcA X) (pa 4) Tx, bdW (gcA X) (pa 5) Tr, heW (gcA X) (pa 6) Ez, heW (gcA X) (pa 7) F, nmW (gcA X) (pa 8) Nm, btW (pa 9) (pa 5 0) Bt, mdW (gcA X) a Mz] _ _ _
  refine g_icmp_eq (pc' := 262) (tgt := 902) (T := some ()) (F := (none : Option Unit)) (res := ()) C dL_law_259 (by decide) rfl (if_pos rfl) (fun c h => ?_) (fun c h => absurd rfl c)
  exact kk Tn Bz Hsz Sn Tx Tr Ez F Nm Bt Mz hR
set_option maxRecDepth 100000 in
set_option maxHeartbeats 4000000 in
theorem lc_dragHeap {X : gX} {Q : State → Prop} (C : cx X RL cL_law 4 ret wsL_law 9 322) (hf : cf X) {b n : Nat} {xs : Nat → Int32} (hs : sX X b n xs) (pa : tP) (a : Nat → Nat) (i : Int32) (h1 : vp_in (i + 1) n) (h2 : vp_in (i + 2) n) (h3 : vp_in (i + 3) n) (h4 : vp_in (i + 4) n) {N : Nat} (hN : 1000 ≤ N) {Tn B Sn Tx Tr E F Nm Bt M : tS} {Hs : tH} (hR : Rel Tn B Hs Sn Tx Tr E F Nm Bt M) (kk : ∀ (Tn : tS) (B : tS) (Hs : tH) (Sn : tS) (Tx : tS) (Tr : tS) (E : tS) (F : tS) (Nm : tS) (Bt : tS) (M : tS), Rel Tn B Hs Sn Tx Tr E F Nm Bt M → G X Q [ntW pa Tn, bdW (gcA X) (pa 1) B, hsW (gcA X) (pa 2) (fun j => pa (10 + j)) Hs, bdW (gcA X) (pa 3) Sn, txW (gcA X) (pa 4) Tx, bdW (gcA X) (pa 5) Tr, heW (gcA X) (pa 6) E, heW (gcA X) (pa 7) F, nmW (gcA X) (pa 8) Nm, btW (pa 9) (pa 5 0) Bt, mdW (gcA X) a M] [some (.ref b), some (.ref (pa 0 0)), some (.ref (a 0)), some (.int i)] [] 902) : G X Q [ntW pa Tn, bdW (gcA X) (pa 1) B, hsW (gcA X) (pa 2) (fun j => pa (10 + j)) Hs, bdW (gcA X) (pa 3) Sn, txW (gcA X) (pa 4) Tx, bdW (gcA X) (pa 5) Tr, heW (gcA X) (pa 6) E, heW (gcA X) (pa 7) F, nmW (gcA X) (pa 8) Nm, btW (pa 9) (pa 5 0) Bt, mdW (gcA X) a M] [some (.ref b), some (.ref (pa 0 0)), some (.ref (a 0)), some (.int i)] [] 264 := by
  obtain ⟨r, Bz, Hsz, Ez, Mz, e1, e2, hR⟩ := m_dragHeap hN hR ((xs (i + (1 : Int32)).toNatClampNeg)) ((xs (i + (2 : Int32)).toNatClampNeg)) ((xs (i + (3 : Int32)).toNatClampNeg))
  refine g_aload_n (pc' := 265) C dL_law_264 rfl rfl ?_
  refine g_aload_n (pc' := 266) C dL_law_265 rfl rfl ?_
  refine g_iload_n (pc' := 267) C dL_law_266 rfl rfl ?_
  refine g_iconst (pc' := 268) (v := 1) C dL_law_267 (by decide) rfl ?_
  refine g_iadd (pc' := 269) C dL_law_268 rfl ?_
  refine g_sld (pc' := 270) C hs h1 dL_law_269 rfl ?_
  refine g_aload_n (pc' := 271) C dL_law_270 rfl rfl ?_
  refine g_iload_n (pc' := 272) C dL_law_271 rfl rfl ?_
  refine g_iconst (pc' := 273) (v := 2) C dL_law_272 (by decide) rfl ?_
  refine g_iadd (pc' := 274) C dL_law_273 rfl ?_
  refine g_sld (pc' := 275) C hs h2 dL_law_274 rfl ?_
  refine g_aload_n (pc' := 276) C dL_law_275 rfl rfl ?_
  refine g_iload_n (pc' := 277) C dL_law_276 rfl rfl ?_
  refine g_iconst (pc' := 278) (v := 3) C dL_law_277 (by decide) rfl ?_
  refine g_iadd (pc' := 279) C dL_law_278 rfl ?_
  refine g_sld (pc' := 280) C hs h3 dL_law_279 rfl ?_
  refine G_callVI (pc' := 283) C (As := [.int ((xs (i + (1 : Int32)).toNatClampNeg)), .int ((xs (i + (2 : Int32)).toNatClampNeg)), .int ((xs (i + (3 : Int32)).toNatClampNeg))]) (c_X5_dragHeap (gl X) (gD X) (gcA X) pa N Tn B Hs E ((xs (i + (1 : Int32)).toNatClampNeg)) ((xs (i + (2 : Int32)).toNatClampNeg)) ((xs (i + (3 : Int32)).toNatClampNeg)) r Bz Hsz Ez e1) gL_law_X5_dragHeap rfl nd_X5_dragHeap ⟨Nat.le_of_ble_eq_true rfl, Nat.le_of_ble_eq_true rfl⟩ (q0 := 0) rfl rfl (is := [0, 1, 2, 6]) rfl (by decide) rfl rfl (Nat.le_of_ble_eq_true rfl) rfl dL_law_280 rfl ?_
  show G X _ [ntW pa Tn, bdW (gcA X) (pa 1) Bz, hsW (gcA X) (pa 2) (fun j => pa (10 + j)) Hsz, bdW (gcA X) (pa 3) Sn, txW (gcA X) (pa 4) Tx, bdW (gcA X) (pa 5) Tr, heW (gcA X) (pa 6) Ez, heW (gcA X) (pa 7) F, nmW (gcA X) (pa 8) Nm, btW (pa 9) (pa 5 0) Bt, mdW (gcA X) a M] _ _ _
  refine g_aload_n (pc' := 284) C dL_law_283 rfl rfl ?_
  refine g_aload_n (pc' := 285) C dL_law_284 rfl rfl ?_
  refine g_iload_n (pc' := 286) C dL_law_285 rfl rfl ?_
  refine g_iconst (pc' := 287) (v := 1) C dL_law_286 (by decide) rfl ?_
  refine g_iadd (pc' := 288) C dL_law_287 rfl ?_
  refine g_sld (pc' := 289) C hs h1 dL_law_288 rfl ?_
  refine g_aload_n (pc' := 290) C dL_law_289 rfl rfl ?_
  refine g_iload_n (pc' := 291) C dL_law_290 rfl rfl ?_
  refine g_iconst (pc' := 292) (v := 2) C dL_law_291 (by decide) rfl ?_
  refine g_iadd (pc' := 293) C dL_law_292 rfl ?_
  refine g_sld (pc' := 294) C hs h2 dL_law_293 rfl ?_
  refine g_aload_n (pc' := 295) C dL_law_294 rfl rfl ?_
  refine g_iload_n (pc' := 296) C dL_law_295 rfl rfl ?_
  refine g_iconst (pc' := 297) (v := 3) C dL_law_296 (by decide) rfl ?_
  refine g_iadd (pc' := 298) C dL_law_297 rfl ?_
  refine g_sld (pc' := 299) C hs h3 dL_law_298 rfl ?_
  refine G_callVI (pc' := 302) C (As := [.int ((xs (i + (1 : Int32)).toNatClampNeg)), .int ((xs (i + (2 : Int32)).toNatClampNeg)), .int ((xs (i + (3 : Int32)).toNatClampNeg))]) (c_X6_dragHeap (gl X) (gD X) (gcA X) a N M ((xs (i + (1 : Int32)).toNatClampNeg)) ((xs (i + (2 : Int32)).toNatClampNeg)) ((xs (i + (3 : Int32)).toNatClampNeg)) r Mz e2) gL_law_X6_dragHeap rfl nd_X6_dragHeap ⟨Nat.le_of_ble_eq_true rfl, Nat.le_of_ble_eq_true rfl⟩ (q0 := 0) rfl rfl (is := [10]) rfl (by decide) rfl rfl (Nat.le_of_ble_eq_true rfl) rfl dL_law_299 rfl ?_
  show G X _ [ntW pa Tn, bdW (gcA X) (pa 1) Bz, hsW (gcA X) (pa 2) (fun j => pa (10 + j)) Hsz, bdW (gcA X) (pa 3) Sn, txW (gcA X) (pa 4) Tx, bdW (gcA X) (pa 5) Tr, heW (gcA X) (pa 6) Ez, heW (gcA X) (pa 7) F, nmW (gcA X) (pa 8) Nm, btW (pa 9) (pa 5 0) Bt, mdW (gcA X) a Mz] _ _ _
  refine g_icmp_eq (pc' := 305) (tgt := 902) (T := some ()) (F := (none : Option Unit)) (res := ()) C dL_law_302 (by decide) rfl (if_pos rfl) (fun c h => ?_) (fun c h => absurd rfl c)
  exact kk Tn Bz Hsz Sn Tx Tr Ez F Nm Bt Mz hR
set_option maxRecDepth 100000 in
set_option maxHeartbeats 4000000 in
theorem lc_stick {X : gX} {Q : State → Prop} (C : cx X RL cL_law 4 ret wsL_law 9 322) (hf : cf X) {b n : Nat} {xs : Nat → Int32} (hs : sX X b n xs) (pa : tP) (a : Nat → Nat) (i : Int32) (h1 : vp_in (i + 1) n) (h2 : vp_in (i + 2) n) (h3 : vp_in (i + 3) n) (h4 : vp_in (i + 4) n) {N : Nat} (hN : 1000 ≤ N) {Tn B Sn Tx Tr E F Nm Bt M : tS} {Hs : tH} (hR : Rel Tn B Hs Sn Tx Tr E F Nm Bt M) (kk : ∀ (Tn : tS) (B : tS) (Hs : tH) (Sn : tS) (Tx : tS) (Tr : tS) (E : tS) (F : tS) (Nm : tS) (Bt : tS) (M : tS), Rel Tn B Hs Sn Tx Tr E F Nm Bt M → G X Q [ntW pa Tn, bdW (gcA X) (pa 1) B, hsW (gcA X) (pa 2) (fun j => pa (10 + j)) Hs, bdW (gcA X) (pa 3) Sn, txW (gcA X) (pa 4) Tx, bdW (gcA X) (pa 5) Tr, heW (gcA X) (pa 6) E, heW (gcA X) (pa 7) F, nmW (gcA X) (pa 8) Nm, btW (pa 9) (pa 5 0) Bt, mdW (gcA X) a M] [some (.ref b), some (.ref (pa 0 0)), some (.ref (a 0)), some (.int i)] [] 902) : G X Q [ntW pa Tn, bdW (gcA X) (pa 1) B, hsW (gcA X) (pa 2) (fun j => pa (10 + j)) Hs, bdW (gcA X) (pa 3) Sn, txW (gcA X) (pa 4) Tx, bdW (gcA X) (pa 5) Tr, heW (gcA X) (pa 6) E, heW (gcA X) (pa 7) F, nmW (gcA X) (pa 8) Nm, btW (pa 9) (pa 5 0) Bt, mdW (gcA X) a M] [some (.ref b), some (.ref (pa 0 0)), some (.ref (a 0)), some (.int i)] [] 307 := by
  obtain ⟨r, Bz, Hsz, Mz, e1, e2, hR⟩ := m_stick hN hR ((xs (i + (1 : Int32)).toNatClampNeg)) ((xs (i + (2 : Int32)).toNatClampNeg))
  refine g_aload_n (pc' := 308) C dL_law_307 rfl rfl ?_
  refine g_aload_n (pc' := 309) C dL_law_308 rfl rfl ?_
  refine g_iload_n (pc' := 310) C dL_law_309 rfl rfl ?_
  refine g_iconst (pc' := 311) (v := 1) C dL_law_310 (by decide) rfl ?_
  refine g_iadd (pc' := 312) C dL_law_311 rfl ?_
  refine g_sld (pc' := 313) C hs h1 dL_law_312 rfl ?_
  refine g_aload_n (pc' := 314) C dL_law_313 rfl rfl ?_
  refine g_iload_n (pc' := 315) C dL_law_314 rfl rfl ?_
  refine g_iconst (pc' := 316) (v := 2) C dL_law_315 (by decide) rfl ?_
  refine g_iadd (pc' := 317) C dL_law_316 rfl ?_
  refine g_sld (pc' := 318) C hs h2 dL_law_317 rfl ?_
  refine G_callVI (pc' := 321) C (As := [.int ((xs (i + (1 : Int32)).toNatClampNeg)), .int ((xs (i + (2 : Int32)).toNatClampNeg))]) (c_X5_stick (gl X) (gD X) (gcA X) pa N Tn B Hs ((xs (i + (1 : Int32)).toNatClampNeg)) ((xs (i + (2 : Int32)).toNatClampNeg)) r Bz Hsz e1) gL_law_X5_stick rfl nd_X5_stick ⟨Nat.le_of_ble_eq_true rfl, Nat.le_of_ble_eq_true rfl⟩ (q0 := 0) rfl rfl (is := [0, 1, 2]) rfl (by decide) rfl rfl (Nat.le_of_ble_eq_true rfl) rfl dL_law_318 rfl ?_
  show G X _ [ntW pa Tn, bdW (gcA X) (pa 1) Bz, hsW (gcA X) (pa 2) (fun j => pa (10 + j)) Hsz, bdW (gcA X) (pa 3) Sn, txW (gcA X) (pa 4) Tx, bdW (gcA X) (pa 5) Tr, heW (gcA X) (pa 6) E, heW (gcA X) (pa 7) F, nmW (gcA X) (pa 8) Nm, btW (pa 9) (pa 5 0) Bt, mdW (gcA X) a M] _ _ _
  refine g_aload_n (pc' := 322) C dL_law_321 rfl rfl ?_
  refine g_aload_n (pc' := 323) C dL_law_322 rfl rfl ?_
  refine g_iload_n (pc' := 324) C dL_law_323 rfl rfl ?_
  refine g_iconst (pc' := 325) (v := 1) C dL_law_324 (by decide) rfl ?_
  refine g_iadd (pc' := 326) C dL_law_325 rfl ?_
  refine g_sld (pc' := 327) C hs h1 dL_law_326 rfl ?_
  refine g_aload_n (pc' := 328) C dL_law_327 rfl rfl ?_
  refine g_iload_n (pc' := 329) C dL_law_328 rfl rfl ?_
  refine g_iconst (pc' := 330) (v := 2) C dL_law_329 (by decide) rfl ?_
  refine g_iadd (pc' := 331) C dL_law_330 rfl ?_
  refine g_sld (pc' := 332) C hs h2 dL_law_331 rfl ?_
  refine G_callVI (pc' := 335) C (As := [.int ((xs (i + (1 : Int32)).toNatClampNeg)), .int ((xs (i + (2 : Int32)).toNatClampNeg))]) (c_X6_stick (gl X) (gD X) (gcA X) a N M ((xs (i + (1 : Int32)).toNatClampNeg)) ((xs (i + (2 : Int32)).toNatClampNeg)) r Mz e2) gL_law_X6_stick rfl nd_X6_stick ⟨Nat.le_of_ble_eq_true rfl, Nat.le_of_ble_eq_true rfl⟩ (q0 := 0) rfl rfl (is := [10]) rfl (by decide) rfl rfl (Nat.le_of_ble_eq_true rfl) rfl dL_law_332 rfl ?_
  show G X _ [ntW pa Tn, bdW (gcA X) (pa 1) Bz, hsW (gcA X) (pa 2) (fun j => pa (10 + j)) Hsz, bdW (gcA X) (pa 3) Sn, txW (gcA X) (pa 4) Tx, bdW (gcA X) (pa 5) Tr, heW (gcA X) (pa 6) E, heW (gcA X) (pa 7) F, nmW (gcA X) (pa 8) Nm, btW (pa 9) (pa 5 0) Bt, mdW (gcA X) a Mz] _ _ _
  refine g_icmp_eq (pc' := 338) (tgt := 902) (T := some ()) (F := (none : Option Unit)) (res := ()) C dL_law_335 (by decide) rfl (if_pos rfl) (fun c h => ?_) (fun c h => absurd rfl c)
  exact kk Tn Bz Hsz Sn Tx Tr E F Nm Bt Mz hR
set_option maxRecDepth 100000 in
set_option maxHeartbeats 4000000 in
theorem lc_unstick {X : gX} {Q : State → Prop} (C : cx X RL cL_law 4 ret wsL_law 9 322) (hf : cf X) {b n : Nat} {xs : Nat → Int32} (hs : sX X b n xs) (pa : tP) (a : Nat → Nat) (i : Int32) (h1 : vp_in (i + 1) n) (h2 : vp_in (i + 2) n) (h3 : vp_in (i + 3) n) (h4 : vp_in (i + 4) n) {N : Nat} (hN : 1000 ≤ N) {Tn B Sn Tx Tr E F Nm Bt M : tS} {Hs : tH} (hR : Rel Tn B Hs Sn Tx Tr E F Nm Bt M) (kk : ∀ (Tn : tS) (B : tS) (Hs : tH) (Sn : tS) (Tx : tS) (Tr : tS) (E : tS) (F : tS) (Nm : tS) (Bt : tS) (M : tS), Rel Tn B Hs Sn Tx Tr E F Nm Bt M → G X Q [ntW pa Tn, bdW (gcA X) (pa 1) B, hsW (gcA X) (pa 2) (fun j => pa (10 + j)) Hs, bdW (gcA X) (pa 3) Sn, txW (gcA X) (pa 4) Tx, bdW (gcA X) (pa 5) Tr, heW (gcA X) (pa 6) E, heW (gcA X) (pa 7) F, nmW (gcA X) (pa 8) Nm, btW (pa 9) (pa 5 0) Bt, mdW (gcA X) a M] [some (.ref b), some (.ref (pa 0 0)), some (.ref (a 0)), some (.int i)] [] 902) : G X Q [ntW pa Tn, bdW (gcA X) (pa 1) B, hsW (gcA X) (pa 2) (fun j => pa (10 + j)) Hs, bdW (gcA X) (pa 3) Sn, txW (gcA X) (pa 4) Tx, bdW (gcA X) (pa 5) Tr, heW (gcA X) (pa 6) E, heW (gcA X) (pa 7) F, nmW (gcA X) (pa 8) Nm, btW (pa 9) (pa 5 0) Bt, mdW (gcA X) a M] [some (.ref b), some (.ref (pa 0 0)), some (.ref (a 0)), some (.int i)] [] 340 := by
  obtain ⟨r, Bz, Hsz, Mz, e1, e2, hR⟩ := m_unstick hN hR ((xs (i + (1 : Int32)).toNatClampNeg)) ((xs (i + (2 : Int32)).toNatClampNeg))
  refine g_aload_n (pc' := 341) C dL_law_340 rfl rfl ?_
  refine g_aload_n (pc' := 342) C dL_law_341 rfl rfl ?_
  refine g_iload_n (pc' := 343) C dL_law_342 rfl rfl ?_
  refine g_iconst (pc' := 344) (v := 1) C dL_law_343 (by decide) rfl ?_
  refine g_iadd (pc' := 345) C dL_law_344 rfl ?_
  refine g_sld (pc' := 346) C hs h1 dL_law_345 rfl ?_
  refine g_aload_n (pc' := 347) C dL_law_346 rfl rfl ?_
  refine g_iload_n (pc' := 348) C dL_law_347 rfl rfl ?_
  refine g_iconst (pc' := 349) (v := 2) C dL_law_348 (by decide) rfl ?_
  refine g_iadd (pc' := 350) C dL_law_349 rfl ?_
  refine g_sld (pc' := 351) C hs h2 dL_law_350 rfl ?_
  refine G_callVI (pc' := 354) C (As := [.int ((xs (i + (1 : Int32)).toNatClampNeg)), .int ((xs (i + (2 : Int32)).toNatClampNeg))]) (c_X5_unstick (gl X) (gD X) (gcA X) pa N Tn B Hs ((xs (i + (1 : Int32)).toNatClampNeg)) ((xs (i + (2 : Int32)).toNatClampNeg)) r Bz Hsz e1) gL_law_X5_unstick rfl nd_X5_unstick ⟨Nat.le_of_ble_eq_true rfl, Nat.le_of_ble_eq_true rfl⟩ (q0 := 0) rfl rfl (is := [0, 1, 2]) rfl (by decide) rfl rfl (Nat.le_of_ble_eq_true rfl) rfl dL_law_351 rfl ?_
  show G X _ [ntW pa Tn, bdW (gcA X) (pa 1) Bz, hsW (gcA X) (pa 2) (fun j => pa (10 + j)) Hsz, bdW (gcA X) (pa 3) Sn, txW (gcA X) (pa 4) Tx, bdW (gcA X) (pa 5) Tr, heW (gcA X) (pa 6) E, heW (gcA X) (pa 7) F, nmW (gcA X) (pa 8) Nm, btW (pa 9) (pa 5 0) Bt, mdW (gcA X) a M] _ _ _
  refine g_aload_n (pc' := 355) C dL_law_354 rfl rfl ?_
  refine g_aload_n (pc' := 356) C dL_law_355 rfl rfl ?_
  refine g_iload_n (pc' := 357) C dL_law_356 rfl rfl ?_
  refine g_iconst (pc' := 358) (v := 1) C dL_law_357 (by decide) rfl ?_
  refine g_iadd (pc' := 359) C dL_law_358 rfl ?_
  refine g_sld (pc' := 360) C hs h1 dL_law_359 rfl ?_
  refine g_aload_n (pc' := 361) C dL_law_360 rfl rfl ?_
  refine g_iload_n (pc' := 362) C dL_law_361 rfl rfl ?_
  refine g_iconst (pc' := 363) (v := 2) C dL_law_362 (by decide) rfl ?_
  refine g_iadd (pc' := 364) C dL_law_363 rfl ?_
  refine g_sld (pc' := 365) C hs h2 dL_law_364 rfl ?_
  refine G_callVI (pc' := 368) C (As := [.int ((xs (i + (1 : Int32)).toNatClampNeg)), .int ((xs (i + (2 : Int32)).toNatClampNeg))]) (c_X6_unstick (gl X) (gD X) (gcA X) a N M ((xs (i + (1 : Int32)).toNatClampNeg)) ((xs (i + (2 : Int32)).toNatClampNeg)) r Mz e2) gL_law_X6_unstick rfl nd_X6_unstick ⟨Nat.le_of_ble_eq_true rfl, Nat.le_of_ble_eq_true rfl⟩ (q0 := 0) rfl rfl (is := [10]) rfl (by decide) rfl rfl (Nat.le_of_ble_eq_true rfl) rfl dL_law_365 rfl ?_
  show G X _ [ntW pa Tn, bdW (gcA X) (pa 1) Bz, hsW (gcA X) (pa 2) (fun j => pa (10 + j)) Hsz, bdW (gcA X) (pa 3) Sn, txW (gcA X) (pa 4) Tx, bdW (gcA X) (pa 5) Tr, heW (gcA X) (pa 6) E, heW (gcA X) (pa 7) F, nmW (gcA X) (pa 8) Nm, btW (pa 9) (pa 5 0) Bt, mdW (gcA X) a Mz] _ _ _
  refine g_icmp_eq (pc' := 371) (tgt := 902) (T := some ()) (F := (none : Option Unit)) (res := ()) C dL_law_368 (by decide) rfl (if_pos rfl) (fun c h => ?_) (fun c h => absurd rfl c)
  exact kk Tn Bz Hsz Sn Tx Tr E F Nm Bt Mz hR
set_option maxRecDepth 100000 in
set_option maxHeartbeats 4000000 in
theorem lc_make {X : gX} {Q : State → Prop} (C : cx X RL cL_law 4 ret wsL_law 9 322) (hf : cf X) {b n : Nat} {xs : Nat → Int32} (hs : sX X b n xs) (pa : tP) (a : Nat → Nat) (i : Int32) (h1 : vp_in (i + 1) n) (h2 : vp_in (i + 2) n) (h3 : vp_in (i + 3) n) (h4 : vp_in (i + 4) n) {N : Nat} (hN : 1000 ≤ N) {Tn B Sn Tx Tr E F Nm Bt M : tS} {Hs : tH} (hR : Rel Tn B Hs Sn Tx Tr E F Nm Bt M) (kk : ∀ (Tn : tS) (B : tS) (Hs : tH) (Sn : tS) (Tx : tS) (Tr : tS) (E : tS) (F : tS) (Nm : tS) (Bt : tS) (M : tS), Rel Tn B Hs Sn Tx Tr E F Nm Bt M → G X Q [ntW pa Tn, bdW (gcA X) (pa 1) B, hsW (gcA X) (pa 2) (fun j => pa (10 + j)) Hs, bdW (gcA X) (pa 3) Sn, txW (gcA X) (pa 4) Tx, bdW (gcA X) (pa 5) Tr, heW (gcA X) (pa 6) E, heW (gcA X) (pa 7) F, nmW (gcA X) (pa 8) Nm, btW (pa 9) (pa 5 0) Bt, mdW (gcA X) a M] [some (.ref b), some (.ref (pa 0 0)), some (.ref (a 0)), some (.int i)] [] 902) : G X Q [ntW pa Tn, bdW (gcA X) (pa 1) B, hsW (gcA X) (pa 2) (fun j => pa (10 + j)) Hs, bdW (gcA X) (pa 3) Sn, txW (gcA X) (pa 4) Tx, bdW (gcA X) (pa 5) Tr, heW (gcA X) (pa 6) E, heW (gcA X) (pa 7) F, nmW (gcA X) (pa 8) Nm, btW (pa 9) (pa 5 0) Bt, mdW (gcA X) a M] [some (.ref b), some (.ref (pa 0 0)), some (.ref (a 0)), some (.int i)] [] 373 := by
  obtain ⟨r, Bz, Hsz, Ez, Mz, e1, e2, hR⟩ := m_make hN hR ((xs (i + (1 : Int32)).toNatClampNeg))
  refine g_aload_n (pc' := 374) C dL_law_373 rfl rfl ?_
  refine g_aload_n (pc' := 375) C dL_law_374 rfl rfl ?_
  refine g_iload_n (pc' := 376) C dL_law_375 rfl rfl ?_
  refine g_iconst (pc' := 377) (v := 1) C dL_law_376 (by decide) rfl ?_
  refine g_iadd (pc' := 378) C dL_law_377 rfl ?_
  refine g_sld (pc' := 379) C hs h1 dL_law_378 rfl ?_
  refine G_callVI (pc' := 382) C (As := [.int ((xs (i + (1 : Int32)).toNatClampNeg))]) (c_X5_make (gl X) (gD X) (gcA X) pa N Tn B Hs E ((xs (i + (1 : Int32)).toNatClampNeg)) r Bz Hsz Ez e1) gL_law_X5_make rfl nd_X5_make ⟨Nat.le_of_ble_eq_true rfl, Nat.le_of_ble_eq_true rfl⟩ (q0 := 0) rfl rfl (is := [0, 1, 2, 6]) rfl (by decide) rfl rfl (Nat.le_of_ble_eq_true rfl) rfl dL_law_379 rfl ?_
  show G X _ [ntW pa Tn, bdW (gcA X) (pa 1) Bz, hsW (gcA X) (pa 2) (fun j => pa (10 + j)) Hsz, bdW (gcA X) (pa 3) Sn, txW (gcA X) (pa 4) Tx, bdW (gcA X) (pa 5) Tr, heW (gcA X) (pa 6) Ez, heW (gcA X) (pa 7) F, nmW (gcA X) (pa 8) Nm, btW (pa 9) (pa 5 0) Bt, mdW (gcA X) a M] _ _ _
  refine g_aload_n (pc' := 383) C dL_law_382 rfl rfl ?_
  refine g_aload_n (pc' := 384) C dL_law_383 rfl rfl ?_
  refine g_iload_n (pc' := 385) C dL_law_384 rfl rfl ?_
  refine g_iconst (pc' := 386) (v := 1) C dL_law_385 (by decide) rfl ?_
  refine g_iadd (pc' := 387) C dL_law_386 rfl ?_
  refine g_sld (pc' := 388) C hs h1 dL_law_387 rfl ?_
  refine G_callVI (pc' := 391) C (As := [.int ((xs (i + (1 : Int32)).toNatClampNeg))]) (c_X6_make (gl X) (gD X) (gcA X) a N M ((xs (i + (1 : Int32)).toNatClampNeg)) r Mz e2) gL_law_X6_make rfl nd_X6_make ⟨Nat.le_of_ble_eq_true rfl, Nat.le_of_ble_eq_true rfl⟩ (q0 := 0) rfl rfl (is := [10]) rfl (by decide) rfl rfl (Nat.le_of_ble_eq_true rfl) rfl dL_law_388 rfl ?_
  show G X _ [ntW pa Tn, bdW (gcA X) (pa 1) Bz, hsW (gcA X) (pa 2) (fun j => pa (10 + j)) Hsz, bdW (gcA X) (pa 3) Sn, txW (gcA X) (pa 4) Tx, bdW (gcA X) (pa 5) Tr, heW (gcA X) (pa 6) Ez, heW (gcA X) (pa 7) F, nmW (gcA X) (pa 8) Nm, btW (pa 9) (pa 5 0) Bt, mdW (gcA X) a Mz] _ _ _
  refine g_icmp_eq (pc' := 394) (tgt := 902) (T := some ()) (F := (none : Option Unit)) (res := ()) C dL_law_391 (by decide) rfl (if_pos rfl) (fun c h => ?_) (fun c h => absurd rfl c)
  exact kk Tn Bz Hsz Sn Tx Tr Ez F Nm Bt Mz hR
set_option maxRecDepth 100000 in
set_option maxHeartbeats 4000000 in
theorem lc_merge {X : gX} {Q : State → Prop} (C : cx X RL cL_law 4 ret wsL_law 9 322) (hf : cf X) {b n : Nat} {xs : Nat → Int32} (hs : sX X b n xs) (pa : tP) (a : Nat → Nat) (i : Int32) (h1 : vp_in (i + 1) n) (h2 : vp_in (i + 2) n) (h3 : vp_in (i + 3) n) (h4 : vp_in (i + 4) n) {N : Nat} (hN : 1000 ≤ N) {Tn B Sn Tx Tr E F Nm Bt M : tS} {Hs : tH} (hR : Rel Tn B Hs Sn Tx Tr E F Nm Bt M) (kk : ∀ (Tn : tS) (B : tS) (Hs : tH) (Sn : tS) (Tx : tS) (Tr : tS) (E : tS) (F : tS) (Nm : tS) (Bt : tS) (M : tS), Rel Tn B Hs Sn Tx Tr E F Nm Bt M → G X Q [ntW pa Tn, bdW (gcA X) (pa 1) B, hsW (gcA X) (pa 2) (fun j => pa (10 + j)) Hs, bdW (gcA X) (pa 3) Sn, txW (gcA X) (pa 4) Tx, bdW (gcA X) (pa 5) Tr, heW (gcA X) (pa 6) E, heW (gcA X) (pa 7) F, nmW (gcA X) (pa 8) Nm, btW (pa 9) (pa 5 0) Bt, mdW (gcA X) a M] [some (.ref b), some (.ref (pa 0 0)), some (.ref (a 0)), some (.int i)] [] 902) : G X Q [ntW pa Tn, bdW (gcA X) (pa 1) B, hsW (gcA X) (pa 2) (fun j => pa (10 + j)) Hs, bdW (gcA X) (pa 3) Sn, txW (gcA X) (pa 4) Tx, bdW (gcA X) (pa 5) Tr, heW (gcA X) (pa 6) E, heW (gcA X) (pa 7) F, nmW (gcA X) (pa 8) Nm, btW (pa 9) (pa 5 0) Bt, mdW (gcA X) a M] [some (.ref b), some (.ref (pa 0 0)), some (.ref (a 0)), some (.int i)] [] 396 := by
  obtain ⟨r, Bz, Hsz, Mz, e1, e2, hR⟩ := m_merge hN hR ((xs (i + (1 : Int32)).toNatClampNeg)) ((xs (i + (2 : Int32)).toNatClampNeg))
  refine g_aload_n (pc' := 397) C dL_law_396 rfl rfl ?_
  refine g_aload_n (pc' := 398) C dL_law_397 rfl rfl ?_
  refine g_iload_n (pc' := 399) C dL_law_398 rfl rfl ?_
  refine g_iconst (pc' := 400) (v := 1) C dL_law_399 (by decide) rfl ?_
  refine g_iadd (pc' := 401) C dL_law_400 rfl ?_
  refine g_sld (pc' := 402) C hs h1 dL_law_401 rfl ?_
  refine g_aload_n (pc' := 403) C dL_law_402 rfl rfl ?_
  refine g_iload_n (pc' := 404) C dL_law_403 rfl rfl ?_
  refine g_iconst (pc' := 405) (v := 2) C dL_law_404 (by decide) rfl ?_
  refine g_iadd (pc' := 406) C dL_law_405 rfl ?_
  refine g_sld (pc' := 407) C hs h2 dL_law_406 rfl ?_
  refine G_callVI (pc' := 410) C (As := [.int ((xs (i + (1 : Int32)).toNatClampNeg)), .int ((xs (i + (2 : Int32)).toNatClampNeg))]) (c_X5_merge (gl X) (gD X) (gcA X) pa N Tn B Hs ((xs (i + (1 : Int32)).toNatClampNeg)) ((xs (i + (2 : Int32)).toNatClampNeg)) r Bz Hsz e1) gL_law_X5_merge rfl nd_X5_merge ⟨Nat.le_of_ble_eq_true rfl, Nat.le_of_ble_eq_true rfl⟩ (q0 := 0) rfl rfl (is := [0, 1, 2]) rfl (by decide) rfl rfl (Nat.le_of_ble_eq_true rfl) rfl dL_law_407 rfl ?_
  show G X _ [ntW pa Tn, bdW (gcA X) (pa 1) Bz, hsW (gcA X) (pa 2) (fun j => pa (10 + j)) Hsz, bdW (gcA X) (pa 3) Sn, txW (gcA X) (pa 4) Tx, bdW (gcA X) (pa 5) Tr, heW (gcA X) (pa 6) E, heW (gcA X) (pa 7) F, nmW (gcA X) (pa 8) Nm, btW (pa 9) (pa 5 0) Bt, mdW (gcA X) a M] _ _ _
  refine g_aload_n (pc' := 411) C dL_law_410 rfl rfl ?_
  refine g_aload_n (pc' := 412) C dL_law_411 rfl rfl ?_
  refine g_iload_n (pc' := 413) C dL_law_412 rfl rfl ?_
  refine g_iconst (pc' := 414) (v := 1) C dL_law_413 (by decide) rfl ?_
  refine g_iadd (pc' := 415) C dL_law_414 rfl ?_
  refine g_sld (pc' := 416) C hs h1 dL_law_415 rfl ?_
  refine g_aload_n (pc' := 417) C dL_law_416 rfl rfl ?_
  refine g_iload_n (pc' := 418) C dL_law_417 rfl rfl ?_
  refine g_iconst (pc' := 419) (v := 2) C dL_law_418 (by decide) rfl ?_
  refine g_iadd (pc' := 420) C dL_law_419 rfl ?_
  refine g_sld (pc' := 421) C hs h2 dL_law_420 rfl ?_
  refine G_callVI (pc' := 424) C (As := [.int ((xs (i + (1 : Int32)).toNatClampNeg)), .int ((xs (i + (2 : Int32)).toNatClampNeg))]) (c_X6_merge (gl X) (gD X) (gcA X) a N M ((xs (i + (1 : Int32)).toNatClampNeg)) ((xs (i + (2 : Int32)).toNatClampNeg)) r Mz e2) gL_law_X6_merge rfl nd_X6_merge ⟨Nat.le_of_ble_eq_true rfl, Nat.le_of_ble_eq_true rfl⟩ (q0 := 0) rfl rfl (is := [10]) rfl (by decide) rfl rfl (Nat.le_of_ble_eq_true rfl) rfl dL_law_421 rfl ?_
  show G X _ [ntW pa Tn, bdW (gcA X) (pa 1) Bz, hsW (gcA X) (pa 2) (fun j => pa (10 + j)) Hsz, bdW (gcA X) (pa 3) Sn, txW (gcA X) (pa 4) Tx, bdW (gcA X) (pa 5) Tr, heW (gcA X) (pa 6) E, heW (gcA X) (pa 7) F, nmW (gcA X) (pa 8) Nm, btW (pa 9) (pa 5 0) Bt, mdW (gcA X) a Mz] _ _ _
  refine g_icmp_eq (pc' := 427) (tgt := 902) (T := some ()) (F := (none : Option Unit)) (res := ()) C dL_law_424 (by decide) rfl (if_pos rfl) (fun c h => ?_) (fun c h => absurd rfl c)
  exact kk Tn Bz Hsz Sn Tx Tr E F Nm Bt Mz hR
set_option maxRecDepth 100000 in
set_option maxHeartbeats 4000000 in
theorem lc_belong {X : gX} {Q : State → Prop} (C : cx X RL cL_law 4 ret wsL_law 9 322) (hf : cf X) {b n : Nat} {xs : Nat → Int32} (hs : sX X b n xs) (pa : tP) (a : Nat → Nat) (i : Int32) (h1 : vp_in (i + 1) n) (h2 : vp_in (i + 2) n) (h3 : vp_in (i + 3) n) (h4 : vp_in (i + 4) n) {N : Nat} (hN : 1000 ≤ N) {Tn B Sn Tx Tr E F Nm Bt M : tS} {Hs : tH} (hR : Rel Tn B Hs Sn Tx Tr E F Nm Bt M) (kk : ∀ (Tn : tS) (B : tS) (Hs : tH) (Sn : tS) (Tx : tS) (Tr : tS) (E : tS) (F : tS) (Nm : tS) (Bt : tS) (M : tS), Rel Tn B Hs Sn Tx Tr E F Nm Bt M → G X Q [ntW pa Tn, bdW (gcA X) (pa 1) B, hsW (gcA X) (pa 2) (fun j => pa (10 + j)) Hs, bdW (gcA X) (pa 3) Sn, txW (gcA X) (pa 4) Tx, bdW (gcA X) (pa 5) Tr, heW (gcA X) (pa 6) E, heW (gcA X) (pa 7) F, nmW (gcA X) (pa 8) Nm, btW (pa 9) (pa 5 0) Bt, mdW (gcA X) a M] [some (.ref b), some (.ref (pa 0 0)), some (.ref (a 0)), some (.int i)] [] 902) : G X Q [ntW pa Tn, bdW (gcA X) (pa 1) B, hsW (gcA X) (pa 2) (fun j => pa (10 + j)) Hs, bdW (gcA X) (pa 3) Sn, txW (gcA X) (pa 4) Tx, bdW (gcA X) (pa 5) Tr, heW (gcA X) (pa 6) E, heW (gcA X) (pa 7) F, nmW (gcA X) (pa 8) Nm, btW (pa 9) (pa 5 0) Bt, mdW (gcA X) a M] [some (.ref b), some (.ref (pa 0 0)), some (.ref (a 0)), some (.int i)] [] 429 := by
  obtain ⟨r, Bz, Hsz, Mz, e1, e2, hR⟩ := m_belong hN hR ((xs (i + (1 : Int32)).toNatClampNeg)) ((xs (i + (2 : Int32)).toNatClampNeg))
  refine g_aload_n (pc' := 430) C dL_law_429 rfl rfl ?_
  refine g_aload_n (pc' := 431) C dL_law_430 rfl rfl ?_
  refine g_iload_n (pc' := 432) C dL_law_431 rfl rfl ?_
  refine g_iconst (pc' := 433) (v := 1) C dL_law_432 (by decide) rfl ?_
  refine g_iadd (pc' := 434) C dL_law_433 rfl ?_
  refine g_sld (pc' := 435) C hs h1 dL_law_434 rfl ?_
  refine g_aload_n (pc' := 436) C dL_law_435 rfl rfl ?_
  refine g_iload_n (pc' := 437) C dL_law_436 rfl rfl ?_
  refine g_iconst (pc' := 438) (v := 2) C dL_law_437 (by decide) rfl ?_
  refine g_iadd (pc' := 439) C dL_law_438 rfl ?_
  refine g_sld (pc' := 440) C hs h2 dL_law_439 rfl ?_
  refine G_callVI (pc' := 443) C (As := [.int ((xs (i + (1 : Int32)).toNatClampNeg)), .int ((xs (i + (2 : Int32)).toNatClampNeg))]) (c_X5_belong (gl X) (gD X) (gcA X) pa N Tn B Hs ((xs (i + (1 : Int32)).toNatClampNeg)) ((xs (i + (2 : Int32)).toNatClampNeg)) r Bz Hsz e1) gL_law_X5_belong rfl nd_X5_belong ⟨Nat.le_of_ble_eq_true rfl, Nat.le_of_ble_eq_true rfl⟩ (q0 := 0) rfl rfl (is := [0, 1, 2]) rfl (by decide) rfl rfl (Nat.le_of_ble_eq_true rfl) rfl dL_law_440 rfl ?_
  show G X _ [ntW pa Tn, bdW (gcA X) (pa 1) Bz, hsW (gcA X) (pa 2) (fun j => pa (10 + j)) Hsz, bdW (gcA X) (pa 3) Sn, txW (gcA X) (pa 4) Tx, bdW (gcA X) (pa 5) Tr, heW (gcA X) (pa 6) E, heW (gcA X) (pa 7) F, nmW (gcA X) (pa 8) Nm, btW (pa 9) (pa 5 0) Bt, mdW (gcA X) a M] _ _ _
  refine g_aload_n (pc' := 444) C dL_law_443 rfl rfl ?_
  refine g_aload_n (pc' := 445) C dL_law_444 rfl rfl ?_
  refine g_iload_n (pc' := 446) C dL_law_445 rfl rfl ?_
  refine g_iconst (pc' := 447) (v := 1) C dL_law_446 (by decide) rfl ?_
  refine g_iadd (pc' := 448) C dL_law_447 rfl ?_
  refine g_sld (pc' := 449) C hs h1 dL_law_448 rfl ?_
  refine g_aload_n (pc' := 450) C dL_law_449 rfl rfl ?_
  refine g_iload_n (pc' := 451) C dL_law_450 rfl rfl ?_
  refine g_iconst (pc' := 452) (v := 2) C dL_law_451 (by decide) rfl ?_
  refine g_iadd (pc' := 453) C dL_law_452 rfl ?_
  refine g_sld (pc' := 454) C hs h2 dL_law_453 rfl ?_
  refine G_callVI (pc' := 457) C (As := [.int ((xs (i + (1 : Int32)).toNatClampNeg)), .int ((xs (i + (2 : Int32)).toNatClampNeg))]) (c_X6_belong (gl X) (gD X) (gcA X) a N M ((xs (i + (1 : Int32)).toNatClampNeg)) ((xs (i + (2 : Int32)).toNatClampNeg)) r Mz e2) gL_law_X6_belong rfl nd_X6_belong ⟨Nat.le_of_ble_eq_true rfl, Nat.le_of_ble_eq_true rfl⟩ (q0 := 0) rfl rfl (is := [10]) rfl (by decide) rfl rfl (Nat.le_of_ble_eq_true rfl) rfl dL_law_454 rfl ?_
  show G X _ [ntW pa Tn, bdW (gcA X) (pa 1) Bz, hsW (gcA X) (pa 2) (fun j => pa (10 + j)) Hsz, bdW (gcA X) (pa 3) Sn, txW (gcA X) (pa 4) Tx, bdW (gcA X) (pa 5) Tr, heW (gcA X) (pa 6) E, heW (gcA X) (pa 7) F, nmW (gcA X) (pa 8) Nm, btW (pa 9) (pa 5 0) Bt, mdW (gcA X) a Mz] _ _ _
  refine g_icmp_eq (pc' := 460) (tgt := 902) (T := some ()) (F := (none : Option Unit)) (res := ()) C dL_law_457 (by decide) rfl (if_pos rfl) (fun c h => ?_) (fun c h => absurd rfl c)
  exact kk Tn Bz Hsz Sn Tx Tr E F Nm Bt Mz hR
set_option maxRecDepth 100000 in
set_option maxHeartbeats 4000000 in
theorem lc_vote {X : gX} {Q : State → Prop} (C : cx X RL cL_law 4 ret wsL_law 9 322) (hf : cf X) {b n : Nat} {xs : Nat → Int32} (hs : sX X b n xs) (pa : tP) (a : Nat → Nat) (i : Int32) (h1 : vp_in (i + 1) n) (h2 : vp_in (i + 2) n) (h3 : vp_in (i + 3) n) (h4 : vp_in (i + 4) n) {N : Nat} (hN : 1000 ≤ N) {Tn B Sn Tx Tr E F Nm Bt M : tS} {Hs : tH} (hR : Rel Tn B Hs Sn Tx Tr E F Nm Bt M) (kk : ∀ (Tn : tS) (B : tS) (Hs : tH) (Sn : tS) (Tx : tS) (Tr : tS) (E : tS) (F : tS) (Nm : tS) (Bt : tS) (M : tS), Rel Tn B Hs Sn Tx Tr E F Nm Bt M → G X Q [ntW pa Tn, bdW (gcA X) (pa 1) B, hsW (gcA X) (pa 2) (fun j => pa (10 + j)) Hs, bdW (gcA X) (pa 3) Sn, txW (gcA X) (pa 4) Tx, bdW (gcA X) (pa 5) Tr, heW (gcA X) (pa 6) E, heW (gcA X) (pa 7) F, nmW (gcA X) (pa 8) Nm, btW (pa 9) (pa 5 0) Bt, mdW (gcA X) a M] [some (.ref b), some (.ref (pa 0 0)), some (.ref (a 0)), some (.int i)] [] 902) : G X Q [ntW pa Tn, bdW (gcA X) (pa 1) B, hsW (gcA X) (pa 2) (fun j => pa (10 + j)) Hs, bdW (gcA X) (pa 3) Sn, txW (gcA X) (pa 4) Tx, bdW (gcA X) (pa 5) Tr, heW (gcA X) (pa 6) E, heW (gcA X) (pa 7) F, nmW (gcA X) (pa 8) Nm, btW (pa 9) (pa 5 0) Bt, mdW (gcA X) a M] [some (.ref b), some (.ref (pa 0 0)), some (.ref (a 0)), some (.int i)] [] 462 := by
  obtain ⟨r, Bz, Hsz, Nmz, Mz, e1, e2, hR⟩ := m_vote hN hR ((xs (i + (1 : Int32)).toNatClampNeg)) ((xs (i + (2 : Int32)).toNatClampNeg)) ((xs (i + (3 : Int32)).toNatClampNeg))
  refine g_aload_n (pc' := 463) C dL_law_462 rfl rfl ?_
  refine g_aload_n (pc' := 464) C dL_law_463 rfl rfl ?_
  refine g_iload_n (pc' := 465) C dL_law_464 rfl rfl ?_
  refine g_iconst (pc' := 466) (v := 1) C dL_law_465 (by decide) rfl ?_
  refine g_iadd (pc' := 467) C dL_law_466 rfl ?_
  refine g_sld (pc' := 468) C hs h1 dL_law_467 rfl ?_
  refine g_aload_n (pc' := 469) C dL_law_468 rfl rfl ?_
  refine g_iload_n (pc' := 470) C dL_law_469 rfl rfl ?_
  refine g_iconst (pc' := 471) (v := 2) C dL_law_470 (by decide) rfl ?_
  refine g_iadd (pc' := 472) C dL_law_471 rfl ?_
  refine g_sld (pc' := 473) C hs h2 dL_law_472 rfl ?_
  refine g_aload_n (pc' := 474) C dL_law_473 rfl rfl ?_
  refine g_iload_n (pc' := 475) C dL_law_474 rfl rfl ?_
  refine g_iconst (pc' := 476) (v := 3) C dL_law_475 (by decide) rfl ?_
  refine g_iadd (pc' := 477) C dL_law_476 rfl ?_
  refine g_sld (pc' := 478) C hs h3 dL_law_477 rfl ?_
  refine G_callVI (pc' := 481) C (As := [.int ((xs (i + (1 : Int32)).toNatClampNeg)), .int ((xs (i + (2 : Int32)).toNatClampNeg)), .int ((xs (i + (3 : Int32)).toNatClampNeg))]) (c_X5_vote (gl X) (gD X) (gcA X) pa N Tn B Hs Nm ((xs (i + (1 : Int32)).toNatClampNeg)) ((xs (i + (2 : Int32)).toNatClampNeg)) ((xs (i + (3 : Int32)).toNatClampNeg)) r Bz Hsz Nmz e1) gL_law_X5_vote rfl nd_X5_vote ⟨Nat.le_of_ble_eq_true rfl, Nat.le_of_ble_eq_true rfl⟩ (q0 := 0) rfl rfl (is := [0, 1, 2, 8]) rfl (by decide) rfl rfl (Nat.le_of_ble_eq_true rfl) rfl dL_law_478 rfl ?_
  show G X _ [ntW pa Tn, bdW (gcA X) (pa 1) Bz, hsW (gcA X) (pa 2) (fun j => pa (10 + j)) Hsz, bdW (gcA X) (pa 3) Sn, txW (gcA X) (pa 4) Tx, bdW (gcA X) (pa 5) Tr, heW (gcA X) (pa 6) E, heW (gcA X) (pa 7) F, nmW (gcA X) (pa 8) Nmz, btW (pa 9) (pa 5 0) Bt, mdW (gcA X) a M] _ _ _
  refine g_aload_n (pc' := 482) C dL_law_481 rfl rfl ?_
  refine g_aload_n (pc' := 483) C dL_law_482 rfl rfl ?_
  refine g_iload_n (pc' := 484) C dL_law_483 rfl rfl ?_
  refine g_iconst (pc' := 485) (v := 1) C dL_law_484 (by decide) rfl ?_
  refine g_iadd (pc' := 486) C dL_law_485 rfl ?_
  refine g_sld (pc' := 487) C hs h1 dL_law_486 rfl ?_
  refine g_aload_n (pc' := 488) C dL_law_487 rfl rfl ?_
  refine g_iload_n (pc' := 489) C dL_law_488 rfl rfl ?_
  refine g_iconst (pc' := 490) (v := 2) C dL_law_489 (by decide) rfl ?_
  refine g_iadd (pc' := 491) C dL_law_490 rfl ?_
  refine g_sld (pc' := 492) C hs h2 dL_law_491 rfl ?_
  refine g_aload_n (pc' := 493) C dL_law_492 rfl rfl ?_
  refine g_iload_n (pc' := 494) C dL_law_493 rfl rfl ?_
  refine g_iconst (pc' := 495) (v := 3) C dL_law_494 (by decide) rfl ?_
  refine g_iadd (pc' := 496) C dL_law_495 rfl ?_
  refine g_sld (pc' := 497) C hs h3 dL_law_496 rfl ?_
  refine G_callVI (pc' := 500) C (As := [.int ((xs (i + (1 : Int32)).toNatClampNeg)), .int ((xs (i + (2 : Int32)).toNatClampNeg)), .int ((xs (i + (3 : Int32)).toNatClampNeg))]) (c_X6_vote (gl X) (gD X) (gcA X) a N M ((xs (i + (1 : Int32)).toNatClampNeg)) ((xs (i + (2 : Int32)).toNatClampNeg)) ((xs (i + (3 : Int32)).toNatClampNeg)) r Mz e2) gL_law_X6_vote rfl nd_X6_vote ⟨Nat.le_of_ble_eq_true rfl, Nat.le_of_ble_eq_true rfl⟩ (q0 := 0) rfl rfl (is := [10]) rfl (by decide) rfl rfl (Nat.le_of_ble_eq_true rfl) rfl dL_law_497 rfl ?_
  show G X _ [ntW pa Tn, bdW (gcA X) (pa 1) Bz, hsW (gcA X) (pa 2) (fun j => pa (10 + j)) Hsz, bdW (gcA X) (pa 3) Sn, txW (gcA X) (pa 4) Tx, bdW (gcA X) (pa 5) Tr, heW (gcA X) (pa 6) E, heW (gcA X) (pa 7) F, nmW (gcA X) (pa 8) Nmz, btW (pa 9) (pa 5 0) Bt, mdW (gcA X) a Mz] _ _ _
  refine g_icmp_eq (pc' := 503) (tgt := 902) (T := some ()) (F := (none : Option Unit)) (res := ()) C dL_law_500 (by decide) rfl (if_pos rfl) (fun c h => ?_) (fun c h => absurd rfl c)
  exact kk Tn Bz Hsz Sn Tx Tr E F Nmz Bt Mz hR
set_option maxRecDepth 100000 in
set_option maxHeartbeats 4000000 in
theorem lc_set {X : gX} {Q : State → Prop} (C : cx X RL cL_law 4 ret wsL_law 9 322) (hf : cf X) {b n : Nat} {xs : Nat → Int32} (hs : sX X b n xs) (pa : tP) (a : Nat → Nat) (i : Int32) (h1 : vp_in (i + 1) n) (h2 : vp_in (i + 2) n) (h3 : vp_in (i + 3) n) (h4 : vp_in (i + 4) n) {N : Nat} (hN : 1000 ≤ N) {Tn B Sn Tx Tr E F Nm Bt M : tS} {Hs : tH} (hR : Rel Tn B Hs Sn Tx Tr E F Nm Bt M) (kk : ∀ (Tn : tS) (B : tS) (Hs : tH) (Sn : tS) (Tx : tS) (Tr : tS) (E : tS) (F : tS) (Nm : tS) (Bt : tS) (M : tS), Rel Tn B Hs Sn Tx Tr E F Nm Bt M → G X Q [ntW pa Tn, bdW (gcA X) (pa 1) B, hsW (gcA X) (pa 2) (fun j => pa (10 + j)) Hs, bdW (gcA X) (pa 3) Sn, txW (gcA X) (pa 4) Tx, bdW (gcA X) (pa 5) Tr, heW (gcA X) (pa 6) E, heW (gcA X) (pa 7) F, nmW (gcA X) (pa 8) Nm, btW (pa 9) (pa 5 0) Bt, mdW (gcA X) a M] [some (.ref b), some (.ref (pa 0 0)), some (.ref (a 0)), some (.int i)] [] 902) : G X Q [ntW pa Tn, bdW (gcA X) (pa 1) B, hsW (gcA X) (pa 2) (fun j => pa (10 + j)) Hs, bdW (gcA X) (pa 3) Sn, txW (gcA X) (pa 4) Tx, bdW (gcA X) (pa 5) Tr, heW (gcA X) (pa 6) E, heW (gcA X) (pa 7) F, nmW (gcA X) (pa 8) Nm, btW (pa 9) (pa 5 0) Bt, mdW (gcA X) a M] [some (.ref b), some (.ref (pa 0 0)), some (.ref (a 0)), some (.int i)] [] 505 := by
  obtain ⟨r, Bz, Hsz, Mz, e1, e2, hR⟩ := m_set hN hR ((xs (i + (1 : Int32)).toNatClampNeg)) ((xs (i + (2 : Int32)).toNatClampNeg))
  refine g_aload_n (pc' := 506) C dL_law_505 rfl rfl ?_
  refine g_aload_n (pc' := 507) C dL_law_506 rfl rfl ?_
  refine g_iload_n (pc' := 508) C dL_law_507 rfl rfl ?_
  refine g_iconst (pc' := 509) (v := 1) C dL_law_508 (by decide) rfl ?_
  refine g_iadd (pc' := 510) C dL_law_509 rfl ?_
  refine g_sld (pc' := 511) C hs h1 dL_law_510 rfl ?_
  refine g_aload_n (pc' := 512) C dL_law_511 rfl rfl ?_
  refine g_iload_n (pc' := 513) C dL_law_512 rfl rfl ?_
  refine g_iconst (pc' := 514) (v := 2) C dL_law_513 (by decide) rfl ?_
  refine g_iadd (pc' := 515) C dL_law_514 rfl ?_
  refine g_sld (pc' := 516) C hs h2 dL_law_515 rfl ?_
  refine G_callVIs (pc' := 519) C hf (As := [.int ((xs (i + (1 : Int32)).toNatClampNeg)), .int ((xs (i + (2 : Int32)).toNatClampNeg))]) (c_X5_set (gl X) (gD X) (gcA X) pa N Tn B Hs ((xs (i + (1 : Int32)).toNatClampNeg)) ((xs (i + (2 : Int32)).toNatClampNeg)) r Bz Hsz e1) gL_law_X5_set rfl nd_X5_set ⟨Nat.le_of_ble_eq_true rfl, Nat.le_of_ble_eq_true rfl⟩ (q0 := 0) rfl rfl (is := [0, 1, 2]) rfl (by decide) rfl rfl (Nat.le_of_ble_eq_true rfl) rfl dL_law_516 rfl ?_
  show G X _ [ntW pa Tn, bdW (gcA X) (pa 1) Bz, hsW (gcA X) (pa 2) (fun j => pa (10 + j)) Hsz, bdW (gcA X) (pa 3) Sn, txW (gcA X) (pa 4) Tx, bdW (gcA X) (pa 5) Tr, heW (gcA X) (pa 6) E, heW (gcA X) (pa 7) F, nmW (gcA X) (pa 8) Nm, btW (pa 9) (pa 5 0) Bt, mdW (gcA X) a M] _ _ _
  refine g_aload_n (pc' := 520) C dL_law_519 rfl rfl ?_
  refine g_aload_n (pc' := 521) C dL_law_520 rfl rfl ?_
  refine g_iload_n (pc' := 522) C dL_law_521 rfl rfl ?_
  refine g_iconst (pc' := 523) (v := 1) C dL_law_522 (by decide) rfl ?_
  refine g_iadd (pc' := 524) C dL_law_523 rfl ?_
  refine g_sld (pc' := 525) C hs h1 dL_law_524 rfl ?_
  refine g_aload_n (pc' := 526) C dL_law_525 rfl rfl ?_
  refine g_iload_n (pc' := 527) C dL_law_526 rfl rfl ?_
  refine g_iconst (pc' := 528) (v := 2) C dL_law_527 (by decide) rfl ?_
  refine g_iadd (pc' := 529) C dL_law_528 rfl ?_
  refine g_sld (pc' := 530) C hs h2 dL_law_529 rfl ?_
  refine G_callVI (pc' := 533) C (As := [.int ((xs (i + (1 : Int32)).toNatClampNeg)), .int ((xs (i + (2 : Int32)).toNatClampNeg))]) (c_X6_set (gl X) (gD X) (gcA X) a N M ((xs (i + (1 : Int32)).toNatClampNeg)) ((xs (i + (2 : Int32)).toNatClampNeg)) r Mz e2) gL_law_X6_set rfl nd_X6_set ⟨Nat.le_of_ble_eq_true rfl, Nat.le_of_ble_eq_true rfl⟩ (q0 := 0) rfl rfl (is := [10]) rfl (by decide) rfl rfl (Nat.le_of_ble_eq_true rfl) rfl dL_law_530 rfl ?_
  show G X _ [ntW pa Tn, bdW (gcA X) (pa 1) Bz, hsW (gcA X) (pa 2) (fun j => pa (10 + j)) Hsz, bdW (gcA X) (pa 3) Sn, txW (gcA X) (pa 4) Tx, bdW (gcA X) (pa 5) Tr, heW (gcA X) (pa 6) E, heW (gcA X) (pa 7) F, nmW (gcA X) (pa 8) Nm, btW (pa 9) (pa 5 0) Bt, mdW (gcA X) a Mz] _ _ _
  refine g_icmp_eq (pc' := 536) (tgt := 902) (T := some ()) (F := (none : Option Unit)) (res := ()) C dL_law_533 (by decide) rfl (if_pos rfl) (fun c h => ?_) (fun c h => absurd rfl c)
  exact kk Tn Bz Hsz Sn Tx Tr E F Nm Bt Mz hR
set_option maxRecDepth 100000 in
set_option maxHeartbeats 4000000 in
theorem lc_type {X : gX} {Q : State → Prop} (C : cx X RL cL_law 4 ret wsL_law 9 322) (hf : cf X) {b n : Nat} {xs : Nat → Int32} (hs : sX X b n xs) (pa : tP) (a : Nat → Nat) (i : Int32) (h1 : vp_in (i + 1) n) (h2 : vp_in (i + 2) n) (h3 : vp_in (i + 3) n) (h4 : vp_in (i + 4) n) {N : Nat} (hN : 1000 ≤ N) {Tn B Sn Tx Tr E F Nm Bt M : tS} {Hs : tH} (hR : Rel Tn B Hs Sn Tx Tr E F Nm Bt M) (kk : ∀ (Tn : tS) (B : tS) (Hs : tH) (Sn : tS) (Tx : tS) (Tr : tS) (E : tS) (F : tS) (Nm : tS) (Bt : tS) (M : tS), Rel Tn B Hs Sn Tx Tr E F Nm Bt M → G X Q [ntW pa Tn, bdW (gcA X) (pa 1) B, hsW (gcA X) (pa 2) (fun j => pa (10 + j)) Hs, bdW (gcA X) (pa 3) Sn, txW (gcA X) (pa 4) Tx, bdW (gcA X) (pa 5) Tr, heW (gcA X) (pa 6) E, heW (gcA X) (pa 7) F, nmW (gcA X) (pa 8) Nm, btW (pa 9) (pa 5 0) Bt, mdW (gcA X) a M] [some (.ref b), some (.ref (pa 0 0)), some (.ref (a 0)), some (.int i)] [] 902) : G X Q [ntW pa Tn, bdW (gcA X) (pa 1) B, hsW (gcA X) (pa 2) (fun j => pa (10 + j)) Hs, bdW (gcA X) (pa 3) Sn, txW (gcA X) (pa 4) Tx, bdW (gcA X) (pa 5) Tr, heW (gcA X) (pa 6) E, heW (gcA X) (pa 7) F, nmW (gcA X) (pa 8) Nm, btW (pa 9) (pa 5 0) Bt, mdW (gcA X) a M] [some (.ref b), some (.ref (pa 0 0)), some (.ref (a 0)), some (.int i)] [] 538 := by
  obtain ⟨r, Tnz, Txz, Mz, e1, e2, hR⟩ := m_type hN hR (((xs (i + (1 : Int32)).toNatClampNeg).toUInt32 % 65536).toInt32)
  refine g_aload_n (pc' := 539) C dL_law_538 rfl rfl ?_
  refine g_aload_n (pc' := 540) C dL_law_539 rfl rfl ?_
  refine g_iload_n (pc' := 541) C dL_law_540 rfl rfl ?_
  refine g_iconst (pc' := 542) (v := 1) C dL_law_541 (by decide) rfl ?_
  refine g_iadd (pc' := 543) C dL_law_542 rfl ?_
  refine g_sld (pc' := 544) C hs h1 dL_law_543 rfl ?_
  refine g_i2c (pc' := 545) C dL_law_544 rfl rfl ?_
  refine G_callVI (pc' := 548) C (As := [.int (((xs (i + (1 : Int32)).toNatClampNeg).toUInt32 % 65536).toInt32)]) (c_X5_type (gl X) (gD X) (gcA X) pa N Tn Tx (((xs (i + (1 : Int32)).toNatClampNeg).toUInt32 % 65536).toInt32) r Tnz Txz e1) gL_law_X5_type rfl nd_X5_type ⟨Nat.le_of_ble_eq_true rfl, Nat.le_of_ble_eq_true rfl⟩ (q0 := 0) rfl rfl (is := [0, 4]) rfl (by decide) rfl rfl (Nat.le_of_ble_eq_true rfl) rfl dL_law_545 rfl ?_
  show G X _ [ntW pa Tnz, bdW (gcA X) (pa 1) B, hsW (gcA X) (pa 2) (fun j => pa (10 + j)) Hs, bdW (gcA X) (pa 3) Sn, txW (gcA X) (pa 4) Txz, bdW (gcA X) (pa 5) Tr, heW (gcA X) (pa 6) E, heW (gcA X) (pa 7) F, nmW (gcA X) (pa 8) Nm, btW (pa 9) (pa 5 0) Bt, mdW (gcA X) a M] _ _ _
  refine g_aload_n (pc' := 549) C dL_law_548 rfl rfl ?_
  refine g_aload_n (pc' := 550) C dL_law_549 rfl rfl ?_
  refine g_iload_n (pc' := 551) C dL_law_550 rfl rfl ?_
  refine g_iconst (pc' := 552) (v := 1) C dL_law_551 (by decide) rfl ?_
  refine g_iadd (pc' := 553) C dL_law_552 rfl ?_
  refine g_sld (pc' := 554) C hs h1 dL_law_553 rfl ?_
  refine g_i2c (pc' := 555) C dL_law_554 rfl rfl ?_
  refine G_callVI (pc' := 558) C (As := [.int (((xs (i + (1 : Int32)).toNatClampNeg).toUInt32 % 65536).toInt32)]) (c_X6_type (gl X) (gD X) (gcA X) a N M (((xs (i + (1 : Int32)).toNatClampNeg).toUInt32 % 65536).toInt32) r Mz e2) gL_law_X6_type rfl nd_X6_type ⟨Nat.le_of_ble_eq_true rfl, Nat.le_of_ble_eq_true rfl⟩ (q0 := 0) rfl rfl (is := [10]) rfl (by decide) rfl rfl (Nat.le_of_ble_eq_true rfl) rfl dL_law_555 rfl ?_
  show G X _ [ntW pa Tnz, bdW (gcA X) (pa 1) B, hsW (gcA X) (pa 2) (fun j => pa (10 + j)) Hs, bdW (gcA X) (pa 3) Sn, txW (gcA X) (pa 4) Txz, bdW (gcA X) (pa 5) Tr, heW (gcA X) (pa 6) E, heW (gcA X) (pa 7) F, nmW (gcA X) (pa 8) Nm, btW (pa 9) (pa 5 0) Bt, mdW (gcA X) a Mz] _ _ _
  refine g_icmp_eq (pc' := 561) (tgt := 902) (T := some ()) (F := (none : Option Unit)) (res := ()) C dL_law_558 (by decide) rfl (if_pos rfl) (fun c h => ?_) (fun c h => absurd rfl c)
  exact kk Tnz B Hs Sn Txz Tr E F Nm Bt Mz hR
set_option maxRecDepth 100000 in
set_option maxHeartbeats 4000000 in
theorem lc_clearText {X : gX} {Q : State → Prop} (C : cx X RL cL_law 4 ret wsL_law 9 322) (hf : cf X) {b n : Nat} {xs : Nat → Int32} (hs : sX X b n xs) (pa : tP) (a : Nat → Nat) (i : Int32) (h1 : vp_in (i + 1) n) (h2 : vp_in (i + 2) n) (h3 : vp_in (i + 3) n) (h4 : vp_in (i + 4) n) {N : Nat} (hN : 1000 ≤ N) {Tn B Sn Tx Tr E F Nm Bt M : tS} {Hs : tH} (hR : Rel Tn B Hs Sn Tx Tr E F Nm Bt M) (kk : ∀ (Tn : tS) (B : tS) (Hs : tH) (Sn : tS) (Tx : tS) (Tr : tS) (E : tS) (F : tS) (Nm : tS) (Bt : tS) (M : tS), Rel Tn B Hs Sn Tx Tr E F Nm Bt M → G X Q [ntW pa Tn, bdW (gcA X) (pa 1) B, hsW (gcA X) (pa 2) (fun j => pa (10 + j)) Hs, bdW (gcA X) (pa 3) Sn, txW (gcA X) (pa 4) Tx, bdW (gcA X) (pa 5) Tr, heW (gcA X) (pa 6) E, heW (gcA X) (pa 7) F, nmW (gcA X) (pa 8) Nm, btW (pa 9) (pa 5 0) Bt, mdW (gcA X) a M] [some (.ref b), some (.ref (pa 0 0)), some (.ref (a 0)), some (.int i)] [] 902) : G X Q [ntW pa Tn, bdW (gcA X) (pa 1) B, hsW (gcA X) (pa 2) (fun j => pa (10 + j)) Hs, bdW (gcA X) (pa 3) Sn, txW (gcA X) (pa 4) Tx, bdW (gcA X) (pa 5) Tr, heW (gcA X) (pa 6) E, heW (gcA X) (pa 7) F, nmW (gcA X) (pa 8) Nm, btW (pa 9) (pa 5 0) Bt, mdW (gcA X) a M] [some (.ref b), some (.ref (pa 0 0)), some (.ref (a 0)), some (.int i)] [] 563 := by
  obtain ⟨r, Tnz, Mz, e1, e2, hR⟩ := m_clearText hN hR 
  refine g_aload_n (pc' := 564) C dL_law_563 rfl rfl ?_
  refine G_callVI (pc' := 567) C (As := []) (c_X5_clearText (gl X) (gD X) (gcA X) pa N Tn  r Tnz e1) gL_law_X5_clearText rfl nd_X5_clearText ⟨Nat.le_of_ble_eq_true rfl, Nat.le_of_ble_eq_true rfl⟩ (q0 := 0) rfl rfl (is := [0]) rfl (by decide) rfl rfl (Nat.le_of_ble_eq_true rfl) rfl dL_law_564 rfl ?_
  show G X _ [ntW pa Tnz, bdW (gcA X) (pa 1) B, hsW (gcA X) (pa 2) (fun j => pa (10 + j)) Hs, bdW (gcA X) (pa 3) Sn, txW (gcA X) (pa 4) Tx, bdW (gcA X) (pa 5) Tr, heW (gcA X) (pa 6) E, heW (gcA X) (pa 7) F, nmW (gcA X) (pa 8) Nm, btW (pa 9) (pa 5 0) Bt, mdW (gcA X) a M] _ _ _
  refine g_aload_n (pc' := 568) C dL_law_567 rfl rfl ?_
  refine G_callVI (pc' := 571) C (As := []) (c_X6_clearText (gl X) (gD X) (gcA X) a N M  r Mz e2) gL_law_X6_clearText rfl nd_X6_clearText ⟨Nat.le_of_ble_eq_true rfl, Nat.le_of_ble_eq_true rfl⟩ (q0 := 0) rfl rfl (is := [10]) rfl (by decide) rfl rfl (Nat.le_of_ble_eq_true rfl) rfl dL_law_568 rfl ?_
  show G X _ [ntW pa Tnz, bdW (gcA X) (pa 1) B, hsW (gcA X) (pa 2) (fun j => pa (10 + j)) Hs, bdW (gcA X) (pa 3) Sn, txW (gcA X) (pa 4) Tx, bdW (gcA X) (pa 5) Tr, heW (gcA X) (pa 6) E, heW (gcA X) (pa 7) F, nmW (gcA X) (pa 8) Nm, btW (pa 9) (pa 5 0) Bt, mdW (gcA X) a Mz] _ _ _
  refine g_icmp_eq (pc' := 574) (tgt := 902) (T := some ()) (F := (none : Option Unit)) (res := ()) C dL_law_571 (by decide) rfl (if_pos rfl) (fun c h => ?_) (fun c h => absurd rfl c)
  exact kk Tnz B Hs Sn Tx Tr E F Nm Bt Mz hR
set_option maxRecDepth 100000 in
set_option maxHeartbeats 4000000 in
theorem lc_undo {X : gX} {Q : State → Prop} (C : cx X RL cL_law 4 ret wsL_law 9 322) (hf : cf X) {b n : Nat} {xs : Nat → Int32} (hs : sX X b n xs) (pa : tP) (a : Nat → Nat) (i : Int32) (h1 : vp_in (i + 1) n) (h2 : vp_in (i + 2) n) (h3 : vp_in (i + 3) n) (h4 : vp_in (i + 4) n) {N : Nat} (hN : 1000 ≤ N) {Tn B Sn Tx Tr E F Nm Bt M : tS} {Hs : tH} (hR : Rel Tn B Hs Sn Tx Tr E F Nm Bt M) (kk : ∀ (Tn : tS) (B : tS) (Hs : tH) (Sn : tS) (Tx : tS) (Tr : tS) (E : tS) (F : tS) (Nm : tS) (Bt : tS) (M : tS), Rel Tn B Hs Sn Tx Tr E F Nm Bt M → G X Q [ntW pa Tn, bdW (gcA X) (pa 1) B, hsW (gcA X) (pa 2) (fun j => pa (10 + j)) Hs, bdW (gcA X) (pa 3) Sn, txW (gcA X) (pa 4) Tx, bdW (gcA X) (pa 5) Tr, heW (gcA X) (pa 6) E, heW (gcA X) (pa 7) F, nmW (gcA X) (pa 8) Nm, btW (pa 9) (pa 5 0) Bt, mdW (gcA X) a M] [some (.ref b), some (.ref (pa 0 0)), some (.ref (a 0)), some (.int i)] [] 902) : G X Q [ntW pa Tn, bdW (gcA X) (pa 1) B, hsW (gcA X) (pa 2) (fun j => pa (10 + j)) Hs, bdW (gcA X) (pa 3) Sn, txW (gcA X) (pa 4) Tx, bdW (gcA X) (pa 5) Tr, heW (gcA X) (pa 6) E, heW (gcA X) (pa 7) F, nmW (gcA X) (pa 8) Nm, btW (pa 9) (pa 5 0) Bt, mdW (gcA X) a M] [some (.ref b), some (.ref (pa 0 0)), some (.ref (a 0)), some (.int i)] [] 576 := by
  obtain ⟨r, Bz, Hsz, Mz, e1, e2, hR⟩ := m_undo hN hR 
  refine g_aload_n (pc' := 577) C dL_law_576 rfl rfl ?_
  refine G_callVI (pc' := 580) C (As := []) (c_X5_undo (gl X) (gD X) (gcA X) pa N Tn B Hs  r Bz Hsz e1) gL_law_X5_undo rfl nd_X5_undo ⟨Nat.le_of_ble_eq_true rfl, Nat.le_of_ble_eq_true rfl⟩ (q0 := 0) rfl rfl (is := [0, 1, 2]) rfl (by decide) rfl rfl (Nat.le_of_ble_eq_true rfl) rfl dL_law_577 rfl ?_
  show G X _ [ntW pa Tn, bdW (gcA X) (pa 1) Bz, hsW (gcA X) (pa 2) (fun j => pa (10 + j)) Hsz, bdW (gcA X) (pa 3) Sn, txW (gcA X) (pa 4) Tx, bdW (gcA X) (pa 5) Tr, heW (gcA X) (pa 6) E, heW (gcA X) (pa 7) F, nmW (gcA X) (pa 8) Nm, btW (pa 9) (pa 5 0) Bt, mdW (gcA X) a M] _ _ _
  refine g_aload_n (pc' := 581) C dL_law_580 rfl rfl ?_
  refine G_callVI (pc' := 584) C (As := []) (c_X6_undo (gl X) (gD X) (gcA X) a N M  r Mz e2) gL_law_X6_undo rfl nd_X6_undo ⟨Nat.le_of_ble_eq_true rfl, Nat.le_of_ble_eq_true rfl⟩ (q0 := 0) rfl rfl (is := [10]) rfl (by decide) rfl rfl (Nat.le_of_ble_eq_true rfl) rfl dL_law_581 rfl ?_
  show G X _ [ntW pa Tn, bdW (gcA X) (pa 1) Bz, hsW (gcA X) (pa 2) (fun j => pa (10 + j)) Hsz, bdW (gcA X) (pa 3) Sn, txW (gcA X) (pa 4) Tx, bdW (gcA X) (pa 5) Tr, heW (gcA X) (pa 6) E, heW (gcA X) (pa 7) F, nmW (gcA X) (pa 8) Nm, btW (pa 9) (pa 5 0) Bt, mdW (gcA X) a Mz] _ _ _
  refine g_icmp_eq (pc' := 587) (tgt := 902) (T := some ()) (F := (none : Option Unit)) (res := ()) C dL_law_584 (by decide) rfl (if_pos rfl) (fun c h => ?_) (fun c h => absurd rfl c)
  exact kk Tn Bz Hsz Sn Tx Tr E F Nm Bt Mz hR
set_option maxRecDepth 100000 in
set_option maxHeartbeats 4000000 in
theorem lc_keep {X : gX} {Q : State → Prop} (C : cx X RL cL_law 4 ret wsL_law 9 322) (hf : cf X) {b n : Nat} {xs : Nat → Int32} (hs : sX X b n xs) (pa : tP) (a : Nat → Nat) (i : Int32) (h1 : vp_in (i + 1) n) (h2 : vp_in (i + 2) n) (h3 : vp_in (i + 3) n) (h4 : vp_in (i + 4) n) {N : Nat} (hN : 1000 ≤ N) {Tn B Sn Tx Tr E F Nm Bt M : tS} {Hs : tH} (hR : Rel Tn B Hs Sn Tx Tr E F Nm Bt M) (kk : ∀ (Tn : tS) (B : tS) (Hs : tH) (Sn : tS) (Tx : tS) (Tr : tS) (E : tS) (F : tS) (Nm : tS) (Bt : tS) (M : tS), Rel Tn B Hs Sn Tx Tr E F Nm Bt M → G X Q [ntW pa Tn, bdW (gcA X) (pa 1) B, hsW (gcA X) (pa 2) (fun j => pa (10 + j)) Hs, bdW (gcA X) (pa 3) Sn, txW (gcA X) (pa 4) Tx, bdW (gcA X) (pa 5) Tr, heW (gcA X) (pa 6) E, heW (gcA X) (pa 7) F, nmW (gcA X) (pa 8) Nm, btW (pa 9) (pa 5 0) Bt, mdW (gcA X) a M] [some (.ref b), some (.ref (pa 0 0)), some (.ref (a 0)), some (.int i)] [] 902) : G X Q [ntW pa Tn, bdW (gcA X) (pa 1) B, hsW (gcA X) (pa 2) (fun j => pa (10 + j)) Hs, bdW (gcA X) (pa 3) Sn, txW (gcA X) (pa 4) Tx, bdW (gcA X) (pa 5) Tr, heW (gcA X) (pa 6) E, heW (gcA X) (pa 7) F, nmW (gcA X) (pa 8) Nm, btW (pa 9) (pa 5 0) Bt, mdW (gcA X) a M] [some (.ref b), some (.ref (pa 0 0)), some (.ref (a 0)), some (.int i)] [] 589 := by
  obtain ⟨r, Tnz, Snz, Mz, e1, e2, hR⟩ := m_keep hN hR 
  refine g_aload_n (pc' := 590) C dL_law_589 rfl rfl ?_
  refine G_callVI (pc' := 593) C (As := []) (c_X5_keep (gl X) (gD X) (gcA X) pa N Tn B Sn  r Tnz Snz e1) gL_law_X5_keep rfl nd_X5_keep ⟨Nat.le_of_ble_eq_true rfl, Nat.le_of_ble_eq_true rfl⟩ (q0 := 0) rfl rfl (is := [0, 1, 3]) rfl (by decide) rfl rfl (Nat.le_of_ble_eq_true rfl) rfl dL_law_590 rfl ?_
  show G X _ [ntW pa Tnz, bdW (gcA X) (pa 1) B, hsW (gcA X) (pa 2) (fun j => pa (10 + j)) Hs, bdW (gcA X) (pa 3) Snz, txW (gcA X) (pa 4) Tx, bdW (gcA X) (pa 5) Tr, heW (gcA X) (pa 6) E, heW (gcA X) (pa 7) F, nmW (gcA X) (pa 8) Nm, btW (pa 9) (pa 5 0) Bt, mdW (gcA X) a M] _ _ _
  refine g_aload_n (pc' := 594) C dL_law_593 rfl rfl ?_
  refine G_callVI (pc' := 597) C (As := []) (c_X6_keep (gl X) (gD X) (gcA X) a N M  r Mz e2) gL_law_X6_keep rfl nd_X6_keep ⟨Nat.le_of_ble_eq_true rfl, Nat.le_of_ble_eq_true rfl⟩ (q0 := 0) rfl rfl (is := [10]) rfl (by decide) rfl rfl (Nat.le_of_ble_eq_true rfl) rfl dL_law_594 rfl ?_
  show G X _ [ntW pa Tnz, bdW (gcA X) (pa 1) B, hsW (gcA X) (pa 2) (fun j => pa (10 + j)) Hs, bdW (gcA X) (pa 3) Snz, txW (gcA X) (pa 4) Tx, bdW (gcA X) (pa 5) Tr, heW (gcA X) (pa 6) E, heW (gcA X) (pa 7) F, nmW (gcA X) (pa 8) Nm, btW (pa 9) (pa 5 0) Bt, mdW (gcA X) a Mz] _ _ _
  refine g_icmp_eq (pc' := 600) (tgt := 902) (T := some ()) (F := (none : Option Unit)) (res := ()) C dL_law_597 (by decide) rfl (if_pos rfl) (fun c h => ?_) (fun c h => absurd rfl c)
  exact kk Tnz B Hs Snz Tx Tr E F Nm Bt Mz hR
set_option maxRecDepth 100000 in
set_option maxHeartbeats 4000000 in
theorem lc_restore {X : gX} {Q : State → Prop} (C : cx X RL cL_law 4 ret wsL_law 9 322) (hf : cf X) {b n : Nat} {xs : Nat → Int32} (hs : sX X b n xs) (pa : tP) (a : Nat → Nat) (i : Int32) (h1 : vp_in (i + 1) n) (h2 : vp_in (i + 2) n) (h3 : vp_in (i + 3) n) (h4 : vp_in (i + 4) n) {N : Nat} (hN : 1000 ≤ N) {Tn B Sn Tx Tr E F Nm Bt M : tS} {Hs : tH} (hR : Rel Tn B Hs Sn Tx Tr E F Nm Bt M) (kk : ∀ (Tn : tS) (B : tS) (Hs : tH) (Sn : tS) (Tx : tS) (Tr : tS) (E : tS) (F : tS) (Nm : tS) (Bt : tS) (M : tS), Rel Tn B Hs Sn Tx Tr E F Nm Bt M → G X Q [ntW pa Tn, bdW (gcA X) (pa 1) B, hsW (gcA X) (pa 2) (fun j => pa (10 + j)) Hs, bdW (gcA X) (pa 3) Sn, txW (gcA X) (pa 4) Tx, bdW (gcA X) (pa 5) Tr, heW (gcA X) (pa 6) E, heW (gcA X) (pa 7) F, nmW (gcA X) (pa 8) Nm, btW (pa 9) (pa 5 0) Bt, mdW (gcA X) a M] [some (.ref b), some (.ref (pa 0 0)), some (.ref (a 0)), some (.int i)] [] 902) : G X Q [ntW pa Tn, bdW (gcA X) (pa 1) B, hsW (gcA X) (pa 2) (fun j => pa (10 + j)) Hs, bdW (gcA X) (pa 3) Sn, txW (gcA X) (pa 4) Tx, bdW (gcA X) (pa 5) Tr, heW (gcA X) (pa 6) E, heW (gcA X) (pa 7) F, nmW (gcA X) (pa 8) Nm, btW (pa 9) (pa 5 0) Bt, mdW (gcA X) a M] [some (.ref b), some (.ref (pa 0 0)), some (.ref (a 0)), some (.int i)] [] 602 := by
  obtain ⟨r, Bz, Hsz, Mz, e1, e2, hR⟩ := m_restore hN hR 
  refine g_aload_n (pc' := 603) C dL_law_602 rfl rfl ?_
  refine G_callVI (pc' := 606) C (As := []) (c_X5_restore (gl X) (gD X) (gcA X) pa N Tn B Hs Sn  r Bz Hsz e1) gL_law_X5_restore rfl nd_X5_restore ⟨Nat.le_of_ble_eq_true rfl, Nat.le_of_ble_eq_true rfl⟩ (q0 := 0) rfl rfl (is := [0, 1, 2, 3]) rfl (by decide) rfl rfl (Nat.le_of_ble_eq_true rfl) rfl dL_law_603 rfl ?_
  show G X _ [ntW pa Tn, bdW (gcA X) (pa 1) Bz, hsW (gcA X) (pa 2) (fun j => pa (10 + j)) Hsz, bdW (gcA X) (pa 3) Sn, txW (gcA X) (pa 4) Tx, bdW (gcA X) (pa 5) Tr, heW (gcA X) (pa 6) E, heW (gcA X) (pa 7) F, nmW (gcA X) (pa 8) Nm, btW (pa 9) (pa 5 0) Bt, mdW (gcA X) a M] _ _ _
  refine g_aload_n (pc' := 607) C dL_law_606 rfl rfl ?_
  refine G_callVI (pc' := 610) C (As := []) (c_X6_restore (gl X) (gD X) (gcA X) a N M  r Mz e2) gL_law_X6_restore rfl nd_X6_restore ⟨Nat.le_of_ble_eq_true rfl, Nat.le_of_ble_eq_true rfl⟩ (q0 := 0) rfl rfl (is := [10]) rfl (by decide) rfl rfl (Nat.le_of_ble_eq_true rfl) rfl dL_law_607 rfl ?_
  show G X _ [ntW pa Tn, bdW (gcA X) (pa 1) Bz, hsW (gcA X) (pa 2) (fun j => pa (10 + j)) Hsz, bdW (gcA X) (pa 3) Sn, txW (gcA X) (pa 4) Tx, bdW (gcA X) (pa 5) Tr, heW (gcA X) (pa 6) E, heW (gcA X) (pa 7) F, nmW (gcA X) (pa 8) Nm, btW (pa 9) (pa 5 0) Bt, mdW (gcA X) a Mz] _ _ _
  refine g_icmp_eq (pc' := 613) (tgt := 902) (T := some ()) (F := (none : Option Unit)) (res := ()) C dL_law_610 (by decide) rfl (if_pos rfl) (fun c h => ?_) (fun c h => absurd rfl c)
  exact kk Tn Bz Hsz Sn Tx Tr E F Nm Bt Mz hR
set_option maxRecDepth 100000 in
set_option maxHeartbeats 4000000 in
theorem lc_note {X : gX} {Q : State → Prop} (C : cx X RL cL_law 4 ret wsL_law 9 322) (hf : cf X) {b n : Nat} {xs : Nat → Int32} (hs : sX X b n xs) (pa : tP) (a : Nat → Nat) (i : Int32) (h1 : vp_in (i + 1) n) (h2 : vp_in (i + 2) n) (h3 : vp_in (i + 3) n) (h4 : vp_in (i + 4) n) {N : Nat} (hN : 1000 ≤ N) {Tn B Sn Tx Tr E F Nm Bt M : tS} {Hs : tH} (hR : Rel Tn B Hs Sn Tx Tr E F Nm Bt M) (kk : ∀ (Tn : tS) (B : tS) (Hs : tH) (Sn : tS) (Tx : tS) (Tr : tS) (E : tS) (F : tS) (Nm : tS) (Bt : tS) (M : tS), Rel Tn B Hs Sn Tx Tr E F Nm Bt M → G X Q [ntW pa Tn, bdW (gcA X) (pa 1) B, hsW (gcA X) (pa 2) (fun j => pa (10 + j)) Hs, bdW (gcA X) (pa 3) Sn, txW (gcA X) (pa 4) Tx, bdW (gcA X) (pa 5) Tr, heW (gcA X) (pa 6) E, heW (gcA X) (pa 7) F, nmW (gcA X) (pa 8) Nm, btW (pa 9) (pa 5 0) Bt, mdW (gcA X) a M] [some (.ref b), some (.ref (pa 0 0)), some (.ref (a 0)), some (.int i)] [] 902) : G X Q [ntW pa Tn, bdW (gcA X) (pa 1) B, hsW (gcA X) (pa 2) (fun j => pa (10 + j)) Hs, bdW (gcA X) (pa 3) Sn, txW (gcA X) (pa 4) Tx, bdW (gcA X) (pa 5) Tr, heW (gcA X) (pa 6) E, heW (gcA X) (pa 7) F, nmW (gcA X) (pa 8) Nm, btW (pa 9) (pa 5 0) Bt, mdW (gcA X) a M] [some (.ref b), some (.ref (pa 0 0)), some (.ref (a 0)), some (.int i)] [] 615 := by
  obtain ⟨r, Trz, Ez, Fz, Mz, e1, e2, hR⟩ := m_note hN hR ((xs (i + (1 : Int32)).toNatClampNeg)) ((xs (i + (2 : Int32)).toNatClampNeg))
  refine g_aload_n (pc' := 616) C dL_law_615 rfl rfl ?_
  refine g_aload_n (pc' := 617) C dL_law_616 rfl rfl ?_
  refine g_iload_n (pc' := 618) C dL_law_617 rfl rfl ?_
  refine g_iconst (pc' := 619) (v := 1) C dL_law_618 (by decide) rfl ?_
  refine g_iadd (pc' := 620) C dL_law_619 rfl ?_
  refine g_sld (pc' := 621) C hs h1 dL_law_620 rfl ?_
  refine g_aload_n (pc' := 622) C dL_law_621 rfl rfl ?_
  refine g_iload_n (pc' := 623) C dL_law_622 rfl rfl ?_
  refine g_iconst (pc' := 624) (v := 2) C dL_law_623 (by decide) rfl ?_
  refine g_iadd (pc' := 625) C dL_law_624 rfl ?_
  refine g_sld (pc' := 626) C hs h2 dL_law_625 rfl ?_
  refine G_callVI (pc' := 629) C (As := [.int ((xs (i + (1 : Int32)).toNatClampNeg)), .int ((xs (i + (2 : Int32)).toNatClampNeg))]) (c_X5_note (gl X) (gD X) (gcA X) pa N Tn B Tr E F ((xs (i + (1 : Int32)).toNatClampNeg)) ((xs (i + (2 : Int32)).toNatClampNeg)) r Trz Ez Fz e1) gL_law_X5_note rfl nd_X5_note ⟨Nat.le_of_ble_eq_true rfl, Nat.le_of_ble_eq_true rfl⟩ (q0 := 0) rfl rfl (is := [0, 1, 5, 6, 7]) rfl (by decide) rfl rfl (Nat.le_of_ble_eq_true rfl) rfl dL_law_626 rfl ?_
  show G X _ [ntW pa Tn, bdW (gcA X) (pa 1) B, hsW (gcA X) (pa 2) (fun j => pa (10 + j)) Hs, bdW (gcA X) (pa 3) Sn, txW (gcA X) (pa 4) Tx, bdW (gcA X) (pa 5) Trz, heW (gcA X) (pa 6) Ez, heW (gcA X) (pa 7) Fz, nmW (gcA X) (pa 8) Nm, btW (pa 9) (pa 5 0) Bt, mdW (gcA X) a M] _ _ _
  refine g_aload_n (pc' := 630) C dL_law_629 rfl rfl ?_
  refine g_aload_n (pc' := 631) C dL_law_630 rfl rfl ?_
  refine g_iload_n (pc' := 632) C dL_law_631 rfl rfl ?_
  refine g_iconst (pc' := 633) (v := 1) C dL_law_632 (by decide) rfl ?_
  refine g_iadd (pc' := 634) C dL_law_633 rfl ?_
  refine g_sld (pc' := 635) C hs h1 dL_law_634 rfl ?_
  refine g_aload_n (pc' := 636) C dL_law_635 rfl rfl ?_
  refine g_iload_n (pc' := 637) C dL_law_636 rfl rfl ?_
  refine g_iconst (pc' := 638) (v := 2) C dL_law_637 (by decide) rfl ?_
  refine g_iadd (pc' := 639) C dL_law_638 rfl ?_
  refine g_sld (pc' := 640) C hs h2 dL_law_639 rfl ?_
  refine G_callVI (pc' := 643) C (As := [.int ((xs (i + (1 : Int32)).toNatClampNeg)), .int ((xs (i + (2 : Int32)).toNatClampNeg))]) (c_X6_note (gl X) (gD X) (gcA X) a N M ((xs (i + (1 : Int32)).toNatClampNeg)) ((xs (i + (2 : Int32)).toNatClampNeg)) r Mz e2) gL_law_X6_note rfl nd_X6_note ⟨Nat.le_of_ble_eq_true rfl, Nat.le_of_ble_eq_true rfl⟩ (q0 := 0) rfl rfl (is := [10]) rfl (by decide) rfl rfl (Nat.le_of_ble_eq_true rfl) rfl dL_law_640 rfl ?_
  show G X _ [ntW pa Tn, bdW (gcA X) (pa 1) B, hsW (gcA X) (pa 2) (fun j => pa (10 + j)) Hs, bdW (gcA X) (pa 3) Sn, txW (gcA X) (pa 4) Tx, bdW (gcA X) (pa 5) Trz, heW (gcA X) (pa 6) Ez, heW (gcA X) (pa 7) Fz, nmW (gcA X) (pa 8) Nm, btW (pa 9) (pa 5 0) Bt, mdW (gcA X) a Mz] _ _ _
  refine g_icmp_eq (pc' := 646) (tgt := 902) (T := some ()) (F := (none : Option Unit)) (res := ()) C dL_law_643 (by decide) rfl (if_pos rfl) (fun c h => ?_) (fun c h => absurd rfl c)
  exact kk Tn B Hs Sn Tx Trz Ez Fz Nm Bt Mz hR
set_option maxRecDepth 100000 in
set_option maxHeartbeats 4000000 in
theorem lc_dots {X : gX} {Q : State → Prop} (C : cx X RL cL_law 4 ret wsL_law 9 322) (hf : cf X) {b n : Nat} {xs : Nat → Int32} (hs : sX X b n xs) (pa : tP) (a : Nat → Nat) (i : Int32) (h1 : vp_in (i + 1) n) (h2 : vp_in (i + 2) n) (h3 : vp_in (i + 3) n) (h4 : vp_in (i + 4) n) {N : Nat} (hN : 1000 ≤ N) {Tn B Sn Tx Tr E F Nm Bt M : tS} {Hs : tH} (hR : Rel Tn B Hs Sn Tx Tr E F Nm Bt M) (kk : ∀ (Tn : tS) (B : tS) (Hs : tH) (Sn : tS) (Tx : tS) (Tr : tS) (E : tS) (F : tS) (Nm : tS) (Bt : tS) (M : tS), Rel Tn B Hs Sn Tx Tr E F Nm Bt M → G X Q [ntW pa Tn, bdW (gcA X) (pa 1) B, hsW (gcA X) (pa 2) (fun j => pa (10 + j)) Hs, bdW (gcA X) (pa 3) Sn, txW (gcA X) (pa 4) Tx, bdW (gcA X) (pa 5) Tr, heW (gcA X) (pa 6) E, heW (gcA X) (pa 7) F, nmW (gcA X) (pa 8) Nm, btW (pa 9) (pa 5 0) Bt, mdW (gcA X) a M] [some (.ref b), some (.ref (pa 0 0)), some (.ref (a 0)), some (.int i)] [] 902) : G X Q [ntW pa Tn, bdW (gcA X) (pa 1) B, hsW (gcA X) (pa 2) (fun j => pa (10 + j)) Hs, bdW (gcA X) (pa 3) Sn, txW (gcA X) (pa 4) Tx, bdW (gcA X) (pa 5) Tr, heW (gcA X) (pa 6) E, heW (gcA X) (pa 7) F, nmW (gcA X) (pa 8) Nm, btW (pa 9) (pa 5 0) Bt, mdW (gcA X) a M] [some (.ref b), some (.ref (pa 0 0)), some (.ref (a 0)), some (.int i)] [] 648 := by
  obtain ⟨r, e1, e2, hR⟩ := m_dots hN hR ((xs (i + (1 : Int32)).toNatClampNeg)) ((xs (i + (2 : Int32)).toNatClampNeg))
  refine g_aload_n (pc' := 649) C dL_law_648 rfl rfl ?_
  refine g_aload_n (pc' := 650) C dL_law_649 rfl rfl ?_
  refine g_iload_n (pc' := 651) C dL_law_650 rfl rfl ?_
  refine g_iconst (pc' := 652) (v := 1) C dL_law_651 (by decide) rfl ?_
  refine g_iadd (pc' := 653) C dL_law_652 rfl ?_
  refine g_sld (pc' := 654) C hs h1 dL_law_653 rfl ?_
  refine g_aload_n (pc' := 655) C dL_law_654 rfl rfl ?_
  refine g_iload_n (pc' := 656) C dL_law_655 rfl rfl ?_
  refine g_iconst (pc' := 657) (v := 2) C dL_law_656 (by decide) rfl ?_
  refine g_iadd (pc' := 658) C dL_law_657 rfl ?_
  refine g_sld (pc' := 659) C hs h2 dL_law_658 rfl ?_
  refine G_callVI (pc' := 662) C (As := [.int ((xs (i + (1 : Int32)).toNatClampNeg)), .int ((xs (i + (2 : Int32)).toNatClampNeg))]) (c_X5_dots (gl X) (gD X) (gcA X) pa N Tn B ((xs (i + (1 : Int32)).toNatClampNeg)) ((xs (i + (2 : Int32)).toNatClampNeg)) r e1) gL_law_X5_dots rfl nd_X5_dots ⟨Nat.le_of_ble_eq_true rfl, Nat.le_of_ble_eq_true rfl⟩ (q0 := 0) rfl rfl (is := [0, 1]) rfl (by decide) rfl rfl (Nat.le_of_ble_eq_true rfl) rfl dL_law_659 rfl ?_
  show G X _ [ntW pa Tn, bdW (gcA X) (pa 1) B, hsW (gcA X) (pa 2) (fun j => pa (10 + j)) Hs, bdW (gcA X) (pa 3) Sn, txW (gcA X) (pa 4) Tx, bdW (gcA X) (pa 5) Tr, heW (gcA X) (pa 6) E, heW (gcA X) (pa 7) F, nmW (gcA X) (pa 8) Nm, btW (pa 9) (pa 5 0) Bt, mdW (gcA X) a M] _ _ _
  refine g_aload_n (pc' := 663) C dL_law_662 rfl rfl ?_
  refine g_aload_n (pc' := 664) C dL_law_663 rfl rfl ?_
  refine g_iload_n (pc' := 665) C dL_law_664 rfl rfl ?_
  refine g_iconst (pc' := 666) (v := 1) C dL_law_665 (by decide) rfl ?_
  refine g_iadd (pc' := 667) C dL_law_666 rfl ?_
  refine g_sld (pc' := 668) C hs h1 dL_law_667 rfl ?_
  refine g_aload_n (pc' := 669) C dL_law_668 rfl rfl ?_
  refine g_iload_n (pc' := 670) C dL_law_669 rfl rfl ?_
  refine g_iconst (pc' := 671) (v := 2) C dL_law_670 (by decide) rfl ?_
  refine g_iadd (pc' := 672) C dL_law_671 rfl ?_
  refine g_sld (pc' := 673) C hs h2 dL_law_672 rfl ?_
  refine G_callVI (pc' := 676) C (As := [.int ((xs (i + (1 : Int32)).toNatClampNeg)), .int ((xs (i + (2 : Int32)).toNatClampNeg))]) (c_X6_dots (gl X) (gD X) (gcA X) a N M ((xs (i + (1 : Int32)).toNatClampNeg)) ((xs (i + (2 : Int32)).toNatClampNeg)) r e2) gL_law_X6_dots rfl nd_X6_dots ⟨Nat.le_of_ble_eq_true rfl, Nat.le_of_ble_eq_true rfl⟩ (q0 := 0) rfl rfl (is := [10]) rfl (by decide) rfl rfl (Nat.le_of_ble_eq_true rfl) rfl dL_law_673 rfl ?_
  show G X _ [ntW pa Tn, bdW (gcA X) (pa 1) B, hsW (gcA X) (pa 2) (fun j => pa (10 + j)) Hs, bdW (gcA X) (pa 3) Sn, txW (gcA X) (pa 4) Tx, bdW (gcA X) (pa 5) Tr, heW (gcA X) (pa 6) E, heW (gcA X) (pa 7) F, nmW (gcA X) (pa 8) Nm, btW (pa 9) (pa 5 0) Bt, mdW (gcA X) a M] _ _ _
  refine g_icmp_eq (pc' := 679) (tgt := 902) (T := some ()) (F := (none : Option Unit)) (res := ()) C dL_law_676 (by decide) rfl (if_pos rfl) (fun c h => ?_) (fun c h => absurd rfl c)
  exact kk Tn B Hs Sn Tx Tr E F Nm Bt M hR
set_option maxRecDepth 100000 in
set_option maxHeartbeats 4000000 in
theorem lc_heap {X : gX} {Q : State → Prop} (C : cx X RL cL_law 4 ret wsL_law 9 322) (hf : cf X) {b n : Nat} {xs : Nat → Int32} (hs : sX X b n xs) (pa : tP) (a : Nat → Nat) (i : Int32) (h1 : vp_in (i + 1) n) (h2 : vp_in (i + 2) n) (h3 : vp_in (i + 3) n) (h4 : vp_in (i + 4) n) {N : Nat} (hN : 1000 ≤ N) {Tn B Sn Tx Tr E F Nm Bt M : tS} {Hs : tH} (hR : Rel Tn B Hs Sn Tx Tr E F Nm Bt M) (kk : ∀ (Tn : tS) (B : tS) (Hs : tH) (Sn : tS) (Tx : tS) (Tr : tS) (E : tS) (F : tS) (Nm : tS) (Bt : tS) (M : tS), Rel Tn B Hs Sn Tx Tr E F Nm Bt M → G X Q [ntW pa Tn, bdW (gcA X) (pa 1) B, hsW (gcA X) (pa 2) (fun j => pa (10 + j)) Hs, bdW (gcA X) (pa 3) Sn, txW (gcA X) (pa 4) Tx, bdW (gcA X) (pa 5) Tr, heW (gcA X) (pa 6) E, heW (gcA X) (pa 7) F, nmW (gcA X) (pa 8) Nm, btW (pa 9) (pa 5 0) Bt, mdW (gcA X) a M] [some (.ref b), some (.ref (pa 0 0)), some (.ref (a 0)), some (.int i)] [] 902) : G X Q [ntW pa Tn, bdW (gcA X) (pa 1) B, hsW (gcA X) (pa 2) (fun j => pa (10 + j)) Hs, bdW (gcA X) (pa 3) Sn, txW (gcA X) (pa 4) Tx, bdW (gcA X) (pa 5) Tr, heW (gcA X) (pa 6) E, heW (gcA X) (pa 7) F, nmW (gcA X) (pa 8) Nm, btW (pa 9) (pa 5 0) Bt, mdW (gcA X) a M] [some (.ref b), some (.ref (pa 0 0)), some (.ref (a 0)), some (.int i)] [] 681 := by
  obtain ⟨r, Ez, Mz, e1, e2, hR⟩ := m_heap hN hR ((xs (i + (1 : Int32)).toNatClampNeg)) ((xs (i + (2 : Int32)).toNatClampNeg))
  refine g_aload_n (pc' := 682) C dL_law_681 rfl rfl ?_
  refine g_aload_n (pc' := 683) C dL_law_682 rfl rfl ?_
  refine g_iload_n (pc' := 684) C dL_law_683 rfl rfl ?_
  refine g_iconst (pc' := 685) (v := 1) C dL_law_684 (by decide) rfl ?_
  refine g_iadd (pc' := 686) C dL_law_685 rfl ?_
  refine g_sld (pc' := 687) C hs h1 dL_law_686 rfl ?_
  refine g_aload_n (pc' := 688) C dL_law_687 rfl rfl ?_
  refine g_iload_n (pc' := 689) C dL_law_688 rfl rfl ?_
  refine g_iconst (pc' := 690) (v := 2) C dL_law_689 (by decide) rfl ?_
  refine g_iadd (pc' := 691) C dL_law_690 rfl ?_
  refine g_sld (pc' := 692) C hs h2 dL_law_691 rfl ?_
  refine G_callVI (pc' := 695) C (As := [.int ((xs (i + (1 : Int32)).toNatClampNeg)), .int ((xs (i + (2 : Int32)).toNatClampNeg))]) (c_X5_heap (gl X) (gD X) (gcA X) pa N Tn B E ((xs (i + (1 : Int32)).toNatClampNeg)) ((xs (i + (2 : Int32)).toNatClampNeg)) r Ez e1) gL_law_X5_heap rfl nd_X5_heap ⟨Nat.le_of_ble_eq_true rfl, Nat.le_of_ble_eq_true rfl⟩ (q0 := 0) rfl rfl (is := [0, 1, 6]) rfl (by decide) rfl rfl (Nat.le_of_ble_eq_true rfl) rfl dL_law_692 rfl ?_
  show G X _ [ntW pa Tn, bdW (gcA X) (pa 1) B, hsW (gcA X) (pa 2) (fun j => pa (10 + j)) Hs, bdW (gcA X) (pa 3) Sn, txW (gcA X) (pa 4) Tx, bdW (gcA X) (pa 5) Tr, heW (gcA X) (pa 6) Ez, heW (gcA X) (pa 7) F, nmW (gcA X) (pa 8) Nm, btW (pa 9) (pa 5 0) Bt, mdW (gcA X) a M] _ _ _
  refine g_aload_n (pc' := 696) C dL_law_695 rfl rfl ?_
  refine g_aload_n (pc' := 697) C dL_law_696 rfl rfl ?_
  refine g_iload_n (pc' := 698) C dL_law_697 rfl rfl ?_
  refine g_iconst (pc' := 699) (v := 1) C dL_law_698 (by decide) rfl ?_
  refine g_iadd (pc' := 700) C dL_law_699 rfl ?_
  refine g_sld (pc' := 701) C hs h1 dL_law_700 rfl ?_
  refine g_aload_n (pc' := 702) C dL_law_701 rfl rfl ?_
  refine g_iload_n (pc' := 703) C dL_law_702 rfl rfl ?_
  refine g_iconst (pc' := 704) (v := 2) C dL_law_703 (by decide) rfl ?_
  refine g_iadd (pc' := 705) C dL_law_704 rfl ?_
  refine g_sld (pc' := 706) C hs h2 dL_law_705 rfl ?_
  refine G_callVI (pc' := 709) C (As := [.int ((xs (i + (1 : Int32)).toNatClampNeg)), .int ((xs (i + (2 : Int32)).toNatClampNeg))]) (c_X6_heap (gl X) (gD X) (gcA X) a N M ((xs (i + (1 : Int32)).toNatClampNeg)) ((xs (i + (2 : Int32)).toNatClampNeg)) r Mz e2) gL_law_X6_heap rfl nd_X6_heap ⟨Nat.le_of_ble_eq_true rfl, Nat.le_of_ble_eq_true rfl⟩ (q0 := 0) rfl rfl (is := [10]) rfl (by decide) rfl rfl (Nat.le_of_ble_eq_true rfl) rfl dL_law_706 rfl ?_
  show G X _ [ntW pa Tn, bdW (gcA X) (pa 1) B, hsW (gcA X) (pa 2) (fun j => pa (10 + j)) Hs, bdW (gcA X) (pa 3) Sn, txW (gcA X) (pa 4) Tx, bdW (gcA X) (pa 5) Tr, heW (gcA X) (pa 6) Ez, heW (gcA X) (pa 7) F, nmW (gcA X) (pa 8) Nm, btW (pa 9) (pa 5 0) Bt, mdW (gcA X) a Mz] _ _ _
  refine g_icmp_eq (pc' := 712) (tgt := 902) (T := some ()) (F := (none : Option Unit)) (res := ()) C dL_law_709 (by decide) rfl (if_pos rfl) (fun c h => ?_) (fun c h => absurd rfl c)
  exact kk Tn B Hs Sn Tx Tr Ez F Nm Bt Mz hR
set_option maxRecDepth 100000 in
set_option maxHeartbeats 4000000 in
theorem lc_theme {X : gX} {Q : State → Prop} (C : cx X RL cL_law 4 ret wsL_law 9 322) (hf : cf X) {b n : Nat} {xs : Nat → Int32} (hs : sX X b n xs) (pa : tP) (a : Nat → Nat) (i : Int32) (h1 : vp_in (i + 1) n) (h2 : vp_in (i + 2) n) (h3 : vp_in (i + 3) n) (h4 : vp_in (i + 4) n) {N : Nat} (hN : 1000 ≤ N) {Tn B Sn Tx Tr E F Nm Bt M : tS} {Hs : tH} (hR : Rel Tn B Hs Sn Tx Tr E F Nm Bt M) (kk : ∀ (Tn : tS) (B : tS) (Hs : tH) (Sn : tS) (Tx : tS) (Tr : tS) (E : tS) (F : tS) (Nm : tS) (Bt : tS) (M : tS), Rel Tn B Hs Sn Tx Tr E F Nm Bt M → G X Q [ntW pa Tn, bdW (gcA X) (pa 1) B, hsW (gcA X) (pa 2) (fun j => pa (10 + j)) Hs, bdW (gcA X) (pa 3) Sn, txW (gcA X) (pa 4) Tx, bdW (gcA X) (pa 5) Tr, heW (gcA X) (pa 6) E, heW (gcA X) (pa 7) F, nmW (gcA X) (pa 8) Nm, btW (pa 9) (pa 5 0) Bt, mdW (gcA X) a M] [some (.ref b), some (.ref (pa 0 0)), some (.ref (a 0)), some (.int i)] [] 902) : G X Q [ntW pa Tn, bdW (gcA X) (pa 1) B, hsW (gcA X) (pa 2) (fun j => pa (10 + j)) Hs, bdW (gcA X) (pa 3) Sn, txW (gcA X) (pa 4) Tx, bdW (gcA X) (pa 5) Tr, heW (gcA X) (pa 6) E, heW (gcA X) (pa 7) F, nmW (gcA X) (pa 8) Nm, btW (pa 9) (pa 5 0) Bt, mdW (gcA X) a M] [some (.ref b), some (.ref (pa 0 0)), some (.ref (a 0)), some (.int i)] [] 714 := by
  obtain ⟨r, Ez, Nmz, Mz, e1, e2, hR⟩ := m_theme hN hR ((xs (i + (1 : Int32)).toNatClampNeg)) ((xs (i + (2 : Int32)).toNatClampNeg))
  refine g_aload_n (pc' := 715) C dL_law_714 rfl rfl ?_
  refine g_aload_n (pc' := 716) C dL_law_715 rfl rfl ?_
  refine g_iload_n (pc' := 717) C dL_law_716 rfl rfl ?_
  refine g_iconst (pc' := 718) (v := 1) C dL_law_717 (by decide) rfl ?_
  refine g_iadd (pc' := 719) C dL_law_718 rfl ?_
  refine g_sld (pc' := 720) C hs h1 dL_law_719 rfl ?_
  refine g_aload_n (pc' := 721) C dL_law_720 rfl rfl ?_
  refine g_iload_n (pc' := 722) C dL_law_721 rfl rfl ?_
  refine g_iconst (pc' := 723) (v := 2) C dL_law_722 (by decide) rfl ?_
  refine g_iadd (pc' := 724) C dL_law_723 rfl ?_
  refine g_sld (pc' := 725) C hs h2 dL_law_724 rfl ?_
  refine G_callVI (pc' := 728) C (As := [.int ((xs (i + (1 : Int32)).toNatClampNeg)), .int ((xs (i + (2 : Int32)).toNatClampNeg))]) (c_X5_theme (gl X) (gD X) (gcA X) pa N Tn B E Nm ((xs (i + (1 : Int32)).toNatClampNeg)) ((xs (i + (2 : Int32)).toNatClampNeg)) r Ez Nmz e1) gL_law_X5_theme rfl nd_X5_theme ⟨Nat.le_of_ble_eq_true rfl, Nat.le_of_ble_eq_true rfl⟩ (q0 := 0) rfl rfl (is := [0, 1, 6, 8]) rfl (by decide) rfl rfl (Nat.le_of_ble_eq_true rfl) rfl dL_law_725 rfl ?_
  show G X _ [ntW pa Tn, bdW (gcA X) (pa 1) B, hsW (gcA X) (pa 2) (fun j => pa (10 + j)) Hs, bdW (gcA X) (pa 3) Sn, txW (gcA X) (pa 4) Tx, bdW (gcA X) (pa 5) Tr, heW (gcA X) (pa 6) Ez, heW (gcA X) (pa 7) F, nmW (gcA X) (pa 8) Nmz, btW (pa 9) (pa 5 0) Bt, mdW (gcA X) a M] _ _ _
  refine g_aload_n (pc' := 729) C dL_law_728 rfl rfl ?_
  refine g_aload_n (pc' := 730) C dL_law_729 rfl rfl ?_
  refine g_iload_n (pc' := 731) C dL_law_730 rfl rfl ?_
  refine g_iconst (pc' := 732) (v := 1) C dL_law_731 (by decide) rfl ?_
  refine g_iadd (pc' := 733) C dL_law_732 rfl ?_
  refine g_sld (pc' := 734) C hs h1 dL_law_733 rfl ?_
  refine g_aload_n (pc' := 735) C dL_law_734 rfl rfl ?_
  refine g_iload_n (pc' := 736) C dL_law_735 rfl rfl ?_
  refine g_iconst (pc' := 737) (v := 2) C dL_law_736 (by decide) rfl ?_
  refine g_iadd (pc' := 738) C dL_law_737 rfl ?_
  refine g_sld (pc' := 739) C hs h2 dL_law_738 rfl ?_
  refine G_callVI (pc' := 742) C (As := [.int ((xs (i + (1 : Int32)).toNatClampNeg)), .int ((xs (i + (2 : Int32)).toNatClampNeg))]) (c_X6_theme (gl X) (gD X) (gcA X) a N M ((xs (i + (1 : Int32)).toNatClampNeg)) ((xs (i + (2 : Int32)).toNatClampNeg)) r Mz e2) gL_law_X6_theme rfl nd_X6_theme ⟨Nat.le_of_ble_eq_true rfl, Nat.le_of_ble_eq_true rfl⟩ (q0 := 0) rfl rfl (is := [10]) rfl (by decide) rfl rfl (Nat.le_of_ble_eq_true rfl) rfl dL_law_739 rfl ?_
  show G X _ [ntW pa Tn, bdW (gcA X) (pa 1) B, hsW (gcA X) (pa 2) (fun j => pa (10 + j)) Hs, bdW (gcA X) (pa 3) Sn, txW (gcA X) (pa 4) Tx, bdW (gcA X) (pa 5) Tr, heW (gcA X) (pa 6) Ez, heW (gcA X) (pa 7) F, nmW (gcA X) (pa 8) Nmz, btW (pa 9) (pa 5 0) Bt, mdW (gcA X) a Mz] _ _ _
  refine g_icmp_eq (pc' := 745) (tgt := 902) (T := some ()) (F := (none : Option Unit)) (res := ()) C dL_law_742 (by decide) rfl (if_pos rfl) (fun c h => ?_) (fun c h => absurd rfl c)
  exact kk Tn B Hs Sn Tx Tr Ez F Nmz Bt Mz hR
set_option maxRecDepth 100000 in
set_option maxHeartbeats 4000000 in
theorem lc_votes {X : gX} {Q : State → Prop} (C : cx X RL cL_law 4 ret wsL_law 9 322) (hf : cf X) {b n : Nat} {xs : Nat → Int32} (hs : sX X b n xs) (pa : tP) (a : Nat → Nat) (i : Int32) (h1 : vp_in (i + 1) n) (h2 : vp_in (i + 2) n) (h3 : vp_in (i + 3) n) (h4 : vp_in (i + 4) n) {N : Nat} (hN : 1000 ≤ N) {Tn B Sn Tx Tr E F Nm Bt M : tS} {Hs : tH} (hR : Rel Tn B Hs Sn Tx Tr E F Nm Bt M) (kk : ∀ (Tn : tS) (B : tS) (Hs : tH) (Sn : tS) (Tx : tS) (Tr : tS) (E : tS) (F : tS) (Nm : tS) (Bt : tS) (M : tS), Rel Tn B Hs Sn Tx Tr E F Nm Bt M → G X Q [ntW pa Tn, bdW (gcA X) (pa 1) B, hsW (gcA X) (pa 2) (fun j => pa (10 + j)) Hs, bdW (gcA X) (pa 3) Sn, txW (gcA X) (pa 4) Tx, bdW (gcA X) (pa 5) Tr, heW (gcA X) (pa 6) E, heW (gcA X) (pa 7) F, nmW (gcA X) (pa 8) Nm, btW (pa 9) (pa 5 0) Bt, mdW (gcA X) a M] [some (.ref b), some (.ref (pa 0 0)), some (.ref (a 0)), some (.int i)] [] 902) : G X Q [ntW pa Tn, bdW (gcA X) (pa 1) B, hsW (gcA X) (pa 2) (fun j => pa (10 + j)) Hs, bdW (gcA X) (pa 3) Sn, txW (gcA X) (pa 4) Tx, bdW (gcA X) (pa 5) Tr, heW (gcA X) (pa 6) E, heW (gcA X) (pa 7) F, nmW (gcA X) (pa 8) Nm, btW (pa 9) (pa 5 0) Bt, mdW (gcA X) a M] [some (.ref b), some (.ref (pa 0 0)), some (.ref (a 0)), some (.int i)] [] 747 := by
  obtain ⟨r, e1, e2, hR⟩ := m_votes hN hR ((xs (i + (1 : Int32)).toNatClampNeg)) ((xs (i + (2 : Int32)).toNatClampNeg))
  refine g_aload_n (pc' := 748) C dL_law_747 rfl rfl ?_
  refine g_aload_n (pc' := 749) C dL_law_748 rfl rfl ?_
  refine g_iload_n (pc' := 750) C dL_law_749 rfl rfl ?_
  refine g_iconst (pc' := 751) (v := 1) C dL_law_750 (by decide) rfl ?_
  refine g_iadd (pc' := 752) C dL_law_751 rfl ?_
  refine g_sld (pc' := 753) C hs h1 dL_law_752 rfl ?_
  refine g_aload_n (pc' := 754) C dL_law_753 rfl rfl ?_
  refine g_iload_n (pc' := 755) C dL_law_754 rfl rfl ?_
  refine g_iconst (pc' := 756) (v := 2) C dL_law_755 (by decide) rfl ?_
  refine g_iadd (pc' := 757) C dL_law_756 rfl ?_
  refine g_sld (pc' := 758) C hs h2 dL_law_757 rfl ?_
  refine G_callVI (pc' := 761) C (As := [.int ((xs (i + (1 : Int32)).toNatClampNeg)), .int ((xs (i + (2 : Int32)).toNatClampNeg))]) (c_X5_votes (gl X) (gD X) (gcA X) pa N Tn B ((xs (i + (1 : Int32)).toNatClampNeg)) ((xs (i + (2 : Int32)).toNatClampNeg)) r e1) gL_law_X5_votes rfl nd_X5_votes ⟨Nat.le_of_ble_eq_true rfl, Nat.le_of_ble_eq_true rfl⟩ (q0 := 0) rfl rfl (is := [0, 1]) rfl (by decide) rfl rfl (Nat.le_of_ble_eq_true rfl) rfl dL_law_758 rfl ?_
  show G X _ [ntW pa Tn, bdW (gcA X) (pa 1) B, hsW (gcA X) (pa 2) (fun j => pa (10 + j)) Hs, bdW (gcA X) (pa 3) Sn, txW (gcA X) (pa 4) Tx, bdW (gcA X) (pa 5) Tr, heW (gcA X) (pa 6) E, heW (gcA X) (pa 7) F, nmW (gcA X) (pa 8) Nm, btW (pa 9) (pa 5 0) Bt, mdW (gcA X) a M] _ _ _
  refine g_aload_n (pc' := 762) C dL_law_761 rfl rfl ?_
  refine g_aload_n (pc' := 763) C dL_law_762 rfl rfl ?_
  refine g_iload_n (pc' := 764) C dL_law_763 rfl rfl ?_
  refine g_iconst (pc' := 765) (v := 1) C dL_law_764 (by decide) rfl ?_
  refine g_iadd (pc' := 766) C dL_law_765 rfl ?_
  refine g_sld (pc' := 767) C hs h1 dL_law_766 rfl ?_
  refine g_aload_n (pc' := 768) C dL_law_767 rfl rfl ?_
  refine g_iload_n (pc' := 769) C dL_law_768 rfl rfl ?_
  refine g_iconst (pc' := 770) (v := 2) C dL_law_769 (by decide) rfl ?_
  refine g_iadd (pc' := 771) C dL_law_770 rfl ?_
  refine g_sld (pc' := 772) C hs h2 dL_law_771 rfl ?_
  refine G_callVI (pc' := 775) C (As := [.int ((xs (i + (1 : Int32)).toNatClampNeg)), .int ((xs (i + (2 : Int32)).toNatClampNeg))]) (c_X6_votes (gl X) (gD X) (gcA X) a N M ((xs (i + (1 : Int32)).toNatClampNeg)) ((xs (i + (2 : Int32)).toNatClampNeg)) r e2) gL_law_X6_votes rfl nd_X6_votes ⟨Nat.le_of_ble_eq_true rfl, Nat.le_of_ble_eq_true rfl⟩ (q0 := 0) rfl rfl (is := [10]) rfl (by decide) rfl rfl (Nat.le_of_ble_eq_true rfl) rfl dL_law_772 rfl ?_
  show G X _ [ntW pa Tn, bdW (gcA X) (pa 1) B, hsW (gcA X) (pa 2) (fun j => pa (10 + j)) Hs, bdW (gcA X) (pa 3) Sn, txW (gcA X) (pa 4) Tx, bdW (gcA X) (pa 5) Tr, heW (gcA X) (pa 6) E, heW (gcA X) (pa 7) F, nmW (gcA X) (pa 8) Nm, btW (pa 9) (pa 5 0) Bt, mdW (gcA X) a M] _ _ _
  refine g_icmp_eq (pc' := 778) (tgt := 902) (T := some ()) (F := (none : Option Unit)) (res := ()) C dL_law_775 (by decide) rfl (if_pos rfl) (fun c h => ?_) (fun c h => absurd rfl c)
  exact kk Tn B Hs Sn Tx Tr E F Nm Bt M hR
set_option maxRecDepth 100000 in
set_option maxHeartbeats 4000000 in
theorem lc_ifDragged {X : gX} {Q : State → Prop} (C : cx X RL cL_law 4 ret wsL_law 9 322) (hf : cf X) {b n : Nat} {xs : Nat → Int32} (hs : sX X b n xs) (pa : tP) (a : Nat → Nat) (i : Int32) (h1 : vp_in (i + 1) n) (h2 : vp_in (i + 2) n) (h3 : vp_in (i + 3) n) (h4 : vp_in (i + 4) n) {N : Nat} (hN : 1000 ≤ N) {Tn B Sn Tx Tr E F Nm Bt M : tS} {Hs : tH} (hR : Rel Tn B Hs Sn Tx Tr E F Nm Bt M) (kk : ∀ (Tn : tS) (B : tS) (Hs : tH) (Sn : tS) (Tx : tS) (Tr : tS) (E : tS) (F : tS) (Nm : tS) (Bt : tS) (M : tS), Rel Tn B Hs Sn Tx Tr E F Nm Bt M → G X Q [ntW pa Tn, bdW (gcA X) (pa 1) B, hsW (gcA X) (pa 2) (fun j => pa (10 + j)) Hs, bdW (gcA X) (pa 3) Sn, txW (gcA X) (pa 4) Tx, bdW (gcA X) (pa 5) Tr, heW (gcA X) (pa 6) E, heW (gcA X) (pa 7) F, nmW (gcA X) (pa 8) Nm, btW (pa 9) (pa 5 0) Bt, mdW (gcA X) a M] [some (.ref b), some (.ref (pa 0 0)), some (.ref (a 0)), some (.int i)] [] 902) : G X Q [ntW pa Tn, bdW (gcA X) (pa 1) B, hsW (gcA X) (pa 2) (fun j => pa (10 + j)) Hs, bdW (gcA X) (pa 3) Sn, txW (gcA X) (pa 4) Tx, bdW (gcA X) (pa 5) Tr, heW (gcA X) (pa 6) E, heW (gcA X) (pa 7) F, nmW (gcA X) (pa 8) Nm, btW (pa 9) (pa 5 0) Bt, mdW (gcA X) a M] [some (.ref b), some (.ref (pa 0 0)), some (.ref (a 0)), some (.int i)] [] 780 := by
  obtain ⟨r, Trz, Ez, Fz, Mz, e1, e2, hR⟩ := m_ifDragged hN hR ((xs (i + (1 : Int32)).toNatClampNeg)) ((xs (i + (2 : Int32)).toNatClampNeg)) ((xs (i + (3 : Int32)).toNatClampNeg)) ((xs (i + (4 : Int32)).toNatClampNeg))
  refine g_aload_n (pc' := 781) C dL_law_780 rfl rfl ?_
  refine g_aload_n (pc' := 782) C dL_law_781 rfl rfl ?_
  refine g_iload_n (pc' := 783) C dL_law_782 rfl rfl ?_
  refine g_iconst (pc' := 784) (v := 1) C dL_law_783 (by decide) rfl ?_
  refine g_iadd (pc' := 785) C dL_law_784 rfl ?_
  refine g_sld (pc' := 786) C hs h1 dL_law_785 rfl ?_
  refine g_aload_n (pc' := 787) C dL_law_786 rfl rfl ?_
  refine g_iload_n (pc' := 788) C dL_law_787 rfl rfl ?_
  refine g_iconst (pc' := 789) (v := 2) C dL_law_788 (by decide) rfl ?_
  refine g_iadd (pc' := 790) C dL_law_789 rfl ?_
  refine g_sld (pc' := 791) C hs h2 dL_law_790 rfl ?_
  refine g_aload_n (pc' := 792) C dL_law_791 rfl rfl ?_
  refine g_iload_n (pc' := 793) C dL_law_792 rfl rfl ?_
  refine g_iconst (pc' := 794) (v := 3) C dL_law_793 (by decide) rfl ?_
  refine g_iadd (pc' := 795) C dL_law_794 rfl ?_
  refine g_sld (pc' := 796) C hs h3 dL_law_795 rfl ?_
  refine g_aload_n (pc' := 797) C dL_law_796 rfl rfl ?_
  refine g_iload_n (pc' := 798) C dL_law_797 rfl rfl ?_
  refine g_iconst (pc' := 799) (v := 4) C dL_law_798 (by decide) rfl ?_
  refine g_iadd (pc' := 800) C dL_law_799 rfl ?_
  refine g_sld (pc' := 801) C hs h4 dL_law_800 rfl ?_
  refine G_callVI (pc' := 804) C (As := [.int ((xs (i + (1 : Int32)).toNatClampNeg)), .int ((xs (i + (2 : Int32)).toNatClampNeg)), .int ((xs (i + (3 : Int32)).toNatClampNeg)), .int ((xs (i + (4 : Int32)).toNatClampNeg))]) (c_X5_ifDragged (gl X) (gD X) (gcA X) pa N Tn B Tr E F ((xs (i + (1 : Int32)).toNatClampNeg)) ((xs (i + (2 : Int32)).toNatClampNeg)) ((xs (i + (3 : Int32)).toNatClampNeg)) ((xs (i + (4 : Int32)).toNatClampNeg)) r Trz Ez Fz e1) gL_law_X5_ifDragged rfl nd_X5_ifDragged ⟨Nat.le_of_ble_eq_true rfl, Nat.le_of_ble_eq_true rfl⟩ (q0 := 0) rfl rfl (is := [0, 1, 5, 6, 7]) rfl (by decide) rfl rfl (Nat.le_of_ble_eq_true rfl) rfl dL_law_801 rfl ?_
  show G X _ [ntW pa Tn, bdW (gcA X) (pa 1) B, hsW (gcA X) (pa 2) (fun j => pa (10 + j)) Hs, bdW (gcA X) (pa 3) Sn, txW (gcA X) (pa 4) Tx, bdW (gcA X) (pa 5) Trz, heW (gcA X) (pa 6) Ez, heW (gcA X) (pa 7) Fz, nmW (gcA X) (pa 8) Nm, btW (pa 9) (pa 5 0) Bt, mdW (gcA X) a M] _ _ _
  refine g_aload_n (pc' := 805) C dL_law_804 rfl rfl ?_
  refine g_aload_n (pc' := 806) C dL_law_805 rfl rfl ?_
  refine g_iload_n (pc' := 807) C dL_law_806 rfl rfl ?_
  refine g_iconst (pc' := 808) (v := 1) C dL_law_807 (by decide) rfl ?_
  refine g_iadd (pc' := 809) C dL_law_808 rfl ?_
  refine g_sld (pc' := 810) C hs h1 dL_law_809 rfl ?_
  refine g_aload_n (pc' := 811) C dL_law_810 rfl rfl ?_
  refine g_iload_n (pc' := 812) C dL_law_811 rfl rfl ?_
  refine g_iconst (pc' := 813) (v := 2) C dL_law_812 (by decide) rfl ?_
  refine g_iadd (pc' := 814) C dL_law_813 rfl ?_
  refine g_sld (pc' := 815) C hs h2 dL_law_814 rfl ?_
  refine g_aload_n (pc' := 816) C dL_law_815 rfl rfl ?_
  refine g_iload_n (pc' := 817) C dL_law_816 rfl rfl ?_
  refine g_iconst (pc' := 818) (v := 3) C dL_law_817 (by decide) rfl ?_
  refine g_iadd (pc' := 819) C dL_law_818 rfl ?_
  refine g_sld (pc' := 820) C hs h3 dL_law_819 rfl ?_
  refine g_aload_n (pc' := 821) C dL_law_820 rfl rfl ?_
  refine g_iload_n (pc' := 822) C dL_law_821 rfl rfl ?_
  refine g_iconst (pc' := 823) (v := 4) C dL_law_822 (by decide) rfl ?_
  refine g_iadd (pc' := 824) C dL_law_823 rfl ?_
  refine g_sld (pc' := 825) C hs h4 dL_law_824 rfl ?_
  refine G_callVI (pc' := 828) C (As := [.int ((xs (i + (1 : Int32)).toNatClampNeg)), .int ((xs (i + (2 : Int32)).toNatClampNeg)), .int ((xs (i + (3 : Int32)).toNatClampNeg)), .int ((xs (i + (4 : Int32)).toNatClampNeg))]) (c_X6_ifDragged (gl X) (gD X) (gcA X) a N M ((xs (i + (1 : Int32)).toNatClampNeg)) ((xs (i + (2 : Int32)).toNatClampNeg)) ((xs (i + (3 : Int32)).toNatClampNeg)) ((xs (i + (4 : Int32)).toNatClampNeg)) r Mz e2) gL_law_X6_ifDragged rfl nd_X6_ifDragged ⟨Nat.le_of_ble_eq_true rfl, Nat.le_of_ble_eq_true rfl⟩ (q0 := 0) rfl rfl (is := [10]) rfl (by decide) rfl rfl (Nat.le_of_ble_eq_true rfl) rfl dL_law_825 rfl ?_
  show G X _ [ntW pa Tn, bdW (gcA X) (pa 1) B, hsW (gcA X) (pa 2) (fun j => pa (10 + j)) Hs, bdW (gcA X) (pa 3) Sn, txW (gcA X) (pa 4) Tx, bdW (gcA X) (pa 5) Trz, heW (gcA X) (pa 6) Ez, heW (gcA X) (pa 7) Fz, nmW (gcA X) (pa 8) Nm, btW (pa 9) (pa 5 0) Bt, mdW (gcA X) a Mz] _ _ _
  refine g_icmp_eq (pc' := 831) (tgt := 902) (T := some ()) (F := (none : Option Unit)) (res := ()) C dL_law_828 (by decide) rfl (if_pos rfl) (fun c h => ?_) (fun c h => absurd rfl c)
  exact kk Tn B Hs Sn Tx Trz Ez Fz Nm Bt Mz hR
set_option maxRecDepth 100000 in
set_option maxHeartbeats 4000000 in
theorem lc_reachFor {X : gX} {Q : State → Prop} (C : cx X RL cL_law 4 ret wsL_law 9 322) (hf : cf X) {b n : Nat} {xs : Nat → Int32} (hs : sX X b n xs) (pa : tP) (a : Nat → Nat) (i : Int32) (h1 : vp_in (i + 1) n) (h2 : vp_in (i + 2) n) (h3 : vp_in (i + 3) n) (h4 : vp_in (i + 4) n) {N : Nat} (hN : 1000 ≤ N) {Tn B Sn Tx Tr E F Nm Bt M : tS} {Hs : tH} (hR : Rel Tn B Hs Sn Tx Tr E F Nm Bt M) (kk : ∀ (Tn : tS) (B : tS) (Hs : tH) (Sn : tS) (Tx : tS) (Tr : tS) (E : tS) (F : tS) (Nm : tS) (Bt : tS) (M : tS), Rel Tn B Hs Sn Tx Tr E F Nm Bt M → G X Q [ntW pa Tn, bdW (gcA X) (pa 1) B, hsW (gcA X) (pa 2) (fun j => pa (10 + j)) Hs, bdW (gcA X) (pa 3) Sn, txW (gcA X) (pa 4) Tx, bdW (gcA X) (pa 5) Tr, heW (gcA X) (pa 6) E, heW (gcA X) (pa 7) F, nmW (gcA X) (pa 8) Nm, btW (pa 9) (pa 5 0) Bt, mdW (gcA X) a M] [some (.ref b), some (.ref (pa 0 0)), some (.ref (a 0)), some (.int i)] [] 902) : G X Q [ntW pa Tn, bdW (gcA X) (pa 1) B, hsW (gcA X) (pa 2) (fun j => pa (10 + j)) Hs, bdW (gcA X) (pa 3) Sn, txW (gcA X) (pa 4) Tx, bdW (gcA X) (pa 5) Tr, heW (gcA X) (pa 6) E, heW (gcA X) (pa 7) F, nmW (gcA X) (pa 8) Nm, btW (pa 9) (pa 5 0) Bt, mdW (gcA X) a M] [some (.ref b), some (.ref (pa 0 0)), some (.ref (a 0)), some (.int i)] [] 833 := by
  obtain ⟨r, Fz, Mz, e1, e2, hR⟩ := m_reachFor hN hR ((xs (i + (1 : Int32)).toNatClampNeg))
  refine g_aload_n (pc' := 834) C dL_law_833 rfl rfl ?_
  refine g_aload_n (pc' := 835) C dL_law_834 rfl rfl ?_
  refine g_iload_n (pc' := 836) C dL_law_835 rfl rfl ?_
  refine g_iconst (pc' := 837) (v := 1) C dL_law_836 (by decide) rfl ?_
  refine g_iadd (pc' := 838) C dL_law_837 rfl ?_
  refine g_sld (pc' := 839) C hs h1 dL_law_838 rfl ?_
  refine G_callVI (pc' := 842) C (As := [.int ((xs (i + (1 : Int32)).toNatClampNeg))]) (c_X5_reachFor (gl X) (gD X) (gcA X) pa N Tn B F ((xs (i + (1 : Int32)).toNatClampNeg)) r Fz e1) gL_law_X5_reachFor rfl nd_X5_reachFor ⟨Nat.le_of_ble_eq_true rfl, Nat.le_of_ble_eq_true rfl⟩ (q0 := 0) rfl rfl (is := [0, 1, 7]) rfl (by decide) rfl rfl (Nat.le_of_ble_eq_true rfl) rfl dL_law_839 rfl ?_
  show G X _ [ntW pa Tn, bdW (gcA X) (pa 1) B, hsW (gcA X) (pa 2) (fun j => pa (10 + j)) Hs, bdW (gcA X) (pa 3) Sn, txW (gcA X) (pa 4) Tx, bdW (gcA X) (pa 5) Tr, heW (gcA X) (pa 6) E, heW (gcA X) (pa 7) Fz, nmW (gcA X) (pa 8) Nm, btW (pa 9) (pa 5 0) Bt, mdW (gcA X) a M] _ _ _
  refine g_aload_n (pc' := 843) C dL_law_842 rfl rfl ?_
  refine g_aload_n (pc' := 844) C dL_law_843 rfl rfl ?_
  refine g_iload_n (pc' := 845) C dL_law_844 rfl rfl ?_
  refine g_iconst (pc' := 846) (v := 1) C dL_law_845 (by decide) rfl ?_
  refine g_iadd (pc' := 847) C dL_law_846 rfl ?_
  refine g_sld (pc' := 848) C hs h1 dL_law_847 rfl ?_
  refine G_callVI (pc' := 851) C (As := [.int ((xs (i + (1 : Int32)).toNatClampNeg))]) (c_X6_reachFor (gl X) (gD X) (gcA X) a N M ((xs (i + (1 : Int32)).toNatClampNeg)) r Mz e2) gL_law_X6_reachFor rfl nd_X6_reachFor ⟨Nat.le_of_ble_eq_true rfl, Nat.le_of_ble_eq_true rfl⟩ (q0 := 0) rfl rfl (is := [10]) rfl (by decide) rfl rfl (Nat.le_of_ble_eq_true rfl) rfl dL_law_848 rfl ?_
  show G X _ [ntW pa Tn, bdW (gcA X) (pa 1) B, hsW (gcA X) (pa 2) (fun j => pa (10 + j)) Hs, bdW (gcA X) (pa 3) Sn, txW (gcA X) (pa 4) Tx, bdW (gcA X) (pa 5) Tr, heW (gcA X) (pa 6) E, heW (gcA X) (pa 7) Fz, nmW (gcA X) (pa 8) Nm, btW (pa 9) (pa 5 0) Bt, mdW (gcA X) a Mz] _ _ _
  refine g_icmp_eq (pc' := 854) (tgt := 902) (T := some ()) (F := (none : Option Unit)) (res := ()) C dL_law_851 (by decide) rfl (if_pos rfl) (fun c h => ?_) (fun c h => absurd rfl c)
  exact kk Tn B Hs Sn Tx Tr E Fz Nm Bt Mz hR
set_option maxRecDepth 100000 in
set_option maxHeartbeats 4000000 in
theorem lc_nearest {X : gX} {Q : State → Prop} (C : cx X RL cL_law 4 ret wsL_law 9 322) (hf : cf X) {b n : Nat} {xs : Nat → Int32} (hs : sX X b n xs) (pa : tP) (a : Nat → Nat) (i : Int32) (h1 : vp_in (i + 1) n) (h2 : vp_in (i + 2) n) (h3 : vp_in (i + 3) n) (h4 : vp_in (i + 4) n) {N : Nat} (hN : 1000 ≤ N) {Tn B Sn Tx Tr E F Nm Bt M : tS} {Hs : tH} (hR : Rel Tn B Hs Sn Tx Tr E F Nm Bt M) (kk : ∀ (Tn : tS) (B : tS) (Hs : tH) (Sn : tS) (Tx : tS) (Tr : tS) (E : tS) (F : tS) (Nm : tS) (Bt : tS) (M : tS), Rel Tn B Hs Sn Tx Tr E F Nm Bt M → G X Q [ntW pa Tn, bdW (gcA X) (pa 1) B, hsW (gcA X) (pa 2) (fun j => pa (10 + j)) Hs, bdW (gcA X) (pa 3) Sn, txW (gcA X) (pa 4) Tx, bdW (gcA X) (pa 5) Tr, heW (gcA X) (pa 6) E, heW (gcA X) (pa 7) F, nmW (gcA X) (pa 8) Nm, btW (pa 9) (pa 5 0) Bt, mdW (gcA X) a M] [some (.ref b), some (.ref (pa 0 0)), some (.ref (a 0)), some (.int i)] [] 902) : G X Q [ntW pa Tn, bdW (gcA X) (pa 1) B, hsW (gcA X) (pa 2) (fun j => pa (10 + j)) Hs, bdW (gcA X) (pa 3) Sn, txW (gcA X) (pa 4) Tx, bdW (gcA X) (pa 5) Tr, heW (gcA X) (pa 6) E, heW (gcA X) (pa 7) F, nmW (gcA X) (pa 8) Nm, btW (pa 9) (pa 5 0) Bt, mdW (gcA X) a M] [some (.ref b), some (.ref (pa 0 0)), some (.ref (a 0)), some (.int i)] [] 856 := by
  obtain ⟨r, e1, e2, hR⟩ := m_nearest hN hR ((xs (i + (1 : Int32)).toNatClampNeg))
  refine g_aload_n (pc' := 857) C dL_law_856 rfl rfl ?_
  refine g_aload_n (pc' := 858) C dL_law_857 rfl rfl ?_
  refine g_iload_n (pc' := 859) C dL_law_858 rfl rfl ?_
  refine g_iconst (pc' := 860) (v := 1) C dL_law_859 (by decide) rfl ?_
  refine g_iadd (pc' := 861) C dL_law_860 rfl ?_
  refine g_sld (pc' := 862) C hs h1 dL_law_861 rfl ?_
  refine G_callVI (pc' := 865) C (As := [.int ((xs (i + (1 : Int32)).toNatClampNeg))]) (c_X5_nearest (gl X) (gD X) (gcA X) pa N Tn B ((xs (i + (1 : Int32)).toNatClampNeg)) r e1) gL_law_X5_nearest rfl nd_X5_nearest ⟨Nat.le_of_ble_eq_true rfl, Nat.le_of_ble_eq_true rfl⟩ (q0 := 0) rfl rfl (is := [0, 1]) rfl (by decide) rfl rfl (Nat.le_of_ble_eq_true rfl) rfl dL_law_862 rfl ?_
  show G X _ [ntW pa Tn, bdW (gcA X) (pa 1) B, hsW (gcA X) (pa 2) (fun j => pa (10 + j)) Hs, bdW (gcA X) (pa 3) Sn, txW (gcA X) (pa 4) Tx, bdW (gcA X) (pa 5) Tr, heW (gcA X) (pa 6) E, heW (gcA X) (pa 7) F, nmW (gcA X) (pa 8) Nm, btW (pa 9) (pa 5 0) Bt, mdW (gcA X) a M] _ _ _
  refine g_aload_n (pc' := 866) C dL_law_865 rfl rfl ?_
  refine g_aload_n (pc' := 867) C dL_law_866 rfl rfl ?_
  refine g_iload_n (pc' := 868) C dL_law_867 rfl rfl ?_
  refine g_iconst (pc' := 869) (v := 1) C dL_law_868 (by decide) rfl ?_
  refine g_iadd (pc' := 870) C dL_law_869 rfl ?_
  refine g_sld (pc' := 871) C hs h1 dL_law_870 rfl ?_
  refine G_callVI (pc' := 874) C (As := [.int ((xs (i + (1 : Int32)).toNatClampNeg))]) (c_X6_nearest (gl X) (gD X) (gcA X) a N M ((xs (i + (1 : Int32)).toNatClampNeg)) r e2) gL_law_X6_nearest rfl nd_X6_nearest ⟨Nat.le_of_ble_eq_true rfl, Nat.le_of_ble_eq_true rfl⟩ (q0 := 0) rfl rfl (is := [10]) rfl (by decide) rfl rfl (Nat.le_of_ble_eq_true rfl) rfl dL_law_871 rfl ?_
  show G X _ [ntW pa Tn, bdW (gcA X) (pa 1) B, hsW (gcA X) (pa 2) (fun j => pa (10 + j)) Hs, bdW (gcA X) (pa 3) Sn, txW (gcA X) (pa 4) Tx, bdW (gcA X) (pa 5) Tr, heW (gcA X) (pa 6) E, heW (gcA X) (pa 7) F, nmW (gcA X) (pa 8) Nm, btW (pa 9) (pa 5 0) Bt, mdW (gcA X) a M] _ _ _
  refine g_icmp_eq (pc' := 877) (tgt := 902) (T := some ()) (F := (none : Option Unit)) (res := ()) C dL_law_874 (by decide) rfl (if_pos rfl) (fun c h => ?_) (fun c h => absurd rfl c)
  exact kk Tn B Hs Sn Tx Tr E F Nm Bt M hR
set_option maxRecDepth 100000 in
set_option maxHeartbeats 4000000 in
theorem lc_count {X : gX} {Q : State → Prop} (C : cx X RL cL_law 4 ret wsL_law 9 322) (hf : cf X) {b n : Nat} {xs : Nat → Int32} (hs : sX X b n xs) (pa : tP) (a : Nat → Nat) (i : Int32) (h1 : vp_in (i + 1) n) (h2 : vp_in (i + 2) n) (h3 : vp_in (i + 3) n) (h4 : vp_in (i + 4) n) {N : Nat} (hN : 1000 ≤ N) {Tn B Sn Tx Tr E F Nm Bt M : tS} {Hs : tH} (hR : Rel Tn B Hs Sn Tx Tr E F Nm Bt M) (kk : ∀ (Tn : tS) (B : tS) (Hs : tH) (Sn : tS) (Tx : tS) (Tr : tS) (E : tS) (F : tS) (Nm : tS) (Bt : tS) (M : tS), Rel Tn B Hs Sn Tx Tr E F Nm Bt M → G X Q [ntW pa Tn, bdW (gcA X) (pa 1) B, hsW (gcA X) (pa 2) (fun j => pa (10 + j)) Hs, bdW (gcA X) (pa 3) Sn, txW (gcA X) (pa 4) Tx, bdW (gcA X) (pa 5) Tr, heW (gcA X) (pa 6) E, heW (gcA X) (pa 7) F, nmW (gcA X) (pa 8) Nm, btW (pa 9) (pa 5 0) Bt, mdW (gcA X) a M] [some (.ref b), some (.ref (pa 0 0)), some (.ref (a 0)), some (.int i)] [] 902) : G X Q [ntW pa Tn, bdW (gcA X) (pa 1) B, hsW (gcA X) (pa 2) (fun j => pa (10 + j)) Hs, bdW (gcA X) (pa 3) Sn, txW (gcA X) (pa 4) Tx, bdW (gcA X) (pa 5) Tr, heW (gcA X) (pa 6) E, heW (gcA X) (pa 7) F, nmW (gcA X) (pa 8) Nm, btW (pa 9) (pa 5 0) Bt, mdW (gcA X) a M] [some (.ref b), some (.ref (pa 0 0)), some (.ref (a 0)), some (.int i)] [] 879 := by
  obtain ⟨r, Ez, Nmz, Mz, e1, e2, hR⟩ := m_count hN hR ((xs (i + (1 : Int32)).toNatClampNeg))
  refine g_aload_n (pc' := 880) C dL_law_879 rfl rfl ?_
  refine g_aload_n (pc' := 881) C dL_law_880 rfl rfl ?_
  refine g_iload_n (pc' := 882) C dL_law_881 rfl rfl ?_
  refine g_iconst (pc' := 883) (v := 1) C dL_law_882 (by decide) rfl ?_
  refine g_iadd (pc' := 884) C dL_law_883 rfl ?_
  refine g_sld (pc' := 885) C hs h1 dL_law_884 rfl ?_
  refine G_callVI (pc' := 888) C (As := [.int ((xs (i + (1 : Int32)).toNatClampNeg))]) (c_X5_count (gl X) (gD X) (gcA X) pa N Tn B Hs E Nm ((xs (i + (1 : Int32)).toNatClampNeg)) r Ez Nmz e1) gL_law_X5_count rfl nd_X5_count ⟨Nat.le_of_ble_eq_true rfl, Nat.le_of_ble_eq_true rfl⟩ (q0 := 0) rfl rfl (is := [0, 1, 2, 6, 8]) rfl (by decide) rfl rfl (Nat.le_of_ble_eq_true rfl) rfl dL_law_885 rfl ?_
  show G X _ [ntW pa Tn, bdW (gcA X) (pa 1) B, hsW (gcA X) (pa 2) (fun j => pa (10 + j)) Hs, bdW (gcA X) (pa 3) Sn, txW (gcA X) (pa 4) Tx, bdW (gcA X) (pa 5) Tr, heW (gcA X) (pa 6) Ez, heW (gcA X) (pa 7) F, nmW (gcA X) (pa 8) Nmz, btW (pa 9) (pa 5 0) Bt, mdW (gcA X) a M] _ _ _
  refine g_aload_n (pc' := 889) C dL_law_888 rfl rfl ?_
  refine g_aload_n (pc' := 890) C dL_law_889 rfl rfl ?_
  refine g_iload_n (pc' := 891) C dL_law_890 rfl rfl ?_
  refine g_iconst (pc' := 892) (v := 1) C dL_law_891 (by decide) rfl ?_
  refine g_iadd (pc' := 893) C dL_law_892 rfl ?_
  refine g_sld (pc' := 894) C hs h1 dL_law_893 rfl ?_
  refine G_callVI (pc' := 897) C (As := [.int ((xs (i + (1 : Int32)).toNatClampNeg))]) (c_X6_count (gl X) (gD X) (gcA X) a N M ((xs (i + (1 : Int32)).toNatClampNeg)) r Mz e2) gL_law_X6_count rfl nd_X6_count ⟨Nat.le_of_ble_eq_true rfl, Nat.le_of_ble_eq_true rfl⟩ (q0 := 0) rfl rfl (is := [10]) rfl (by decide) rfl rfl (Nat.le_of_ble_eq_true rfl) rfl dL_law_894 rfl ?_
  show G X _ [ntW pa Tn, bdW (gcA X) (pa 1) B, hsW (gcA X) (pa 2) (fun j => pa (10 + j)) Hs, bdW (gcA X) (pa 3) Sn, txW (gcA X) (pa 4) Tx, bdW (gcA X) (pa 5) Tr, heW (gcA X) (pa 6) Ez, heW (gcA X) (pa 7) F, nmW (gcA X) (pa 8) Nmz, btW (pa 9) (pa 5 0) Bt, mdW (gcA X) a Mz] _ _ _
  refine g_icmp_eq (pc' := 900) (tgt := 902) (T := some ()) (F := (none : Option Unit)) (res := ()) C dL_law_897 (by decide) rfl (if_pos rfl) (fun c h => ?_) (fun c h => absurd rfl c)
  exact kk Tn B Hs Sn Tx Tr Ez F Nmz Bt Mz hR
