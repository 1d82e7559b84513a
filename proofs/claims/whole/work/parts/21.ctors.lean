/-! constructors -/
def iB : tS := fun k => if k = 7 then va_cpy FSf (fun _ => 0) 0 0 3 else fun _ => 0
def iZ : tS := fun _ _ => 0
def iK : tS := fun k => if k = 3 then fun _ => (-1) else fun _ => 0
def iH : tH := (0, fun i => i, fun _ => iB)
def iM : tS := fun k => if k = 0 then upd (upd (upd (fun _ => 0) (2 : Int32).toNatClampNeg 3) (3 : Int32).toNatClampNeg 4) (4 : Int32).toNatClampNeg 2 else fun _ => 0
theorem hfs_X0 : ∀ j, j < 8 → defaultValue (tyX0 j) = vp_V [.int 0, .null, .null, .null, .null, .int 0, .null, .null] j := fun j hj => by rcases (show j = 0 ∨ j = 1 ∨ j = 2 ∨ j = 3 ∨ j = 4 ∨ j = 5 ∨ j = 6 ∨ j = 7 by omega) with rfl | rfl | rfl | rfl | rfl | rfl | rfl | rfl <;> rfl
theorem hfs_X1 : ∀ j, j < 5 → defaultValue (tyX1 j) = vp_V [.null, .int 0, .int 0, .int 0, .int 0] j := fun j hj => by rcases (show j = 0 ∨ j = 1 ∨ j = 2 ∨ j = 3 ∨ j = 4 by omega) with rfl | rfl | rfl | rfl | rfl <;> rfl
theorem hfs_X2 : ∀ j, j < 4 → defaultValue (tyX2 j) = vp_V [.int 0, .int 0, .null, .null] j := fun j hj => by rcases (show j = 0 ∨ j = 1 ∨ j = 2 ∨ j = 3 by omega) with rfl | rfl | rfl | rfl <;> rfl
theorem hfs_X3 : ∀ j, j < 2 → defaultValue (tyX3 j) = vp_V [.int 0, .null] j := fun j hj => by rcases (show j = 0 ∨ j = 1 by omega) with rfl | rfl <;> rfl
theorem hfs_X4 : ∀ j, j < 1 → defaultValue (tyX4 j) = vp_V [.null] j := fun j hj => by rcases (show j = 0 by omega) with rfl <;> rfl
theorem hfs_X5 : ∀ j, j < 11 → defaultValue (tyX5 j) = vp_V [.null, .null, .null, .int 0, .null, .int 0, .null, .null, .null, .null, .null] j := fun j hj => by rcases (show j = 0 ∨ j = 1 ∨ j = 2 ∨ j = 3 ∨ j = 4 ∨ j = 5 ∨ j = 6 ∨ j = 7 ∨ j = 8 ∨ j = 9 ∨ j = 10 by omega) with rfl | rfl | rfl | rfl | rfl | rfl | rfl | rfl | rfl | rfl | rfl <;> rfl
theorem hfs_X6 : ∀ j, j < 15 → defaultValue (tyX6 j) = vp_V [.null, .null, .int 0, .null, .int 0, .null, .int 0, .null, .null, .int 0, .int 0, .int 0, .null, .int 0, .null] j := fun j hj => by rcases (show j = 0 ∨ j = 1 ∨ j = 2 ∨ j = 3 ∨ j = 4 ∨ j = 5 ∨ j = 6 ∨ j = 7 ∨ j = 8 ∨ j = 9 ∨ j = 10 ∨ j = 11 ∨ j = 12 ∨ j = 13 ∨ j = 14 by omega) with rfl | rfl | rfl | rfl | rfl | rfl | rfl | rfl | rfl | rfl | rfl | rfl | rfl | rfl | rfl <;> rfl
theorem hi_X0_init_X0 : ∀ w ∈ wsX00, w ∈ wsX0_init := fun w h => List.mem_cons_of_mem _ (List.mem_append_right _ h)
theorem lk_X0_init_1 : Cond.methodLink RX0 3 objectInit ∈ wsX0_init := List.mem_of_getElem? (i := 1) rfl
theorem lk_X0_init_10 : Cond.fieldLink RX0 28 "NoteThemes$Board" "themes" "I" ∈ wsX0_init := List.mem_of_getElem? (i := 10) rfl
theorem lk_X0_init_11 : Cond.fieldLink RX0 31 "NoteThemes$Board" "votedAt" "[I" ∈ wsX0_init := List.mem_of_getElem? (i := 11) rfl
theorem lk_X0_init_12 : Cond.fieldLink RX0 34 "NoteThemes$Board" "settings" "[I" ∈ wsX0_init := List.mem_of_getElem? (i := 12) rfl
theorem lk_X0_init_13 : Cond.methodLink RX0 40 arraycopyName ∈ wsX0_init := List.mem_of_getElem? (i := 13) rfl
theorem lk_X0_init_14 : Cond.native arraycopyName ∈ wsX0_init := List.mem_of_getElem? (i := 14) rfl
theorem lk_X0_init_15 : Cond.static arraycopyName ∈ wsX0_init := List.mem_of_getElem? (i := 15) rfl
theorem lk_X0_init_16 : Cond.initialized "java/lang/System" ∈ wsX0_init := List.mem_of_getElem? (i := 16) rfl
theorem lk_X0_init_2 : Cond.instanceMethod objectInit ∈ wsX0_init := List.mem_of_getElem? (i := 2) rfl
theorem lk_X0_init_3 : Cond.code objectInit ⟨#[0xb1]⟩ 1 none ∈ wsX0_init := List.mem_of_getElem? (i := 3) rfl
theorem lk_X0_init_4 : Cond.fieldLink RX0 9 "NoteThemes$Board" "notes" "I" ∈ wsX0_init := List.mem_of_getElem? (i := 4) rfl
theorem lk_X0_init_5 : Cond.arrayClass .int ∈ wsX0_init := List.mem_of_getElem? (i := 5) rfl
theorem lk_X0_init_6 : Cond.fieldLink RX0 15 "NoteThemes$Board" "columnOf" "[I" ∈ wsX0_init := List.mem_of_getElem? (i := 6) rfl
theorem lk_X0_init_7 : Cond.fieldLink RX0 19 "NoteThemes$Board" "rowOf" "[I" ∈ wsX0_init := List.mem_of_getElem? (i := 7) rfl
theorem lk_X0_init_8 : Cond.fieldLink RX0 22 "NoteThemes$Board" "themeOf" "[I" ∈ wsX0_init := List.mem_of_getElem? (i := 8) rfl
theorem lk_X0_init_9 : Cond.fieldLink RX0 25 "NoteThemes$Board" "dotsAt" "[I" ∈ wsX0_init := List.mem_of_getElem? (i := 9) rfl
set_option maxRecDepth 100000 in
set_option maxHeartbeats 8000000 in
theorem B_X0_init {X : gX} (C : cx X RX0 cX0_init 1 none wsX0_init 1 30) (hcn : cn X) (hf : cf X) (hkc : (gR X).cells = 6) (hks : (gR X).slots = 231) (h0 : Nat) : GN X 0 0 (QC X (fun a => [bdW (gcA X) (va_up (a 0) 0 h0) iB])) [[(h0, .inr (0, [.int 0, .null, .null, .null, .null, .int 0, .null, .null]))]] [some (.ref h0)] [] 0 := by
  refine g_aload_n (pc' := 1) C dX0_init_0 rfl rfl ?_
  refine g_oinit (pc' := 4) C lk_X0_init_1 lk_X0_init_2 lk_X0_init_3 ⟨Nat.le_of_ble_eq_true rfl, Nat.le_of_ble_eq_true rfl⟩ rfl dX0_init_1 rfl ?_
  refine g_aload_n (pc' := 5) C dX0_init_4 rfl rfl ?_
  refine g_iconst (pc' := 6) (v := 0) C dX0_init_5 (by decide) rfl ?_
  refine G_put (pc' := 9) C (i := 0) (j := 0) (k := 0) (N := 8) (ci := 0) (T := TX0) (Cn := RX0) (ty0 := tyX0) (w' := [(h0, .inr (0, [.int 0, .null, .null, .null, .null, .int 0, .null, .null]))]) rfl rfl rfl (by decide) (Nat.le_of_ble_eq_true rfl) rfl tyX0_ok nmX0 rfl (tyX0_ok 0 (by decide)) rfl rfl hi_X0_init_X0 lk_X0_init_4 dX0_init_6 rfl ?_
  show GN X 0 0 _ [[(h0, .inr (0, [.int 0, .null, .null, .null, .null, .int 0, .null, .null]))]] _ _ _
  refine g_aload_n (pc' := 10) C dX0_init_9 rfl rfl ?_
  refine g_bipush (pc' := 12) (v := 20) C dX0_init_10 (by decide) rfl ?_
  refine g_newa (pc' := 14) (kc' := 1) (ks' := 20) C 0 20 rfl (fun _ => rfl) lk_X0_init_5 (by decide) (by decide) (by decide) (by rw [hkc]; decide) (by rw [hks]; decide) rfl rfl dX0_init_12 rfl (fun q1 => ?_)
  show GN X 1 20 _ [[(h0, .inr (0, [.int 0, .null, .null, .null, .null, .int 0, .null, .null]))], [(q1, .inl (gcA X 0, 20, .inl (fun _ => 0)))]] _ _ _
  refine G_putF (pc' := 17) C hcn (i := 0) (j := 0) (k := 1) (N := 8) (ci := 0) (T := TX0) (Cn := RX0) (ty0 := tyX0) (w' := [(h0, .inr (0, [.int 0, .ref q1, .null, .null, .null, .int 0, .null, .null]))]) rfl rfl rfl (by decide) (Nat.le_of_ble_eq_true rfl) rfl tyX0_ok nmX0 rfl rfl (tyX0_ok 1 (by decide)) rfl rfl hi_X0_init_X0 lk_X0_init_6 dX0_init_14 rfl ?_
  show GN X 1 20 _ [[(h0, .inr (0, [.int 0, .ref q1, .null, .null, .null, .int 0, .null, .null]))], [(q1, .inl (gcA X 0, 20, .inl (fun _ => 0)))]] _ _ _
  refine g_aload_n (pc' := 18) C dX0_init_17 rfl rfl ?_
  refine g_bipush (pc' := 20) (v := 20) C dX0_init_18 (by decide) rfl ?_
  refine g_newa (pc' := 22) (kc' := 2) (ks' := 40) C 0 20 rfl (fun _ => rfl) lk_X0_init_5 (by decide) (by decide) (by decide) (by rw [hkc]; decide) (by rw [hks]; decide) rfl rfl dX0_init_20 rfl (fun q2 => ?_)
  show GN X 2 40 _ [[(h0, .inr (0, [.int 0, .ref q1, .null, .null, .null, .int 0, .null, .null]))], [(q1, .inl (gcA X 0, 20, .inl (fun _ => 0)))], [(q2, .inl (gcA X 0, 20, .inl (fun _ => 0)))]] _ _ _
  refine G_putF (pc' := 25) C hcn (i := 0) (j := 0) (k := 2) (N := 8) (ci := 0) (T := TX0) (Cn := RX0) (ty0 := tyX0) (w' := [(h0, .inr (0, [.int 0, .ref q1, .ref q2, .null, .null, .int 0, .null, .null]))]) rfl rfl rfl (by decide) (Nat.le_of_ble_eq_true rfl) rfl tyX0_ok nmX0 rfl rfl (tyX0_ok 2 (by decide)) rfl rfl hi_X0_init_X0 lk_X0_init_7 dX0_init_22 rfl ?_
  show GN X 2 40 _ [[(h0, .inr (0, [.int 0, .ref q1, .ref q2, .null, .null, .int 0, .null, .null]))], [(q1, .inl (gcA X 0, 20, .inl (fun _ => 0)))], [(q2, .inl (gcA X 0, 20, .inl (fun _ => 0)))]] _ _ _
  refine g_aload_n (pc' := 26) C dX0_init_25 rfl rfl ?_
  refine g_bipush (pc' := 28) (v := 20) C dX0_init_26 (by decide) rfl ?_
  refine g_newa (pc' := 30) (kc' := 3) (ks' := 60) C 0 20 rfl (fun _ => rfl) lk_X0_init_5 (by decide) (by decide) (by decide) (by rw [hkc]; decide) (by rw [hks]; decide) rfl rfl dX0_init_28 rfl (fun q3 => ?_)
  show GN X 3 60 _ [[(h0, .inr (0, [.int 0, .ref q1, .ref q2, .null, .null, .int 0, .null, .null]))], [(q1, .inl (gcA X 0, 20, .inl (fun _ => 0)))], [(q2, .inl (gcA X 0, 20, .inl (fun _ => 0)))], [(q3, .inl (gcA X 0, 20, .inl (fun _ => 0)))]] _ _ _
  refine G_putF (pc' := 33) C hcn (i := 0) (j := 0) (k := 3) (N := 8) (ci := 0) (T := TX0) (Cn := RX0) (ty0 := tyX0) (w' := [(h0, .inr (0, [.int 0, .ref q1, .ref q2, .ref q3, .null, .int 0, .null, .null]))]) rfl rfl rfl (by decide) (Nat.le_of_ble_eq_true rfl) rfl tyX0_ok nmX0 rfl rfl (tyX0_ok 3 (by decide)) rfl rfl hi_X0_init_X0 lk_X0_init_8 dX0_init_30 rfl ?_
  show GN X 3 60 _ [[(h0, .inr (0, [.int 0, .ref q1, .ref q2, .ref q3, .null, .int 0, .null, .null]))], [(q1, .inl (gcA X 0, 20, .inl (fun _ => 0)))], [(q2, .inl (gcA X 0, 20, .inl (fun _ => 0)))], [(q3, .inl (gcA X 0, 20, .inl (fun _ => 0)))]] _ _ _
  refine g_aload_n (pc' := 34) C dX0_init_33 rfl rfl ?_
  refine g_bipush (pc' := 36) (v := 120) C dX0_init_34 (by decide) rfl ?_
  refine g_newa (pc' := 38) (kc' := 4) (ks' := 180) C 0 120 rfl (fun _ => rfl) lk_X0_init_5 (by decide) (by decide) (by decide) (by rw [hkc]; decide) (by rw [hks]; decide) rfl rfl dX0_init_36 rfl (fun q4 => ?_)
  show GN X 4 180 _ [[(h0, .inr (0, [.int 0, .ref q1, .ref q2, .ref q3, .null, .int 0, .null, .null]))], [(q1, .inl (gcA X 0, 20, .inl (fun _ => 0)))], [(q2, .inl (gcA X 0, 20, .inl (fun _ => 0)))], [(q3, .inl (gcA X 0, 20, .inl (fun _ => 0)))], [(q4, .inl (gcA X 0, 120, .inl (fun _ => 0)))]] _ _ _
  refine G_putF (pc' := 41) C hcn (i := 0) (j := 0) (k := 4) (N := 8) (ci := 0) (T := TX0) (Cn := RX0) (ty0 := tyX0) (w' := [(h0, .inr (0, [.int 0, .ref q1, .ref q2, .ref q3, .ref q4, .int 0, .null, .null]))]) rfl rfl rfl (by decide) (Nat.le_of_ble_eq_true rfl) rfl tyX0_ok nmX0 rfl rfl (tyX0_ok 4 (by decide)) rfl rfl hi_X0_init_X0 lk_X0_init_9 dX0_init_38 rfl ?_
  show GN X 4 180 _ [[(h0, .inr (0, [.int 0, .ref q1, .ref q2, .ref q3, .ref q4, .int 0, .null, .null]))], [(q1, .inl (gcA X 0, 20, .inl (fun _ => 0)))], [(q2, .inl (gcA X 0, 20, .inl (fun _ => 0)))], [(q3, .inl (gcA X 0, 20, .inl (fun _ => 0)))], [(q4, .inl (gcA X 0, 120, .inl (fun _ => 0)))]] _ _ _
  refine g_aload_n (pc' := 42) C dX0_init_41 rfl rfl ?_
  refine g_iconst (pc' := 43) (v := 0) C dX0_init_42 (by decide) rfl ?_
  refine G_put (pc' := 46) C (i := 0) (j := 0) (k := 5) (N := 8) (ci := 0) (T := TX0) (Cn := RX0) (ty0 := tyX0) (w' := [(h0, .inr (0, [.int 0, .ref q1, .ref q2, .ref q3, .ref q4, .int 0, .null, .null]))]) rfl rfl rfl (by decide) (Nat.le_of_ble_eq_true rfl) rfl tyX0_ok nmX0 rfl (tyX0_ok 5 (by decide)) rfl rfl hi_X0_init_X0 lk_X0_init_10 dX0_init_43 rfl ?_
  show GN X 4 180 _ [[(h0, .inr (0, [.int 0, .ref q1, .ref q2, .ref q3, .ref q4, .int 0, .null, .null]))], [(q1, .inl (gcA X 0, 20, .inl (fun _ => 0)))], [(q2, .inl (gcA X 0, 20, .inl (fun _ => 0)))], [(q3, .inl (gcA X 0, 20, .inl (fun _ => 0)))], [(q4, .inl (gcA X 0, 120, .inl (fun _ => 0)))]] _ _ _
  refine g_aload_n (pc' := 47) C dX0_init_46 rfl rfl ?_
  refine g_bipush (pc' := 49) (v := 48) C dX0_init_47 (by decide) rfl ?_
  refine g_newa (pc' := 51) (kc' := 5) (ks' := 228) C 0 48 rfl (fun _ => rfl) lk_X0_init_5 (by decide) (by decide) (by decide) (by rw [hkc]; decide) (by rw [hks]; decide) rfl rfl dX0_init_49 rfl (fun q5 => ?_)
  show GN X 5 228 _ [[(h0, .inr (0, [.int 0, .ref q1, .ref q2, .ref q3, .ref q4, .int 0, .null, .null]))], [(q1, .inl (gcA X 0, 20, .inl (fun _ => 0)))], [(q2, .inl (gcA X 0, 20, .inl (fun _ => 0)))], [(q3, .inl (gcA X 0, 20, .inl (fun _ => 0)))], [(q4, .inl (gcA X 0, 120, .inl (fun _ => 0)))], [(q5, .inl (gcA X 0, 48, .inl (fun _ => 0)))]] _ _ _
  refine G_putF (pc' := 54) C hcn (i := 0) (j := 0) (k := 6) (N := 8) (ci := 0) (T := TX0) (Cn := RX0) (ty0 := tyX0) (w' := [(h0, .inr (0, [.int 0, .ref q1, .ref q2, .ref q3, .ref q4, .int 0, .ref q5, .null]))]) rfl rfl rfl (by decide) (Nat.le_of_ble_eq_true rfl) rfl tyX0_ok nmX0 rfl rfl (tyX0_ok 6 (by decide)) rfl rfl hi_X0_init_X0 lk_X0_init_11 dX0_init_51 rfl ?_
  show GN X 5 228 _ [[(h0, .inr (0, [.int 0, .ref q1, .ref q2, .ref q3, .ref q4, .int 0, .ref q5, .null]))], [(q1, .inl (gcA X 0, 20, .inl (fun _ => 0)))], [(q2, .inl (gcA X 0, 20, .inl (fun _ => 0)))], [(q3, .inl (gcA X 0, 20, .inl (fun _ => 0)))], [(q4, .inl (gcA X 0, 120, .inl (fun _ => 0)))], [(q5, .inl (gcA X 0, 48, .inl (fun _ => 0)))]] _ _ _
  refine g_aload_n (pc' := 55) C dX0_init_54 rfl rfl ?_
  refine g_iconst (pc' := 56) (v := 3) C dX0_init_55 (by decide) rfl ?_
  refine g_newa (pc' := 58) (kc' := 6) (ks' := 231) C 0 3 rfl (fun _ => rfl) lk_X0_init_5 (by decide) (by decide) (by decide) (by rw [hkc]; decide) (by rw [hks]; decide) rfl rfl dX0_init_56 rfl (fun q6 => ?_)
  show GN X 6 231 _ [[(h0, .inr (0, [.int 0, .ref q1, .ref q2, .ref q3, .ref q4, .int 0, .ref q5, .null]))], [(q1, .inl (gcA X 0, 20, .inl (fun _ => 0)))], [(q2, .inl (gcA X 0, 20, .inl (fun _ => 0)))], [(q3, .inl (gcA X 0, 20, .inl (fun _ => 0)))], [(q4, .inl (gcA X 0, 120, .inl (fun _ => 0)))], [(q5, .inl (gcA X 0, 48, .inl (fun _ => 0)))], [(q6, .inl (gcA X 0, 3, .inl (fun _ => 0)))]] _ _ _
  refine G_putF (pc' := 61) C hcn (i := 0) (j := 0) (k := 7) (N := 8) (ci := 0) (T := TX0) (Cn := RX0) (ty0 := tyX0) (w' := [(h0, .inr (0, [.int 0, .ref q1, .ref q2, .ref q3, .ref q4, .int 0, .ref q5, .ref q6]))]) rfl rfl rfl (by decide) (Nat.le_of_ble_eq_true rfl) rfl tyX0_ok nmX0 rfl rfl (tyX0_ok 7 (by decide)) rfl rfl hi_X0_init_X0 lk_X0_init_12 dX0_init_58 rfl ?_
  show GN X 6 231 _ [[(h0, .inr (0, [.int 0, .ref q1, .ref q2, .ref q3, .ref q4, .int 0, .ref q5, .ref q6]))], [(q1, .inl (gcA X 0, 20, .inl (fun _ => 0)))], [(q2, .inl (gcA X 0, 20, .inl (fun _ => 0)))], [(q3, .inl (gcA X 0, 20, .inl (fun _ => 0)))], [(q4, .inl (gcA X 0, 120, .inl (fun _ => 0)))], [(q5, .inl (gcA X 0, 48, .inl (fun _ => 0)))], [(q6, .inl (gcA X 0, 3, .inl (fun _ => 0)))]] _ _ _
  refine g_fcopy (pc' := 74) (pc2 := 64) (pc3 := 71) C hf (i2 := 6) (j2 := 0) (w' := [(q6, .inl (gcA X 0, 3, .inl (va_cpy FSf (fun _ => 0) 0 0 3)))]) rfl rfl rfl (by decide) lk_X0_init_13 lk_X0_init_14 lk_X0_init_15 lk_X0_init_16 ⟨Nat.le_of_ble_eq_true rfl, Nat.le_of_ble_eq_true rfl⟩ rfl dX0_init_61 rfl dX0_init_71 rfl (fun t0 kk0 => ?_) ?_
  · refine g_iconst (pc' := 65) (v := 0) C dX0_init_64 (by decide) rfl ?_
    refine g_aload_n (pc' := 66) C dX0_init_65 rfl rfl ?_
    refine G_get (pc' := 69) C (i := 0) (j := 0) (k := 7) (N := 8) (ci := 0) (T := TX0) (Cn := RX0) rfl rfl rfl (by decide) rfl hi_X0_init_X0 lk_X0_init_12 dX0_init_66 rfl ?_
    refine g_iconst (pc' := 70) (v := 0) C dX0_init_69 (by decide) rfl ?_
    refine g_iconst (pc' := 71) (v := 3) C dX0_init_70 (by decide) rfl ?_
    exact kk0
  show GN X 6 231 _ [[(h0, .inr (0, [.int 0, .ref q1, .ref q2, .ref q3, .ref q4, .int 0, .ref q5, .ref q6]))], [(q1, .inl (gcA X 0, 20, .inl (fun _ => 0)))], [(q2, .inl (gcA X 0, 20, .inl (fun _ => 0)))], [(q3, .inl (gcA X 0, 20, .inl (fun _ => 0)))], [(q4, .inl (gcA X 0, 120, .inl (fun _ => 0)))], [(q5, .inl (gcA X 0, 48, .inl (fun _ => 0)))], [(q6, .inl (gcA X 0, 3, .inl (va_cpy FSf (fun _ => 0) 0 0 3)))]] _ _ _
  exact g_vretC (W1 := fun a => [bdW (gcA X) (va_up (a 0) 0 h0) iB]) C (hkc.symm) (hks.symm) (fun n => if n = 0 then (fun i => if i = 2 then q1 else if i = 3 then q2 else if i = 4 then q3 else if i = 5 then q4 else if i = 7 then q5 else if i = 8 then q6 else 0) else fun _ => 0) rfl dX0_init_74
theorem c_X0_init (l : Launch) (D : va_G) (cA : Nat → ClassId) (h0 : Nat) : MC l D cA yX0_init wsX0_init 1 30 6 231 [.ref h0] [[(h0, .inr (0, [.int 0, .null, .null, .null, .null, .int 0, .null, .null]))]] (fun a => [bdW (cA) (va_up (a 0) 0 h0) iB]) := MC_of (cc := cX0_init) (maxL := 1) (by decide +kernel) rfl (List.forall_mem_cons.mpr ⟨rfl, List.forall_mem_nil _⟩) (Nat.le_of_ble_eq_true rfl) rfl (fun X e1 e2 e3 hkc hks hcn hf C => by subst e1; subst e2; subst e3; exact B_X0_init C hcn hf hkc hks h0)
theorem nd_X0_init : nd yX0_init 0 := ⟨by decide +kernel, by decide +kernel, by decide +kernel⟩
theorem hi_X1_init_X1 : ∀ w ∈ wsX10, w ∈ wsX1_init := fun w h => List.mem_cons_of_mem _ (List.mem_append_right _ h)
theorem lk_X1_init_1 : Cond.methodLink RX1 3 objectInit ∈ wsX1_init := List.mem_of_getElem? (i := 1) rfl
theorem lk_X1_init_2 : Cond.instanceMethod objectInit ∈ wsX1_init := List.mem_of_getElem? (i := 2) rfl
theorem lk_X1_init_3 : Cond.code objectInit ⟨#[0xb1]⟩ 1 none ∈ wsX1_init := List.mem_of_getElem? (i := 3) rfl
theorem lk_X1_init_4 : Cond.fieldLink RX1 9 "NoteThemes$BoardText" "board" "LNoteThemes$Board;" ∈ wsX1_init := List.mem_of_getElem? (i := 4) rfl
theorem lk_X1_init_5 : Cond.fieldLink RX1 15 "NoteThemes$BoardText" "notesRead" "I" ∈ wsX1_init := List.mem_of_getElem? (i := 5) rfl
theorem lk_X1_init_6 : Cond.fieldLink RX1 19 "NoteThemes$BoardText" "part" "I" ∈ wsX1_init := List.mem_of_getElem? (i := 6) rfl
theorem lk_X1_init_7 : Cond.fieldLink RX1 22 "NoteThemes$BoardText" "number" "I" ∈ wsX1_init := List.mem_of_getElem? (i := 7) rfl
theorem lk_X1_init_8 : Cond.fieldLink RX1 25 "NoteThemes$BoardText" "column" "I" ∈ wsX1_init := List.mem_of_getElem? (i := 8) rfl
set_option maxRecDepth 100000 in
set_option maxHeartbeats 8000000 in
theorem B_X1_init {X : gX} (C : cx X RX1 cX1_init 2 none wsX1_init 1 20) (hcn : cn X) (hf : cf X) (hkc : (gR X).cells = 0) (hks : (gR X).slots = 0) (h0 : Nat) (g0 : Nat) : GN X 0 0 (QC X (fun a => [btW (va_up (a 0) 0 h0) g0 iK])) [[(h0, .inr (1, [.null, .int 0, .int 0, .int 0, .int 0]))]] [some (.ref h0), some (.ref g0)] [] 0 := by
  refine g_aload_n (pc' := 1) C dX1_init_0 rfl rfl ?_
  refine g_oinit (pc' := 4) C lk_X1_init_1 lk_X1_init_2 lk_X1_init_3 ⟨Nat.le_of_ble_eq_true rfl, Nat.le_of_ble_eq_true rfl⟩ rfl dX1_init_1 rfl ?_
  refine g_aload_n (pc' := 5) C dX1_init_4 rfl rfl ?_
  refine g_aload_n (pc' := 6) C dX1_init_5 rfl rfl ?_
  refine G_putF (pc' := 9) C hcn (i := 0) (j := 0) (k := 0) (N := 5) (ci := 1) (T := TX1) (Cn := RX1) (ty0 := tyX1) (w' := [(h0, .inr (1, [.ref g0, .int 0, .int 0, .int 0, .int 0]))]) rfl rfl rfl (by decide) (Nat.le_of_ble_eq_true rfl) rfl tyX1_ok nmX1 rfl rfl (tyX1_ok 0 (by decide)) rfl rfl hi_X1_init_X1 lk_X1_init_4 dX1_init_6 rfl ?_
  show GN X 0 0 _ [[(h0, .inr (1, [.ref g0, .int 0, .int 0, .int 0, .int 0]))]] _ _ _
  refine g_aload_n (pc' := 10) C dX1_init_9 rfl rfl ?_
  refine g_iconst (pc' := 11) (v := 0) C dX1_init_10 (by decide) rfl ?_
  refine G_put (pc' := 14) C (i := 0) (j := 0) (k := 1) (N := 5) (ci := 1) (T := TX1) (Cn := RX1) (ty0 := tyX1) (w' := [(h0, .inr (1, [.ref g0, .int 0, .int 0, .int 0, .int 0]))]) rfl rfl rfl (by decide) (Nat.le_of_ble_eq_true rfl) rfl tyX1_ok nmX1 rfl (tyX1_ok 1 (by decide)) rfl rfl hi_X1_init_X1 lk_X1_init_5 dX1_init_11 rfl ?_
  show GN X 0 0 _ [[(h0, .inr (1, [.ref g0, .int 0, .int 0, .int 0, .int 0]))]] _ _ _
  refine g_aload_n (pc' := 15) C dX1_init_14 rfl rfl ?_
  refine g_iconst (pc' := 16) (v := 0) C dX1_init_15 (by decide) rfl ?_
  refine G_put (pc' := 19) C (i := 0) (j := 0) (k := 2) (N := 5) (ci := 1) (T := TX1) (Cn := RX1) (ty0 := tyX1) (w' := [(h0, .inr (1, [.ref g0, .int 0, .int 0, .int 0, .int 0]))]) rfl rfl rfl (by decide) (Nat.le_of_ble_eq_true rfl) rfl tyX1_ok nmX1 rfl (tyX1_ok 2 (by decide)) rfl rfl hi_X1_init_X1 lk_X1_init_6 dX1_init_16 rfl ?_
  show GN X 0 0 _ [[(h0, .inr (1, [.ref g0, .int 0, .int 0, .int 0, .int 0]))]] _ _ _
  refine g_aload_n (pc' := 20) C dX1_init_19 rfl rfl ?_
  refine g_iconst (pc' := 21) (v := -1) C dX1_init_20 (by decide) rfl ?_
  refine G_put (pc' := 24) C (i := 0) (j := 0) (k := 3) (N := 5) (ci := 1) (T := TX1) (Cn := RX1) (ty0 := tyX1) (w' := [(h0, .inr (1, [.ref g0, .int 0, .int 0, .int (-1), .int 0]))]) rfl rfl rfl (by decide) (Nat.le_of_ble_eq_true rfl) rfl tyX1_ok nmX1 rfl (tyX1_ok 3 (by decide)) rfl rfl hi_X1_init_X1 lk_X1_init_7 dX1_init_21 rfl ?_
  show GN X 0 0 _ [[(h0, .inr (1, [.ref g0, .int 0, .int 0, .int (-1), .int 0]))]] _ _ _
  refine g_aload_n (pc' := 25) C dX1_init_24 rfl rfl ?_
  refine g_iconst (pc' := 26) (v := 0) C dX1_init_25 (by decide) rfl ?_
  refine G_put (pc' := 29) C (i := 0) (j := 0) (k := 4) (N := 5) (ci := 1) (T := TX1) (Cn := RX1) (ty0 := tyX1) (w' := [(h0, .inr (1, [.ref g0, .int 0, .int 0, .int (-1), .int 0]))]) rfl rfl rfl (by decide) (Nat.le_of_ble_eq_true rfl) rfl tyX1_ok nmX1 rfl (tyX1_ok 4 (by decide)) rfl rfl hi_X1_init_X1 lk_X1_init_8 dX1_init_26 rfl ?_
  show GN X 0 0 _ [[(h0, .inr (1, [.ref g0, .int 0, .int 0, .int (-1), .int 0]))]] _ _ _
  exact g_vretC (W1 := fun a => [btW (va_up (a 0) 0 h0) g0 iK]) C (hkc.symm) (hks.symm) (fun _ _ => 0) rfl dX1_init_29
theorem c_X1_init (l : Launch) (D : va_G) (cA : Nat → ClassId) (h0 : Nat) (g0 : Nat) : MC l D cA yX1_init wsX1_init 1 20 0 0 [.ref h0, .ref g0] [[(h0, .inr (1, [.null, .int 0, .int 0, .int 0, .int 0]))]] (fun a => [btW (va_up (a 0) 0 h0) g0 iK]) := MC_of (cc := cX1_init) (maxL := 2) (by decide +kernel) rfl (List.forall_mem_cons.mpr ⟨rfl, List.forall_mem_cons.mpr ⟨rfl, List.forall_mem_nil _⟩⟩) (Nat.le_of_ble_eq_true rfl) rfl (fun X e1 e2 e3 hkc hks hcn hf C => by subst e1; subst e2; subst e3; exact B_X1_init C hcn hf hkc hks h0 g0)
theorem nd_X1_init : nd yX1_init 1 := ⟨by decide +kernel, by decide +kernel, by decide +kernel⟩
theorem hi_X2_init_X2 : ∀ w ∈ wsX20, w ∈ wsX2_init := fun w h => List.mem_cons_of_mem _ (List.mem_append_right _ h)
theorem lk_X2_init_1 : Cond.methodLink RX2 3 objectInit ∈ wsX2_init := List.mem_of_getElem? (i := 1) rfl
theorem lk_X2_init_2 : Cond.instanceMethod objectInit ∈ wsX2_init := List.mem_of_getElem? (i := 2) rfl
theorem lk_X2_init_3 : Cond.code objectInit ⟨#[0xb1]⟩ 1 none ∈ wsX2_init := List.mem_of_getElem? (i := 3) rfl
theorem lk_X2_init_4 : Cond.fieldLink RX2 9 "NoteThemes$Heaps" "number" "I" ∈ wsX2_init := List.mem_of_getElem? (i := 4) rfl
theorem lk_X2_init_5 : Cond.fieldLink RX2 15 "NoteThemes$Heaps" "notes" "I" ∈ wsX2_init := List.mem_of_getElem? (i := 5) rfl
theorem lk_X2_init_6 : Cond.arrayClass .int ∈ wsX2_init := List.mem_of_getElem? (i := 6) rfl
theorem lk_X2_init_7 : Cond.fieldLink RX2 18 "NoteThemes$Heaps" "heapOf" "[I" ∈ wsX2_init := List.mem_of_getElem? (i := 7) rfl
theorem lk_X2_init_8 : Cond.fieldLink RX2 22 "NoteThemes$Heaps" "lowestOf" "[I" ∈ wsX2_init := List.mem_of_getElem? (i := 8) rfl
set_option maxRecDepth 100000 in
set_option maxHeartbeats 8000000 in
theorem B_X2_init {X : gX} (C : cx X RX2 cX2_init 1 none wsX2_init 1 20) (hcn : cn X) (hf : cf X) (hkc : (gR X).cells = 2) (hks : (gR X).slots = 40) (h0 : Nat) : GN X 0 0 (QC X (fun a => [heW (gcA X) (va_up (a 0) 0 h0) iZ])) [[(h0, .inr (2, [.int 0, .int 0, .null, .null]))]] [some (.ref h0)] [] 0 := by
  refine g_aload_n (pc' := 1) C dX2_init_0 rfl rfl ?_
  refine g_oinit (pc' := 4) C lk_X2_init_1 lk_X2_init_2 lk_X2_init_3 ⟨Nat.le_of_ble_eq_true rfl, Nat.le_of_ble_eq_true rfl⟩ rfl dX2_init_1 rfl ?_
  refine g_aload_n (pc' := 5) C dX2_init_4 rfl rfl ?_
  refine g_iconst (pc' := 6) (v := 0) C dX2_init_5 (by decide) rfl ?_
  refine G_put (pc' := 9) C (i := 0) (j := 0) (k := 0) (N := 4) (ci := 2) (T := TX2) (Cn := RX2) (ty0 := tyX2) (w' := [(h0, .inr (2, [.int 0, .int 0, .null, .null]))]) rfl rfl rfl (by decide) (Nat.le_of_ble_eq_true rfl) rfl tyX2_ok nmX2 rfl (tyX2_ok 0 (by decide)) rfl rfl hi_X2_init_X2 lk_X2_init_4 dX2_init_6 rfl ?_
  show GN X 0 0 _ [[(h0, .inr (2, [.int 0, .int 0, .null, .null]))]] _ _ _
  refine g_aload_n (pc' := 10) C dX2_init_9 rfl rfl ?_
  refine g_iconst (pc' := 11) (v := 0) C dX2_init_10 (by decide) rfl ?_
  refine G_put (pc' := 14) C (i := 0) (j := 0) (k := 1) (N := 4) (ci := 2) (T := TX2) (Cn := RX2) (ty0 := tyX2) (w' := [(h0, .inr (2, [.int 0, .int 0, .null, .null]))]) rfl rfl rfl (by decide) (Nat.le_of_ble_eq_true rfl) rfl tyX2_ok nmX2 rfl (tyX2_ok 1 (by decide)) rfl rfl hi_X2_init_X2 lk_X2_init_5 dX2_init_11 rfl ?_
  show GN X 0 0 _ [[(h0, .inr (2, [.int 0, .int 0, .null, .null]))]] _ _ _
  refine g_aload_n (pc' := 15) C dX2_init_14 rfl rfl ?_
  refine g_bipush (pc' := 17) (v := 20) C dX2_init_15 (by decide) rfl ?_
  refine g_newa (pc' := 19) (kc' := 1) (ks' := 20) C 0 20 rfl (fun _ => rfl) lk_X2_init_6 (by decide) (by decide) (by decide) (by rw [hkc]; decide) (by rw [hks]; decide) rfl rfl dX2_init_17 rfl (fun q1 => ?_)
  show GN X 1 20 _ [[(h0, .inr (2, [.int 0, .int 0, .null, .null]))], [(q1, .inl (gcA X 0, 20, .inl (fun _ => 0)))]] _ _ _
  refine G_putF (pc' := 22) C hcn (i := 0) (j := 0) (k := 2) (N := 4) (ci := 2) (T := TX2) (Cn := RX2) (ty0 := tyX2) (w' := [(h0, .inr (2, [.int 0, .int 0, .ref q1, .null]))]) rfl rfl rfl (by decide) (Nat.le_of_ble_eq_true rfl) rfl tyX2_ok nmX2 rfl rfl (tyX2_ok 2 (by decide)) rfl rfl hi_X2_init_X2 lk_X2_init_7 dX2_init_19 rfl ?_
  show GN X 1 20 _ [[(h0, .inr (2, [.int 0, .int 0, .ref q1, .null]))], [(q1, .inl (gcA X 0, 20, .inl (fun _ => 0)))]] _ _ _
  refine g_aload_n (pc' := 23) C dX2_init_22 rfl rfl ?_
  refine g_bipush (pc' := 25) (v := 20) C dX2_init_23 (by decide) rfl ?_
  refine g_newa (pc' := 27) (kc' := 2) (ks' := 40) C 0 20 rfl (fun _ => rfl) lk_X2_init_6 (by decide) (by decide) (by decide) (by rw [hkc]; decide) (by rw [hks]; decide) rfl rfl dX2_init_25 rfl (fun q2 => ?_)
  show GN X 2 40 _ [[(h0, .inr (2, [.int 0, .int 0, .ref q1, .null]))], [(q1, .inl (gcA X 0, 20, .inl (fun _ => 0)))], [(q2, .inl (gcA X 0, 20, .inl (fun _ => 0)))]] _ _ _
  refine G_putF (pc' := 30) C hcn (i := 0) (j := 0) (k := 3) (N := 4) (ci := 2) (T := TX2) (Cn := RX2) (ty0 := tyX2) (w' := [(h0, .inr (2, [.int 0, .int 0, .ref q1, .ref q2]))]) rfl rfl rfl (by decide) (Nat.le_of_ble_eq_true rfl) rfl tyX2_ok nmX2 rfl rfl (tyX2_ok 3 (by decide)) rfl rfl hi_X2_init_X2 lk_X2_init_8 dX2_init_27 rfl ?_
  show GN X 2 40 _ [[(h0, .inr (2, [.int 0, .int 0, .ref q1, .ref q2]))], [(q1, .inl (gcA X 0, 20, .inl (fun _ => 0)))], [(q2, .inl (gcA X 0, 20, .inl (fun _ => 0)))]] _ _ _
  exact g_vretC (W1 := fun a => [heW (gcA X) (va_up (a 0) 0 h0) iZ]) C (hkc.symm) (hks.symm) (fun n => if n = 0 then (fun i => if i = 3 then q1 else if i = 4 then q2 else 0) else fun _ => 0) rfl dX2_init_30
theorem c_X2_init (l : Launch) (D : va_G) (cA : Nat → ClassId) (h0 : Nat) : MC l D cA yX2_init wsX2_init 1 20 2 40 [.ref h0] [[(h0, .inr (2, [.int 0, .int 0, .null, .null]))]] (fun a => [heW (cA) (va_up (a 0) 0 h0) iZ]) := MC_of (cc := cX2_init) (maxL := 1) (by decide +kernel) rfl (List.forall_mem_cons.mpr ⟨rfl, List.forall_mem_nil _⟩) (Nat.le_of_ble_eq_true rfl) rfl (fun X e1 e2 e3 hkc hks hcn hf C => by subst e1; subst e2; subst e3; exact B_X2_init C hcn hf hkc hks h0)
theorem nd_X2_init : nd yX2_init 0 := ⟨by decide +kernel, by decide +kernel, by decide +kernel⟩
theorem hi_X4_init_X4 : ∀ w ∈ wsX40, w ∈ wsX4_init := fun w h => List.mem_cons_of_mem _ (List.mem_append_right _ h)
theorem lk_X4_init_1 : Cond.methodLink RX4 3 objectInit ∈ wsX4_init := List.mem_of_getElem? (i := 1) rfl
theorem lk_X4_init_2 : Cond.instanceMethod objectInit ∈ wsX4_init := List.mem_of_getElem? (i := 2) rfl
theorem lk_X4_init_3 : Cond.code objectInit ⟨#[0xb1]⟩ 1 none ∈ wsX4_init := List.mem_of_getElem? (i := 3) rfl
theorem lk_X4_init_4 : Cond.arrayClass .int ∈ wsX4_init := List.mem_of_getElem? (i := 4) rfl
theorem lk_X4_init_5 : Cond.fieldLink RX4 9 "NoteThemes$Names" "nameOf" "[I" ∈ wsX4_init := List.mem_of_getElem? (i := 5) rfl
set_option maxRecDepth 100000 in
set_option maxHeartbeats 8000000 in
theorem B_X4_init {X : gX} (C : cx X RX4 cX4_init 1 none wsX4_init 1 20) (hcn : cn X) (hf : cf X) (hkc : (gR X).cells = 1) (hks : (gR X).slots = 8) (h0 : Nat) : GN X 0 0 (QC X (fun a => [nmW (gcA X) (va_up (a 0) 0 h0) iZ])) [[(h0, .inr (4, [.null]))]] [some (.ref h0)] [] 0 := by
  refine g_aload_n (pc' := 1) C dX4_init_0 rfl rfl ?_
  refine g_oinit (pc' := 4) C lk_X4_init_1 lk_X4_init_2 lk_X4_init_3 ⟨Nat.le_of_ble_eq_true rfl, Nat.le_of_ble_eq_true rfl⟩ rfl dX4_init_1 rfl ?_
  refine g_aload_n (pc' := 5) C dX4_init_4 rfl rfl ?_
  refine g_bipush (pc' := 7) (v := 8) C dX4_init_5 (by decide) rfl ?_
  refine g_newa (pc' := 9) (kc' := 1) (ks' := 8) C 0 8 rfl (fun _ => rfl) lk_X4_init_4 (by decide) (by decide) (by decide) (by rw [hkc]; decide) (by rw [hks]; decide) rfl rfl dX4_init_7 rfl (fun q1 => ?_)
  show GN X 1 8 _ [[(h0, .inr (4, [.null]))], [(q1, .inl (gcA X 0, 8, .inl (fun _ => 0)))]] _ _ _
  refine G_putF (pc' := 12) C hcn (i := 0) (j := 0) (k := 0) (N := 1) (ci := 4) (T := TX4) (Cn := RX4) (ty0 := tyX4) (w' := [(h0, .inr (4, [.ref q1]))]) rfl rfl rfl (by decide) (Nat.le_of_ble_eq_true rfl) rfl tyX4_ok nmX4 rfl rfl (tyX4_ok 0 (by decide)) rfl rfl hi_X4_init_X4 lk_X4_init_5 dX4_init_9 rfl ?_
  show GN X 1 8 _ [[(h0, .inr (4, [.ref q1]))], [(q1, .inl (gcA X 0, 8, .inl (fun _ => 0)))]] _ _ _
  exact g_vretC (W1 := fun a => [nmW (gcA X) (va_up (a 0) 0 h0) iZ]) C (hkc.symm) (hks.symm) (fun n => if n = 0 then (fun i => if i = 1 then q1 else 0) else fun _ => 0) rfl dX4_init_12
theorem c_X4_init (l : Launch) (D : va_G) (cA : Nat → ClassId) (h0 : Nat) : MC l D cA yX4_init wsX4_init 1 20 1 8 [.ref h0] [[(h0, .inr (4, [.null]))]] (fun a => [nmW (cA) (va_up (a 0) 0 h0) iZ]) := MC_of (cc := cX4_init) (maxL := 1) (by decide +kernel) rfl (List.forall_mem_cons.mpr ⟨rfl, List.forall_mem_nil _⟩) (Nat.le_of_ble_eq_true rfl) rfl (fun X e1 e2 e3 hkc hks hcn hf C => by subst e1; subst e2; subst e3; exact B_X4_init C hcn hf hkc hks h0)
theorem nd_X4_init : nd yX4_init 0 := ⟨by decide +kernel, by decide +kernel, by decide +kernel⟩
