/-! constructors -/
def iB : tS := fun k => if k = 7 then va_cpy FSf (fun _ => 0) 0 0 3 else fun _ => 0
def iZ : tS := fun _ _ => 0
def iK : tS := fun k => if k = 3 then fun _ => (-1) else fun _ => 0
def iH : tH := (0, fun i => i, fun _ => iB)
def iM : tS := fun k => if k = 0 then upd (upd (upd (fun _ => 0) (2 : Int32).toNatClampNeg 3) (3 : Int32).toNatClampNeg 4) (4 : Int32).toNatClampNeg 2 else fun _ => 0
theorem hfs_X0 : ∀ j, j < 8 → defaultValue (tyX0 j) = vp_V [.int 0, .null, .null, .null, .null, .int 0, .null, .null] j := fun j hj => by rcases (show j = 0 ∨ j = 1 ∨ j = 2 ∨ j = 3 ∨ j = 4 ∨ j = 5 ∨ j = 6 ∨ j = 7 by omega) with rfl | rfl | rfl | rfl | rfl | rfl | rfl | rfl <;> rfl
theorem hfs_X1 : ∀ j, j < 5 → defaultValue (tyX1 j) = vp_V [.null, .int 0, .int 0, .int 0, .int 0] j := fun j hj => by rcases (show j = 0 ∨ j = 1 ∨ j = 2 ∨ j = 3 ∨ j = 4 by omega) with rfl | rfl | rfl | rfl | rfl <;> rfl
theorem hfs_X2 : ∀ j, j < 4 → defaultValue (tyX2 j) = vp_V [.int 0, .int 0, .null, .null] j := fun j hj => by rcases (show j = 0 ∨ j = 1 ∨ j = 2 ∨ j = 3 by omega) with rfl | rfl | rfl | rfl <;> rfl
theorem hfs_X3 : ∀ j, j < 2 → defaultValue (tyX3 j) = vp_V [.int 0, .null] j := fun j hj => by rcases (show j = 0 ∨ j = 1 by omega) with rfl | rfl <;> rfl
theorem hfs_X4 : ∀ j, j < 1 → defaultValue (tyX4 j) = vp_V [.null] j := fun j hj => by rcases (show j = 0 by omega) with rfl <;> rfl
theorem hfs_X5 : ∀ j, j < 11 → defaultValue (tyX5 j) = vp_V [.null, .null, .null, .int 0, .null, .int 0, .null, .null, .null, .null, .null] j := fun j hj => by rcases (show j = 0 ∨ j = 1 ∨ j = 2 ∨ j = 3 ∨ j = 4 ∨ j = 5 ∨ j = 6 ∨ j = 7 ∨ j = 8 ∨ j = 9 ∨ j = 10 by omega) with rfl | rfl | rfl | rfl | rfl | rfl | rfl | rfl | rfl | rfl | rfl <;> rfl
theorem hi_X0_init_X0 : ∀ w ∈ wsX00, w ∈ wsX0_init := fun w h => List.mem_cons_of_mem _ (List.mem_append_right _ h)
theorem lk_X0_init_1 : Cond.methodLink RX0 3 objectInit ∈ wsX0_init := List.mem_of_getElem? (i := 1) rfl
theorem lk_X0_init_10 : Cond.fieldLink RX0 28 "NoteThemes$Board" "themes" "I" ∈ wsX0_init := List.mem_of_getElem? (i := 10) rfl
theorem lk_X0_init_11 : Cond.fieldLink RX0 31 "NoteThemes$Board" "votedAt" "[I" ∈ wsX0_init := List.mem_of_getElem? (i := 11) rfl
theorem lk_X0_init_12 : Cond.fieldLink RX0 34 "NoteThemes$Board" "settings" "[I" ∈ wsX0_init := List.mem_of_getElem? (i := 12) rfl
theorem lk_X0_init_13 : Cond.methodLink RX0 40 arraycopyName ∈ wsX0_init := List.mem_of_getElem? (i := 13) rfl
theorem lk_X0_init_14 : Cond.native arraycopyName ∈ wsX0_init := List.mem_of_getElem? (i := 14) rfl
theorem lk_X0_init_15 : Cond.static arraycopyName ∈ wsX0_init := List.mem_of_getElem? (i := 15) rfl
theorem lk_X0_init_16 : Cond.initialized "java/lang/System" ∈ wsX0_init := List.mem_of_getElem? (i := 16) rfl
theorem lk_X0_init_2 : Cond.instanceMethod objectInit ∈ wsX0_init := List.mem_of_getElem? (i := 2) rfl
theorem lk_X0_init_3 : Cond.code objectInit ⟨#[0xb1]⟩ 1 none ∈ wsX0_init := List.mem_of_getElem? (i := 3) rfl
theorem lk_X0_init_4 : Cond.fieldLink RX0 9 "NoteThemes$Board" "notes" "I" ∈ wsX0_init := List.mem_of_getElem? (i := 4) rfl
theorem lk_X0_init_5 : Cond.arrayClass .int ∈ wsX0_init := List.mem_of_getElem? (i := 5) rfl
theorem lk_X0_init_6 : Cond.fieldLink RX0 15 "NoteThemes$Board" "columnOf" "[I" ∈ wsX0_init := List.mem_of_getElem? (i := 6) rfl
theorem lk_X0_init_7 : Cond.fieldLink RX0 19 "NoteThemes$Board" "rowOf" "[I" ∈ wsX0_init := List.mem_of_getElem? (i := 7) rfl
theorem lk_X0_init_8 : Cond.fieldLink RX0 22 "NoteThemes$Board" "themeOf" "[I" ∈ wsX0_init := List.mem_of_getElem? (i := 8) rfl
theorem lk_X0_init_9 : Cond.fieldLink RX0 25 "NoteThemes$Board" "dotsAt" "[I" ∈ wsX0_init := List.mem_of_getElem? (i := 9) rfl
set_option maxRecDepth 100000 in
set_option maxHeartbeats 8000000 in
theorem B_X0_init {X : gX} (C : cx X RX0 cX0_init 1 none wsX0_init 1 30) (hcn : cn X) (hf : cf X) (hkc : (gR X).cells = 6) (hks : (gR X).slots = 231) (h0 : Nat) : GN X 0 0 (QC X (fun a => [bdW (gcA X) (va_up (a 0) 0 h0) iB])) [[(h0, .inr (0, [.int 0, .null, .null, .null, .null, .int 0, .null, .null]))]] [some (.ref h0)] [] 0 := by
  refine g_aload_n (pc' := 1) C dX0_init_0 rfl rfl ?_
  refine g_oinit (pc' := 4) C lk_X0_init_1 lk_X0_init_2 lk_X0_init_3 ⟨Nat.le_of_ble_eq_true rfl, Nat.le_of_ble_eq_true rfl⟩ rfl dX0_init_1 rfl ?_
  refine g_aload_n (pc' := 5) C dX0_init_4 rfl rfl ?_
  refine g_iconst (pc' := 6) (v := 0) C dX0_init_5 (by decide) rfl ?_
  refine G_put (pc' := 9) C (i := 0) (j := 0) (k := 0) (N := 8) (ci := 0) (T := TX0) (Cn := RX0) (ty0 := tyX0) (w' := [(h0, .inr (0, [.int 0, .null, .null, .null, .null, .int 0, .null, .null]))]) rfl rfl rfl (by decide) (Nat.le_of_ble_eq_true rfl) rfl tyX0_ok nmX0 rfl (tyX0_ok 0 (by decide)) rfl rfl hi_X0_init_X0 lk_X0_init_4 dX0_init_6 rfl ?_
  show GN X 0 0 _ [[(h0, .inr (0, [.int 0, .null, .null, .null, .null, .int 0, .null, .null]))]] _ _ _
  refine g_aload_n (pc' := 10) C dX0_init_9 rfl rfl ?_
  refine g_bipush (pc' := 12) (v := 20) C dX0_init_10 (by decide) rfl ?_
  refine g_newi (pc' := 14) (kc' := 1) (ks' := 20) C 20 lk_X0_init_5 (by decide) (by decide) (Nat.le_of_ble_eq_true rfl) (by rw [hkc]; exact Nat.le_of_ble_eq_true rfl) (by rw [hks]; exact Nat.le_of_ble_eq_true rfl) rfl rfl dX0_init_12 rfl (fun q1 => ?_)
  show GN X 1 20 _ [[(h0, .inr (0, [.int 0, .null, .null, .null, .null, .int 0, .null, .null]))], [(q1, .inl (gcA X 0, 20, .inl (fun _ => 0)))]] _ _ _
  refine G_putF (pc' := 17) C hcn (i := 0) (j := 0) (k := 1) (N := 8) (ci := 0) (T := TX0) (Cn := RX0) (ty0 := tyX0) (w' := [(h0, .inr (0, [.int 0, .ref q1, .null, .null, .null, .int 0, .null, .null]))]) rfl rfl rfl (by decide) (Nat.le_of_ble_eq_true rfl) rfl tyX0_ok nmX0 rfl rfl (tyX0_ok 1 (by decide)) rfl rfl hi_X0_init_X0 lk_X0_init_6 dX0_init_14 rfl ?_
  show GN X 1 20 _ [[(h0, .inr (0, [.int 0, .ref q1, .null, .null, .null, .int 0, .null, .null]))], [(q1, .inl (gcA X 0, 20, .inl (fun _ => 0)))]] _ _ _
  refine g_aload_n (pc' := 18) C dX0_init_17 rfl rfl ?_
  refine g_bipush (pc' := 20) (v := 20) C dX0_init_18 (by decide) rfl ?_
  refine g_newi (pc' := 22) (kc' := 2) (ks' := 40) C 20 lk_X0_init_5 (by decide) (by decide) (Nat.le_of_ble_eq_true rfl) (by rw [hkc]; exact Nat.le_of_ble_eq_true rfl) (by rw [hks]; exact Nat.le_of_ble_eq_true rfl) rfl rfl dX0_init_20 rfl (fun q2 => ?_)
  show GN X 2 40 _ [[(h0, .inr (0, [.int 0, .ref q1, .null, .null, .null, .int 0, .null, .null]))], [(q1, .inl (gcA X 0, 20, .inl (fun _ => 0)))], [(q2, .inl (gcA X 0, 20, .inl (fun _ => 0)))]] _ _ _
  refine G_putF (pc' := 25) C hcn (i := 0) (j := 0) (k := 2) (N := 8) (ci := 0) (T := TX0) (Cn := RX0) (ty0 := tyX0) (w' := [(h0, .inr (0, [.int 0, .ref q1, .ref q2, .null, .null, .int 0, .null, .null]))]) rfl rfl rfl (by decide) (Nat.le_of_ble_eq_true rfl) rfl tyX0_ok nmX0 rfl rfl (tyX0_ok 2 (by decide)) rfl rfl hi_X0_init_X0 lk_X0_init_7 dX0_init_22 rfl ?_
  show GN X 2 40 _ [[(h0, .inr (0, [.int 0, .ref q1, .ref q2, .null, .null, .int 0, .null, .null]))], [(q1, .inl (gcA X 0, 20, .inl (fun _ => 0)))], [(q2, .inl (gcA X 0, 20, .inl (fun _ => 0)))]] _ _ _
  refine g_aload_n (pc' := 26) C dX0_init_25 rfl rfl ?_
  refine g_bipush (pc' := 28) (v := 20) C dX0_init_26 (by decide) rfl ?_
  refine g_newi (pc' := 30) (kc' := 3) (ks' := 60) C 20 lk_X0_init_5 (by decide) (by decide) (Nat.le_of_ble_eq_true rfl) (by rw [hkc]; exact Nat.le_of_ble_eq_true rfl) (by rw [hks]; exact Nat.le_of_ble_eq_true rfl) rfl rfl dX0_init_28 rfl (fun q3 => ?_)
  show GN X 3 60 _ [[(h0, .inr (0, [.int 0, .ref q1, .ref q2, .null, .null, .int 0, .null, .null]))], [(q1, .inl (gcA X 0, 20, .inl (fun _ => 0)))], [(q2, .inl (gcA X 0, 20, .inl (fun _ => 0)))], [(q3, .inl (gcA X 0, 20, .inl (fun _ => 0)))]] _ _ _
  refine G_putF (pc' := 33) C hcn (i := 0) (j := 0) (k := 3) (N := 8) (ci := 0) (T := TX0) (Cn := RX0) (ty0 := tyX0) (w' := [(h0, .inr (0, [.int 0, .ref q1, .ref q2, .ref q3, .null, .int 0, .null, .null]))]) rfl rfl rfl (by decide) (Nat.le_of_ble_eq_true rfl) rfl tyX0_ok nmX0 rfl rfl (tyX0_ok 3 (by decide)) rfl rfl hi_X0_init_X0 lk_X0_init_8 dX0_init_30 rfl ?_
  show GN X 3 60 _ [[(h0, .inr (0, [.int 0, .ref q1, .ref q2, .ref q3, .null, .int 0, .null, .null]))], [(q1, .inl (gcA X 0, 20, .inl (fun _ => 0)))], [(q2, .inl (gcA X 0, 20, .inl (fun _ => 0)))], [(q3, .inl (gcA X 0, 20, .inl (fun _ => 0)))]] _ _ _
  refine g_aload_n (pc' := 34) C dX0_init_33 rfl rfl ?_
  refine g_bipush (pc' := 36) (v := 120) C dX0_init_34 (by decide) rfl ?_
  refine g_newi (pc' := 38) (kc' := 4) (ks' := 180) C 120 lk_X0_init_5 (by decide) (by decide) (Nat.le_of_ble_eq_true rfl) (by rw [hkc]; exact Nat.le_of_ble_eq_true rfl) (by rw [hks]; exact Nat.le_of_ble_eq_true rfl) rfl rfl dX0_init_36 rfl (fun q4 => ?_)
  show GN X 4 180 _ [[(h0, .inr (0, [.int 0, .ref q1, .ref q2, .ref q3, .null, .int 0, .null, .null]))], [(q1, .inl (gcA X 0, 20, .inl (fun _ => 0)))], [(q2, .inl (gcA X 0, 20, .inl (fun _ => 0)))], [(q3, .inl (gcA X 0, 20, .inl (fun _ => 0)))], [(q4, .inl (gcA X 0, 120, .inl (fun _ => 0)))]] _ _ _
  refine G_putF (pc' := 41) C hcn (i := 0) (j := 0) (k := 4) (N := 8) (ci := 0) (T := TX0) (Cn := RX0) (ty0 := tyX0) (w' := [(h0, .inr (0, [.int 0, .ref q1, .ref q2, .ref q3, .ref q4, .int 0, .null, .null]))]) rfl rfl rfl (by decide) (Nat.le_of_ble_eq_true rfl) rfl tyX0_ok nmX0 rfl rfl (tyX0_ok 4 (by decide)) rfl rfl hi_X0_init_X0 lk_X0_init_9 dX0_init_38 rfl ?_
  show GN X 4 180 _ [[(h0, .inr (0, [.int 0, .ref q1, .ref q2, .ref q3, .ref q4, .int 0, .null, .null]))], [(q1, .inl (gcA X 0, 20, .inl (fun _ => 0)))], [(q2, .inl (gcA X 0, 20, .inl (fun _ => 0)))], [(q3, .inl (gcA X 0, 20, .inl (fun _ => 0)))], [(q4, .inl (gcA X 0, 120, .inl (fun _ => 0)))]] _ _ _
  refine g_aload_n (pc' := 42) C dX0_init_41 rfl rfl ?_
  refine g_iconst (pc' := 43) (v := 0) C dX0_init_42 (by decide) rfl ?_
  refine G_put (pc' := 46) C (i := 0) (j := 0) (k := 5) (N := 8) (ci := 0) (T := TX0) (Cn := RX0) (ty0 := tyX0) (w' := [(h0, .inr (0, [.int 0, .ref q1, .ref q2, .ref q3, .ref q4, .int 0, .null, .null]))]) rfl rfl rfl (by decide) (Nat.le_of_ble_eq_true rfl) rfl tyX0_ok nmX0 rfl (tyX0_ok 5 (by decide)) rfl rfl hi_X0_init_X0 lk_X0_init_10 dX0_init_43 rfl ?_
  show GN X 4 180 _ [[(h0, .inr (0, [.int 0, .ref q1, .ref q2, .ref q3, .ref q4, .int 0, .null, .null]))], [(q1, .inl (gcA X 0, 20, .inl (fun _ => 0)))], [(q2, .inl (gcA X 0, 20, .inl (fun _ => 0)))], [(q3, .inl (gcA X 0, 20, .inl (fun _ => 0)))], [(q4, .inl (gcA X 0, 120, .inl (fun _ => 0)))]] _ _ _
  refine g_aload_n (pc' := 47) C dX0_init_46 rfl rfl ?_
  refine g_bipush (pc' := 49) (v := 48) C dX0_init_47 (by decide) rfl ?_
  refine g_newi (pc' := 51) (kc' := 5) (ks' := 228) C 48 lk_X0_init_5 (by decide) (by decide) (Nat.le_of_ble_eq_true rfl) (by rw [hkc]; exact Nat.le_of_ble_eq_true rfl) (by rw [hks]; exact Nat.le_of_ble_eq_true rfl) rfl rfl dX0_init_49 rfl (fun q5 => ?_)
  show GN X 5 228 _ [[(h0, .inr (0, [.int 0, .ref q1, .ref q2, .ref q3, .ref q4, .int 0, .null, .null]))], [(q1, .inl (gcA X 0, 20, .inl (fun _ => 0)))], [(q2, .inl (gcA X 0, 20, .inl (fun _ => 0)))], [(q3, .inl (gcA X 0, 20, .inl (fun _ => 0)))], [(q4, .inl (gcA X 0, 120, .inl (fun _ => 0)))], [(q5, .inl (gcA X 0, 48, .inl (fun _ => 0)))]] _ _ _
  refine G_putF (pc' := 54) C hcn (i := 0) (j := 0) (k := 6) (N := 8) (ci := 0) (T := TX0) (Cn := RX0) (ty0 := tyX0) (w' := [(h0, .inr (0, [.int 0, .ref q1, .ref q2, .ref q3, .ref q4, .int 0, .ref q5, .null]))]) rfl rfl rfl (by decide) (Nat.le_of_ble_eq_true rfl) rfl tyX0_ok nmX0 rfl rfl (tyX0_ok 6 (by decide)) rfl rfl hi_X0_init_X0 lk_X0_init_11 dX0_init_51 rfl ?_
  show GN X 5 228 _ [[(h0, .inr (0, [.int 0, .ref q1, .ref q2, .ref q3, .ref q4, .int 0, .ref q5, .null]))], [(q1, .inl (gcA X 0, 20, .inl (fun _ => 0)))], [(q2, .inl (gcA X 0, 20, .inl (fun _ => 0)))], [(q3, .inl (gcA X 0, 20, .inl (fun _ => 0)))], [(q4, .inl (gcA X 0, 120, .inl (fun _ => 0)))], [(q5, .inl (gcA X 0, 48, .inl (fun _ => 0)))]] _ _ _
  refine g_aload_n (pc' := 55) C dX0_init_54 rfl rfl ?_
  refine g_iconst (pc' := 56) (v := 3) C dX0_init_55 (by decide) rfl ?_
  refine g_newi (pc' := 58) (kc' := 6) (ks' := 231) C 3 lk_X0_init_5 (by decide) (by decide) (Nat.le_of_ble_eq_true rfl) (by rw [hkc]; exact Nat.le_of_ble_eq_true rfl) (by rw [hks]; exact Nat.le_of_ble_eq_true rfl) rfl rfl dX0_init_56 rfl (fun q6 => ?_)
  show GN X 6 231 _ [[(h0, .inr (0, [.int 0, .ref q1, .ref q2, .ref q3, .ref q4, .int 0, .ref q5, .null]))], [(q1, .inl (gcA X 0, 20, .inl (fun _ => 0)))], [(q2, .inl (gcA X 0, 20, .inl (fun _ => 0)))], [(q3, .inl (gcA X 0, 20, .inl (fun _ => 0)))], [(q4, .inl (gcA X 0, 120, .inl (fun _ => 0)))], [(q5, .inl (gcA X 0, 48, .inl (fun _ => 0)))], [(q6, .inl (gcA X 0, 3, .inl (fun _ => 0)))]] _ _ _
  refine G_putF (pc' := 61) C hcn (i := 0) (j := 0) (k := 7) (N := 8) (ci := 0) (T := TX0) (Cn := RX0) (ty0 := tyX0) (w' := [(h0, .inr (0, [.int 0, .ref q1, .ref q2, .ref q3, .ref q4, .int 0, .ref q5, .ref q6]))]) rfl rfl rfl (by decide) (Nat.le_of_ble_eq_true rfl) rfl tyX0_ok nmX0 rfl rfl (tyX0_ok 7 (by decide)) rfl rfl hi_X0_init_X0 lk_X0_init_12 dX0_init_58 rfl ?_
  show GN X 6 231 _ [[(h0, .inr (0, [.int 0, .ref q1, .ref q2, .ref q3, .ref q4, .int 0, .ref q5, .ref q6]))], [(q1, .inl (gcA X 0, 20, .inl (fun _ => 0)))], [(q2, .inl (gcA X 0, 20, .inl (fun _ => 0)))], [(q3, .inl (gcA X 0, 20, .inl (fun _ => 0)))], [(q4, .inl (gcA X 0, 120, .inl (fun _ => 0)))], [(q5, .inl (gcA X 0, 48, .inl (fun _ => 0)))], [(q6, .inl (gcA X 0, 3, .inl (fun _ => 0)))]] _ _ _
  refine g_fcopy (pc' := 74) (pc2 := 64) (pc3 := 71) C hf (i2 := 6) (j2 := 0) (w' := [(q6, .inl (gcA X 0, 3, .inl (va_cpy FSf (fun _ => 0) 0 0 3)))]) rfl rfl rfl (by decide) lk_X0_init_13 lk_X0_init_14 lk_X0_init_15 lk_X0_init_16 ⟨Nat.le_of_ble_eq_true rfl, Nat.le_of_ble_eq_true rfl⟩ rfl dX0_init_61 rfl dX0_init_71 rfl (fun t0 kk0 => ?_) ?_
  · refine g_iconst (pc' := 65) (v := 0) C dX0_init_64 (by decide) rfl ?_
    refine g_aload_n (pc' := 66) C dX0_init_65 rfl rfl ?_
    refine G_get (pc' := 69) C (i := 0) (j := 0) (k := 7) (N := 8) (ci := 0) (T := TX0) (Cn := RX0) rfl rfl rfl (by decide) rfl hi_X0_init_X0 lk_X0_init_12 dX0_init_66 rfl ?_
    refine g_iconst (pc' := 70) (v := 0) C dX0_init_69 (by decide) rfl ?_
    refine g_iconst (pc' := 71) (v := 3) C dX0_init_70 (by decide) rfl ?_
    exact kk0
  show GN X 6 231 _ [[(h0, .inr (0, [.int 0, .ref q1, .ref q2, .ref q3, .ref q4, .int 0, .ref q5, .ref q6]))], [(q1, .inl (gcA X 0, 20, .inl (fun _ => 0)))], [(q2, .inl (gcA X 0, 20, .inl (fun _ => 0)))], [(q3, .inl (gcA X 0, 20, .inl (fun _ => 0)))], [(q4, .inl (gcA X 0, 120, .inl (fun _ => 0)))], [(q5, .inl (gcA X 0, 48, .inl (fun _ => 0)))], [(q6, .inl (gcA X 0, 3, .inl (va_cpy FSf (fun _ => 0) 0 0 3)))]] _ _ _
  exact g_vretC (W1 := fun a => [bdW (gcA X) (va_up (a 0) 0 h0) iB]) C (hkc.symm) (hks.symm) (fun n => if n = 0 then (fun i => if i = 2 then q1 else if i = 3 then q2 else if i = 4 then q3 else if i = 5 then q4 else if i = 7 then q5 else if i = 8 then q6 else 0) else fun _ => 0) rfl dX0_init_74
theorem c_X0_init (l : Launch) (D : va_G) (cA : Nat → ClassId) (h0 : Nat) : MC l D cA yX0_init wsX0_init 1 30 6 231 [.ref h0] [[(h0, .inr (0, [.int 0, .null, .null, .null, .null, .int 0, .null, .null]))]] (fun a => [bdW (cA) (va_up (a 0) 0 h0) iB]) := MC_of (cc := cX0_init) (maxL := 1) (by decide +kernel) rfl (List.forall_mem_cons.mpr ⟨rfl, List.forall_mem_nil _⟩) (Nat.le_of_ble_eq_true rfl) rfl (fun X e1 e2 e3 hkc hks hcn hf C => by subst e1; subst e2; subst e3; exact B_X0_init C hcn hf hkc hks h0)
theorem nd_X0_init : nd yX0_init 0 := ⟨by decide +kernel, by decide +kernel, by decide +kernel⟩
theorem hi_X1_init_X1 : ∀ w ∈ wsX10, w ∈ wsX1_init := fun w h => List.mem_cons_of_mem _ (List.mem_append_right _ h)
theorem lk_X1_init_1 : Cond.methodLink RX1 3 objectInit ∈ wsX1_init := List.mem_of_getElem? (i := 1) rfl
theorem lk_X1_init_2 : Cond.instanceMethod objectInit ∈ wsX1_init := List.mem_of_getElem? (i := 2) rfl
theorem lk_X1_init_3 : Cond.code objectInit ⟨#[0xb1]⟩ 1 none ∈ wsX1_init := List.mem_of_getElem? (i := 3) rfl
theorem lk_X1_init_4 : Cond.fieldLink RX1 9 "NoteThemes$BoardText" "board" "LNoteThemes$Board;" ∈ wsX1_init := List.mem_of_getElem? (i := 4) rfl
theorem lk_X1_init_5 : Cond.fieldLink RX1 15 "NoteThemes$BoardText" "notesRead" "I" ∈ wsX1_init := List.mem_of_getElem? (i := 5) rfl
theorem lk_X1_init_6 : Cond.fieldLink RX1 19 "NoteThemes$BoardText" "part" "I" ∈ wsX1_init := List.mem_of_getElem? (i := 6) rfl
theorem lk_X1_init_7 : Cond.fieldLink RX1 22 "NoteThemes$BoardText" "number" "I" ∈ wsX1_init := List.mem_of_getElem? (i := 7) rfl
theorem lk_X1_init_8 : Cond.fieldLink RX1 25 "NoteThemes$BoardText" "column" "I" ∈ wsX1_init := List.mem_of_getElem? (i := 8) rfl
set_option maxRecDepth 100000 in
set_option maxHeartbeats 8000000 in
theorem B_X1_init {X : gX} (C : cx X RX1 cX1_init 2 none wsX1_init 1 20) (hcn : cn X) (hf : cf X) (hkc : (gR X).cells = 0) (hks : (gR X).slots = 0) (h0 : Nat) (g0 : Nat) : GN X 0 0 (QC X (fun a => [btW (va_up (a 0) 0 h0) g0 iK])) [[(h0, .inr (1, [.null, .int 0, .int 0, .int 0, .int 0]))]] [some (.ref h0), some (.ref g0)] [] 0 := by
  refine g_aload_n (pc' := 1) C dX1_init_0 rfl rfl ?_
  refine g_oinit (pc' := 4) C lk_X1_init_1 lk_X1_init_2 lk_X1_init_3 ⟨Nat.le_of_ble_eq_true rfl, Nat.le_of_ble_eq_true rfl⟩ rfl dX1_init_1 rfl ?_
  refine g_aload_n (pc' := 5) C dX1_init_4 rfl rfl ?_
  refine g_aload_n (pc' := 6) C dX1_init_5 rfl rfl ?_
  refine G_putF (pc' := 9) C hcn (i := 0) (j := 0) (k := 0) (N := 5) (ci := 1) (T := TX1) (Cn := RX1) (ty0 := tyX1) (w' := [(h0, .inr (1, [.ref g0, .int 0, .int 0, .int 0, .int 0]))]) rfl rfl rfl (by decide) (Nat.le_of_ble_eq_true rfl) rfl tyX1_ok nmX1 rfl rfl (tyX1_ok 0 (by decide)) rfl rfl hi_X1_init_X1 lk_X1_init_4 dX1_init_6 rfl ?_
  show GN X 0 0 _ [[(h0, .inr (1, [.ref g0, .int 0, .int 0, .int 0, .int 0]))]] _ _ _
  refine g_aload_n (pc' := 10) C dX1_init_9 rfl rfl ?_
  refine g_iconst (pc' := 11) (v := 0) C dX1_init_10 (by decide) rfl ?_
  refine G_put (pc' := 14) C (i := 0) (j := 0) (k := 1) (N := 5) (ci := 1) (T := TX1) (Cn := RX1) (ty0 := tyX1) (w' := [(h0, .inr (1, [.ref g0, .int 0, .int 0, .int 0, .int 0]))]) rfl rfl rfl (by decide) (Nat.le_of_ble_eq_true rfl) rfl tyX1_ok nmX1 rfl (tyX1_ok 1 (by decide)) rfl rfl hi_X1_init_X1 lk_X1_init_5 dX1_init_11 rfl ?_
  show GN X 0 0 _ [[(h0, .inr (1, [.ref g0, .int 0, .int 0, .int 0, .int 0]))]] _ _ _
  refine g_aload_n (pc' := 15) C dX1_init_14 rfl rfl ?_
  refine g_iconst (pc' := 16) (v := 0) C dX1_init_15 (by decide) rfl ?_
  refine G_put (pc' := 19) C (i := 0) (j := 0) (k := 2) (N := 5) (ci := 1) (T := TX1) (Cn := RX1) (ty0 := tyX1) (w' := [(h0, .inr (1, [.ref g0, .int 0, .int 0, .int 0, .int 0]))]) rfl rfl rfl (by decide) (Nat.le_of_ble_eq_true rfl) rfl tyX1_ok nmX1 rfl (tyX1_ok 2 (by decide)) rfl rfl hi_X1_init_X1 lk_X1_init_6 dX1_init_16 rfl ?_
  show GN X 0 0 _ [[(h0, .inr (1, [.ref g0, .int 0, .int 0, .int 0, .int 0]))]] _ _ _
  refine g_aload_n (pc' := 20) C dX1_init_19 rfl rfl ?_
  refine g_iconst (pc' := 21) (v := -1) C dX1_init_20 (by decide) rfl ?_
  refine G_put (pc' := 24) C (i := 0) (j := 0) (k := 3) (N := 5) (ci := 1) (T := TX1) (Cn := RX1) (ty0 := tyX1) (w' := [(h0, .inr (1, [.ref g0, .int 0, .int 0, .int (-1), .int 0]))]) rfl rfl rfl (by decide) (Nat.le_of_ble_eq_true rfl) rfl tyX1_ok nmX1 rfl (tyX1_ok 3 (by decide)) rfl rfl hi_X1_init_X1 lk_X1_init_7 dX1_init_21 rfl ?_
  show GN X 0 0 _ [[(h0, .inr (1, [.ref g0, .int 0, .int 0, .int (-1), .int 0]))]] _ _ _
  refine g_aload_n (pc' := 25) C dX1_init_24 rfl rfl ?_
  refine g_iconst (pc' := 26) (v := 0) C dX1_init_25 (by decide) rfl ?_
  refine G_put (pc' := 29) C (i := 0) (j := 0) (k := 4) (N := 5) (ci := 1) (T := TX1) (Cn := RX1) (ty0 := tyX1) (w' := [(h0, .inr (1, [.ref g0, .int 0, .int 0, .int (-1), .int 0]))]) rfl rfl rfl (by decide) (Nat.le_of_ble_eq_true rfl) rfl tyX1_ok nmX1 rfl (tyX1_ok 4 (by decide)) rfl rfl hi_X1_init_X1 lk_X1_init_8 dX1_init_26 rfl ?_
  show GN X 0 0 _ [[(h0, .inr (1, [.ref g0, .int 0, .int 0, .int (-1), .int 0]))]] _ _ _
  exact g_vretC (W1 := fun a => [btW (va_up (a 0) 0 h0) g0 iK]) C (hkc.symm) (hks.symm) (fun _ _ => 0) rfl dX1_init_29
theorem c_X1_init (l : Launch) (D : va_G) (cA : Nat → ClassId) (h0 : Nat) (g0 : Nat) : MC l D cA yX1_init wsX1_init 1 20 0 0 [.ref h0, .ref g0] [[(h0, .inr (1, [.null, .int 0, .int 0, .int 0, .int 0]))]] (fun a => [btW (va_up (a 0) 0 h0) g0 iK]) := MC_of (cc := cX1_init) (maxL := 2) (by decide +kernel) rfl (List.forall_mem_cons.mpr ⟨rfl, List.forall_mem_cons.mpr ⟨rfl, List.forall_mem_nil _⟩⟩) (Nat.le_of_ble_eq_true rfl) rfl (fun X e1 e2 e3 hkc hks hcn hf C => by subst e1; subst e2; subst e3; exact B_X1_init C hcn hf hkc hks h0 g0)
theorem nd_X1_init : nd yX1_init 1 := ⟨by decide +kernel, by decide +kernel, by decide +kernel⟩
theorem hi_X2_init_X2 : ∀ w ∈ wsX20, w ∈ wsX2_init := fun w h => List.mem_cons_of_mem _ (List.mem_append_right _ h)
theorem lk_X2_init_1 : Cond.methodLink RX2 3 objectInit ∈ wsX2_init := List.mem_of_getElem? (i := 1) rfl
theorem lk_X2_init_2 : Cond.instanceMethod objectInit ∈ wsX2_init := List.mem_of_getElem? (i := 2) rfl
theorem lk_X2_init_3 : Cond.code objectInit ⟨#[0xb1]⟩ 1 none ∈ wsX2_init := List.mem_of_getElem? (i := 3) rfl
theorem lk_X2_init_4 : Cond.fieldLink RX2 9 "NoteThemes$Heaps" "number" "I" ∈ wsX2_init := List.mem_of_getElem? (i := 4) rfl
theorem lk_X2_init_5 : Cond.fieldLink RX2 15 "NoteThemes$Heaps" "notes" "I" ∈ wsX2_init := List.mem_of_getElem? (i := 5) rfl
theorem lk_X2_init_6 : Cond.arrayClass .int ∈ wsX2_init := List.mem_of_getElem? (i := 6) rfl
theorem lk_X2_init_7 : Cond.fieldLink RX2 18 "NoteThemes$Heaps" "heapOf" "[I" ∈ wsX2_init := List.mem_of_getElem? (i := 7) rfl
theorem lk_X2_init_8 : Cond.fieldLink RX2 22 "NoteThemes$Heaps" "lowestOf" "[I" ∈ wsX2_init := List.mem_of_getElem? (i := 8) rfl
set_option maxRecDepth 100000 in
set_option maxHeartbeats 8000000 in
theorem B_X2_init {X : gX} (C : cx X RX2 cX2_init 1 none wsX2_init 1 20) (hcn : cn X) (hf : cf X) (hkc : (gR X).cells = 2) (hks : (gR X).slots = 40) (h0 : Nat) : GN X 0 0 (QC X (fun a => [heW (gcA X) (va_up (a 0) 0 h0) iZ])) [[(h0, .inr (2, [.int 0, .int 0, .null, .null]))]] [some (.ref h0)] [] 0 := by
  refine g_aload_n (pc' := 1) C dX2_init_0 rfl rfl ?_
  refine g_oinit (pc' := 4) C lk_X2_init_1 lk_X2_init_2 lk_X2_init_3 ⟨Nat.le_of_ble_eq_true rfl, Nat.le_of_ble_eq_true rfl⟩ rfl dX2_init_1 rfl ?_
  refine g_aload_n (pc' := 5) C dX2_init_4 rfl rfl ?_
  refine g_iconst (pc' := 6) (v := 0) C dX2_init_5 (by decide) rfl ?_
  refine G_put (pc' := 9) C (i := 0) (j := 0) (k := 0) (N := 4) (ci := 2) (T := TX2) (Cn := RX2) (ty0 := tyX2) (w' := [(h0, .inr (2, [.int 0, .int 0, .null, .null]))]) rfl rfl rfl (by decide) (Nat.le_of_ble_eq_true rfl) rfl tyX2_ok nmX2 rfl (tyX2_ok 0 (by decide)) rfl rfl hi_X2_init_X2 lk_X2_init_4 dX2_init_6 rfl ?_
  show GN X 0 0 _ [[(h0, .inr (2, [.int 0, .int 0, .null, .null]))]] _ _ _
  refine g_aload_n (pc' := 10) C dX2_init_9 rfl rfl ?_
  refine g_iconst (pc' := 11) (v := 0) C dX2_init_10 (by decide) rfl ?_
  refine G_put (pc' := 14) C (i := 0) (j := 0) (k := 1) (N := 4) (ci := 2) (T := TX2) (Cn := RX2) (ty0 := tyX2) (w' := [(h0, .inr (2, [.int 0, .int 0, .null, .null]))]) rfl rfl rfl (by decide) (Nat.le_of_ble_eq_true rfl) rfl tyX2_ok nmX2 rfl (tyX2_ok 1 (by decide)) rfl rfl hi_X2_init_X2 lk_X2_init_5 dX2_init_11 rfl ?_
  show GN X 0 0 _ [[(h0, .inr (2, [.int 0, .int 0, .null, .null]))]] _ _ _
  refine g_aload_n (pc' := 15) C dX2_init_14 rfl rfl ?_
  refine g_bipush (pc' := 17) (v := 20) C dX2_init_15 (by decide) rfl ?_
  refine g_newi (pc' := 19) (kc' := 1) (ks' := 20) C 20 lk_X2_init_6 (by decide) (by decide) (Nat.le_of_ble_eq_true rfl) (by rw [hkc]; exact Nat.le_of_ble_eq_true rfl) (by rw [hks]; exact Nat.le_of_ble_eq_true rfl) rfl rfl dX2_init_17 rfl (fun q1 => ?_)
  show GN X 1 20 _ [[(h0, .inr (2, [.int 0, .int 0, .null, .null]))], [(q1, .inl (gcA X 0, 20, .inl (fun _ => 0)))]] _ _ _
  refine G_putF (pc' := 22) C hcn (i := 0) (j := 0) (k := 2) (N := 4) (ci := 2) (T := TX2) (Cn := RX2) (ty0 := tyX2) (w' := [(h0, .inr (2, [.int 0, .int 0, .ref q1, .null]))]) rfl rfl rfl (by decide) (Nat.le_of_ble_eq_true rfl) rfl tyX2_ok nmX2 rfl rfl (tyX2_ok 2 (by decide)) rfl rfl hi_X2_init_X2 lk_X2_init_7 dX2_init_19 rfl ?_
  show GN X 1 20 _ [[(h0, .inr (2, [.int 0, .int 0, .ref q1, .null]))], [(q1, .inl (gcA X 0, 20, .inl (fun _ => 0)))]] _ _ _
  refine g_aload_n (pc' := 23) C dX2_init_22 rfl rfl ?_
  refine g_bipush (pc' := 25) (v := 20) C dX2_init_23 (by decide) rfl ?_
  refine g_newi (pc' := 27) (kc' := 2) (ks' := 40) C 20 lk_X2_init_6 (by decide) (by decide) (Nat.le_of_ble_eq_true rfl) (by rw [hkc]; exact Nat.le_of_ble_eq_true rfl) (by rw [hks]; exact Nat.le_of_ble_eq_true rfl) rfl rfl dX2_init_25 rfl (fun q2 => ?_)
  show GN X 2 40 _ [[(h0, .inr (2, [.int 0, .int 0, .ref q1, .null]))], [(q1, .inl (gcA X 0, 20, .inl (fun _ => 0)))], [(q2, .inl (gcA X 0, 20, .inl (fun _ => 0)))]] _ _ _
  refine G_putF (pc' := 30) C hcn (i := 0) (j := 0) (k := 3) (N := 4) (ci := 2) (T := TX2) (Cn := RX2) (ty0 := tyX2) (w' := [(h0, .inr (2, [.int 0, .int 0, .ref q1, .ref q2]))]) rfl rfl rfl (by decide) (Nat.le_of_ble_eq_true rfl) rfl tyX2_ok nmX2 rfl rfl (tyX2_ok 3 (by decide)) rfl rfl hi_X2_init_X2 lk_X2_init_8 dX2_init_27 rfl ?_
  show GN X 2 40 _ [[(h0, .inr (2, [.int 0, .int 0, .ref q1, .ref q2]))], [(q1, .inl (gcA X 0, 20, .inl (fun _ => 0)))], [(q2, .inl (gcA X 0, 20, .inl (fun _ => 0)))]] _ _ _
  exact g_vretC (W1 := fun a => [heW (gcA X) (va_up (a 0) 0 h0) iZ]) C (hkc.symm) (hks.symm) (fun n => if n = 0 then (fun i => if i = 3 then q1 else if i = 4 then q2 else 0) else fun _ => 0) rfl dX2_init_30
theorem c_X2_init (l : Launch) (D : va_G) (cA : Nat → ClassId) (h0 : Nat) : MC l D cA yX2_init wsX2_init 1 20 2 40 [.ref h0] [[(h0, .inr (2, [.int 0, .int 0, .null, .null]))]] (fun a => [heW (cA) (va_up (a 0) 0 h0) iZ]) := MC_of (cc := cX2_init) (maxL := 1) (by decide +kernel) rfl (List.forall_mem_cons.mpr ⟨rfl, List.forall_mem_nil _⟩) (Nat.le_of_ble_eq_true rfl) rfl (fun X e1 e2 e3 hkc hks hcn hf C => by subst e1; subst e2; subst e3; exact B_X2_init C hcn hf hkc hks h0)
theorem nd_X2_init : nd yX2_init 0 := ⟨by decide +kernel, by decide +kernel, by decide +kernel⟩
theorem hi_X4_init_X4 : ∀ w ∈ wsX40, w ∈ wsX4_init := fun w h => List.mem_cons_of_mem _ (List.mem_append_right _ h)
theorem lk_X4_init_1 : Cond.methodLink RX4 3 objectInit ∈ wsX4_init := List.mem_of_getElem? (i := 1) rfl
theorem lk_X4_init_2 : Cond.instanceMethod objectInit ∈ wsX4_init := List.mem_of_getElem? (i := 2) rfl
theorem lk_X4_init_3 : Cond.code objectInit ⟨#[0xb1]⟩ 1 none ∈ wsX4_init := List.mem_of_getElem? (i := 3) rfl
theorem lk_X4_init_4 : Cond.arrayClass .int ∈ wsX4_init := List.mem_of_getElem? (i := 4) rfl
theorem lk_X4_init_5 : Cond.fieldLink RX4 9 "NoteThemes$Names" "nameOf" "[I" ∈ wsX4_init := List.mem_of_getElem? (i := 5) rfl
set_option maxRecDepth 100000 in
set_option maxHeartbeats 8000000 in
theorem B_X4_init {X : gX} (C : cx X RX4 cX4_init 1 none wsX4_init 1 20) (hcn : cn X) (hf : cf X) (hkc : (gR X).cells = 1) (hks : (gR X).slots = 8) (h0 : Nat) : GN X 0 0 (QC X (fun a => [nmW (gcA X) (va_up (a 0) 0 h0) iZ])) [[(h0, .inr (4, [.null]))]] [some (.ref h0)] [] 0 := by
  refine g_aload_n (pc' := 1) C dX4_init_0 rfl rfl ?_
  refine g_oinit (pc' := 4) C lk_X4_init_1 lk_X4_init_2 lk_X4_init_3 ⟨Nat.le_of_ble_eq_true rfl, Nat.le_of_ble_eq_true rfl⟩ rfl dX4_init_1 rfl ?_
  refine g_aload_n (pc' := 5) C dX4_init_4 rfl rfl ?_
  refine g_bipush (pc' := 7) (v := 8) C dX4_init_5 (by decide) rfl ?_
  refine g_newi (pc' := 9) (kc' := 1) (ks' := 8) C 8 lk_X4_init_4 (by decide) (by decide) (Nat.le_of_ble_eq_true rfl) (by rw [hkc]; exact Nat.le_of_ble_eq_true rfl) (by rw [hks]; exact Nat.le_of_ble_eq_true rfl) rfl rfl dX4_init_7 rfl (fun q1 => ?_)
  show GN X 1 8 _ [[(h0, .inr (4, [.null]))], [(q1, .inl (gcA X 0, 8, .inl (fun _ => 0)))]] _ _ _
  refine G_putF (pc' := 12) C hcn (i := 0) (j := 0) (k := 0) (N := 1) (ci := 4) (T := TX4) (Cn := RX4) (ty0 := tyX4) (w' := [(h0, .inr (4, [.ref q1]))]) rfl rfl rfl (by decide) (Nat.le_of_ble_eq_true rfl) rfl tyX4_ok nmX4 rfl rfl (tyX4_ok 0 (by decide)) rfl rfl hi_X4_init_X4 lk_X4_init_5 dX4_init_9 rfl ?_
  show GN X 1 8 _ [[(h0, .inr (4, [.ref q1]))], [(q1, .inl (gcA X 0, 8, .inl (fun _ => 0)))]] _ _ _
  exact g_vretC (W1 := fun a => [nmW (gcA X) (va_up (a 0) 0 h0) iZ]) C (hkc.symm) (hks.symm) (fun n => if n = 0 then (fun i => if i = 1 then q1 else 0) else fun _ => 0) rfl dX4_init_12
theorem c_X4_init (l : Launch) (D : va_G) (cA : Nat → ClassId) (h0 : Nat) : MC l D cA yX4_init wsX4_init 1 20 1 8 [.ref h0] [[(h0, .inr (4, [.null]))]] (fun a => [nmW (cA) (va_up (a 0) 0 h0) iZ]) := MC_of (cc := cX4_init) (maxL := 1) (by decide +kernel) rfl (List.forall_mem_cons.mpr ⟨rfl, List.forall_mem_nil _⟩) (Nat.le_of_ble_eq_true rfl) rfl (fun X e1 e2 e3 hkc hks hcn hf C => by subst e1; subst e2; subst e3; exact B_X4_init C hcn hf hkc hks h0)
theorem nd_X4_init : nd yX4_init 0 := ⟨by decide +kernel, by decide +kernel, by decide +kernel⟩
theorem hs_k (cA : Nat → ClassId) (a : Nat → Nat) {k k' : Nat → Nat → Nat} (h : ∀ i, i < 4 → k i = k' i) : hsW cA a k iH = hsW cA a k' iH := by
  have e : rwK k iH.2.1 = rwK k' iH.2.1 := by
    funext i
    unfold rwK
    by_cases hi : i < 4
    · rw [if_pos hi, if_pos hi]
      show some (k i 0) = some (k' i 0)
      rw [h i hi]
    · rw [if_neg hi, if_neg hi]
  unfold hsW
  rw [e, h 0 (by decide), h 1 (by decide), h 2 (by decide), h 3 (by decide)]
def NTW (cA : Nat → ClassId) (pa : tP) (T B : tS) (H : tH) (N X R E F M K : tS) : List va_W := [ntW pa T, bdW cA (pa 1) B, hsW cA (pa 2) (fun j => pa (10 + j)) H, bdW cA (pa 3) N, txW cA (pa 4) X, bdW cA (pa 5) R, heW cA (pa 6) E, heW cA (pa 7) F, nmW cA (pa 8) M, btW (pa 9) (pa 5 0) K]
def pz (pa : tP) (h0 : Nat) : tP := fun i => if i = 0 then fun _ => h0 else pa i
theorem hi_X3_init_X0 : ∀ w ∈ wsX00, w ∈ wsX3_init := fun w h => List.mem_cons_of_mem _ (List.mem_append_right _ h)
theorem hi_X3_init_X3 : ∀ w ∈ wsX30, w ∈ wsX3_init := fun w h => List.mem_cons_of_mem _ (List.mem_append_left _ (List.mem_append_right _ h))
theorem lk_X3_init_1 : Cond.methodLink RX3 3 objectInit ∈ wsX3_init := List.mem_of_getElem? (i := 1) rfl
theorem lk_X3_init_10 : Cond.instanceMethod yX0_init ∈ wsX3_init := List.mem_of_getElem? (i := 10) rfl
theorem lk_X3_init_2 : Cond.instanceMethod objectInit ∈ wsX3_init := List.mem_of_getElem? (i := 2) rfl
theorem lk_X3_init_3 : Cond.code objectInit ⟨#[0xb1]⟩ 1 none ∈ wsX3_init := List.mem_of_getElem? (i := 3) rfl
theorem lk_X3_init_4 : Cond.fieldLink RX3 9 "NoteThemes$History" "states" "I" ∈ wsX3_init := List.mem_of_getElem? (i := 4) rfl
theorem lk_X3_init_5 : Cond.classLink RX3 15 RX0 ∈ wsX3_init := List.mem_of_getElem? (i := 5) rfl
theorem lk_X3_init_6 : Cond.fieldLink RX3 17 "NoteThemes$History" "kept" "[LNoteThemes$Board;" ∈ wsX3_init := List.mem_of_getElem? (i := 6) rfl
theorem lk_X3_init_7 : Cond.instantiable RX0 8 ∈ wsX3_init := List.mem_of_getElem? (i := 7) rfl
theorem lk_X3_init_8 : Cond.initialized RX0 ∈ wsX3_init := List.mem_of_getElem? (i := 8) rfl
theorem lk_X3_init_9 : Cond.methodLink RX3 21 yX0_init ∈ wsX3_init := List.mem_of_getElem? (i := 9) rfl
set_option maxRecDepth 100000 in
set_option maxHeartbeats 8000000 in
theorem B_X3_init {X : gX} (C : cx X RX3 cX3_init 2 none wsX3_init 2 55) (hcn : cn X) (hf : cf X) (hkc : (gR X).cells = 29) (hks : (gR X).slots = 960) (h0 : Nat) : GN X 0 0 (QC X (fun a => [hsW (gcA X) (va_up (a 0) 0 h0) (fun j => a (1 + j)) iH])) [[(h0, .inr (3, [.int 0, .null]))]] [some (.ref h0), none] [] 0 := by
  refine g_aload_n (pc' := 1) C dX3_init_0 rfl rfl ?_
  refine g_oinit (pc' := 4) C lk_X3_init_1 lk_X3_init_2 lk_X3_init_3 ⟨Nat.le_of_ble_eq_true rfl, Nat.le_of_ble_eq_true rfl⟩ rfl dX3_init_1 rfl ?_
  refine g_aload_n (pc' := 5) C dX3_init_4 rfl rfl ?_
  refine g_iconst (pc' := 6) (v := 0) C dX3_init_5 (by decide) rfl ?_
  refine G_put (pc' := 9) C (i := 0) (j := 0) (k := 0) (N := 2) (ci := 3) (T := TX3) (Cn := RX3) (ty0 := tyX3) (w' := [(h0, .inr (3, [.int 0, .null]))]) rfl rfl rfl (by decide) (Nat.le_of_ble_eq_true rfl) rfl tyX3_ok nmX3 rfl (tyX3_ok 0 (by decide)) rfl rfl hi_X3_init_X3 lk_X3_init_4 dX3_init_6 rfl ?_
  show GN X 0 0 _ [[(h0, .inr (3, [.int 0, .null]))]] _ _ _
  refine g_aload_n (pc' := 10) C dX3_init_9 rfl rfl ?_
  refine g_iconst (pc' := 11) (v := 4) C dX3_init_10 (by decide) rfl ?_
  refine g_newq (pc' := 14) (kc' := 1) (ks' := 4) C hf 4 lk_X3_init_5 (by decide) (by decide) (Nat.le_of_ble_eq_true rfl) (by rw [hkc]; exact Nat.le_of_ble_eq_true rfl) (by rw [hks]; exact Nat.le_of_ble_eq_true rfl) rfl rfl dX3_init_11 rfl (fun q1 => ?_)
  show GN X 1 4 _ [[(h0, .inr (3, [.int 0, .null]))], [(q1, .inl (gcA X 2, 4, .inr (.inr (.inr (.inr (fun _ => none))))))]] _ _ _
  refine G_putF (pc' := 17) C hcn (i := 0) (j := 0) (k := 1) (N := 2) (ci := 3) (T := TX3) (Cn := RX3) (ty0 := tyX3) (w' := [(h0, .inr (3, [.int 0, .ref q1]))]) rfl rfl rfl (by decide) (Nat.le_of_ble_eq_true rfl) rfl tyX3_ok nmX3 rfl rfl (tyX3_ok 1 (by decide)) rfl rfl hi_X3_init_X3 lk_X3_init_6 dX3_init_14 rfl ?_
  show GN X 1 4 _ [[(h0, .inr (3, [.int 0, .ref q1]))], [(q1, .inl (gcA X 2, 4, .inr (.inr (.inr (.inr (fun _ => none))))))]] _ _ _
  refine g_iconst (pc' := 18) (v := 0) C dX3_init_17 (by decide) rfl ?_
  refine g_istore_n (pc' := 19) C dX3_init_18 (Nat.le_of_ble_eq_true rfl) rfl (L' := [some (.ref h0), some (.int 0)]) rfl ?_
  refine g_iload_n (pc' := 20) C dX3_init_19 rfl rfl ?_
  refine g_iconst (pc' := 21) (v := 4) C dX3_init_20 (by decide) rfl ?_
  refine g_icmp_ge (pc' := 24) (tgt := 43) (T := (none : Option Unit)) (F := some ()) (res := ()) C dX3_init_21 (by decide) rfl (by decide) (fun c h => absurd c (by decide)) (fun c h => ?_)
  refine g_aload_n (pc' := 25) C dX3_init_24 rfl rfl ?_
  refine G_get (pc' := 28) C (i := 0) (j := 0) (k := 1) (N := 2) (ci := 3) (T := TX3) (Cn := RX3) rfl rfl rfl (by decide) rfl hi_X3_init_X3 lk_X3_init_6 dX3_init_25 rfl ?_
  refine g_iload_n (pc' := 29) C dX3_init_28 rfl rfl ?_
  refine g_newo (pc' := 32) (kc' := 2) (ks' := 12) (fs := [.int 0, .null, .null, .null, .null, .int 0, .null, .null]) C (ci := 0) (Cn := RX0) (T := TX0) (N := 8) (ty := tyX0) rfl hfs_X0 tyX0_ok hi_X3_init_X0 lk_X3_init_5 lk_X3_init_7 lk_X3_init_8 (by rw [hkc]; exact Nat.le_of_ble_eq_true rfl) (by rw [hks]; exact Nat.le_of_ble_eq_true rfl) rfl rfl dX3_init_29 rfl (fun q2 => ?_)
  show GN X 2 12 _ [[(h0, .inr (3, [.int 0, .ref q1]))], [(q1, .inl (gcA X 2, 4, .inr (.inr (.inr (.inr (fun _ => none))))))], [(q2, .inr (0, [.int 0, .null, .null, .null, .null, .int 0, .null, .null]))]] _ _ _
  refine g_dup (pc' := 33) C dX3_init_32 rfl rfl ?_
  refine G_callC (pc' := 36) (kc' := 8) (ks' := 243) (rest := [[(h0, .inr (3, [.int 0, .ref q1]))], [(q1, .inl (gcA X 2, 4, .inr (.inr (.inr (.inr (fun _ => none))))))]]) (As := []) C hf (c_X0_init (gl X) (gD X) (gcA X) q2 ) gX3_init_X0_init rfl lk_X3_init_8 lk_X3_init_9 lk_X3_init_10 rfl nd_X0_init ⟨Nat.le_of_ble_eq_true rfl, Nat.le_of_ble_eq_true rfl⟩ rfl (Nat.le_of_ble_eq_true rfl) rfl (by rw [hkc]; exact Nat.le_of_ble_eq_true rfl) (by rw [hks]; exact Nat.le_of_ble_eq_true rfl) rfl rfl dX3_init_33 rfl (fun a2 => ?_)
  show GN X 8 243 _ [[(h0, .inr (3, [.int 0, .ref q1]))], [(q1, .inl (gcA X 2, 4, .inr (.inr (.inr (.inr (fun _ => none))))))], bdW (gcA X) (va_up (a2 0) 0 q2) iB] _ _ _
  refine g_aast (pc' := 37) (i := 1) (j := 0) (w' := [(q1, .inl (gcA X 2, 4, .inr (.inr (.inr (.inr (va_up (fun _ => none) (0 : Int32).toNatClampNeg (some q2)))))))]) C rfl rfl rfl (List.mem_flatten.mpr ⟨_, List.mem_of_getElem? (i := 2) rfl, List.mem_cons_self⟩) (by unfold vp_in; decide) dX3_init_36 rfl ?_
  show GN X 8 243 _ [[(h0, .inr (3, [.int 0, .ref q1]))], [(q1, .inl (gcA X 2, 4, .inr (.inr (.inr (.inr (va_up (fun _ => none) (0 : Int32).toNatClampNeg (some q2)))))))], bdW (gcA X) (va_up (a2 0) 0 q2) iB] _ _ _
  refine g_iinc (pc' := 40) (v := 1) C dX3_init_37 rfl (by decide) rfl (L' := [some (.ref h0), some (.int 1)]) rfl ?_
  refine g_goto (pc' := 19) C dX3_init_40 (by decide) ?_
  refine g_iload_n (pc' := 20) C dX3_init_19 rfl rfl ?_
  refine g_iconst (pc' := 21) (v := 4) C dX3_init_20 (by decide) rfl ?_
  refine g_icmp_ge (pc' := 24) (tgt := 43) (T := (none : Option Unit)) (F := some ()) (res := ()) C dX3_init_21 (by decide) rfl (by decide) (fun c h => absurd c (by decide)) (fun c h => ?_)
  refine g_aload_n (pc' := 25) C dX3_init_24 rfl rfl ?_
  refine G_get (pc' := 28) C (i := 0) (j := 0) (k := 1) (N := 2) (ci := 3) (T := TX3) (Cn := RX3) rfl rfl rfl (by decide) rfl hi_X3_init_X3 lk_X3_init_6 dX3_init_25 rfl ?_
  refine g_iload_n (pc' := 29) C dX3_init_28 rfl rfl ?_
  refine g_newo (pc' := 32) (kc' := 9) (ks' := 251) (fs := [.int 0, .null, .null, .null, .null, .int 0, .null, .null]) C (ci := 0) (Cn := RX0) (T := TX0) (N := 8) (ty := tyX0) rfl hfs_X0 tyX0_ok hi_X3_init_X0 lk_X3_init_5 lk_X3_init_7 lk_X3_init_8 (by rw [hkc]; exact Nat.le_of_ble_eq_true rfl) (by rw [hks]; exact Nat.le_of_ble_eq_true rfl) rfl rfl dX3_init_29 rfl (fun q3 => ?_)
  show GN X 9 251 _ [[(h0, .inr (3, [.int 0, .ref q1]))], [(q1, .inl (gcA X 2, 4, .inr (.inr (.inr (.inr (va_up (fun _ => none) (0 : Int32).toNatClampNeg (some q2)))))))], bdW (gcA X) (va_up (a2 0) 0 q2) iB, [(q3, .inr (0, [.int 0, .null, .null, .null, .null, .int 0, .null, .null]))]] _ _ _
  refine g_dup (pc' := 33) C dX3_init_32 rfl rfl ?_
  refine G_callC (pc' := 36) (kc' := 15) (ks' := 482) (rest := [[(h0, .inr (3, [.int 0, .ref q1]))], [(q1, .inl (gcA X 2, 4, .inr (.inr (.inr (.inr (va_up (fun _ => none) (0 : Int32).toNatClampNeg (some q2)))))))], bdW (gcA X) (va_up (a2 0) 0 q2) iB]) (As := []) C hf (c_X0_init (gl X) (gD X) (gcA X) q3 ) gX3_init_X0_init rfl lk_X3_init_8 lk_X3_init_9 lk_X3_init_10 rfl nd_X0_init ⟨Nat.le_of_ble_eq_true rfl, Nat.le_of_ble_eq_true rfl⟩ rfl (Nat.le_of_ble_eq_true rfl) rfl (by rw [hkc]; exact Nat.le_of_ble_eq_true rfl) (by rw [hks]; exact Nat.le_of_ble_eq_true rfl) rfl rfl dX3_init_33 rfl (fun a3 => ?_)
  show GN X 15 482 _ [[(h0, .inr (3, [.int 0, .ref q1]))], [(q1, .inl (gcA X 2, 4, .inr (.inr (.inr (.inr (va_up (fun _ => none) (0 : Int32).toNatClampNeg (some q2)))))))], bdW (gcA X) (va_up (a2 0) 0 q2) iB, bdW (gcA X) (va_up (a3 0) 0 q3) iB] _ _ _
  refine g_aast (pc' := 37) (i := 1) (j := 0) (w' := [(q1, .inl (gcA X 2, 4, .inr (.inr (.inr (.inr (va_up (va_up (fun _ => none) (0 : Int32).toNatClampNeg (some q2)) (1 : Int32).toNatClampNeg (some q3)))))))]) C rfl rfl rfl (List.mem_flatten.mpr ⟨_, List.mem_of_getElem? (i := 3) rfl, List.mem_cons_self⟩) (by unfold vp_in; decide) dX3_init_36 rfl ?_
  show GN X 15 482 _ [[(h0, .inr (3, [.int 0, .ref q1]))], [(q1, .inl (gcA X 2, 4, .inr (.inr (.inr (.inr (va_up (va_up (fun _ => none) (0 : Int32).toNatClampNeg (some q2)) (1 : Int32).toNatClampNeg (some q3)))))))], bdW (gcA X) (va_up (a2 0) 0 q2) iB, bdW (gcA X) (va_up (a3 0) 0 q3) iB] _ _ _
  refine g_iinc (pc' := 40) (v := 2) C dX3_init_37 rfl (by decide) rfl (L' := [some (.ref h0), some (.int 2)]) rfl ?_
  refine g_goto (pc' := 19) C dX3_init_40 (by decide) ?_
  refine g_iload_n (pc' := 20) C dX3_init_19 rfl rfl ?_
  refine g_iconst (pc' := 21) (v := 4) C dX3_init_20 (by decide) rfl ?_
  refine g_icmp_ge (pc' := 24) (tgt := 43) (T := (none : Option Unit)) (F := some ()) (res := ()) C dX3_init_21 (by decide) rfl (by decide) (fun c h => absurd c (by decide)) (fun c h => ?_)
  refine g_aload_n (pc' := 25) C dX3_init_24 rfl rfl ?_
  refine G_get (pc' := 28) C (i := 0) (j := 0) (k := 1) (N := 2) (ci := 3) (T := TX3) (Cn := RX3) rfl rfl rfl (by decide) rfl hi_X3_init_X3 lk_X3_init_6 dX3_init_25 rfl ?_
  refine g_iload_n (pc' := 29) C dX3_init_28 rfl rfl ?_
  refine g_newo (pc' := 32) (kc' := 16) (ks' := 490) (fs := [.int 0, .null, .null, .null, .null, .int 0, .null, .null]) C (ci := 0) (Cn := RX0) (T := TX0) (N := 8) (ty := tyX0) rfl hfs_X0 tyX0_ok hi_X3_init_X0 lk_X3_init_5 lk_X3_init_7 lk_X3_init_8 (by rw [hkc]; exact Nat.le_of_ble_eq_true rfl) (by rw [hks]; exact Nat.le_of_ble_eq_true rfl) rfl rfl dX3_init_29 rfl (fun q4 => ?_)
  show GN X 16 490 _ [[(h0, .inr (3, [.int 0, .ref q1]))], [(q1, .inl (gcA X 2, 4, .inr (.inr (.inr (.inr (va_up (va_up (fun _ => none) (0 : Int32).toNatClampNeg (some q2)) (1 : Int32).toNatClampNeg (some q3)))))))], bdW (gcA X) (va_up (a2 0) 0 q2) iB, bdW (gcA X) (va_up (a3 0) 0 q3) iB, [(q4, .inr (0, [.int 0, .null, .null, .null, .null, .int 0, .null, .null]))]] _ _ _
  refine g_dup (pc' := 33) C dX3_init_32 rfl rfl ?_
  refine G_callC (pc' := 36) (kc' := 22) (ks' := 721) (rest := [[(h0, .inr (3, [.int 0, .ref q1]))], [(q1, .inl (gcA X 2, 4, .inr (.inr (.inr (.inr (va_up (va_up (fun _ => none) (0 : Int32).toNatClampNeg (some q2)) (1 : Int32).toNatClampNeg (some q3)))))))], bdW (gcA X) (va_up (a2 0) 0 q2) iB, bdW (gcA X) (va_up (a3 0) 0 q3) iB]) (As := []) C hf (c_X0_init (gl X) (gD X) (gcA X) q4 ) gX3_init_X0_init rfl lk_X3_init_8 lk_X3_init_9 lk_X3_init_10 rfl nd_X0_init ⟨Nat.le_of_ble_eq_true rfl, Nat.le_of_ble_eq_true rfl⟩ rfl (Nat.le_of_ble_eq_true rfl) rfl (by rw [hkc]; exact Nat.le_of_ble_eq_true rfl) (by rw [hks]; exact Nat.le_of_ble_eq_true rfl) rfl rfl dX3_init_33 rfl (fun a4 => ?_)
  show GN X 22 721 _ [[(h0, .inr (3, [.int 0, .ref q1]))], [(q1, .inl (gcA X 2, 4, .inr (.inr (.inr (.inr (va_up (va_up (fun _ => none) (0 : Int32).toNatClampNeg (some q2)) (1 : Int32).toNatClampNeg (some q3)))))))], bdW (gcA X) (va_up (a2 0) 0 q2) iB, bdW (gcA X) (va_up (a3 0) 0 q3) iB, bdW (gcA X) (va_up (a4 0) 0 q4) iB] _ _ _
  refine g_aast (pc' := 37) (i := 1) (j := 0) (w' := [(q1, .inl (gcA X 2, 4, .inr (.inr (.inr (.inr (va_up (va_up (va_up (fun _ => none) (0 : Int32).toNatClampNeg (some q2)) (1 : Int32).toNatClampNeg (some q3)) (2 : Int32).toNatClampNeg (some q4)))))))]) C rfl rfl rfl (List.mem_flatten.mpr ⟨_, List.mem_of_getElem? (i := 4) rfl, List.mem_cons_self⟩) (by unfold vp_in; decide) dX3_init_36 rfl ?_
  show GN X 22 721 _ [[(h0, .inr (3, [.int 0, .ref q1]))], [(q1, .inl (gcA X 2, 4, .inr (.inr (.inr (.inr (va_up (va_up (va_up (fun _ => none) (0 : Int32).toNatClampNeg (some q2)) (1 : Int32).toNatClampNeg (some q3)) (2 : Int32).toNatClampNeg (some q4)))))))], bdW (gcA X) (va_up (a2 0) 0 q2) iB, bdW (gcA X) (va_up (a3 0) 0 q3) iB, bdW (gcA X) (va_up (a4 0) 0 q4) iB] _ _ _
  refine g_iinc (pc' := 40) (v := 3) C dX3_init_37 rfl (by decide) rfl (L' := [some (.ref h0), some (.int 3)]) rfl ?_
  refine g_goto (pc' := 19) C dX3_init_40 (by decide) ?_
  refine g_iload_n (pc' := 20) C dX3_init_19 rfl rfl ?_
  refine g_iconst (pc' := 21) (v := 4) C dX3_init_20 (by decide) rfl ?_
  refine g_icmp_ge (pc' := 24) (tgt := 43) (T := (none : Option Unit)) (F := some ()) (res := ()) C dX3_init_21 (by decide) rfl (by decide) (fun c h => absurd c (by decide)) (fun c h => ?_)
  refine g_aload_n (pc' := 25) C dX3_init_24 rfl rfl ?_
  refine G_get (pc' := 28) C (i := 0) (j := 0) (k := 1) (N := 2) (ci := 3) (T := TX3) (Cn := RX3) rfl rfl rfl (by decide) rfl hi_X3_init_X3 lk_X3_init_6 dX3_init_25 rfl ?_
  refine g_iload_n (pc' := 29) C dX3_init_28 rfl rfl ?_
  refine g_newo (pc' := 32) (kc' := 23) (ks' := 729) (fs := [.int 0, .null, .null, .null, .null, .int 0, .null, .null]) C (ci := 0) (Cn := RX0) (T := TX0) (N := 8) (ty := tyX0) rfl hfs_X0 tyX0_ok hi_X3_init_X0 lk_X3_init_5 lk_X3_init_7 lk_X3_init_8 (by rw [hkc]; exact Nat.le_of_ble_eq_true rfl) (by rw [hks]; exact Nat.le_of_ble_eq_true rfl) rfl rfl dX3_init_29 rfl (fun q5 => ?_)
  show GN X 23 729 _ [[(h0, .inr (3, [.int 0, .ref q1]))], [(q1, .inl (gcA X 2, 4, .inr (.inr (.inr (.inr (va_up (va_up (va_up (fun _ => none) (0 : Int32).toNatClampNeg (some q2)) (1 : Int32).toNatClampNeg (some q3)) (2 : Int32).toNatClampNeg (some q4)))))))], bdW (gcA X) (va_up (a2 0) 0 q2) iB, bdW (gcA X) (va_up (a3 0) 0 q3) iB, bdW (gcA X) (va_up (a4 0) 0 q4) iB, [(q5, .inr (0, [.int 0, .null, .null, .null, .null, .int 0, .null, .null]))]] _ _ _
  refine g_dup (pc' := 33) C dX3_init_32 rfl rfl ?_
  refine G_callC (pc' := 36) (kc' := 29) (ks' := 960) (rest := [[(h0, .inr (3, [.int 0, .ref q1]))], [(q1, .inl (gcA X 2, 4, .inr (.inr (.inr (.inr (va_up (va_up (va_up (fun _ => none) (0 : Int32).toNatClampNeg (some q2)) (1 : Int32).toNatClampNeg (some q3)) (2 : Int32).toNatClampNeg (some q4)))))))], bdW (gcA X) (va_up (a2 0) 0 q2) iB, bdW (gcA X) (va_up (a3 0) 0 q3) iB, bdW (gcA X) (va_up (a4 0) 0 q4) iB]) (As := []) C hf (c_X0_init (gl X) (gD X) (gcA X) q5 ) gX3_init_X0_init rfl lk_X3_init_8 lk_X3_init_9 lk_X3_init_10 rfl nd_X0_init ⟨Nat.le_of_ble_eq_true rfl, Nat.le_of_ble_eq_true rfl⟩ rfl (Nat.le_of_ble_eq_true rfl) rfl (by rw [hkc]; exact Nat.le_of_ble_eq_true rfl) (by rw [hks]; exact Nat.le_of_ble_eq_true rfl) rfl rfl dX3_init_33 rfl (fun a5 => ?_)
  show GN X 29 960 _ [[(h0, .inr (3, [.int 0, .ref q1]))], [(q1, .inl (gcA X 2, 4, .inr (.inr (.inr (.inr (va_up (va_up (va_up (fun _ => none) (0 : Int32).toNatClampNeg (some q2)) (1 : Int32).toNatClampNeg (some q3)) (2 : Int32).toNatClampNeg (some q4)))))))], bdW (gcA X) (va_up (a2 0) 0 q2) iB, bdW (gcA X) (va_up (a3 0) 0 q3) iB, bdW (gcA X) (va_up (a4 0) 0 q4) iB, bdW (gcA X) (va_up (a5 0) 0 q5) iB] _ _ _
  refine g_aast (pc' := 37) (i := 1) (j := 0) (w' := [(q1, .inl (gcA X 2, 4, .inr (.inr (.inr (.inr (va_up (va_up (va_up (va_up (fun _ => none) (0 : Int32).toNatClampNeg (some q2)) (1 : Int32).toNatClampNeg (some q3)) (2 : Int32).toNatClampNeg (some q4)) (3 : Int32).toNatClampNeg (some q5)))))))]) C rfl rfl rfl (List.mem_flatten.mpr ⟨_, List.mem_of_getElem? (i := 5) rfl, List.mem_cons_self⟩) (by unfold vp_in; decide) dX3_init_36 rfl ?_
  show GN X 29 960 _ [[(h0, .inr (3, [.int 0, .ref q1]))], [(q1, .inl (gcA X 2, 4, .inr (.inr (.inr (.inr (va_up (va_up (va_up (va_up (fun _ => none) (0 : Int32).toNatClampNeg (some q2)) (1 : Int32).toNatClampNeg (some q3)) (2 : Int32).toNatClampNeg (some q4)) (3 : Int32).toNatClampNeg (some q5)))))))], bdW (gcA X) (va_up (a2 0) 0 q2) iB, bdW (gcA X) (va_up (a3 0) 0 q3) iB, bdW (gcA X) (va_up (a4 0) 0 q4) iB, bdW (gcA X) (va_up (a5 0) 0 q5) iB] _ _ _
  refine g_iinc (pc' := 40) (v := 4) C dX3_init_37 rfl (by decide) rfl (L' := [some (.ref h0), some (.int 4)]) rfl ?_
  refine g_goto (pc' := 19) C dX3_init_40 (by decide) ?_
  refine g_iload_n (pc' := 20) C dX3_init_19 rfl rfl ?_
  refine g_iconst (pc' := 21) (v := 4) C dX3_init_20 (by decide) rfl ?_
  refine g_icmp_ge (pc' := 24) (tgt := 43) (T := some ()) (F := (none : Option Unit)) (res := ()) C dX3_init_21 (by decide) rfl (by decide) (fun c h => ?_) (fun c h => absurd (show (4 : Int32) ≤ 4 by decide) c)
  exact g_vretC (W1 := fun a => [hsW (gcA X) (va_up (a 0) 0 h0) (fun j => a (1 + j)) iH]) C (hkc.symm) (hks.symm) (fun n => if n = 0 then (fun i => if i = 2 then q1 else 0) else if n = 1 then va_up (a2 0) 0 q2 else if n = 2 then va_up (a3 0) 0 q3 else if n = 3 then va_up (a4 0) 0 q4 else va_up (a5 0) 0 q5) (by rw [show va_up (va_up (va_up (va_up (fun _ => none) (0 : Int32).toNatClampNeg (some q2)) (1 : Int32).toNatClampNeg (some q3)) (2 : Int32).toNatClampNeg (some q4)) (3 : Int32).toNatClampNeg (some q5) = rwK (fun j => (fun n => if n = 0 then (fun i => if i = 2 then q1 else 0) else if n = 1 then va_up (a2 0) 0 q2 else if n = 2 then va_up (a3 0) 0 q3 else if n = 3 then va_up (a4 0) 0 q4 else va_up (a5 0) 0 q5 : tP) (1 + j)) (fun i => i) from by funext i; match i with | 0 => rfl | 1 => rfl | 2 => rfl | 3 => rfl | i + 4 => simp [rwK, va_up]]; rfl) dX3_init_43
theorem c_X3_init (l : Launch) (D : va_G) (cA : Nat → ClassId) (h0 : Nat) : MC l D cA yX3_init wsX3_init 2 55 29 960 [.ref h0] [[(h0, .inr (3, [.int 0, .null]))]] (fun a => [hsW (cA) (va_up (a 0) 0 h0) (fun j => a (1 + j)) iH]) := MC_of (cc := cX3_init) (maxL := 2) (by decide +kernel) rfl (List.forall_mem_cons.mpr ⟨rfl, List.forall_mem_nil _⟩) (Nat.le_of_ble_eq_true rfl) rfl (fun X e1 e2 e3 hkc hks hcn hf C => by subst e1; subst e2; subst e3; exact B_X3_init C hcn hf hkc hks h0)
theorem nd_X3_init : nd yX3_init 0 := ⟨by decide +kernel, by decide +kernel, by decide +kernel⟩
theorem hi_X5_init_X0 : ∀ w ∈ wsX00, w ∈ wsX5_init := fun w h => List.mem_cons_of_mem _ (List.mem_append_left _ (List.mem_append_left _ (List.mem_append_left _ (List.mem_append_left _ (List.mem_append_left _ (List.mem_append_right _ h))))))
theorem hi_X5_init_X1 : ∀ w ∈ wsX10, w ∈ wsX5_init := fun w h => List.mem_cons_of_mem _ (List.mem_append_right _ h)
theorem hi_X5_init_X2 : ∀ w ∈ wsX20, w ∈ wsX5_init := fun w h => List.mem_cons_of_mem _ (List.mem_append_left _ (List.mem_append_left _ (List.mem_append_right _ h)))
theorem hi_X5_init_X3 : ∀ w ∈ wsX30, w ∈ wsX5_init := fun w h => List.mem_cons_of_mem _ (List.mem_append_left _ (List.mem_append_left _ (List.mem_append_left _ (List.mem_append_right _ h))))
theorem hi_X5_init_X4 : ∀ w ∈ wsX40, w ∈ wsX5_init := fun w h => List.mem_cons_of_mem _ (List.mem_append_left _ (List.mem_append_right _ h))
theorem hi_X5_init_X5 : ∀ w ∈ wsX50, w ∈ wsX5_init := fun w h => List.mem_cons_of_mem _ (List.mem_append_left _ (List.mem_append_left _ (List.mem_append_left _ (List.mem_append_left _ (List.mem_append_right _ h)))))
theorem lk_X5_init_1 : Cond.methodLink RX5 1 objectInit ∈ wsX5_init := List.mem_of_getElem? (i := 1) rfl
theorem lk_X5_init_10 : Cond.initialized RX3 ∈ wsX5_init := List.mem_of_getElem? (i := 10) rfl
theorem lk_X5_init_11 : Cond.fieldLink RX5 19 "NoteThemes" "history" "LNoteThemes$History;" ∈ wsX5_init := List.mem_of_getElem? (i := 11) rfl
theorem lk_X5_init_12 : Cond.fieldLink RX5 23 "NoteThemes" "snapshot" "LNoteThemes$Board;" ∈ wsX5_init := List.mem_of_getElem? (i := 12) rfl
theorem lk_X5_init_13 : Cond.fieldLink RX5 26 "NoteThemes" "hasSnapshot" "Z" ∈ wsX5_init := List.mem_of_getElem? (i := 13) rfl
theorem lk_X5_init_14 : Cond.arrayClass .char ∈ wsX5_init := List.mem_of_getElem? (i := 14) rfl
theorem lk_X5_init_15 : Cond.fieldLink RX5 30 "NoteThemes" "text" "[C" ∈ wsX5_init := List.mem_of_getElem? (i := 15) rfl
theorem lk_X5_init_16 : Cond.fieldLink RX5 34 "NoteThemes" "textLength" "I" ∈ wsX5_init := List.mem_of_getElem? (i := 16) rfl
theorem lk_X5_init_17 : Cond.fieldLink RX5 38 "NoteThemes" "trial" "LNoteThemes$Board;" ∈ wsX5_init := List.mem_of_getElem? (i := 17) rfl
theorem lk_X5_init_18 : Cond.classLink RX5 41 RX2 ∈ wsX5_init := List.mem_of_getElem? (i := 18) rfl
theorem lk_X5_init_19 : Cond.instantiable RX2 4 ∈ wsX5_init := List.mem_of_getElem? (i := 19) rfl
theorem lk_X5_init_2 : Cond.instanceMethod objectInit ∈ wsX5_init := List.mem_of_getElem? (i := 2) rfl
theorem lk_X5_init_20 : Cond.initialized RX2 ∈ wsX5_init := List.mem_of_getElem? (i := 20) rfl
theorem lk_X5_init_21 : Cond.fieldLink RX5 44 "NoteThemes" "heapsNow" "LNoteThemes$Heaps;" ∈ wsX5_init := List.mem_of_getElem? (i := 21) rfl
theorem lk_X5_init_22 : Cond.fieldLink RX5 48 "NoteThemes" "heapsThen" "LNoteThemes$Heaps;" ∈ wsX5_init := List.mem_of_getElem? (i := 22) rfl
theorem lk_X5_init_23 : Cond.classLink RX5 51 RX4 ∈ wsX5_init := List.mem_of_getElem? (i := 23) rfl
theorem lk_X5_init_24 : Cond.instantiable RX4 1 ∈ wsX5_init := List.mem_of_getElem? (i := 24) rfl
theorem lk_X5_init_25 : Cond.initialized RX4 ∈ wsX5_init := List.mem_of_getElem? (i := 25) rfl
theorem lk_X5_init_26 : Cond.fieldLink RX5 54 "NoteThemes" "names" "LNoteThemes$Names;" ∈ wsX5_init := List.mem_of_getElem? (i := 26) rfl
theorem lk_X5_init_27 : Cond.classLink RX5 58 RX1 ∈ wsX5_init := List.mem_of_getElem? (i := 27) rfl
theorem lk_X5_init_28 : Cond.instantiable RX1 5 ∈ wsX5_init := List.mem_of_getElem? (i := 28) rfl
theorem lk_X5_init_29 : Cond.initialized RX1 ∈ wsX5_init := List.mem_of_getElem? (i := 29) rfl
theorem lk_X5_init_3 : Cond.code objectInit ⟨#[0xb1]⟩ 1 none ∈ wsX5_init := List.mem_of_getElem? (i := 3) rfl
theorem lk_X5_init_30 : Cond.fieldLink RX5 63 "NoteThemes" "boardText" "LNoteThemes$BoardText;" ∈ wsX5_init := List.mem_of_getElem? (i := 30) rfl
theorem lk_X5_init_31 : Cond.methodLink RX5 9 yX0_init ∈ wsX5_init := List.mem_of_getElem? (i := 31) rfl
theorem lk_X5_init_32 : Cond.instanceMethod yX0_init ∈ wsX5_init := List.mem_of_getElem? (i := 32) rfl
theorem lk_X5_init_4 : Cond.classLink RX5 7 RX0 ∈ wsX5_init := List.mem_of_getElem? (i := 4) rfl
theorem lk_X5_init_48 : Cond.methodLink RX5 18 yX3_init ∈ wsX5_init := List.mem_of_getElem? (i := 48) rfl
theorem lk_X5_init_49 : Cond.instanceMethod yX3_init ∈ wsX5_init := List.mem_of_getElem? (i := 49) rfl
theorem lk_X5_init_5 : Cond.instantiable RX0 8 ∈ wsX5_init := List.mem_of_getElem? (i := 5) rfl
theorem lk_X5_init_56 : Cond.methodLink RX5 43 yX2_init ∈ wsX5_init := List.mem_of_getElem? (i := 56) rfl
theorem lk_X5_init_57 : Cond.instanceMethod yX2_init ∈ wsX5_init := List.mem_of_getElem? (i := 57) rfl
theorem lk_X5_init_6 : Cond.initialized RX0 ∈ wsX5_init := List.mem_of_getElem? (i := 6) rfl
theorem lk_X5_init_64 : Cond.methodLink RX5 53 yX4_init ∈ wsX5_init := List.mem_of_getElem? (i := 64) rfl
theorem lk_X5_init_65 : Cond.instanceMethod yX4_init ∈ wsX5_init := List.mem_of_getElem? (i := 65) rfl
theorem lk_X5_init_69 : Cond.methodLink RX5 60 yX1_init ∈ wsX5_init := List.mem_of_getElem? (i := 69) rfl
theorem lk_X5_init_7 : Cond.fieldLink RX5 10 "NoteThemes" "board" "LNoteThemes$Board;" ∈ wsX5_init := List.mem_of_getElem? (i := 7) rfl
theorem lk_X5_init_70 : Cond.instanceMethod yX1_init ∈ wsX5_init := List.mem_of_getElem? (i := 70) rfl
theorem lk_X5_init_8 : Cond.classLink RX5 16 RX3 ∈ wsX5_init := List.mem_of_getElem? (i := 8) rfl
theorem lk_X5_init_9 : Cond.instantiable RX3 2 ∈ wsX5_init := List.mem_of_getElem? (i := 9) rfl
set_option maxRecDepth 100000 in
set_option maxHeartbeats 8000000 in
theorem B_X5_init {X : gX} (C : cx X RX5 cX5_init 1 none wsX5_init 3 80) (hcn : cn X) (hf : cf X) (hkc : (gR X).cells = 61) (hks : (gR X).slots = 1861) (h0 : Nat) : GN X 0 0 (QC X (fun pa => NTW (gcA X) (pz pa h0) iZ iB iH iB iZ iB iZ iZ iZ iK)) [[(h0, .inr (5, [.null, .null, .null, .int 0, .null, .int 0, .null, .null, .null, .null, .null]))]] [some (.ref h0)] [] 0 := by
  refine g_aload_n (pc' := 1) C dX5_init_0 rfl rfl ?_
  refine g_oinit (pc' := 4) C lk_X5_init_1 lk_X5_init_2 lk_X5_init_3 ⟨Nat.le_of_ble_eq_true rfl, Nat.le_of_ble_eq_true rfl⟩ rfl dX5_init_1 rfl ?_
  refine g_aload_n (pc' := 5) C dX5_init_4 rfl rfl ?_
  refine g_newo (pc' := 8) (kc' := 1) (ks' := 8) (fs := [.int 0, .null, .null, .null, .null, .int 0, .null, .null]) C (ci := 0) (Cn := RX0) (T := TX0) (N := 8) (ty := tyX0) rfl hfs_X0 tyX0_ok hi_X5_init_X0 lk_X5_init_4 lk_X5_init_5 lk_X5_init_6 (by rw [hkc]; exact Nat.le_of_ble_eq_true rfl) (by rw [hks]; exact Nat.le_of_ble_eq_true rfl) rfl rfl dX5_init_5 rfl (fun q1 => ?_)
  show GN X 1 8 _ [[(h0, .inr (5, [.null, .null, .null, .int 0, .null, .int 0, .null, .null, .null, .null, .null]))], [(q1, .inr (0, [.int 0, .null, .null, .null, .null, .int 0, .null, .null]))]] _ _ _
  refine g_dup (pc' := 9) C dX5_init_8 rfl rfl ?_
  refine G_callC (pc' := 12) (kc' := 7) (ks' := 239) (rest := [[(h0, .inr (5, [.null, .null, .null, .int 0, .null, .int 0, .null, .null, .null, .null, .null]))]]) (As := []) C hf (c_X0_init (gl X) (gD X) (gcA X) q1 ) gX5_init_X0_init rfl lk_X5_init_6 lk_X5_init_31 lk_X5_init_32 rfl nd_X0_init ⟨Nat.le_of_ble_eq_true rfl, Nat.le_of_ble_eq_true rfl⟩ rfl (Nat.le_of_ble_eq_true rfl) rfl (by rw [hkc]; exact Nat.le_of_ble_eq_true rfl) (by rw [hks]; exact Nat.le_of_ble_eq_true rfl) rfl rfl dX5_init_9 rfl (fun a1 => ?_)
  show GN X 7 239 _ [[(h0, .inr (5, [.null, .null, .null, .int 0, .null, .int 0, .null, .null, .null, .null, .null]))], bdW (gcA X) (va_up (a1 0) 0 q1) iB] _ _ _
  refine G_putF (pc' := 15) C hcn (i := 0) (j := 0) (k := 0) (N := 11) (ci := 5) (T := TX5) (Cn := RX5) (ty0 := tyX5) (w' := [(h0, .inr (5, [.ref q1, .null, .null, .int 0, .null, .int 0, .null, .null, .null, .null, .null]))]) rfl rfl rfl (by decide) (Nat.le_of_ble_eq_true rfl) rfl tyX5_ok nmX5 rfl rfl (tyX5_ok 0 (by decide)) rfl rfl hi_X5_init_X5 lk_X5_init_7 dX5_init_12 rfl ?_
  show GN X 7 239 _ [[(h0, .inr (5, [.ref q1, .null, .null, .int 0, .null, .int 0, .null, .null, .null, .null, .null]))], bdW (gcA X) (va_up (a1 0) 0 q1) iB] _ _ _
  refine g_aload_n (pc' := 16) C dX5_init_15 rfl rfl ?_
  refine g_newo (pc' := 19) (kc' := 8) (ks' := 241) (fs := [.int 0, .null]) C (ci := 3) (Cn := RX3) (T := TX3) (N := 2) (ty := tyX3) rfl hfs_X3 tyX3_ok hi_X5_init_X3 lk_X5_init_8 lk_X5_init_9 lk_X5_init_10 (by rw [hkc]; exact Nat.le_of_ble_eq_true rfl) (by rw [hks]; exact Nat.le_of_ble_eq_true rfl) rfl rfl dX5_init_16 rfl (fun q2 => ?_)
  show GN X 8 241 _ [[(h0, .inr (5, [.ref q1, .null, .null, .int 0, .null, .int 0, .null, .null, .null, .null, .null]))], bdW (gcA X) (va_up (a1 0) 0 q1) iB, [(q2, .inr (3, [.int 0, .null]))]] _ _ _
  refine g_dup (pc' := 20) C dX5_init_19 rfl rfl ?_
  refine G_callC (pc' := 23) (kc' := 37) (ks' := 1201) (rest := [[(h0, .inr (5, [.ref q1, .null, .null, .int 0, .null, .int 0, .null, .null, .null, .null, .null]))], bdW (gcA X) (va_up (a1 0) 0 q1) iB]) (As := []) C hf (c_X3_init (gl X) (gD X) (gcA X) q2 ) gX5_init_X3_init rfl lk_X5_init_10 lk_X5_init_48 lk_X5_init_49 rfl nd_X3_init ⟨Nat.le_of_ble_eq_true rfl, Nat.le_of_ble_eq_true rfl⟩ rfl (Nat.le_of_ble_eq_true rfl) rfl (by rw [hkc]; exact Nat.le_of_ble_eq_true rfl) (by rw [hks]; exact Nat.le_of_ble_eq_true rfl) rfl rfl dX5_init_20 rfl (fun a2 => ?_)
  show GN X 37 1201 _ [[(h0, .inr (5, [.ref q1, .null, .null, .int 0, .null, .int 0, .null, .null, .null, .null, .null]))], bdW (gcA X) (va_up (a1 0) 0 q1) iB, hsW (gcA X) (va_up (a2 0) 0 q2) (fun j => a2 (1 + j)) iH] _ _ _
  refine G_putF (pc' := 26) C hcn (i := 0) (j := 0) (k := 1) (N := 11) (ci := 5) (T := TX5) (Cn := RX5) (ty0 := tyX5) (w' := [(h0, .inr (5, [.ref q1, .ref q2, .null, .int 0, .null, .int 0, .null, .null, .null, .null, .null]))]) rfl rfl rfl (by decide) (Nat.le_of_ble_eq_true rfl) rfl tyX5_ok nmX5 rfl rfl (tyX5_ok 1 (by decide)) rfl rfl hi_X5_init_X5 lk_X5_init_11 dX5_init_23 rfl ?_
  show GN X 37 1201 _ [[(h0, .inr (5, [.ref q1, .ref q2, .null, .int 0, .null, .int 0, .null, .null, .null, .null, .null]))], bdW (gcA X) (va_up (a1 0) 0 q1) iB, hsW (gcA X) (va_up (a2 0) 0 q2) (fun j => a2 (1 + j)) iH] _ _ _
  refine g_aload_n (pc' := 27) C dX5_init_26 rfl rfl ?_
  refine g_newo (pc' := 30) (kc' := 38) (ks' := 1209) (fs := [.int 0, .null, .null, .null, .null, .int 0, .null, .null]) C (ci := 0) (Cn := RX0) (T := TX0) (N := 8) (ty := tyX0) rfl hfs_X0 tyX0_ok hi_X5_init_X0 lk_X5_init_4 lk_X5_init_5 lk_X5_init_6 (by rw [hkc]; exact Nat.le_of_ble_eq_true rfl) (by rw [hks]; exact Nat.le_of_ble_eq_true rfl) rfl rfl dX5_init_27 rfl (fun q3 => ?_)
  show GN X 38 1209 _ [[(h0, .inr (5, [.ref q1, .ref q2, .null, .int 0, .null, .int 0, .null, .null, .null, .null, .null]))], bdW (gcA X) (va_up (a1 0) 0 q1) iB, hsW (gcA X) (va_up (a2 0) 0 q2) (fun j => a2 (1 + j)) iH, [(q3, .inr (0, [.int 0, .null, .null, .null, .null, .int 0, .null, .null]))]] _ _ _
  refine g_dup (pc' := 31) C dX5_init_30 rfl rfl ?_
  refine G_callC (pc' := 34) (kc' := 44) (ks' := 1440) (rest := [[(h0, .inr (5, [.ref q1, .ref q2, .null, .int 0, .null, .int 0, .null, .null, .null, .null, .null]))], bdW (gcA X) (va_up (a1 0) 0 q1) iB, hsW (gcA X) (va_up (a2 0) 0 q2) (fun j => a2 (1 + j)) iH]) (As := []) C hf (c_X0_init (gl X) (gD X) (gcA X) q3 ) gX5_init_X0_init rfl lk_X5_init_6 lk_X5_init_31 lk_X5_init_32 rfl nd_X0_init ⟨Nat.le_of_ble_eq_true rfl, Nat.le_of_ble_eq_true rfl⟩ rfl (Nat.le_of_ble_eq_true rfl) rfl (by rw [hkc]; exact Nat.le_of_ble_eq_true rfl) (by rw [hks]; exact Nat.le_of_ble_eq_true rfl) rfl rfl dX5_init_31 rfl (fun a3 => ?_)
  show GN X 44 1440 _ [[(h0, .inr (5, [.ref q1, .ref q2, .null, .int 0, .null, .int 0, .null, .null, .null, .null, .null]))], bdW (gcA X) (va_up (a1 0) 0 q1) iB, hsW (gcA X) (va_up (a2 0) 0 q2) (fun j => a2 (1 + j)) iH, bdW (gcA X) (va_up (a3 0) 0 q3) iB] _ _ _
  refine G_putF (pc' := 37) C hcn (i := 0) (j := 0) (k := 2) (N := 11) (ci := 5) (T := TX5) (Cn := RX5) (ty0 := tyX5) (w' := [(h0, .inr (5, [.ref q1, .ref q2, .ref q3, .int 0, .null, .int 0, .null, .null, .null, .null, .null]))]) rfl rfl rfl (by decide) (Nat.le_of_ble_eq_true rfl) rfl tyX5_ok nmX5 rfl rfl (tyX5_ok 2 (by decide)) rfl rfl hi_X5_init_X5 lk_X5_init_12 dX5_init_34 rfl ?_
  show GN X 44 1440 _ [[(h0, .inr (5, [.ref q1, .ref q2, .ref q3, .int 0, .null, .int 0, .null, .null, .null, .null, .null]))], bdW (gcA X) (va_up (a1 0) 0 q1) iB, hsW (gcA X) (va_up (a2 0) 0 q2) (fun j => a2 (1 + j)) iH, bdW (gcA X) (va_up (a3 0) 0 q3) iB] _ _ _
  refine g_aload_n (pc' := 38) C dX5_init_37 rfl rfl ?_
  refine g_iconst (pc' := 39) (v := 0) C dX5_init_38 (by decide) rfl ?_
  refine G_put (pc' := 42) C (i := 0) (j := 0) (k := 3) (N := 11) (ci := 5) (T := TX5) (Cn := RX5) (ty0 := tyX5) (w' := [(h0, .inr (5, [.ref q1, .ref q2, .ref q3, .int 0, .null, .int 0, .null, .null, .null, .null, .null]))]) rfl rfl rfl (by decide) (Nat.le_of_ble_eq_true rfl) rfl tyX5_ok nmX5 rfl (tyX5_ok 3 (by decide)) rfl rfl hi_X5_init_X5 lk_X5_init_13 dX5_init_39 rfl ?_
  show GN X 44 1440 _ [[(h0, .inr (5, [.ref q1, .ref q2, .ref q3, .int 0, .null, .int 0, .null, .null, .null, .null, .null]))], bdW (gcA X) (va_up (a1 0) 0 q1) iB, hsW (gcA X) (va_up (a2 0) 0 q2) (fun j => a2 (1 + j)) iH, bdW (gcA X) (va_up (a3 0) 0 q3) iB] _ _ _
  refine g_aload_n (pc' := 43) C dX5_init_42 rfl rfl ?_
  refine g_bipush (pc' := 45) (v := 80) C dX5_init_43 (by decide) rfl ?_
  refine g_newch (pc' := 47) (kc' := 45) (ks' := 1520) C 80 lk_X5_init_14 (by decide) (by decide) (Nat.le_of_ble_eq_true rfl) (by rw [hkc]; exact Nat.le_of_ble_eq_true rfl) (by rw [hks]; exact Nat.le_of_ble_eq_true rfl) rfl rfl dX5_init_45 rfl (fun q4 => ?_)
  show GN X 45 1520 _ [[(h0, .inr (5, [.ref q1, .ref q2, .ref q3, .int 0, .null, .int 0, .null, .null, .null, .null, .null]))], bdW (gcA X) (va_up (a1 0) 0 q1) iB, hsW (gcA X) (va_up (a2 0) 0 q2) (fun j => a2 (1 + j)) iH, bdW (gcA X) (va_up (a3 0) 0 q3) iB, [(q4, .inl (gcA X 1, 80, .inl (fun _ => 0)))]] _ _ _
  refine G_putF (pc' := 50) C hcn (i := 0) (j := 0) (k := 4) (N := 11) (ci := 5) (T := TX5) (Cn := RX5) (ty0 := tyX5) (w' := [(h0, .inr (5, [.ref q1, .ref q2, .ref q3, .int 0, .ref q4, .int 0, .null, .null, .null, .null, .null]))]) rfl rfl rfl (by decide) (Nat.le_of_ble_eq_true rfl) rfl tyX5_ok nmX5 rfl rfl (tyX5_ok 4 (by decide)) rfl rfl hi_X5_init_X5 lk_X5_init_15 dX5_init_47 rfl ?_
  show GN X 45 1520 _ [[(h0, .inr (5, [.ref q1, .ref q2, .ref q3, .int 0, .ref q4, .int 0, .null, .null, .null, .null, .null]))], bdW (gcA X) (va_up (a1 0) 0 q1) iB, hsW (gcA X) (va_up (a2 0) 0 q2) (fun j => a2 (1 + j)) iH, bdW (gcA X) (va_up (a3 0) 0 q3) iB, [(q4, .inl (gcA X 1, 80, .inl (fun _ => 0)))]] _ _ _
  refine g_aload_n (pc' := 51) C dX5_init_50 rfl rfl ?_
  refine g_iconst (pc' := 52) (v := 0) C dX5_init_51 (by decide) rfl ?_
  refine G_put (pc' := 55) C (i := 0) (j := 0) (k := 5) (N := 11) (ci := 5) (T := TX5) (Cn := RX5) (ty0 := tyX5) (w' := [(h0, .inr (5, [.ref q1, .ref q2, .ref q3, .int 0, .ref q4, .int 0, .null, .null, .null, .null, .null]))]) rfl rfl rfl (by decide) (Nat.le_of_ble_eq_true rfl) rfl tyX5_ok nmX5 rfl (tyX5_ok 5 (by decide)) rfl rfl hi_X5_init_X5 lk_X5_init_16 dX5_init_52 rfl ?_
  show GN X 45 1520 _ [[(h0, .inr (5, [.ref q1, .ref q2, .ref q3, .int 0, .ref q4, .int 0, .null, .null, .null, .null, .null]))], bdW (gcA X) (va_up (a1 0) 0 q1) iB, hsW (gcA X) (va_up (a2 0) 0 q2) (fun j => a2 (1 + j)) iH, bdW (gcA X) (va_up (a3 0) 0 q3) iB, [(q4, .inl (gcA X 1, 80, .inl (fun _ => 0)))]] _ _ _
  refine g_aload_n (pc' := 56) C dX5_init_55 rfl rfl ?_
  refine g_newo (pc' := 59) (kc' := 46) (ks' := 1528) (fs := [.int 0, .null, .null, .null, .null, .int 0, .null, .null]) C (ci := 0) (Cn := RX0) (T := TX0) (N := 8) (ty := tyX0) rfl hfs_X0 tyX0_ok hi_X5_init_X0 lk_X5_init_4 lk_X5_init_5 lk_X5_init_6 (by rw [hkc]; exact Nat.le_of_ble_eq_true rfl) (by rw [hks]; exact Nat.le_of_ble_eq_true rfl) rfl rfl dX5_init_56 rfl (fun q5 => ?_)
  show GN X 46 1528 _ [[(h0, .inr (5, [.ref q1, .ref q2, .ref q3, .int 0, .ref q4, .int 0, .null, .null, .null, .null, .null]))], bdW (gcA X) (va_up (a1 0) 0 q1) iB, hsW (gcA X) (va_up (a2 0) 0 q2) (fun j => a2 (1 + j)) iH, bdW (gcA X) (va_up (a3 0) 0 q3) iB, [(q4, .inl (gcA X 1, 80, .inl (fun _ => 0)))], [(q5, .inr (0, [.int 0, .null, .null, .null, .null, .int 0, .null, .null]))]] _ _ _
  refine g_dup (pc' := 60) C dX5_init_59 rfl rfl ?_
  refine G_callC (pc' := 63) (kc' := 52) (ks' := 1759) (rest := [[(h0, .inr (5, [.ref q1, .ref q2, .ref q3, .int 0, .ref q4, .int 0, .null, .null, .null, .null, .null]))], bdW (gcA X) (va_up (a1 0) 0 q1) iB, hsW (gcA X) (va_up (a2 0) 0 q2) (fun j => a2 (1 + j)) iH, bdW (gcA X) (va_up (a3 0) 0 q3) iB, [(q4, .inl (gcA X 1, 80, .inl (fun _ => 0)))]]) (As := []) C hf (c_X0_init (gl X) (gD X) (gcA X) q5 ) gX5_init_X0_init rfl lk_X5_init_6 lk_X5_init_31 lk_X5_init_32 rfl nd_X0_init ⟨Nat.le_of_ble_eq_true rfl, Nat.le_of_ble_eq_true rfl⟩ rfl (Nat.le_of_ble_eq_true rfl) rfl (by rw [hkc]; exact Nat.le_of_ble_eq_true rfl) (by rw [hks]; exact Nat.le_of_ble_eq_true rfl) rfl rfl dX5_init_60 rfl (fun a5 => ?_)
  show GN X 52 1759 _ [[(h0, .inr (5, [.ref q1, .ref q2, .ref q3, .int 0, .ref q4, .int 0, .null, .null, .null, .null, .null]))], bdW (gcA X) (va_up (a1 0) 0 q1) iB, hsW (gcA X) (va_up (a2 0) 0 q2) (fun j => a2 (1 + j)) iH, bdW (gcA X) (va_up (a3 0) 0 q3) iB, [(q4, .inl (gcA X 1, 80, .inl (fun _ => 0)))], bdW (gcA X) (va_up (a5 0) 0 q5) iB] _ _ _
  refine G_putF (pc' := 66) C hcn (i := 0) (j := 0) (k := 6) (N := 11) (ci := 5) (T := TX5) (Cn := RX5) (ty0 := tyX5) (w' := [(h0, .inr (5, [.ref q1, .ref q2, .ref q3, .int 0, .ref q4, .int 0, .ref q5, .null, .null, .null, .null]))]) rfl rfl rfl (by decide) (Nat.le_of_ble_eq_true rfl) rfl tyX5_ok nmX5 rfl rfl (tyX5_ok 6 (by decide)) rfl rfl hi_X5_init_X5 lk_X5_init_17 dX5_init_63 rfl ?_
  show GN X 52 1759 _ [[(h0, .inr (5, [.ref q1, .ref q2, .ref q3, .int 0, .ref q4, .int 0, .ref q5, .null, .null, .null, .null]))], bdW (gcA X) (va_up (a1 0) 0 q1) iB, hsW (gcA X) (va_up (a2 0) 0 q2) (fun j => a2 (1 + j)) iH, bdW (gcA X) (va_up (a3 0) 0 q3) iB, [(q4, .inl (gcA X 1, 80, .inl (fun _ => 0)))], bdW (gcA X) (va_up (a5 0) 0 q5) iB] _ _ _
  refine g_aload_n (pc' := 67) C dX5_init_66 rfl rfl ?_
  refine g_newo (pc' := 70) (kc' := 53) (ks' := 1763) (fs := [.int 0, .int 0, .null, .null]) C (ci := 2) (Cn := RX2) (T := TX2) (N := 4) (ty := tyX2) rfl hfs_X2 tyX2_ok hi_X5_init_X2 lk_X5_init_18 lk_X5_init_19 lk_X5_init_20 (by rw [hkc]; exact Nat.le_of_ble_eq_true rfl) (by rw [hks]; exact Nat.le_of_ble_eq_true rfl) rfl rfl dX5_init_67 rfl (fun q6 => ?_)
  show GN X 53 1763 _ [[(h0, .inr (5, [.ref q1, .ref q2, .ref q3, .int 0, .ref q4, .int 0, .ref q5, .null, .null, .null, .null]))], bdW (gcA X) (va_up (a1 0) 0 q1) iB, hsW (gcA X) (va_up (a2 0) 0 q2) (fun j => a2 (1 + j)) iH, bdW (gcA X) (va_up (a3 0) 0 q3) iB, [(q4, .inl (gcA X 1, 80, .inl (fun _ => 0)))], bdW (gcA X) (va_up (a5 0) 0 q5) iB, [(q6, .inr (2, [.int 0, .int 0, .null, .null]))]] _ _ _
  refine g_dup (pc' := 71) C dX5_init_70 rfl rfl ?_
  refine G_callC (pc' := 74) (kc' := 55) (ks' := 1803) (rest := [[(h0, .inr (5, [.ref q1, .ref q2, .ref q3, .int 0, .ref q4, .int 0, .ref q5, .null, .null, .null, .null]))], bdW (gcA X) (va_up (a1 0) 0 q1) iB, hsW (gcA X) (va_up (a2 0) 0 q2) (fun j => a2 (1 + j)) iH, bdW (gcA X) (va_up (a3 0) 0 q3) iB, [(q4, .inl (gcA X 1, 80, .inl (fun _ => 0)))], bdW (gcA X) (va_up (a5 0) 0 q5) iB]) (As := []) C hf (c_X2_init (gl X) (gD X) (gcA X) q6 ) gX5_init_X2_init rfl lk_X5_init_20 lk_X5_init_56 lk_X5_init_57 rfl nd_X2_init ⟨Nat.le_of_ble_eq_true rfl, Nat.le_of_ble_eq_true rfl⟩ rfl (Nat.le_of_ble_eq_true rfl) rfl (by rw [hkc]; exact Nat.le_of_ble_eq_true rfl) (by rw [hks]; exact Nat.le_of_ble_eq_true rfl) rfl rfl dX5_init_71 rfl (fun a6 => ?_)
  show GN X 55 1803 _ [[(h0, .inr (5, [.ref q1, .ref q2, .ref q3, .int 0, .ref q4, .int 0, .ref q5, .null, .null, .null, .null]))], bdW (gcA X) (va_up (a1 0) 0 q1) iB, hsW (gcA X) (va_up (a2 0) 0 q2) (fun j => a2 (1 + j)) iH, bdW (gcA X) (va_up (a3 0) 0 q3) iB, [(q4, .inl (gcA X 1, 80, .inl (fun _ => 0)))], bdW (gcA X) (va_up (a5 0) 0 q5) iB, heW (gcA X) (va_up (a6 0) 0 q6) iZ] _ _ _
  refine G_putF (pc' := 77) C hcn (i := 0) (j := 0) (k := 7) (N := 11) (ci := 5) (T := TX5) (Cn := RX5) (ty0 := tyX5) (w' := [(h0, .inr (5, [.ref q1, .ref q2, .ref q3, .int 0, .ref q4, .int 0, .ref q5, .ref q6, .null, .null, .null]))]) rfl rfl rfl (by decide) (Nat.le_of_ble_eq_true rfl) rfl tyX5_ok nmX5 rfl rfl (tyX5_ok 7 (by decide)) rfl rfl hi_X5_init_X5 lk_X5_init_21 dX5_init_74 rfl ?_
  show GN X 55 1803 _ [[(h0, .inr (5, [.ref q1, .ref q2, .ref q3, .int 0, .ref q4, .int 0, .ref q5, .ref q6, .null, .null, .null]))], bdW (gcA X) (va_up (a1 0) 0 q1) iB, hsW (gcA X) (va_up (a2 0) 0 q2) (fun j => a2 (1 + j)) iH, bdW (gcA X) (va_up (a3 0) 0 q3) iB, [(q4, .inl (gcA X 1, 80, .inl (fun _ => 0)))], bdW (gcA X) (va_up (a5 0) 0 q5) iB, heW (gcA X) (va_up (a6 0) 0 q6) iZ] _ _ _
  refine g_aload_n (pc' := 78) C dX5_init_77 rfl rfl ?_
  refine g_newo (pc' := 81) (kc' := 56) (ks' := 1807) (fs := [.int 0, .int 0, .null, .null]) C (ci := 2) (Cn := RX2) (T := TX2) (N := 4) (ty := tyX2) rfl hfs_X2 tyX2_ok hi_X5_init_X2 lk_X5_init_18 lk_X5_init_19 lk_X5_init_20 (by rw [hkc]; exact Nat.le_of_ble_eq_true rfl) (by rw [hks]; exact Nat.le_of_ble_eq_true rfl) rfl rfl dX5_init_78 rfl (fun q7 => ?_)
  show GN X 56 1807 _ [[(h0, .inr (5, [.ref q1, .ref q2, .ref q3, .int 0, .ref q4, .int 0, .ref q5, .ref q6, .null, .null, .null]))], bdW (gcA X) (va_up (a1 0) 0 q1) iB, hsW (gcA X) (va_up (a2 0) 0 q2) (fun j => a2 (1 + j)) iH, bdW (gcA X) (va_up (a3 0) 0 q3) iB, [(q4, .inl (gcA X 1, 80, .inl (fun _ => 0)))], bdW (gcA X) (va_up (a5 0) 0 q5) iB, heW (gcA X) (va_up (a6 0) 0 q6) iZ, [(q7, .inr (2, [.int 0, .int 0, .null, .null]))]] _ _ _
  refine g_dup (pc' := 82) C dX5_init_81 rfl rfl ?_
  refine G_callC (pc' := 85) (kc' := 58) (ks' := 1847) (rest := [[(h0, .inr (5, [.ref q1, .ref q2, .ref q3, .int 0, .ref q4, .int 0, .ref q5, .ref q6, .null, .null, .null]))], bdW (gcA X) (va_up (a1 0) 0 q1) iB, hsW (gcA X) (va_up (a2 0) 0 q2) (fun j => a2 (1 + j)) iH, bdW (gcA X) (va_up (a3 0) 0 q3) iB, [(q4, .inl (gcA X 1, 80, .inl (fun _ => 0)))], bdW (gcA X) (va_up (a5 0) 0 q5) iB, heW (gcA X) (va_up (a6 0) 0 q6) iZ]) (As := []) C hf (c_X2_init (gl X) (gD X) (gcA X) q7 ) gX5_init_X2_init rfl lk_X5_init_20 lk_X5_init_56 lk_X5_init_57 rfl nd_X2_init ⟨Nat.le_of_ble_eq_true rfl, Nat.le_of_ble_eq_true rfl⟩ rfl (Nat.le_of_ble_eq_true rfl) rfl (by rw [hkc]; exact Nat.le_of_ble_eq_true rfl) (by rw [hks]; exact Nat.le_of_ble_eq_true rfl) rfl rfl dX5_init_82 rfl (fun a7 => ?_)
  show GN X 58 1847 _ [[(h0, .inr (5, [.ref q1, .ref q2, .ref q3, .int 0, .ref q4, .int 0, .ref q5, .ref q6, .null, .null, .null]))], bdW (gcA X) (va_up (a1 0) 0 q1) iB, hsW (gcA X) (va_up (a2 0) 0 q2) (fun j => a2 (1 + j)) iH, bdW (gcA X) (va_up (a3 0) 0 q3) iB, [(q4, .inl (gcA X 1, 80, .inl (fun _ => 0)))], bdW (gcA X) (va_up (a5 0) 0 q5) iB, heW (gcA X) (va_up (a6 0) 0 q6) iZ, heW (gcA X) (va_up (a7 0) 0 q7) iZ] _ _ _
  refine G_putF (pc' := 88) C hcn (i := 0) (j := 0) (k := 8) (N := 11) (ci := 5) (T := TX5) (Cn := RX5) (ty0 := tyX5) (w' := [(h0, .inr (5, [.ref q1, .ref q2, .ref q3, .int 0, .ref q4, .int 0, .ref q5, .ref q6, .ref q7, .null, .null]))]) rfl rfl rfl (by decide) (Nat.le_of_ble_eq_true rfl) rfl tyX5_ok nmX5 rfl rfl (tyX5_ok 8 (by decide)) rfl rfl hi_X5_init_X5 lk_X5_init_22 dX5_init_85 rfl ?_
  show GN X 58 1847 _ [[(h0, .inr (5, [.ref q1, .ref q2, .ref q3, .int 0, .ref q4, .int 0, .ref q5, .ref q6, .ref q7, .null, .null]))], bdW (gcA X) (va_up (a1 0) 0 q1) iB, hsW (gcA X) (va_up (a2 0) 0 q2) (fun j => a2 (1 + j)) iH, bdW (gcA X) (va_up (a3 0) 0 q3) iB, [(q4, .inl (gcA X 1, 80, .inl (fun _ => 0)))], bdW (gcA X) (va_up (a5 0) 0 q5) iB, heW (gcA X) (va_up (a6 0) 0 q6) iZ, heW (gcA X) (va_up (a7 0) 0 q7) iZ] _ _ _
  refine g_aload_n (pc' := 89) C dX5_init_88 rfl rfl ?_
  refine g_newo (pc' := 92) (kc' := 59) (ks' := 1848) (fs := [.null]) C (ci := 4) (Cn := RX4) (T := TX4) (N := 1) (ty := tyX4) rfl hfs_X4 tyX4_ok hi_X5_init_X4 lk_X5_init_23 lk_X5_init_24 lk_X5_init_25 (by rw [hkc]; exact Nat.le_of_ble_eq_true rfl) (by rw [hks]; exact Nat.le_of_ble_eq_true rfl) rfl rfl dX5_init_89 rfl (fun q8 => ?_)
  show GN X 59 1848 _ [[(h0, .inr (5, [.ref q1, .ref q2, .ref q3, .int 0, .ref q4, .int 0, .ref q5, .ref q6, .ref q7, .null, .null]))], bdW (gcA X) (va_up (a1 0) 0 q1) iB, hsW (gcA X) (va_up (a2 0) 0 q2) (fun j => a2 (1 + j)) iH, bdW (gcA X) (va_up (a3 0) 0 q3) iB, [(q4, .inl (gcA X 1, 80, .inl (fun _ => 0)))], bdW (gcA X) (va_up (a5 0) 0 q5) iB, heW (gcA X) (va_up (a6 0) 0 q6) iZ, heW (gcA X) (va_up (a7 0) 0 q7) iZ, [(q8, .inr (4, [.null]))]] _ _ _
  refine g_dup (pc' := 93) C dX5_init_92 rfl rfl ?_
  refine G_callC (pc' := 96) (kc' := 60) (ks' := 1856) (rest := [[(h0, .inr (5, [.ref q1, .ref q2, .ref q3, .int 0, .ref q4, .int 0, .ref q5, .ref q6, .ref q7, .null, .null]))], bdW (gcA X) (va_up (a1 0) 0 q1) iB, hsW (gcA X) (va_up (a2 0) 0 q2) (fun j => a2 (1 + j)) iH, bdW (gcA X) (va_up (a3 0) 0 q3) iB, [(q4, .inl (gcA X 1, 80, .inl (fun _ => 0)))], bdW (gcA X) (va_up (a5 0) 0 q5) iB, heW (gcA X) (va_up (a6 0) 0 q6) iZ, heW (gcA X) (va_up (a7 0) 0 q7) iZ]) (As := []) C hf (c_X4_init (gl X) (gD X) (gcA X) q8 ) gX5_init_X4_init rfl lk_X5_init_25 lk_X5_init_64 lk_X5_init_65 rfl nd_X4_init ⟨Nat.le_of_ble_eq_true rfl, Nat.le_of_ble_eq_true rfl⟩ rfl (Nat.le_of_ble_eq_true rfl) rfl (by rw [hkc]; exact Nat.le_of_ble_eq_true rfl) (by rw [hks]; exact Nat.le_of_ble_eq_true rfl) rfl rfl dX5_init_93 rfl (fun a8 => ?_)
  show GN X 60 1856 _ [[(h0, .inr (5, [.ref q1, .ref q2, .ref q3, .int 0, .ref q4, .int 0, .ref q5, .ref q6, .ref q7, .null, .null]))], bdW (gcA X) (va_up (a1 0) 0 q1) iB, hsW (gcA X) (va_up (a2 0) 0 q2) (fun j => a2 (1 + j)) iH, bdW (gcA X) (va_up (a3 0) 0 q3) iB, [(q4, .inl (gcA X 1, 80, .inl (fun _ => 0)))], bdW (gcA X) (va_up (a5 0) 0 q5) iB, heW (gcA X) (va_up (a6 0) 0 q6) iZ, heW (gcA X) (va_up (a7 0) 0 q7) iZ, nmW (gcA X) (va_up (a8 0) 0 q8) iZ] _ _ _
  refine G_putF (pc' := 99) C hcn (i := 0) (j := 0) (k := 9) (N := 11) (ci := 5) (T := TX5) (Cn := RX5) (ty0 := tyX5) (w' := [(h0, .inr (5, [.ref q1, .ref q2, .ref q3, .int 0, .ref q4, .int 0, .ref q5, .ref q6, .ref q7, .ref q8, .null]))]) rfl rfl rfl (by decide) (Nat.le_of_ble_eq_true rfl) rfl tyX5_ok nmX5 rfl rfl (tyX5_ok 9 (by decide)) rfl rfl hi_X5_init_X5 lk_X5_init_26 dX5_init_96 rfl ?_
  show GN X 60 1856 _ [[(h0, .inr (5, [.ref q1, .ref q2, .ref q3, .int 0, .ref q4, .int 0, .ref q5, .ref q6, .ref q7, .ref q8, .null]))], bdW (gcA X) (va_up (a1 0) 0 q1) iB, hsW (gcA X) (va_up (a2 0) 0 q2) (fun j => a2 (1 + j)) iH, bdW (gcA X) (va_up (a3 0) 0 q3) iB, [(q4, .inl (gcA X 1, 80, .inl (fun _ => 0)))], bdW (gcA X) (va_up (a5 0) 0 q5) iB, heW (gcA X) (va_up (a6 0) 0 q6) iZ, heW (gcA X) (va_up (a7 0) 0 q7) iZ, nmW (gcA X) (va_up (a8 0) 0 q8) iZ] _ _ _
  refine g_aload_n (pc' := 100) C dX5_init_99 rfl rfl ?_
  refine g_newo (pc' := 103) (kc' := 61) (ks' := 1861) (fs := [.null, .int 0, .int 0, .int 0, .int 0]) C (ci := 1) (Cn := RX1) (T := TX1) (N := 5) (ty := tyX1) rfl hfs_X1 tyX1_ok hi_X5_init_X1 lk_X5_init_27 lk_X5_init_28 lk_X5_init_29 (by rw [hkc]; exact Nat.le_of_ble_eq_true rfl) (by rw [hks]; exact Nat.le_of_ble_eq_true rfl) rfl rfl dX5_init_100 rfl (fun q9 => ?_)
  show GN X 61 1861 _ [[(h0, .inr (5, [.ref q1, .ref q2, .ref q3, .int 0, .ref q4, .int 0, .ref q5, .ref q6, .ref q7, .ref q8, .null]))], bdW (gcA X) (va_up (a1 0) 0 q1) iB, hsW (gcA X) (va_up (a2 0) 0 q2) (fun j => a2 (1 + j)) iH, bdW (gcA X) (va_up (a3 0) 0 q3) iB, [(q4, .inl (gcA X 1, 80, .inl (fun _ => 0)))], bdW (gcA X) (va_up (a5 0) 0 q5) iB, heW (gcA X) (va_up (a6 0) 0 q6) iZ, heW (gcA X) (va_up (a7 0) 0 q7) iZ, nmW (gcA X) (va_up (a8 0) 0 q8) iZ, [(q9, .inr (1, [.null, .int 0, .int 0, .int 0, .int 0]))]] _ _ _
  refine g_dup (pc' := 104) C dX5_init_103 rfl rfl ?_
  refine g_aload_n (pc' := 105) C dX5_init_104 rfl rfl ?_
  refine G_get (pc' := 108) C (i := 0) (j := 0) (k := 6) (N := 11) (ci := 5) (T := TX5) (Cn := RX5) rfl rfl rfl (by decide) rfl hi_X5_init_X5 lk_X5_init_17 dX5_init_105 rfl ?_
  refine G_callC (pc' := 111) (kc' := 61) (ks' := 1861) (rest := [[(h0, .inr (5, [.ref q1, .ref q2, .ref q3, .int 0, .ref q4, .int 0, .ref q5, .ref q6, .ref q7, .ref q8, .null]))], bdW (gcA X) (va_up (a1 0) 0 q1) iB, hsW (gcA X) (va_up (a2 0) 0 q2) (fun j => a2 (1 + j)) iH, bdW (gcA X) (va_up (a3 0) 0 q3) iB, [(q4, .inl (gcA X 1, 80, .inl (fun _ => 0)))], bdW (gcA X) (va_up (a5 0) 0 q5) iB, heW (gcA X) (va_up (a6 0) 0 q6) iZ, heW (gcA X) (va_up (a7 0) 0 q7) iZ, nmW (gcA X) (va_up (a8 0) 0 q8) iZ]) (As := [.ref q5]) C hf (c_X1_init (gl X) (gD X) (gcA X) q9 (q5)) gX5_init_X1_init rfl lk_X5_init_29 lk_X5_init_69 lk_X5_init_70 rfl nd_X1_init ⟨Nat.le_of_ble_eq_true rfl, Nat.le_of_ble_eq_true rfl⟩ rfl (Nat.le_of_ble_eq_true rfl) rfl (by rw [hkc]; exact Nat.le_of_ble_eq_true rfl) (by rw [hks]; exact Nat.le_of_ble_eq_true rfl) rfl rfl dX5_init_108 rfl (fun a9 => ?_)
  show GN X 61 1861 _ [[(h0, .inr (5, [.ref q1, .ref q2, .ref q3, .int 0, .ref q4, .int 0, .ref q5, .ref q6, .ref q7, .ref q8, .null]))], bdW (gcA X) (va_up (a1 0) 0 q1) iB, hsW (gcA X) (va_up (a2 0) 0 q2) (fun j => a2 (1 + j)) iH, bdW (gcA X) (va_up (a3 0) 0 q3) iB, [(q4, .inl (gcA X 1, 80, .inl (fun _ => 0)))], bdW (gcA X) (va_up (a5 0) 0 q5) iB, heW (gcA X) (va_up (a6 0) 0 q6) iZ, heW (gcA X) (va_up (a7 0) 0 q7) iZ, nmW (gcA X) (va_up (a8 0) 0 q8) iZ, btW (va_up (a9 0) 0 q9) (q5) iK] _ _ _
  refine G_putF (pc' := 114) C hcn (i := 0) (j := 0) (k := 10) (N := 11) (ci := 5) (T := TX5) (Cn := RX5) (ty0 := tyX5) (w' := [(h0, .inr (5, [.ref q1, .ref q2, .ref q3, .int 0, .ref q4, .int 0, .ref q5, .ref q6, .ref q7, .ref q8, .ref q9]))]) rfl rfl rfl (by decide) (Nat.le_of_ble_eq_true rfl) rfl tyX5_ok nmX5 rfl rfl (tyX5_ok 10 (by decide)) rfl rfl hi_X5_init_X5 lk_X5_init_30 dX5_init_111 rfl ?_
  show GN X 61 1861 _ [[(h0, .inr (5, [.ref q1, .ref q2, .ref q3, .int 0, .ref q4, .int 0, .ref q5, .ref q6, .ref q7, .ref q8, .ref q9]))], bdW (gcA X) (va_up (a1 0) 0 q1) iB, hsW (gcA X) (va_up (a2 0) 0 q2) (fun j => a2 (1 + j)) iH, bdW (gcA X) (va_up (a3 0) 0 q3) iB, [(q4, .inl (gcA X 1, 80, .inl (fun _ => 0)))], bdW (gcA X) (va_up (a5 0) 0 q5) iB, heW (gcA X) (va_up (a6 0) 0 q6) iZ, heW (gcA X) (va_up (a7 0) 0 q7) iZ, nmW (gcA X) (va_up (a8 0) 0 q8) iZ, btW (va_up (a9 0) 0 q9) (q5) iK] _ _ _
  exact g_vretC (W1 := fun pa => NTW (gcA X) (pz pa h0) iZ iB iH iB iZ iB iZ iZ iZ iK) C (hkc.symm) (hks.symm) (fun n => if n = 1 then va_up (a1 0) 0 q1 else if n = 2 then va_up (a2 0) 0 q2 else if n = 3 then va_up (a3 0) 0 q3 else if n = 4 then (fun _ => q4) else if n = 5 then va_up (a5 0) 0 q5 else if n = 6 then va_up (a6 0) 0 q6 else if n = 7 then va_up (a7 0) 0 q7 else if n = 8 then va_up (a8 0) 0 q8 else if n = 9 then va_up (a9 0) 0 q9 else if n = 10 then a2 1 else if n = 11 then a2 2 else if n = 12 then a2 3 else a2 4) (by rw [hs_k (k' := fun j => pz (fun n => if n = 1 then va_up (a1 0) 0 q1 else if n = 2 then va_up (a2 0) 0 q2 else if n = 3 then va_up (a3 0) 0 q3 else if n = 4 then (fun _ => q4) else if n = 5 then va_up (a5 0) 0 q5 else if n = 6 then va_up (a6 0) 0 q6 else if n = 7 then va_up (a7 0) 0 q7 else if n = 8 then va_up (a8 0) 0 q8 else if n = 9 then va_up (a9 0) 0 q9 else if n = 10 then a2 1 else if n = 11 then a2 2 else if n = 12 then a2 3 else a2 4) h0 (10 + j)) _ _ (fun i hi => by match i, hi with | 0, _ => rfl | 1, _ => rfl | 2, _ => rfl | 3, _ => rfl)]; rfl) dX5_init_114
theorem c_X5_init (l : Launch) (D : va_G) (cA : Nat → ClassId) (h0 : Nat) : MC l D cA yX5_init wsX5_init 3 80 61 1861 [.ref h0] [[(h0, .inr (5, [.null, .null, .null, .int 0, .null, .int 0, .null, .null, .null, .null, .null]))]] (fun pa => NTW (cA) (pz pa h0) iZ iB iH iB iZ iB iZ iZ iZ iK) := MC_of (cc := cX5_init) (maxL := 1) (by decide +kernel) rfl (List.forall_mem_cons.mpr ⟨rfl, List.forall_mem_nil _⟩) (Nat.le_of_ble_eq_true rfl) rfl (fun X e1 e2 e3 hkc hks hcn hf C => by subst e1; subst e2; subst e3; exact B_X5_init C hcn hf hkc hks h0)
theorem nd_X5_init : nd yX5_init 0 := ⟨by decide +kernel, by decide +kernel, by decide +kernel⟩
