theorem sp_X6_init {w : List KD} {m : Nat → Nat → Int} (o : Nat) (ho : w.length = o) : Sp M_X6_init 1 3 64 [rV o] (w ++ [(0, 6, [-1, -1, -1, -1, -1, -1, -1, -1])], m) (fun r h => r = none ∧ h = (w ++ [(0, 6, [-1, -1, ((o + 1 : Nat) : Int), ((o + 2 : Nat) : Int), ((o + 3 : Nat) : Int), -1, -1, -1]), (1, 8, []), (1, 8, []), (1, 48, [])], (upm (upm (upm (zer (zer (zer (upm (upm m o 0 0) o 1 0) (o + 1)) (o + 2)) (o + 3)) o 5 0) o 6 (-1)) o 7 0))) := by
  refine Sp.ofG (ls := [rV o]) (by decide +kernel) rfl (Nat.le_of_ble_eq_true rfl) ?_
  refine G_aload_n d_X6_init_0 rfl ?_
  refine G_obj d_X6_init_1 ob_X6_3 ob_ins ob_cod (Nat.le_of_ble_eq_true rfl) (by decide) ?_
  refine G_aload_n d_X6_init_4 rfl ?_
  refine G_iconst d_X6_init_5 ?_
  refine G_putII fl_X6_9 d_X6_init_6 (nw_at ho _ _) rfl ?_
  refine G_aload_n d_X6_init_9 rfl ?_
  refine G_iconst d_X6_init_10 ?_
  refine G_putII fl_X6_15 d_X6_init_11 (nw_at ho _ _) rfl ?_
  refine G_aload_n d_X6_init_14 rfl ?_
  refine G_bipush d_X6_init_15 (by decide) ?_
  refine G_newai (n := 8) (o := o + 1) d_X6_init_17 ar_int (by decide) (by simp [ho]) ?_
  rw [nw_app]
  refine G_putR (r := o + 1) fl_X6_18 d_X6_init_19 (nw_at ho _ _) rfl rfl (by simp) ?_
  rw [nw_set ho]
  refine G_aload_n d_X6_init_22 rfl ?_
  refine G_bipush d_X6_init_23 (by decide) ?_
  refine G_newai (n := 8) (o := o + 2) d_X6_init_25 ar_int (by decide) (by simp [ho]) ?_
  rw [nw_app]
  refine G_putR (r := o + 2) fl_X6_22 d_X6_init_27 (nw_at ho _ _) rfl rfl (by simp) ?_
  rw [nw_set ho]
  refine G_aload_n d_X6_init_30 rfl ?_
  refine G_bipush d_X6_init_31 (by decide) ?_
  refine G_newai (n := 48) (o := o + 3) d_X6_init_33 ar_int (by decide) (by simp [ho]) ?_
  rw [nw_app]
  refine G_putR (r := o + 3) fl_X6_25 d_X6_init_35 (nw_at ho _ _) rfl rfl (by simp) ?_
  rw [nw_set ho]
  refine G_aload_n d_X6_init_38 rfl ?_
  refine G_iconst d_X6_init_39 ?_
  refine G_putII fl_X6_28 d_X6_init_40 (nw_at ho _ _) rfl ?_
  refine G_aload_n d_X6_init_43 rfl ?_
  refine G_iconst d_X6_init_44 ?_
  refine G_putII fl_X6_31 d_X6_init_45 (nw_at ho _ _) rfl ?_
  refine G_aload_n d_X6_init_48 rfl ?_
  refine G_iconst d_X6_init_49 ?_
  refine G_putZ fl_X6_34 d_X6_init_50 (nw_at ho _ _) rfl (by decide) ?_
  refine G_vret (mc := 0) (ms := 0) (st := []) d_X6_init_53 rfl ?_
  exact ⟨rfl, rfl⟩
theorem sp_X7_init {w : List KD} {m : Nat → Nat → Int} (o : Nat) (ho : w.length = o) : Sp M_X7_init 1 3 550 [rV o] (w ++ [(0, 7, [-1, -1, -1, -1, -1, -1, -1])], m) (fun r h => r = none ∧ h = (w ++ [(0, 7, [-1, -1, -1, -1, ((o + 1 : Nat) : Int), ((o + 2 : Nat) : Int), ((o + 3 : Nat) : Int)]), (2, 400, []), (1, 144, []), (1, 6, [])], (zer (zer (zer (upm (upm (upm (upm m o 0 0) o 1 0) o 2 (-1)) o 3 0) (o + 1)) (o + 2)) (o + 3)))) := by
  refine Sp.ofG (ls := [rV o]) (by decide +kernel) rfl (Nat.le_of_ble_eq_true rfl) ?_
  refine G_aload_n d_X7_init_0 rfl ?_
  refine G_obj d_X7_init_1 ob_X7_3 ob_ins ob_cod (Nat.le_of_ble_eq_true rfl) (by decide) ?_
  refine G_aload_n d_X7_init_4 rfl ?_
  refine G_iconst d_X7_init_5 ?_
  refine G_putII fl_X7_9 d_X7_init_6 (nw_at ho _ _) rfl ?_
  refine G_aload_n d_X7_init_9 rfl ?_
  refine G_iconst d_X7_init_10 ?_
  refine G_putII fl_X7_15 d_X7_init_11 (nw_at ho _ _) rfl ?_
  refine G_aload_n d_X7_init_14 rfl ?_
  refine G_iconst d_X7_init_15 ?_
  refine G_putII fl_X7_18 d_X7_init_16 (nw_at ho _ _) rfl ?_
  refine G_aload_n d_X7_init_19 rfl ?_
  refine G_iconst d_X7_init_20 ?_
  refine G_putII fl_X7_21 d_X7_init_21 (nw_at ho _ _) rfl ?_
  refine G_aload_n d_X7_init_24 rfl ?_
  refine G_sipush d_X7_init_25 (by decide) ?_
  refine G_newab (n := 400) (o := o + 1) d_X7_init_28 ar_byte (by decide) (by simp [ho]) ?_
  rw [nw_app]
  refine G_putR (r := o + 1) fl_X7_24 d_X7_init_30 (nw_at ho _ _) rfl rfl (by simp) ?_
  rw [nw_set ho]
  refine G_aload_n d_X7_init_33 rfl ?_
  refine G_sipush d_X7_init_34 (by decide) ?_
  refine G_newai (n := 144) (o := o + 2) d_X7_init_37 ar_int (by decide) (by simp [ho]) ?_
  rw [nw_app]
  refine G_putR (r := o + 2) fl_X7_28 d_X7_init_39 (nw_at ho _ _) rfl rfl (by simp) ?_
  rw [nw_set ho]
  refine G_aload_n d_X7_init_42 rfl ?_
  refine G_bipush d_X7_init_43 (by decide) ?_
  refine G_newai (n := 6) (o := o + 3) d_X7_init_45 ar_int (by decide) (by simp [ho]) ?_
  rw [nw_app]
  refine G_putR (r := o + 3) fl_X7_32 d_X7_init_47 (nw_at ho _ _) rfl rfl (by simp) ?_
  rw [nw_set ho]
  refine G_vret (mc := 0) (ms := 0) (st := []) d_X7_init_50 rfl ?_
  exact ⟨rfl, rfl⟩
theorem sp_X3_init {w : List KD} {m : Nat → Nat → Int} (o : Nat) (ho : w.length = o) : Sp M_X3_init 1 4 19208 [rV o] (w ++ [(0, 3, [-1, -1, -1, -1, -1, -1])], m) (fun r h => r = none ∧ h = (w ++ [(0, 3, [-1, -1, ((o + 1 : Nat) : Int), ((o + 2 : Nat) : Int), ((o + 3 : Nat) : Int), ((o + 4 : Nat) : Int)]), (2, 12005, []), (3, 2401, []), (1, 2401, []), (2, 2401, [])], (zer (zer (zer (zer (upm (upm m o 0 0) o 1 0) (o + 1)) (o + 2)) (o + 3)) (o + 4)))) := by
  refine Sp.ofG (ls := [rV o]) (by decide +kernel) rfl (Nat.le_of_ble_eq_true rfl) ?_
  refine G_aload_n d_X3_init_0 rfl ?_
  refine G_obj d_X3_init_1 ob_X3_3 ob_ins ob_cod (Nat.le_of_ble_eq_true rfl) (by decide) ?_
  refine G_aload_n d_X3_init_4 rfl ?_
  refine G_iconst d_X3_init_5 ?_
  refine G_putII fl_X3_9 d_X3_init_6 (nw_at ho _ _) rfl ?_
  refine G_aload_n d_X3_init_9 rfl ?_
  refine G_iconst d_X3_init_10 ?_
  refine G_putZ fl_X3_15 d_X3_init_11 (nw_at ho _ _) rfl (by decide) ?_
  refine G_aload_n d_X3_init_14 rfl ?_
  refine G_sipush d_X3_init_15 (by decide) ?_
  refine G_newab (n := 12005) (o := o + 1) d_X3_init_18 ar_byte (by decide) (by simp [ho]) ?_
  rw [nw_app]
  refine G_putR (r := o + 1) fl_X3_19 d_X3_init_20 (nw_at ho _ _) rfl rfl (by simp) ?_
  rw [nw_set ho]
  refine G_aload_n d_X3_init_23 rfl ?_
  refine G_sipush d_X3_init_24 (by decide) ?_
  refine G_newas (n := 2401) (o := o + 2) d_X3_init_27 ar_short (by decide) (by simp [ho]) ?_
  rw [nw_app]
  refine G_putR (r := o + 2) fl_X3_23 d_X3_init_29 (nw_at ho _ _) rfl rfl (by simp) ?_
  rw [nw_set ho]
  refine G_aload_n d_X3_init_32 rfl ?_
  refine G_sipush d_X3_init_33 (by decide) ?_
  refine G_newai (n := 2401) (o := o + 3) d_X3_init_36 ar_int (by decide) (by simp [ho]) ?_
  rw [nw_app]
  refine G_putR (r := o + 3) fl_X3_27 d_X3_init_38 (nw_at ho _ _) rfl rfl (by simp) ?_
  rw [nw_set ho]
  refine G_aload_n d_X3_init_41 rfl ?_
  refine G_sipush d_X3_init_42 (by decide) ?_
  refine G_newab (n := 2401) (o := o + 4) d_X3_init_45 ar_byte (by decide) (by simp [ho]) ?_
  rw [nw_app]
  refine G_putR (r := o + 4) fl_X3_31 d_X3_init_47 (nw_at ho _ _) rfl rfl (by simp) ?_
  rw [nw_set ho]
  refine G_vret (mc := 0) (ms := 0) (st := []) d_X3_init_50 rfl ?_
  exact ⟨rfl, rfl⟩
theorem sp_X8_init {w : List KD} {m : Nat → Nat → Int} (o : Nat) (ho : w.length = o) : Sp M_X8_init 1 4 4812 [rV o] (w ++ [(0, 8, [-1, -1, -1, -1, -1, -1, -1, -1, -1])], m) (fun r h => r = none ∧ h = (w ++ [(0, 8, [-1, -1, -1, -1, ((o + 1 : Nat) : Int), ((o + 2 : Nat) : Int), -1, ((o + 3 : Nat) : Int), ((o + 4 : Nat) : Int)]), (1, 5, []), (1, 5, []), (1, 2401, []), (2, 2401, [])], (zer (zer (upm (zer (zer (upm (upm (upm (upm m o 0 0) o 1 0) o 2 0) o 3 0) (o + 1)) (o + 2)) o 6 0) (o + 3)) (o + 4)))) := by
  refine Sp.ofG (ls := [rV o]) (by decide +kernel) rfl (Nat.le_of_ble_eq_true rfl) ?_
  refine G_aload_n d_X8_init_0 rfl ?_
  refine G_obj d_X8_init_1 ob_X8_3 ob_ins ob_cod (Nat.le_of_ble_eq_true rfl) (by decide) ?_
  refine G_aload_n d_X8_init_4 rfl ?_
  refine G_iconst d_X8_init_5 ?_
  refine G_putZ fl_X8_9 d_X8_init_6 (nw_at ho _ _) rfl (by decide) ?_
  refine G_aload_n d_X8_init_9 rfl ?_
  refine G_iconst d_X8_init_10 ?_
  refine G_putZ fl_X8_15 d_X8_init_11 (nw_at ho _ _) rfl (by decide) ?_
  refine G_aload_n d_X8_init_14 rfl ?_
  refine G_iconst d_X8_init_15 ?_
  refine G_putII fl_X8_18 d_X8_init_16 (nw_at ho _ _) rfl ?_
  refine G_aload_n d_X8_init_19 rfl ?_
  refine G_iconst d_X8_init_20 ?_
  refine G_putII fl_X8_22 d_X8_init_21 (nw_at ho _ _) rfl ?_
  refine G_aload_n d_X8_init_24 rfl ?_
  refine G_iconst d_X8_init_25 ?_
  refine G_newai (n := 5) (o := o + 1) d_X8_init_26 ar_int (by decide) (by simp [ho]) ?_
  rw [nw_app]
  refine G_putR (r := o + 1) fl_X8_25 d_X8_init_28 (nw_at ho _ _) rfl rfl (by simp) ?_
  rw [nw_set ho]
  refine G_aload_n d_X8_init_31 rfl ?_
  refine G_iconst d_X8_init_32 ?_
  refine G_newai (n := 5) (o := o + 2) d_X8_init_33 ar_int (by decide) (by simp [ho]) ?_
  rw [nw_app]
  refine G_putR (r := o + 2) fl_X8_29 d_X8_init_35 (nw_at ho _ _) rfl rfl (by simp) ?_
  rw [nw_set ho]
  refine G_aload_n d_X8_init_38 rfl ?_
  refine G_iconst d_X8_init_39 ?_
  refine G_putII fl_X8_32 d_X8_init_40 (nw_at ho _ _) rfl ?_
  refine G_aload_n d_X8_init_43 rfl ?_
  refine G_sipush d_X8_init_44 (by decide) ?_
  refine G_newai (n := 2401) (o := o + 3) d_X8_init_47 ar_int (by decide) (by simp [ho]) ?_
  rw [nw_app]
  refine G_putR (r := o + 3) fl_X8_35 d_X8_init_49 (nw_at ho _ _) rfl rfl (by simp) ?_
  rw [nw_set ho]
  refine G_aload_n d_X8_init_52 rfl ?_
  refine G_sipush d_X8_init_53 (by decide) ?_
  refine G_newab (n := 2401) (o := o + 4) d_X8_init_56 ar_byte (by decide) (by simp [ho]) ?_
  rw [nw_app]
  refine G_putR (r := o + 4) fl_X8_38 d_X8_init_58 (nw_at ho _ _) rfl rfl (by simp) ?_
  rw [nw_set ho]
  refine G_vret (mc := 0) (ms := 0) (st := []) d_X8_init_61 rfl ?_
  exact ⟨rfl, rfl⟩
theorem sp_X2_init {w : List KD} {m : Nat → Nat → Int} (o : Nat) (ho : w.length = o) : Sp M_X2_init 1 2 10 [rV o] (w ++ [(0, 2, [-1, -1, -1, -1, -1])], m) (fun r h => r = none ∧ h = (w ++ [(0, 2, [-1, -1, ((o + 1 : Nat) : Int), ((o + 2 : Nat) : Int), -1]), (1, 5, []), (1, 5, [])], (upm (zer (zer (upm (upm m o 0 0) o 1 (-1)) (o + 1)) (o + 2)) o 4 0))) := by
  refine Sp.ofG (ls := [rV o]) (by decide +kernel) rfl (Nat.le_of_ble_eq_true rfl) ?_
  refine G_aload_n d_X2_init_0 rfl ?_
  refine G_obj d_X2_init_1 ob_X2_3 ob_ins ob_cod (Nat.le_of_ble_eq_true rfl) (by decide) ?_
  refine G_aload_n d_X2_init_4 rfl ?_
  refine G_iconst d_X2_init_5 ?_
  refine G_putZ fl_X2_9 d_X2_init_6 (nw_at ho _ _) rfl (by decide) ?_
  refine G_aload_n d_X2_init_9 rfl ?_
  refine G_iconst d_X2_init_10 ?_
  refine G_putII fl_X2_15 d_X2_init_11 (nw_at ho _ _) rfl ?_
  refine G_aload_n d_X2_init_14 rfl ?_
  refine G_iconst d_X2_init_15 ?_
  refine G_newai (n := 5) (o := o + 1) d_X2_init_16 ar_int (by decide) (by simp [ho]) ?_
  rw [nw_app]
  refine G_putR (r := o + 1) fl_X2_19 d_X2_init_18 (nw_at ho _ _) rfl rfl (by simp) ?_
  rw [nw_set ho]
  refine G_aload_n d_X2_init_21 rfl ?_
  refine G_iconst d_X2_init_22 ?_
  refine G_newai (n := 5) (o := o + 2) d_X2_init_23 ar_int (by decide) (by simp [ho]) ?_
  rw [nw_app]
  refine G_putR (r := o + 2) fl_X2_23 d_X2_init_25 (nw_at ho _ _) rfl rfl (by simp) ?_
  rw [nw_set ho]
  refine G_aload_n d_X2_init_28 rfl ?_
  refine G_iconst d_X2_init_29 ?_
  refine G_putII fl_X2_26 d_X2_init_30 (nw_at ho _ _) rfl ?_
  refine G_vret (mc := 0) (ms := 0) (st := []) d_X2_init_33 rfl ?_
  exact ⟨rfl, rfl⟩
theorem sp_X0_init {w : List KD} {m : Nat → Nat → Int} (o : Nat) (ho : w.length = o) : Sp M_X0_init 1 3 211 [rV o] (w ++ [(0, 0, [-1, -1, -1, -1, -1])], m) (fun r h => r = none ∧ h = (w ++ [(0, 0, [-1, -1, ((o + 1 : Nat) : Int), ((o + 2 : Nat) : Int), ((o + 3 : Nat) : Int)]), (1, 5, []), (1, 200, []), (1, 6, [])], (zer (zer (zer (upm (upm m o 0 0) o 1 (-1)) (o + 1)) (o + 2)) (o + 3)))) := by
  refine Sp.ofG (ls := [rV o]) (by decide +kernel) rfl (Nat.le_of_ble_eq_true rfl) ?_
  refine G_aload_n d_X0_init_0 rfl ?_
  refine G_obj d_X0_init_1 ob_X0_3 ob_ins ob_cod (Nat.le_of_ble_eq_true rfl) (by decide) ?_
  refine G_aload_n d_X0_init_4 rfl ?_
  refine G_iconst d_X0_init_5 ?_
  refine G_putZ fl_X0_9 d_X0_init_6 (nw_at ho _ _) rfl (by decide) ?_
  refine G_aload_n d_X0_init_9 rfl ?_
  refine G_iconst d_X0_init_10 ?_
  refine G_putII fl_X0_15 d_X0_init_11 (nw_at ho _ _) rfl ?_
  refine G_aload_n d_X0_init_14 rfl ?_
  refine G_iconst d_X0_init_15 ?_
  refine G_newai (n := 5) (o := o + 1) d_X0_init_16 ar_int (by decide) (by simp [ho]) ?_
  rw [nw_app]
  refine G_putR (r := o + 1) fl_X0_19 d_X0_init_18 (nw_at ho _ _) rfl rfl (by simp) ?_
  rw [nw_set ho]
  refine G_aload_n d_X0_init_21 rfl ?_
  refine G_sipush d_X0_init_22 (by decide) ?_
  refine G_newai (n := 200) (o := o + 2) d_X0_init_25 ar_int (by decide) (by simp [ho]) ?_
  rw [nw_app]
  refine G_putR (r := o + 2) fl_X0_23 d_X0_init_27 (nw_at ho _ _) rfl rfl (by simp) ?_
  rw [nw_set ho]
  refine G_aload_n d_X0_init_30 rfl ?_
  refine G_bipush d_X0_init_31 (by decide) ?_
  refine G_newai (n := 6) (o := o + 3) d_X0_init_33 ar_int (by decide) (by simp [ho]) ?_
  rw [nw_app]
  refine G_putR (r := o + 3) fl_X0_26 d_X0_init_35 (nw_at ho _ _) rfl rfl (by simp) ?_
  rw [nw_set ho]
  refine G_vret (mc := 0) (ms := 0) (st := []) d_X0_init_38 rfl ?_
  exact ⟨rfl, rfl⟩
