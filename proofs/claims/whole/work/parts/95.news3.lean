theorem sp_X1_beginAt {w : List KD} {m : Nat → Nat → Int} (o : Nat) (ho : w.length = o) : Sp M_X1_begin 1 0 0 [rV o] (w ++ [(0, 1, [-1, -1, ((o + 1 : Nat) : Int), ((o + 2 : Nat) : Int), ((o + 3 : Nat) : Int), ((o + 4 : Nat) : Int)]), (1, 4, []), (1, 24, []), (1, 144, []), (1, 6, [])], m) (fun r h => r = none ∧ h = (w ++ [(0, 1, [-1, -1, ((o + 1 : Nat) : Int), ((o + 2 : Nat) : Int), ((o + 3 : Nat) : Int), ((o + 4 : Nat) : Int)]), (1, 4, []), (1, 24, []), (1, 144, []), (1, 6, [])], flm (flm (flm (flm (m) (o + 1) 0 4 1) (o + 2) 0 24 0) (o + 3) 0 144 0) (o + 4) 0 6 1)) := by
  refine Sp.ofG (ls := [rV o]) (by decide +kernel) rfl (Nat.le_of_ble_eq_true rfl) ?_
  refine G_aload_n d_X1_begin_0 rfl ?_
  refine G_getR (r := o + 1) (fl_X1_19.r) d_X1_begin_1 (nw_at ho _ _) rfl rfl ?_
  refine G_iconst d_X1_begin_4 ?_
  refine G_callS2 cl_X1_35 d_X1_begin_5 (Nat.le_of_ble_eq_true rfl) (by decide) (sp_fillI (nw_in ho _ _ 0) (by decide)) ?_
  rintro _ _ ⟨rfl, rfl⟩
  refine G_aload_n d_X1_begin_8 rfl ?_
  refine G_getR (r := o + 2) (fl_X1_23.r) d_X1_begin_9 (nw_at ho _ _) rfl rfl ?_
  refine G_iconst d_X1_begin_12 ?_
  refine G_callS2 cl_X1_35 d_X1_begin_13 (Nat.le_of_ble_eq_true rfl) (by decide) (sp_fillI (nw_in ho _ _ 1) (by decide)) ?_
  rintro _ _ ⟨rfl, rfl⟩
  refine G_aload_n d_X1_begin_16 rfl ?_
  refine G_getR (r := o + 3) (fl_X1_26.r) d_X1_begin_17 (nw_at ho _ _) rfl rfl ?_
  refine G_iconst d_X1_begin_20 ?_
  refine G_callS2 cl_X1_35 d_X1_begin_21 (Nat.le_of_ble_eq_true rfl) (by decide) (sp_fillI (nw_in ho _ _ 2) (by decide)) ?_
  rintro _ _ ⟨rfl, rfl⟩
  refine G_aload_n d_X1_begin_24 rfl ?_
  refine G_getR (r := o + 4) (fl_X1_29.r) d_X1_begin_25 (nw_at ho _ _) rfl rfl ?_
  refine G_iconst d_X1_begin_28 ?_
  refine G_callS2 cl_X1_35 d_X1_begin_29 (Nat.le_of_ble_eq_true rfl) (by decide) (sp_fillI (nw_in ho _ _ 3) (by decide)) ?_
  rintro _ _ ⟨rfl, rfl⟩
  refine G_vret (mc := 0) (ms := 0) (st := []) d_X1_begin_32 rfl ?_
  exact ⟨rfl, rfl⟩
theorem sp_X1_init {w : List KD} {m : Nat → Nat → Int} (o : Nat) (ho : w.length = o) : Sp M_X1_init 2 4 178 [rV o] (w ++ [(0, 1, [-1, -1, -1, -1, -1, -1])], m) (fun r h => r = none ∧ h = (w ++ [(0, 1, [-1, -1, ((o + 1 : Nat) : Int), ((o + 2 : Nat) : Int), ((o + 3 : Nat) : Int), ((o + 4 : Nat) : Int)]), (1, 4, []), (1, 24, []), (1, 144, []), (1, 6, [])], flm (flm (flm (flm ((zer (zer (zer (zer (upm (upm m o 0 24) o 1 1) (o + 1)) (o + 2)) (o + 3)) (o + 4))) (o + 1) 0 4 1) (o + 2) 0 24 0) (o + 3) 0 144 0) (o + 4) 0 6 1)) := by
  refine Sp.ofG (ls := [rV o]) (by decide +kernel) rfl (Nat.le_of_ble_eq_true rfl) ?_
  refine G_aload_n d_X1_init_0 rfl ?_
  refine G_obj d_X1_init_1 ob_X1_3 ob_ins ob_cod (Nat.le_of_ble_eq_true rfl) (by decide) ?_
  refine G_aload_n d_X1_init_4 rfl ?_
  refine G_bipush d_X1_init_5 (by decide) ?_
  refine G_putII fl_X1_9 d_X1_init_7 (nw_at ho _ _) rfl ?_
  refine G_aload_n d_X1_init_10 rfl ?_
  refine G_iconst d_X1_init_11 ?_
  refine G_putZ fl_X1_15 d_X1_init_12 (nw_at ho _ _) rfl (by decide) ?_
  refine G_aload_n d_X1_init_15 rfl ?_
  refine G_iconst d_X1_init_16 ?_
  refine G_newai (n := 4) (o := o + 1) d_X1_init_17 ar_int (by decide) (by simp [ho]) ?_
  rw [nw_app]
  refine G_putR (r := o + 1) fl_X1_19 d_X1_init_19 (nw_at ho _ _) rfl rfl (by simp) ?_
  rw [nw_set ho]
  refine G_aload_n d_X1_init_22 rfl ?_
  refine G_bipush d_X1_init_23 (by decide) ?_
  refine G_newai (n := 24) (o := o + 2) d_X1_init_25 ar_int (by decide) (by simp [ho]) ?_
  rw [nw_app]
  refine G_putR (r := o + 2) fl_X1_23 d_X1_init_27 (nw_at ho _ _) rfl rfl (by simp) ?_
  rw [nw_set ho]
  refine G_aload_n d_X1_init_30 rfl ?_
  refine G_sipush d_X1_init_31 (by decide) ?_
  refine G_newai (n := 144) (o := o + 3) d_X1_init_34 ar_int (by decide) (by simp [ho]) ?_
  rw [nw_app]
  refine G_putR (r := o + 3) fl_X1_26 d_X1_init_36 (nw_at ho _ _) rfl rfl (by simp) ?_
  rw [nw_set ho]
  refine G_aload_n d_X1_init_39 rfl ?_
  refine G_bipush d_X1_init_40 (by decide) ?_
  refine G_newai (n := 6) (o := o + 4) d_X1_init_42 ar_int (by decide) (by simp [ho]) ?_
  rw [nw_app]
  refine G_putR (r := o + 4) fl_X1_29 d_X1_init_44 (nw_at ho _ _) rfl rfl (by simp) ?_
  rw [nw_set ho]
  refine G_aload_n d_X1_init_47 rfl ?_
  refine G_callV0 cl_X1_32 rfl d_X1_init_48 (nw_at ho _ _) (Nat.le_of_ble_eq_true rfl) (by decide) (sp_X1_beginAt o ho) ?_
  rintro _ _ ⟨rfl, rfl⟩
  refine G_vret (mc := 0) (ms := 0) (st := []) d_X1_init_51 rfl ?_
  exact ⟨rfl, rfl⟩
