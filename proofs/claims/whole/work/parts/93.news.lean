theorem nw_at {w : List KD} {o : Nat} (ho : w.length = o) (x : KD) (l : List KD) : (w ++ x :: l)[o]? = some x := by subst ho; simp
theorem nw_set {w : List KD} {o : Nat} (ho : w.length = o) (x y : KD) (l : List KD) : (w ++ x :: l).set o y = w ++ y :: l := by subst ho; simp
theorem nw_in {w : List KD} {o : Nat} (ho : w.length = o) (x : KD) (l : List KD) (i : Nat) : (w ++ x :: l)[o + (i + 1)]? = l[i]? := by
  subst ho
  rw [List.getElem?_append_right (by omega), Nat.add_sub_cancel_left]
  rfl
theorem nw_app {w : List KD} {x y : KD} {l : List KD} : (w ++ x :: l) ++ [y] = w ++ x :: (l ++ [y]) := by simp
theorem sp_X4_init {w : List KD} {m : Nat → Nat → Int} (o : Nat) (ho : w.length = o) : Sp M_X4_init 2 4 2446 [rV o] (w ++ [(0, 4, [-1, -1, -1, -1, -1, -1])], m) (fun r h => r = none ∧ h = (w ++ [(0, 4, [-1, -1, ((o + 1 : Nat) : Int), ((o + 2 : Nat) : Int), ((o + 3 : Nat) : Int), ((o + 4 : Nat) : Int)]), (1, 5, []), (1, 5, []), (1, 35, []), (2, 2401, [])], flm (zer (zer (zer (zer (upm (upm m o 0 3) o 1 1) (o + 1)) (o + 2)) (o + 3)) (o + 4)) (o + 3) 0 35 1)) := by
  refine Sp.ofG (ls := [rV o]) (by decide +kernel) rfl (Nat.le_of_ble_eq_true rfl) ?_
  refine G_aload_n d_X4_init_0 rfl ?_
  refine G_obj d_X4_init_1 ob_X4_3 ob_ins ob_cod (Nat.le_of_ble_eq_true rfl) (by decide) ?_
  refine G_aload_n d_X4_init_4 rfl ?_
  refine G_iconst d_X4_init_5 ?_
  refine G_putII fl_X4_9 d_X4_init_6 (nw_at ho _ _) rfl ?_
  refine G_aload_n d_X4_init_9 rfl ?_
  refine G_iconst d_X4_init_10 ?_
  refine G_putII fl_X4_15 d_X4_init_11 (nw_at ho _ _) rfl ?_
  refine G_aload_n d_X4_init_14 rfl ?_
  refine G_iconst d_X4_init_15 ?_
  refine G_newai (n := 5) (o := o + 1) d_X4_init_16 ar_int (by decide) (by simp [ho]) ?_
  rw [nw_app]
  refine G_putR (r := o + 1) fl_X4_18 d_X4_init_18 (nw_at ho _ _) rfl rfl (by simp) ?_
  rw [nw_set ho]
  refine G_aload_n d_X4_init_21 rfl ?_
  refine G_iconst d_X4_init_22 ?_
  refine G_newai (n := 5) (o := o + 2) d_X4_init_23 ar_int (by decide) (by simp [ho]) ?_
  rw [nw_app]
  refine G_putR (r := o + 2) fl_X4_22 d_X4_init_25 (nw_at ho _ _) rfl rfl (by simp) ?_
  rw [nw_set ho]
  refine G_aload_n d_X4_init_28 rfl ?_
  refine G_bipush d_X4_init_29 (by decide) ?_
  refine G_newai (n := 35) (o := o + 3) d_X4_init_31 ar_int (by decide) (by simp [ho]) ?_
  rw [nw_app]
  refine G_putR (r := o + 3) fl_X4_25 d_X4_init_33 (nw_at ho _ _) rfl rfl (by simp) ?_
  rw [nw_set ho]
  refine G_aload_n d_X4_init_36 rfl ?_
  refine G_sipush d_X4_init_37 (by decide) ?_
  refine G_newab (n := 2401) (o := o + 4) d_X4_init_40 ar_byte (by decide) (by simp [ho]) ?_
  rw [nw_app]
  refine G_putR (r := o + 4) fl_X4_28 d_X4_init_42 (nw_at ho _ _) rfl rfl (by simp) ?_
  rw [nw_set ho]
  refine G_aload_n d_X4_init_45 rfl ?_
  refine G_getR (r := o + 3) (fl_X4_25.r) d_X4_init_46 (nw_at ho _ _) rfl rfl ?_
  refine G_iconst d_X4_init_49 ?_
  refine G_callS2 cl_X4_32 d_X4_init_50 (Nat.le_of_ble_eq_true rfl) (by decide) (sp_fillI (nw_in ho _ _ 2) (by decide)) ?_
  rintro _ _ ⟨rfl, rfl⟩
  refine G_vret (mc := 0) (ms := 0) (st := []) d_X4_init_53 rfl ?_
  exact ⟨rfl, rfl⟩
