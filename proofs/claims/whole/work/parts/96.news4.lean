theorem nw_app2 {w : List KD} {x : KD} {l l2 : List KD} : (w ++ x :: l) ++ l2 = w ++ x :: (l ++ l2) := by simp
theorem sp_X5_init {w : List KD} {m : Nat → Nat → Int} (o : Nat) (ho : w.length = o) : Sp M_X5_init 1 15 6204 [rV o] (w ++ [(0, 5, [-1, -1, -1, -1, -1, -1, -1, -1])], m) (fun r h => r = none ∧ h = (w ++ [(0, 5, [-1, -1, -1, -1, -1, ((o + 1 : Nat) : Int), ((o + 8 : Nat) : Int), ((o + 15 : Nat) : Int)]), (6, 6, [((o + 2 : Nat) : Int), ((o + 3 : Nat) : Int), ((o + 4 : Nat) : Int), ((o + 5 : Nat) : Int), ((o + 6 : Nat) : Int), ((o + 7 : Nat) : Int)]), (1, 512, []), (1, 512, []), (1, 512, []), (1, 512, []), (1, 512, []), (1, 512, []), (6, 6, [((o + 9 : Nat) : Int), ((o + 10 : Nat) : Int), ((o + 11 : Nat) : Int), ((o + 12 : Nat) : Int), ((o + 13 : Nat) : Int), ((o + 14 : Nat) : Int)]), (1, 512, []), (1, 512, []), (1, 512, []), (1, 512, []), (1, 512, []), (1, 512, []), (1, 48, [])], (zer (zmn (zmn (upm (upm (upm (upm (upm m o 0 0) o 1 0) o 2 1) o 3 0) o 4 (-1)) (o + 1) 6) (o + 8) 6) (o + 15)))) := by
  refine Sp.ofG (ls := [rV o]) (by decide +kernel) rfl (Nat.le_of_ble_eq_true rfl) ?_
  refine G_aload_n d_X5_init_0 rfl ?_
  refine G_obj d_X5_init_1 ob_X5_3 ob_ins ob_cod (Nat.le_of_ble_eq_true rfl) (by decide) ?_
  refine G_aload_n d_X5_init_4 rfl ?_
  refine G_iconst d_X5_init_5 ?_
  refine G_putZ fl_X5_9 d_X5_init_6 (nw_at ho _ _) rfl (by decide) ?_
  refine G_aload_n d_X5_init_9 rfl ?_
  refine G_iconst d_X5_init_10 ?_
  refine G_putII fl_X5_15 d_X5_init_11 (nw_at ho _ _) rfl ?_
  refine G_aload_n d_X5_init_14 rfl ?_
  refine G_iconst d_X5_init_15 ?_
  refine G_putII fl_X5_19 d_X5_init_16 (nw_at ho _ _) rfl ?_
  refine G_aload_n d_X5_init_19 rfl ?_
  refine G_iconst d_X5_init_20 ?_
  refine G_putII fl_X5_22 d_X5_init_21 (nw_at ho _ _) rfl ?_
  refine G_aload_n d_X5_init_24 rfl ?_
  refine G_iconst d_X5_init_25 ?_
  refine G_putII fl_X5_25 d_X5_init_26 (nw_at ho _ _) rfl ?_
  refine G_aload_n d_X5_init_29 rfl ?_
  refine G_bipush d_X5_init_30 (by decide) ?_
  refine G_sipush d_X5_init_32 (by decide) ?_
  refine G_mna (n := 6) (kk := 512) (o := o + 1) d_X5_init_35 nw_X5_28 ar_int (by decide) (by decide) (by simp [ho]) ?_
  rw [nw_app2]
  refine G_putR (r := o + 1) fl_X5_30 d_X5_init_39 (nw_at ho _ _) rfl rfl (by simp) ?_
  rw [nw_set ho]
  refine G_aload_n d_X5_init_42 rfl ?_
  refine G_bipush d_X5_init_43 (by decide) ?_
  refine G_sipush d_X5_init_45 (by decide) ?_
  refine G_mna (n := 6) (kk := 512) (o := o + 8) d_X5_init_48 nw_X5_28 ar_int (by decide) (by decide) (by simp [ho]) ?_
  rw [nw_app2]
  refine G_putR (r := o + 8) fl_X5_33 d_X5_init_52 (nw_at ho _ _) rfl rfl (by simp) ?_
  rw [nw_set ho]
  refine G_aload_n d_X5_init_55 rfl ?_
  refine G_bipush d_X5_init_56 (by decide) ?_
  refine G_newai (n := 48) (o := o + 15) d_X5_init_58 ar_int (by decide) (by simp [ho]) ?_
  rw [nw_app]
  refine G_putR (r := o + 15) fl_X5_36 d_X5_init_60 (nw_at ho _ _) rfl rfl (by simp) ?_
  rw [nw_set ho]
  refine G_vret (mc := 0) (ms := 0) (st := []) d_X5_init_63 rfl ?_
  exact ⟨rfl, rfl⟩
