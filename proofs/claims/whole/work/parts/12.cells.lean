theorem sp_unmark {w : List KD} {m : Nat → Nat → Int}  : Sp M_X4_unmark 1 0 0 [rV 1] (WC ++ w, m) (fun r h => r = none ∧ h = (WC ++ w, flm m 5 0 2401 0)) := by
  refine Sp.ofG (ls := [rV 1]) (by decide +kernel) rfl (Nat.le_of_ble_eq_true rfl) ?_
  refine G_aload_n d_X4_unmark_0 rfl ?_
  refine G_getR (r := 5) (fl_X4_28.r) d_X4_unmark_1 (wk_1 _) rfl rfl ?_
  refine G_iconst d_X4_unmark_4 ?_
  refine G_callS2 cl_X4_41 d_X4_unmark_5 (Nat.le_of_ble_eq_true rfl) (by decide) (sp_fillB (wk_5 _) (by decide) (by decide)) ?_
  rintro _ _ ⟨rfl, rfl⟩
  refine G_vret (mc := 0) (ms := 0) (st := []) d_X4_unmark_8 rfl ?_
  exact ⟨rfl, rfl⟩
theorem sp_pbegin {w : List KD} {m : Nat → Nat → Int} {n M : Int} : Sp M_X4_begin 2 0 0 [rV 1, iV n, iV M] (WC ++ w, m) (fun r h => r = none ∧ h = (WC ++ w, flm (flm (flm (flm (upm (upm m 1 0 n) 1 1 M) 2 0 5 0) 3 0 5 0) 4 0 35 1) 5 0 2401 0)) := by
  refine Sp.ofG (ls := [rV 1, iV n, iV M]) (by decide +kernel) rfl (Nat.le_of_ble_eq_true rfl) ?_
  refine G_aload_n d_X4_begin_0 rfl ?_
  refine G_iload_n d_X4_begin_1 rfl ?_
  refine G_putII fl_X4_9 d_X4_begin_2 (wk_1 _) rfl ?_
  refine G_aload_n d_X4_begin_5 rfl ?_
  refine G_iload_n d_X4_begin_6 rfl ?_
  refine G_putII fl_X4_15 d_X4_begin_7 (wk_1 _) rfl ?_
  refine G_aload_n d_X4_begin_10 rfl ?_
  refine G_getR (r := 2) (fl_X4_18.r) d_X4_begin_11 (wk_1 _) rfl rfl ?_
  refine G_iconst d_X4_begin_14 ?_
  refine G_callS2 cl_X4_32 d_X4_begin_15 (Nat.le_of_ble_eq_true rfl) (by decide) (sp_fillI (wk_2 _) (by decide)) ?_
  rintro _ _ ⟨rfl, rfl⟩
  refine G_aload_n d_X4_begin_18 rfl ?_
  refine G_getR (r := 3) (fl_X4_22.r) d_X4_begin_19 (wk_1 _) rfl rfl ?_
  refine G_iconst d_X4_begin_22 ?_
  refine G_callS2 cl_X4_32 d_X4_begin_23 (Nat.le_of_ble_eq_true rfl) (by decide) (sp_fillI (wk_3 _) (by decide)) ?_
  rintro _ _ ⟨rfl, rfl⟩
  refine G_aload_n d_X4_begin_26 rfl ?_
  refine G_getR (r := 4) (fl_X4_25.r) d_X4_begin_27 (wk_1 _) rfl rfl ?_
  refine G_iconst d_X4_begin_30 ?_
  refine G_callS2 cl_X4_32 d_X4_begin_31 (Nat.le_of_ble_eq_true rfl) (by decide) (sp_fillI (wk_4 _) (by decide)) ?_
  rintro _ _ ⟨rfl, rfl⟩
  refine G_aload_n d_X4_begin_34 rfl ?_
  refine G_callV0 cl_X4_38 rfl d_X4_begin_35 (wk_1 _) (Nat.le_of_ble_eq_true rfl) (by decide) (sp_unmark) ?_
  rintro _ _ ⟨rfl, rfl⟩
  refine G_vret (mc := 0) (ms := 0) (st := []) d_X4_begin_38 rfl ?_
  exact ⟨rfl, rfl⟩
theorem sp_pkeep {w : List KD} {m : Nat → Nat → Int} (hm : ∀ j, j < 2401 → -128 ≤ m 5 j ∧ m 5 j < 128) : Sp M_X4_copyFrom 1 0 0 [rV 11, rV 1] (WC ++ w, m) (fun r h => r = none ∧ h = (WC ++ w, cpm (cpm (cpm (cpm (upm (upm m 11 0 (m 1 0)) 11 1 (m 1 1)) 2 12 5) 3 13 5) 4 14 35) 5 15 2401)) := by
  refine Sp.ofG (ls := [rV 11, rV 1]) (by decide +kernel) rfl (Nat.le_of_ble_eq_true rfl) ?_
  refine G_aload_n d_X4_copyFrom_0 rfl ?_
  refine G_aload_n d_X4_copyFrom_1 rfl ?_
  refine G_getI (fl_X4_9.r) d_X4_copyFrom_2 (wk_1 _) rfl ?_
  refine G_putII fl_X4_9 d_X4_copyFrom_5 (wk_11 _) rfl ?_
  refine G_aload_n d_X4_copyFrom_8 rfl ?_
  refine G_aload_n d_X4_copyFrom_9 rfl ?_
  refine G_getIe (fl_X4_15.r) d_X4_copyFrom_10 (wk_1 _) rfl (show _ = m 1 1 from rfl) ?_
  refine G_putII fl_X4_15 d_X4_copyFrom_13 (wk_11 _) rfl ?_
  refine G_aload_n d_X4_copyFrom_16 rfl ?_
  refine G_getR (r := 2) (fl_X4_18.r) d_X4_copyFrom_17 (wk_1 _) rfl rfl ?_
  refine G_iconst d_X4_copyFrom_20 ?_
  refine G_aload_n d_X4_copyFrom_21 rfl ?_
  refine G_getR (r := 12) (fl_X4_18.r) d_X4_copyFrom_22 (wk_11 _) rfl rfl ?_
  refine G_iconst d_X4_copyFrom_25 ?_
  refine G_aload_n d_X4_copyFrom_26 rfl ?_
  refine G_getR (r := 12) (fl_X4_18.r) d_X4_copyFrom_27 (wk_11 _) rfl rfl ?_
  refine G_alen1 d_X4_copyFrom_30 (wk_12 _) ?_
  refine G_acopyi d_X4_copyFrom_31 ac_X4_44 ac_nat ac_sta ac_ini (wk_2 _) (wk_12 _) (by decide) (by decide) (by decide) (Nat.le_of_ble_eq_true rfl) (by omega) ?_
  refine G_aload_n d_X4_copyFrom_34 rfl ?_
  refine G_getR (r := 3) (fl_X4_22.r) d_X4_copyFrom_35 (wk_1 _) rfl rfl ?_
  refine G_iconst d_X4_copyFrom_38 ?_
  refine G_aload_n d_X4_copyFrom_39 rfl ?_
  refine G_getR (r := 13) (fl_X4_22.r) d_X4_copyFrom_40 (wk_11 _) rfl rfl ?_
  refine G_iconst d_X4_copyFrom_43 ?_
  refine G_aload_n d_X4_copyFrom_44 rfl ?_
  refine G_getR (r := 13) (fl_X4_22.r) d_X4_copyFrom_45 (wk_11 _) rfl rfl ?_
  refine G_alen1 d_X4_copyFrom_48 (wk_13 _) ?_
  refine G_acopyi d_X4_copyFrom_49 ac_X4_44 ac_nat ac_sta ac_ini (wk_3 _) (wk_13 _) (by decide) (by decide) (by decide) (Nat.le_of_ble_eq_true rfl) (by omega) ?_
  refine G_aload_n d_X4_copyFrom_52 rfl ?_
  refine G_getR (r := 4) (fl_X4_25.r) d_X4_copyFrom_53 (wk_1 _) rfl rfl ?_
  refine G_iconst d_X4_copyFrom_56 ?_
  refine G_aload_n d_X4_copyFrom_57 rfl ?_
  refine G_getR (r := 14) (fl_X4_25.r) d_X4_copyFrom_58 (wk_11 _) rfl rfl ?_
  refine G_iconst d_X4_copyFrom_61 ?_
  refine G_aload_n d_X4_copyFrom_62 rfl ?_
  refine G_getR (r := 14) (fl_X4_25.r) d_X4_copyFrom_63 (wk_11 _) rfl rfl ?_
  refine G_alen1 d_X4_copyFrom_66 (wk_14 _) ?_
  refine G_acopyi d_X4_copyFrom_67 ac_X4_44 ac_nat ac_sta ac_ini (wk_4 _) (wk_14 _) (by decide) (by decide) (by decide) (Nat.le_of_ble_eq_true rfl) (by omega) ?_
  refine G_aload_n d_X4_copyFrom_70 rfl ?_
  refine G_getR (r := 5) (fl_X4_28.r) d_X4_copyFrom_71 (wk_1 _) rfl rfl ?_
  refine G_iconst d_X4_copyFrom_74 ?_
  refine G_aload_n d_X4_copyFrom_75 rfl ?_
  refine G_getR (r := 15) (fl_X4_28.r) d_X4_copyFrom_76 (wk_11 _) rfl rfl ?_
  refine G_iconst d_X4_copyFrom_79 ?_
  refine G_aload_n d_X4_copyFrom_80 rfl ?_
  refine G_getR (r := 15) (fl_X4_28.r) d_X4_copyFrom_81 (wk_11 _) rfl rfl ?_
  refine G_alen2 d_X4_copyFrom_84 (wk_15 _) ?_
  refine G_acopyb d_X4_copyFrom_85 ac_X4_44 ac_nat ac_sta ac_ini (wk_5 _) (wk_15 _) (by decide) (by decide) (by decide) (fun j hj => hm j hj) (Nat.le_of_ble_eq_true rfl) (by omega) ?_
  refine G_vret (mc := 0) (ms := 0) (st := []) d_X4_copyFrom_88 rfl ?_
  exact ⟨rfl, rfl⟩
theorem sp_pback {w : List KD} {m : Nat → Nat → Int} (hm : ∀ j, j < 2401 → -128 ≤ m 15 j ∧ m 15 j < 128) : Sp M_X4_copyFrom 1 0 0 [rV 1, rV 11] (WC ++ w, m) (fun r h => r = none ∧ h = (WC ++ w, cpm (cpm (cpm (cpm (upm (upm m 1 0 (m 11 0)) 1 1 (m 11 1)) 12 2 5) 13 3 5) 14 4 35) 15 5 2401)) := by
  refine Sp.ofG (ls := [rV 1, rV 11]) (by decide +kernel) rfl (Nat.le_of_ble_eq_true rfl) ?_
  refine G_aload_n d_X4_copyFrom_0 rfl ?_
  refine G_aload_n d_X4_copyFrom_1 rfl ?_
  refine G_getI (fl_X4_9.r) d_X4_copyFrom_2 (wk_11 _) rfl ?_
  refine G_putII fl_X4_9 d_X4_copyFrom_5 (wk_1 _) rfl ?_
  refine G_aload_n d_X4_copyFrom_8 rfl ?_
  refine G_aload_n d_X4_copyFrom_9 rfl ?_
  refine G_getIe (fl_X4_15.r) d_X4_copyFrom_10 (wk_11 _) rfl (show _ = m 11 1 from rfl) ?_
  refine G_putII fl_X4_15 d_X4_copyFrom_13 (wk_1 _) rfl ?_
  refine G_aload_n d_X4_copyFrom_16 rfl ?_
  refine G_getR (r := 12) (fl_X4_18.r) d_X4_copyFrom_17 (wk_11 _) rfl rfl ?_
  refine G_iconst d_X4_copyFrom_20 ?_
  refine G_aload_n d_X4_copyFrom_21 rfl ?_
  refine G_getR (r := 2) (fl_X4_18.r) d_X4_copyFrom_22 (wk_1 _) rfl rfl ?_
  refine G_iconst d_X4_copyFrom_25 ?_
  refine G_aload_n d_X4_copyFrom_26 rfl ?_
  refine G_getR (r := 2) (fl_X4_18.r) d_X4_copyFrom_27 (wk_1 _) rfl rfl ?_
  refine G_alen1 d_X4_copyFrom_30 (wk_2 _) ?_
  refine G_acopyi d_X4_copyFrom_31 ac_X4_44 ac_nat ac_sta ac_ini (wk_12 _) (wk_2 _) (by decide) (by decide) (by decide) (Nat.le_of_ble_eq_true rfl) (by omega) ?_
  refine G_aload_n d_X4_copyFrom_34 rfl ?_
  refine G_getR (r := 13) (fl_X4_22.r) d_X4_copyFrom_35 (wk_11 _) rfl rfl ?_
  refine G_iconst d_X4_copyFrom_38 ?_
  refine G_aload_n d_X4_copyFrom_39 rfl ?_
  refine G_getR (r := 3) (fl_X4_22.r) d_X4_copyFrom_40 (wk_1 _) rfl rfl ?_
  refine G_iconst d_X4_copyFrom_43 ?_
  refine G_aload_n d_X4_copyFrom_44 rfl ?_
  refine G_getR (r := 3) (fl_X4_22.r) d_X4_copyFrom_45 (wk_1 _) rfl rfl ?_
  refine G_alen1 d_X4_copyFrom_48 (wk_3 _) ?_
  refine G_acopyi d_X4_copyFrom_49 ac_X4_44 ac_nat ac_sta ac_ini (wk_13 _) (wk_3 _) (by decide) (by decide) (by decide) (Nat.le_of_ble_eq_true rfl) (by omega) ?_
  refine G_aload_n d_X4_copyFrom_52 rfl ?_
  refine G_getR (r := 14) (fl_X4_25.r) d_X4_copyFrom_53 (wk_11 _) rfl rfl ?_
  refine G_iconst d_X4_copyFrom_56 ?_
  refine G_aload_n d_X4_copyFrom_57 rfl ?_
  refine G_getR (r := 4) (fl_X4_25.r) d_X4_copyFrom_58 (wk_1 _) rfl rfl ?_
  refine G_iconst d_X4_copyFrom_61 ?_
  refine G_aload_n d_X4_copyFrom_62 rfl ?_
  refine G_getR (r := 4) (fl_X4_25.r) d_X4_copyFrom_63 (wk_1 _) rfl rfl ?_
  refine G_alen1 d_X4_copyFrom_66 (wk_4 _) ?_
  refine G_acopyi d_X4_copyFrom_67 ac_X4_44 ac_nat ac_sta ac_ini (wk_14 _) (wk_4 _) (by decide) (by decide) (by decide) (Nat.le_of_ble_eq_true rfl) (by omega) ?_
  refine G_aload_n d_X4_copyFrom_70 rfl ?_
  refine G_getR (r := 15) (fl_X4_28.r) d_X4_copyFrom_71 (wk_11 _) rfl rfl ?_
  refine G_iconst d_X4_copyFrom_74 ?_
  refine G_aload_n d_X4_copyFrom_75 rfl ?_
  refine G_getR (r := 5) (fl_X4_28.r) d_X4_copyFrom_76 (wk_1 _) rfl rfl ?_
  refine G_iconst d_X4_copyFrom_79 ?_
  refine G_aload_n d_X4_copyFrom_80 rfl ?_
  refine G_getR (r := 5) (fl_X4_28.r) d_X4_copyFrom_81 (wk_1 _) rfl rfl ?_
  refine G_alen2 d_X4_copyFrom_84 (wk_5 _) ?_
  refine G_acopyb d_X4_copyFrom_85 ac_X4_44 ac_nat ac_sta ac_ini (wk_15 _) (wk_5 _) (by decide) (by decide) (by decide) (fun j hj => hm j hj) (Nat.le_of_ble_eq_true rfl) (by omega) ?_
  refine G_vret (mc := 0) (ms := 0) (st := []) d_X4_copyFrom_88 rfl ?_
  exact ⟨rfl, rfl⟩
theorem cntB_t {f : Nat → Bool} {i : Nat} (h : f i = true) : cntB f (i + 1) = cntB f i + 1 := by
  show cntB f i + _ = _
  rw [if_pos h]
theorem cntB_f {f : Nat → Bool} {i : Nat} (h : f i = false) : cntB f (i + 1) = cntB f i := by
  show cntB f i + _ = _
  rw [h]
  rfl
theorem firstB_none {f : Nat → Bool} : ∀ {n : Nat}, (∀ j, j < n → f j = false) → firstB f n = -1
  | 0, _ => rfl
  | n + 1, h => by
    unfold firstB
    rw [firstB_none (fun j hj => h j (by omega)), if_neg (by decide), h n (by omega)]
    rfl
theorem firstB_found {f : Nat → Bool} : ∀ {n : Nat} (i : Nat), i < n → (∀ j, j < i → f j = false) → f i = true → firstB f n = (i : Int)
  | 0, i, h, _, _ => absurd h (by omega)
  | n + 1, i, h, h0, h1 => by
    unfold firstB
    by_cases e : i = n
    · subst e
      rw [firstB_none h0, if_neg (by decide), if_pos h1]
    · rw [firstB_found i (by omega) h0 h1, if_pos (by omega)]
theorem sp_firstWished {w : List KD} {m : Nat → Nat → Int} (n : Nat) (hn : n ≤ 2401) (hm : ∀ j, j < 2401 → 0 ≤ m 5 j ∧ m 5 j ≤ 2) : Sp M_X4_firstWished 0 0 0 [rV 1, iV (n : Int)] (WC ++ w, m) (fun r h => r = some (iV (firstB (fun p => m 5 p == 1) n)) ∧ h = (WC ++ w, m)) := by
  refine Sp.ofG (ls := [rV 1, iV (n : Int), uV]) (by decide +kernel) rfl (Nat.le_of_ble_eq_true rfl) ?_
  have L : ∀ i : Nat, i ≤ n → (∀ j, j < i → (m 5 j == 1) = false) → G M_X4_firstWished 0 0 0 2 [rV 1, iV (n : Int), iV (i : Int)] [] (WC ++ w, m) (fun r h => r = some (iV (firstB (fun p => m 5 p == 1) n)) ∧ h = (WC ++ w, m)) := by
    refine loop_up n _ ?_
    intro i hi ih hno
    refine G_iload_n d_X4_firstWished_2 rfl ?_
    refine G_iload_n d_X4_firstWished_3 rfl ?_
    refine G_icmp_ge 25 d_X4_firstWished_4 (by decide) (by omega) (by omega) (fun c4 => ?_) (fun c4 => ?_)
    · refine G_iconst d_X4_firstWished_25 ?_
      refine G_iret (mc := 0) (ms := 0) (st := []) d_X4_firstWished_26 rfl ?_
      exact ⟨by rw [firstB_none (fun j hj => hno j (by omega))], rfl⟩
    · refine G_aload_n d_X4_firstWished_7 rfl ?_
      refine G_getR (r := 5) (fl_X4_28.r) d_X4_firstWished_8 (wk_1 _) rfl rfl ?_
      refine G_iload_n d_X4_firstWished_11 rfl ?_
      refine G_baldj (i) d_X4_firstWished_12 (wk_5 _) (by omega) (by omega) (by decide) ?_
      have h5 := hm i (by omega)
      refine G_iconst d_X4_firstWished_13 ?_
      refine G_icmp_ne 19 d_X4_firstWished_14 (by decide) (by omega) (by omega) (fun c14 => ?_) (fun c14 => ?_)
      · refine G_iinc d_X4_firstWished_19 rfl (by decide) rfl ?_
        refine G_goto 2 d_X4_firstWished_22 (by decide) ?_
        exact ih (by omega) (fun j hj => by
          by_cases e : j = i
          · rw [e]; simpa using c14
          · exact hno j (by omega))
      · refine G_iload_n d_X4_firstWished_17 rfl ?_
        refine G_iret (mc := 0) (ms := 0) (st := []) d_X4_firstWished_18 rfl ?_
        exact ⟨by rw [firstB_found i (by omega) hno (by simpa using c14)], rfl⟩
  refine G_iconst d_X4_firstWished_0 ?_
  refine G_istore_n d_X4_firstWished_1 (by decide) rfl ?_
  exact L 0 (by omega) (fun j hj => absurd hj (by omega))
theorem sp_countMarks {w : List KD} {m : Nat → Nat → Int} (n : Nat) (v : Int) (hn : n ≤ 2401) (hv : 0 ≤ v ∧ v ≤ 2) (hm : ∀ j, j < 2401 → 0 ≤ m 5 j ∧ m 5 j ≤ 2) : Sp M_X4_countMarks 0 0 0 [rV 1, iV v, iV (n : Int)] (WC ++ w, m) (fun r h => r = some (iV (cntB (fun p => m 5 p == v) n : Nat)) ∧ h = (WC ++ w, m)) := by
  refine Sp.ofG (ls := [rV 1, iV v, iV (n : Int), uV, uV]) (by decide +kernel) rfl (Nat.le_of_ble_eq_true rfl) ?_
  have L : ∀ i : Nat, i ≤ n → G M_X4_countMarks 0 0 0 5 [rV 1, iV v, iV (n : Int), iV ((cntB (fun p => m 5 p == v) i : Nat) : Int), iV (i : Int)] [] (WC ++ w, m) (fun r h => r = some (iV (cntB (fun p => m 5 p == v) n : Nat)) ∧ h = (WC ++ w, m)) := by
    refine loop_up n _ ?_
    intro i hi ih
    refine G_iload d_X4_countMarks_5 rfl ?_
    refine G_iload_n d_X4_countMarks_7 rfl ?_
    refine G_icmp_ge 31 d_X4_countMarks_8 (by decide) (by omega) (by omega) (fun c8 => ?_) (fun c8 => ?_)
    · refine G_iload_n d_X4_countMarks_31 rfl ?_
      refine G_iret (mc := 0) (ms := 0) (st := []) d_X4_countMarks_32 rfl ?_
      exact ⟨by rw [show n = i by omega], rfl⟩
    · refine G_aload_n d_X4_countMarks_11 rfl ?_
      refine G_getR (r := 5) (fl_X4_28.r) d_X4_countMarks_12 (wk_1 _) rfl rfl ?_
      refine G_iload d_X4_countMarks_15 rfl ?_
      refine G_baldj (i) d_X4_countMarks_17 (wk_5 _) (by omega) (by omega) (by decide) ?_
      have h5 := hm i (by omega)
      refine G_iload_n d_X4_countMarks_18 rfl ?_
      refine G_icmp_ne 25 d_X4_countMarks_19 (by decide) (by omega) (by omega) (fun c19 => ?_) (fun c19 => ?_)
      · refine G_iinc d_X4_countMarks_25 rfl (by decide) rfl ?_
        refine G_goto 5 d_X4_countMarks_28 (by decide) ?_
        have ih2 := ih (by omega)
        rw [cntB_f (by simpa using c19)] at ih2
        exact ih2
      · refine G_iinc d_X4_countMarks_22 rfl (by decide) rfl ?_
        refine G_iinc d_X4_countMarks_25 rfl (by decide) rfl ?_
        refine G_goto 5 d_X4_countMarks_28 (by decide) ?_
        have ih2 := ih (by omega)
        rw [cntB_t (by simpa using c19)] at ih2
        exact ih2
  refine G_iconst d_X4_countMarks_0 ?_
  refine G_istore_n d_X4_countMarks_1 (by decide) rfl ?_
  refine G_iconst d_X4_countMarks_2 ?_
  refine G_istore d_X4_countMarks_3 (by decide) rfl ?_
  exact L 0 (by omega)
theorem sp_cbegin {w : List KD} {m : Nat → Nat → Int}  : Sp M_X1_begin 1 0 0 [rV 6] (WC ++ w, m) (fun r h => r = none ∧ h = (WC ++ w, flm (flm (flm (flm m 7 0 4 1) 8 0 24 0) 9 0 144 0) 10 0 6 1)) := by
  refine Sp.ofG (ls := [rV 6]) (by decide +kernel) rfl (Nat.le_of_ble_eq_true rfl) ?_
  refine G_aload_n d_X1_begin_0 rfl ?_
  refine G_getR (r := 7) (fl_X1_19.r) d_X1_begin_1 (wk_6 _) rfl rfl ?_
  refine G_iconst d_X1_begin_4 ?_
  refine G_callS2 cl_X1_35 d_X1_begin_5 (Nat.le_of_ble_eq_true rfl) (by decide) (sp_fillI (wk_7 _) (by decide)) ?_
  rintro _ _ ⟨rfl, rfl⟩
  refine G_aload_n d_X1_begin_8 rfl ?_
  refine G_getR (r := 8) (fl_X1_23.r) d_X1_begin_9 (wk_6 _) rfl rfl ?_
  refine G_iconst d_X1_begin_12 ?_
  refine G_callS2 cl_X1_35 d_X1_begin_13 (Nat.le_of_ble_eq_true rfl) (by decide) (sp_fillI (wk_8 _) (by decide)) ?_
  rintro _ _ ⟨rfl, rfl⟩
  refine G_aload_n d_X1_begin_16 rfl ?_
  refine G_getR (r := 9) (fl_X1_26.r) d_X1_begin_17 (wk_6 _) rfl rfl ?_
  refine G_iconst d_X1_begin_20 ?_
  refine G_callS2 cl_X1_35 d_X1_begin_21 (Nat.le_of_ble_eq_true rfl) (by decide) (sp_fillI (wk_9 _) (by decide)) ?_
  rintro _ _ ⟨rfl, rfl⟩
  refine G_aload_n d_X1_begin_24 rfl ?_
  refine G_getR (r := 10) (fl_X1_29.r) d_X1_begin_25 (wk_6 _) rfl rfl ?_
  refine G_iconst d_X1_begin_28 ?_
  refine G_callS2 cl_X1_35 d_X1_begin_29 (Nat.le_of_ble_eq_true rfl) (by decide) (sp_fillI (wk_10 _) (by decide)) ?_
  rintro _ _ ⟨rfl, rfl⟩
  refine G_vret (mc := 0) (ms := 0) (st := []) d_X1_begin_32 rfl ?_
  exact ⟨rfl, rfl⟩
theorem sp_ckeep {w : List KD} {m : Nat → Nat → Int} (hf : 0 ≤ m 6 1 ∧ m 6 1 < 2) : Sp M_X1_copyFrom 1 0 0 [rV 16, rV 6] (WC ++ w, m) (fun r h => r = none ∧ h = (WC ++ w, cpm (cpm (cpm (cpm (upm (upm m 16 0 (m 6 0)) 16 1 (m 6 1)) 7 17 4) 8 18 24) 9 19 144) 10 20 6)) := by
  refine Sp.ofG (ls := [rV 16, rV 6]) (by decide +kernel) rfl (Nat.le_of_ble_eq_true rfl) ?_
  refine G_aload_n d_X1_copyFrom_0 rfl ?_
  refine G_aload_n d_X1_copyFrom_1 rfl ?_
  refine G_getI (fl_X1_9.r) d_X1_copyFrom_2 (wk_6 _) rfl ?_
  refine G_putII fl_X1_9 d_X1_copyFrom_5 (wk_16 _) rfl ?_
  refine G_aload_n d_X1_copyFrom_8 rfl ?_
  refine G_aload_n d_X1_copyFrom_9 rfl ?_
  refine G_getIe (fl_X1_15.r) d_X1_copyFrom_10 (wk_6 _) rfl (show _ = m 6 1 from rfl) ?_
  refine G_putZ fl_X1_15 d_X1_copyFrom_13 (wk_16 _) rfl (by omega) ?_
  refine G_aload_n d_X1_copyFrom_16 rfl ?_
  refine G_getR (r := 7) (fl_X1_19.r) d_X1_copyFrom_17 (wk_6 _) rfl rfl ?_
  refine G_iconst d_X1_copyFrom_20 ?_
  refine G_aload_n d_X1_copyFrom_21 rfl ?_
  refine G_getR (r := 17) (fl_X1_19.r) d_X1_copyFrom_22 (wk_16 _) rfl rfl ?_
  refine G_iconst d_X1_copyFrom_25 ?_
  refine G_aload_n d_X1_copyFrom_26 rfl ?_
  refine G_getR (r := 17) (fl_X1_19.r) d_X1_copyFrom_27 (wk_16 _) rfl rfl ?_
  refine G_alen1 d_X1_copyFrom_30 (wk_17 _) ?_
  refine G_acopyi d_X1_copyFrom_31 ac_X1_41 ac_nat ac_sta ac_ini (wk_7 _) (wk_17 _) (by decide) (by decide) (by decide) (Nat.le_of_ble_eq_true rfl) (by omega) ?_
  refine G_aload_n d_X1_copyFrom_34 rfl ?_
  refine G_getR (r := 8) (fl_X1_23.r) d_X1_copyFrom_35 (wk_6 _) rfl rfl ?_
  refine G_iconst d_X1_copyFrom_38 ?_
  refine G_aload_n d_X1_copyFrom_39 rfl ?_
  refine G_getR (r := 18) (fl_X1_23.r) d_X1_copyFrom_40 (wk_16 _) rfl rfl ?_
  refine G_iconst d_X1_copyFrom_43 ?_
  refine G_aload_n d_X1_copyFrom_44 rfl ?_
  refine G_getR (r := 18) (fl_X1_23.r) d_X1_copyFrom_45 (wk_16 _) rfl rfl ?_
  refine G_alen1 d_X1_copyFrom_48 (wk_18 _) ?_
  refine G_acopyi d_X1_copyFrom_49 ac_X1_41 ac_nat ac_sta ac_ini (wk_8 _) (wk_18 _) (by decide) (by decide) (by decide) (Nat.le_of_ble_eq_true rfl) (by omega) ?_
  refine G_aload_n d_X1_copyFrom_52 rfl ?_
  refine G_getR (r := 9) (fl_X1_26.r) d_X1_copyFrom_53 (wk_6 _) rfl rfl ?_
  refine G_iconst d_X1_copyFrom_56 ?_
  refine G_aload_n d_X1_copyFrom_57 rfl ?_
  refine G_getR (r := 19) (fl_X1_26.r) d_X1_copyFrom_58 (wk_16 _) rfl rfl ?_
  refine G_iconst d_X1_copyFrom_61 ?_
  refine G_aload_n d_X1_copyFrom_62 rfl ?_
  refine G_getR (r := 19) (fl_X1_26.r) d_X1_copyFrom_63 (wk_16 _) rfl rfl ?_
  refine G_alen1 d_X1_copyFrom_66 (wk_19 _) ?_
  refine G_acopyi d_X1_copyFrom_67 ac_X1_41 ac_nat ac_sta ac_ini (wk_9 _) (wk_19 _) (by decide) (by decide) (by decide) (Nat.le_of_ble_eq_true rfl) (by omega) ?_
  refine G_aload_n d_X1_copyFrom_70 rfl ?_
  refine G_getR (r := 10) (fl_X1_29.r) d_X1_copyFrom_71 (wk_6 _) rfl rfl ?_
  refine G_iconst d_X1_copyFrom_74 ?_
  refine G_aload_n d_X1_copyFrom_75 rfl ?_
  refine G_getR (r := 20) (fl_X1_29.r) d_X1_copyFrom_76 (wk_16 _) rfl rfl ?_
  refine G_iconst d_X1_copyFrom_79 ?_
  refine G_aload_n d_X1_copyFrom_80 rfl ?_
  refine G_getR (r := 20) (fl_X1_29.r) d_X1_copyFrom_81 (wk_16 _) rfl rfl ?_
  refine G_alen1 d_X1_copyFrom_84 (wk_20 _) ?_
  refine G_acopyi d_X1_copyFrom_85 ac_X1_41 ac_nat ac_sta ac_ini (wk_10 _) (wk_20 _) (by decide) (by decide) (by decide) (Nat.le_of_ble_eq_true rfl) (by omega) ?_
  refine G_vret (mc := 0) (ms := 0) (st := []) d_X1_copyFrom_88 rfl ?_
  exact ⟨rfl, rfl⟩
theorem sp_cback {w : List KD} {m : Nat → Nat → Int} (hf : 0 ≤ m 16 1 ∧ m 16 1 < 2) : Sp M_X1_copyFrom 1 0 0 [rV 6, rV 16] (WC ++ w, m) (fun r h => r = none ∧ h = (WC ++ w, cpm (cpm (cpm (cpm (upm (upm m 6 0 (m 16 0)) 6 1 (m 16 1)) 17 7 4) 18 8 24) 19 9 144) 20 10 6)) := by
  refine Sp.ofG (ls := [rV 6, rV 16]) (by decide +kernel) rfl (Nat.le_of_ble_eq_true rfl) ?_
  refine G_aload_n d_X1_copyFrom_0 rfl ?_
  refine G_aload_n d_X1_copyFrom_1 rfl ?_
  refine G_getI (fl_X1_9.r) d_X1_copyFrom_2 (wk_16 _) rfl ?_
  refine G_putII fl_X1_9 d_X1_copyFrom_5 (wk_6 _) rfl ?_
  refine G_aload_n d_X1_copyFrom_8 rfl ?_
  refine G_aload_n d_X1_copyFrom_9 rfl ?_
  refine G_getIe (fl_X1_15.r) d_X1_copyFrom_10 (wk_16 _) rfl (show _ = m 16 1 from rfl) ?_
  refine G_putZ fl_X1_15 d_X1_copyFrom_13 (wk_6 _) rfl (by omega) ?_
  refine G_aload_n d_X1_copyFrom_16 rfl ?_
  refine G_getR (r := 17) (fl_X1_19.r) d_X1_copyFrom_17 (wk_16 _) rfl rfl ?_
  refine G_iconst d_X1_copyFrom_20 ?_
  refine G_aload_n d_X1_copyFrom_21 rfl ?_
  refine G_getR (r := 7) (fl_X1_19.r) d_X1_copyFrom_22 (wk_6 _) rfl rfl ?_
  refine G_iconst d_X1_copyFrom_25 ?_
  refine G_aload_n d_X1_copyFrom_26 rfl ?_
  refine G_getR (r := 7) (fl_X1_19.r) d_X1_copyFrom_27 (wk_6 _) rfl rfl ?_
  refine G_alen1 d_X1_copyFrom_30 (wk_7 _) ?_
  refine G_acopyi d_X1_copyFrom_31 ac_X1_41 ac_nat ac_sta ac_ini (wk_17 _) (wk_7 _) (by decide) (by decide) (by decide) (Nat.le_of_ble_eq_true rfl) (by omega) ?_
  refine G_aload_n d_X1_copyFrom_34 rfl ?_
  refine G_getR (r := 18) (fl_X1_23.r) d_X1_copyFrom_35 (wk_16 _) rfl rfl ?_
  refine G_iconst d_X1_copyFrom_38 ?_
  refine G_aload_n d_X1_copyFrom_39 rfl ?_
  refine G_getR (r := 8) (fl_X1_23.r) d_X1_copyFrom_40 (wk_6 _) rfl rfl ?_
  refine G_iconst d_X1_copyFrom_43 ?_
  refine G_aload_n d_X1_copyFrom_44 rfl ?_
  refine G_getR (r := 8) (fl_X1_23.r) d_X1_copyFrom_45 (wk_6 _) rfl rfl ?_
  refine G_alen1 d_X1_copyFrom_48 (wk_8 _) ?_
  refine G_acopyi d_X1_copyFrom_49 ac_X1_41 ac_nat ac_sta ac_ini (wk_18 _) (wk_8 _) (by decide) (by decide) (by decide) (Nat.le_of_ble_eq_true rfl) (by omega) ?_
  refine G_aload_n d_X1_copyFrom_52 rfl ?_
  refine G_getR (r := 19) (fl_X1_26.r) d_X1_copyFrom_53 (wk_16 _) rfl rfl ?_
  refine G_iconst d_X1_copyFrom_56 ?_
  refine G_aload_n d_X1_copyFrom_57 rfl ?_
  refine G_getR (r := 9) (fl_X1_26.r) d_X1_copyFrom_58 (wk_6 _) rfl rfl ?_
  refine G_iconst d_X1_copyFrom_61 ?_
  refine G_aload_n d_X1_copyFrom_62 rfl ?_
  refine G_getR (r := 9) (fl_X1_26.r) d_X1_copyFrom_63 (wk_6 _) rfl rfl ?_
  refine G_alen1 d_X1_copyFrom_66 (wk_9 _) ?_
  refine G_acopyi d_X1_copyFrom_67 ac_X1_41 ac_nat ac_sta ac_ini (wk_19 _) (wk_9 _) (by decide) (by decide) (by decide) (Nat.le_of_ble_eq_true rfl) (by omega) ?_
  refine G_aload_n d_X1_copyFrom_70 rfl ?_
  refine G_getR (r := 20) (fl_X1_29.r) d_X1_copyFrom_71 (wk_16 _) rfl rfl ?_
  refine G_iconst d_X1_copyFrom_74 ?_
  refine G_aload_n d_X1_copyFrom_75 rfl ?_
  refine G_getR (r := 10) (fl_X1_29.r) d_X1_copyFrom_76 (wk_6 _) rfl rfl ?_
  refine G_iconst d_X1_copyFrom_79 ?_
  refine G_aload_n d_X1_copyFrom_80 rfl ?_
  refine G_getR (r := 10) (fl_X1_29.r) d_X1_copyFrom_81 (wk_6 _) rfl rfl ?_
  refine G_alen1 d_X1_copyFrom_84 (wk_10 _) ?_
  refine G_acopyi d_X1_copyFrom_85 ac_X1_41 ac_nat ac_sta ac_ini (wk_20 _) (wk_10 _) (by decide) (by decide) (by decide) (Nat.le_of_ble_eq_true rfl) (by omega) ?_
  refine G_vret (mc := 0) (ms := 0) (st := []) d_X1_copyFrom_88 rfl ?_
  exact ⟨rfl, rfl⟩
theorem sp_countScans {w : List KD} {m : Nat → Nat → Int}  : Sp M_X1_countScans 0 0 0 [rV 6] (WC ++ w, m) (fun r h => r = some (iV (m 7 0 * m 7 1 * m 7 2 * m 7 3)) ∧ h = (WC ++ w, m)) := by
  refine Sp.ofG (ls := [rV 6]) (by decide +kernel) rfl (Nat.le_of_ble_eq_true rfl) ?_
  refine G_aload_n d_X1_countScans_0 rfl ?_
  refine G_getR (r := 7) (fl_X1_19.r) d_X1_countScans_1 (wk_6 _) rfl rfl ?_
  refine G_iconst d_X1_countScans_4 ?_
  refine G_ialdj (0) d_X1_countScans_5 (wk_7 _) (by omega) (by omega) (by decide) ?_
  refine G_aload_n d_X1_countScans_6 rfl ?_
  refine G_getR (r := 7) (fl_X1_19.r) d_X1_countScans_7 (wk_6 _) rfl rfl ?_
  refine G_iconst d_X1_countScans_10 ?_
  refine G_ialdj (1) d_X1_countScans_11 (wk_7 _) (by omega) (by omega) (by decide) ?_
  refine G_imul d_X1_countScans_12 ?_
  refine G_aload_n d_X1_countScans_13 rfl ?_
  refine G_getR (r := 7) (fl_X1_19.r) d_X1_countScans_14 (wk_6 _) rfl rfl ?_
  refine G_iconst d_X1_countScans_17 ?_
  refine G_ialdj (2) d_X1_countScans_18 (wk_7 _) (by omega) (by omega) (by decide) ?_
  refine G_imul d_X1_countScans_19 ?_
  refine G_aload_n d_X1_countScans_20 rfl ?_
  refine G_getR (r := 7) (fl_X1_19.r) d_X1_countScans_21 (wk_6 _) rfl rfl ?_
  refine G_iconst d_X1_countScans_24 ?_
  refine G_ialdj (3) d_X1_countScans_25 (wk_7 _) (by omega) (by omega) (by decide) ?_
  refine G_imul d_X1_countScans_26 ?_
  refine G_iret (mc := 0) (ms := 0) (st := []) d_X1_countScans_27 rfl ?_
  exact ⟨rfl, rfl⟩
/-- the cycle as it lies in the class's cells -/
def CY (s : Nat → Int) (m : Nat → Nat → Int) : Prop := m 6 0 = (pT s : Int) ∧ (∀ j, j < 4 → m 7 j = (pL s j : Int)) ∧ (∀ i, i < 24 → m 8 i = s (53 + i)) ∧ (∀ i, i < 144 → m 9 i = s (83 + i)) ∧ ∀ i, i < 6 → m 10 i = (pRL s i : Int)
theorem VS.T {s : Nat → Int} (h : VS s) : 2 ≤ pT s ∧ pT s ≤ 48 ∧ (pT s : Int) = s 2 + 24 := by
  obtain ⟨-, -, h, -⟩ := h
  unfold pT
  omega
theorem VS.N {s : Nat → Int} (h : VS s) : 1 ≤ pN s ∧ pN s ≤ 5 ∧ (pN s : Int) = s 0 + 3 := by
  obtain ⟨h, -⟩ := h
  unfold pN
  omega
theorem VS.M {s : Nat → Int} (h : VS s) : 1 ≤ pM s ∧ pM s ≤ 3 ∧ (pM s : Int) = s 1 + 1 := by
  obtain ⟨-, h, -⟩ := h
  unfold pM
  omega
theorem VS.L {s : Nat → Int} (h : VS s) (j : Nat) (hj : j < 4) : 1 ≤ pL s j ∧ pL s j ≤ 12 ∧ (pL s j : Int) = s (49 + j) + 1 := by
  obtain ⟨-, -, -, -, -, -, -, h, -⟩ := h
  have := h j hj
  unfold pL
  omega
theorem VS.Sc {s : Nat → Int} (h : VS s) : 1 ≤ pSc s ∧ pSc s ≤ 512 := by
  have h0 := (h.L 0 (by decide)).1
  have h1 := (h.L 1 (by decide)).1
  have h2 := (h.L 2 (by decide)).1
  have h3 := (h.L 3 (by decide)).1
  obtain ⟨-, -, -, -, -, -, -, -, h, -⟩ := h
  exact ⟨Nat.mul_pos (Nat.mul_pos (Nat.mul_pos h0 h1) h2) h3, h⟩
theorem VS.St {s : Nat → Int} (h : VS s) (i : Nat) (hi : i < 24) : 0 ≤ s (53 + i) ∧ s (53 + i) < 48 ∧ s (53 + i) < (pT s : Int) := by
  have hT := h.T
  obtain ⟨-, -, h2, -, -, -, -, -, -, h, -⟩ := h
  have := h i hi
  omega
theorem VS.RL {s : Nat → Int} (h : VS s) (k : Nat) (hk : k < 6) : 1 ≤ pRL s k ∧ pRL s k ≤ 24 ∧ (pRL s k : Int) = s (77 + k) + 1 := by
  obtain ⟨-, -, -, -, -, -, -, -, -, -, h, -⟩ := h
  have := h k hk
  unfold pRL
  omega
theorem VS.R {s : Nat → Int} (h : VS s) (i : Nat) (hi : i < 144) : 0 ≤ s (83 + i) ∧ s (83 + i) < 48 := by
  have hT := h.T
  obtain ⟨-, -, h2, -, -, -, -, -, -, -, -, h, -⟩ := h
  have := h i hi
  omega
theorem mulb {a b A B : Int} (h1 : 0 ≤ a ∧ a ≤ A) (h2 : 0 ≤ b ∧ b ≤ B) : 0 ≤ a * b ∧ a * b ≤ A * B :=
  ⟨Int.mul_nonneg h1.1 h2.1, Int.mul_le_mul h1.2 h2.2 h2.1 (by omega)⟩
theorem plc_lt {s : Nat → Int} (h : VS s) (t j : Nat) (hj : j < 4) : plc s t j < pL s j := by
  have := (h.L j hj).1
  exact Nat.mod_lt _ (by omega)
theorem pRs_le (s : Nat → Int) (t : Nat) : ∀ j, pRs s t j ≤ t
  | 0 => Nat.le_refl _
  | j + 1 => Nat.le_trans (Nat.div_le_self _ _) (pRs_le s t j)
theorem sumN_nn {f : Nat → Int} : ∀ {n : Nat}, (∀ i, i < n → 0 ≤ f i) → 0 ≤ sumN f n
  | 0, _ => by simp [sumN]
  | n + 1, h => by
    have h1 := sumN_nn (n := n) (fun i hi => h i (by omega))
    have h2 := h n (by omega)
    unfold sumN
    omega
theorem pOwS_rng {s : Nat → Int} (h : VS s) {k t : Nat} (hk : k ≤ 5) : 0 ≤ pOwS s k t 4 ∧ pOwS s k t 4 ≤ 3000 := by
  have hRL := h.RL k (by omega)
  have hx0 : t % pRL s k < pRL s k := Nat.mod_lt _ (by omega)
  have r0 : 0 ≤ pR s k (t % pRL s k) ∧ pR s k (t % pRL s k) < 48 := by
    have := h.R (24 * k + t % pRL s k) (by omega)
    unfold pR
    rw [show 83 + 24 * k + t % pRL s k = 83 + (24 * k + t % pRL s k) by omega]
    exact this
  have b0 : ∀ j, j < 4 → 0 ≤ (plc s t j : Int) * pS s k j ∧ (plc s t j : Int) * pS s k j ≤ 12 * 48 := fun j hj => by
    have h1 := plc_lt h t j hj
    have h2 := h.L j hj
    have h3 := h.St (4 * k + j) (by omega)
    refine mulb ⟨by omega, by omega⟩ ?_
    unfold pS
    rw [show 53 + 4 * k + j = 53 + (4 * k + j) by omega]
    omega
  have h1 := sumN_nn (n := 4) (fun i hi => (b0 i hi).1)
  have h2 := sumN_bnd (f := fun j => (plc s t j : Int) * pS s k j) (n := 4) (B := 576) (fun i hi => by have := b0 i hi; omega)
  unfold pOwS
  omega
theorem sp_ownPhase {w : List KD} {m : Nat → Nat → Int} (s : Nat → Int) (k t : Nat) (hV : VS s) (hC : CY s m) (hk : k ≤ 5) (ht : t < 512) : Sp M_X1_ownPhase 0 0 0 [rV 6, iV (k : Int), iV (t : Int)] (WC ++ w, m) (fun r h => r = some (iV (pOwn s k t)) ∧ h = (WC ++ w, m)) := by
  refine Sp.ofG (ls := [rV 6, iV (k : Int), iV (t : Int), uV, uV, uV]) (by decide +kernel) rfl (Nat.le_of_ble_eq_true rfl) ?_
  obtain ⟨hT0, hT1, -⟩ := hV.T
  have hrng := pOwS_rng hV hk (t := t)
  obtain ⟨h6, h7, h8, h9, h10⟩ := hC
  have L : ∀ j : Nat, j ≤ 4 → G M_X1_ownPhase 0 0 0 25 [rV 6, iV (k : Int), iV (t : Int), iV (pOwS s k t j), iV ((pRs s t j : Nat) : Int), iV (j : Int)] [] (WC ++ w, m) (fun r h => r = some (iV (pOwn s k t)) ∧ h = (WC ++ w, m)) := by
    refine loop_up 4 _ ?_
    intro j hj ih
    have hle := pRs_le s t j
    refine G_iload d_X1_ownPhase_25 rfl ?_
    refine G_iconst d_X1_ownPhase_27 ?_
    refine G_icmp_ge 74 d_X1_ownPhase_28 (by decide) (by omega) (by omega) (fun c28 => ?_) (fun c28 => ?_)
    · refine G_iload_n d_X1_ownPhase_74 rfl ?_
      refine G_aload_n d_X1_ownPhase_75 rfl ?_
      have hj4 : j = 4 := by omega
      subst hj4
      refine G_getIe (fl_X1_9.r) d_X1_ownPhase_76 (wk_6 _) rfl (h6) ?_
      refine G_iremN ((pOwS s k t 4).toNat) (pT s) (by omega) (rfl) d_X1_ownPhase_79 (by omega) (by omega) (by omega) ?_
      refine G_iret (mc := 0) (ms := 0) (st := []) d_X1_ownPhase_80 rfl ?_
      refine ⟨?_, rfl⟩
      rw [Int.natCast_emod, Int.toNat_of_nonneg (by omega)]
      rfl
    · have hVL := hV.L j (by omega)
      refine G_iload_n d_X1_ownPhase_31 rfl ?_
      refine G_iload d_X1_ownPhase_32 rfl ?_
      refine G_aload_n d_X1_ownPhase_34 rfl ?_
      refine G_getR (r := 7) (fl_X1_19.r) d_X1_ownPhase_35 (wk_6 _) rfl rfl ?_
      refine G_iload d_X1_ownPhase_38 rfl ?_
      refine G_ialdj (j) d_X1_ownPhase_40 (wk_7 _) (by omega) (by omega) (by decide) ?_
      rw [h7 j (by omega)]
      refine G_iremN (pRs s t j) (pL s j) (rfl) (rfl) d_X1_ownPhase_41 (by omega) (by omega) (by omega) ?_
      refine G_aload_n d_X1_ownPhase_42 rfl ?_
      refine G_getR (r := 8) (fl_X1_23.r) d_X1_ownPhase_43 (wk_6 _) rfl rfl ?_
      refine G_iload_n d_X1_ownPhase_46 rfl ?_
      refine G_iconst d_X1_ownPhase_47 ?_
      refine G_imul d_X1_ownPhase_48 ?_
      refine G_iload d_X1_ownPhase_49 rfl ?_
      refine G_iadd d_X1_ownPhase_51 ?_
      refine G_ialdj (4 * k + j) d_X1_ownPhase_52 (wk_8 _) (by omega) (by omega) (by decide) ?_
      rw [h8 (4 * k + j) (by omega), show s (53 + (4 * k + j)) = pS s k j from congrArg s (by omega)]
      refine G_imul d_X1_ownPhase_53 ?_
      refine G_iadd d_X1_ownPhase_54 ?_
      rw [show pOwS s k t j + ((pRs s t j % pL s j : Nat) : Int) * pS s k j = pOwS s k t (j + 1) from Int.add_assoc _ _ _]
      refine G_istore_n d_X1_ownPhase_55 (by decide) rfl ?_
      refine G_iload d_X1_ownPhase_56 rfl ?_
      refine G_aload_n d_X1_ownPhase_58 rfl ?_
      refine G_getR (r := 7) (fl_X1_19.r) d_X1_ownPhase_59 (wk_6 _) rfl rfl ?_
      refine G_iload d_X1_ownPhase_62 rfl ?_
      refine G_ialdj (j) d_X1_ownPhase_64 (wk_7 _) (by omega) (by omega) (by decide) ?_
      rw [h7 j (by omega)]
      refine G_idivN (pRs s t j) (pL s j) (rfl) (rfl) d_X1_ownPhase_65 (by omega) (by omega) (by omega) ?_
      refine G_istore d_X1_ownPhase_66 (by decide) rfl ?_
      refine G_iinc d_X1_ownPhase_68 rfl (by decide) rfl ?_
      refine G_goto 25 d_X1_ownPhase_71 (by decide) ?_
      exact ih (by omega)
  have hRL := hV.RL k (by omega)
  have hx0 : t % pRL s k < pRL s k := Nat.mod_lt _ (by omega)
  refine G_aload_n d_X1_ownPhase_0 rfl ?_
  refine G_getR (r := 9) (fl_X1_26.r) d_X1_ownPhase_1 (wk_6 _) rfl rfl ?_
  refine G_iload_n d_X1_ownPhase_4 rfl ?_
  refine G_bipush d_X1_ownPhase_5 (by decide) ?_
  refine G_imul d_X1_ownPhase_7 ?_
  refine G_iload_n d_X1_ownPhase_8 rfl ?_
  refine G_aload_n d_X1_ownPhase_9 rfl ?_
  refine G_getR (r := 10) (fl_X1_29.r) d_X1_ownPhase_10 (wk_6 _) rfl rfl ?_
  refine G_iload_n d_X1_ownPhase_13 rfl ?_
  refine G_ialdj (k) d_X1_ownPhase_14 (wk_10 _) (by omega) (by omega) (by decide) ?_
  rw [h10 k (by omega)]
  refine G_iremN (t) (pRL s k) (rfl) (rfl) d_X1_ownPhase_15 (by omega) (by omega) (by omega) ?_
  refine G_iadd d_X1_ownPhase_16 ?_
  refine G_ialdj (24 * k + t % pRL s k) d_X1_ownPhase_17 (wk_9 _) (by omega) (by omega) (by decide) ?_
  rw [h9 (24 * k + t % pRL s k) (by omega), show s (83 + (24 * k + t % pRL s k)) = pOwS s k t 0 from (congrArg s (by omega)).trans (Int.add_zero _).symm]
  refine G_istore_n d_X1_ownPhase_18 (by decide) rfl ?_
  refine G_iload_n d_X1_ownPhase_19 rfl ?_
  refine G_istore d_X1_ownPhase_20 (by decide) rfl ?_
  refine G_iconst d_X1_ownPhase_22 ?_
  refine G_istore d_X1_ownPhase_23 (by decide) rfl ?_
  exact L 0 (by omega)
