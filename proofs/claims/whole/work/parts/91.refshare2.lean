theorem sp_Mshare {w : List KD} {m : Nat → Nat → Int} (s : Nat → Int) (hV : VS s) (hI : MI s m) (a : Int) (hra : -2147483648 ≤ a ∧ a < 2147483648) : Sp M_X10_share 9 0 0 [rV 64, iV a] (WC ++ (WM ++ w), m) (fun r h => r = some (iV (vShare s a)) ∧ ∃ m2, h = (WC ++ (WM ++ w), m2) ∧ KQ s m m2) := by
  refine Sp.ofG (ls := [rV 64, iV a, uV]) (by decide +kernel) rfl (Nat.le_of_ble_eq_true rfl) ?_
  have hC := pC_le hV
  have hN := hV.N
  have hT := hV.T
  have hSc := hV.Sc
  refine G_aload_n d_X10_share_0 rfl ?_
  refine G_iconst d_X10_share_1 ?_
  refine G_putII fl_X10_1 d_X10_share_2 (wk_64 _) rfl ?_
  have hQ0 : KQ s m (upm m 64 0 0) := (KQ.refl hI).fld rfl
  generalize upm m 64 0 0 = m0 at hQ0 ⊢
  refine G_aload_n d_X10_share_5 rfl ?_
  refine G_iload_n d_X10_share_6 rfl ?_
  refine G_iconst d_X10_share_7 ?_
  refine G_iconst d_X10_share_8 ?_
  refine G_callV3 cl_X10_124 rfl d_X10_share_9 (wk_64 _) (Nat.le_of_ble_eq_true rfl) (by decide) (sp_MisIn a hra 0 (by omega) 4 (by omega)) ?_
  rintro _ _ ⟨rfl, rfl⟩
  by_cases hin : 0 ≤ a ∧ a ≤ 4
  · rw [if_pos hin]
    refine G_if_eq 23 d_X10_share_12 (by decide) (by decide) (fun hd => absurd hd (by decide)) (fun _ => ?_)
    refine G_aload_n d_X10_share_15 rfl ?_
    refine G_iload_n d_X10_share_16 rfl ?_
    refine G_callV1 cl_X10_341 rfl d_X10_share_17 (wk_64 _) (Nat.le_of_ble_eq_true rfl) (by decide) (sp_Mbelow s hV hQ0.2 a hin) ?_
    rintro _ _ ⟨rfl, m1, rfl, h1⟩
    have h1 := hQ0.trans h1
    have hdr := dvS_rng hV a
    have har := abS_rng hV a
    refine G_goto 24 d_X10_share_20 (by decide) ?_
    refine G_istore_n d_X10_share_24 (by decide) rfl ?_
    refine G_iload_n d_X10_share_25 rfl ?_
    refine G_iconst d_X10_share_26 ?_
    refine G_icmp_ne 34 d_X10_share_27 (by decide) (by first | omega | (split <;> omega)) (by first | omega | (split <;> omega)) (fun c27 => ?_) (fun c27 => ?_)
    · have hdp : ¬ dvS s a ≤ 0 := fun h => c27 (if_pos h)
      rw [if_neg hdp]
      refine G_aload_n d_X10_share_34 rfl ?_
      refine G_iload_n d_X10_share_35 rfl ?_
      refine G_callV1 cl_X10_344 rfl d_X10_share_36 (wk_64 _) (Nat.le_of_ble_eq_true rfl) (by decide) (sp_Mabove s hV h1.2 a hin) ?_
      rintro _ _ ⟨rfl, m2, rfl, h2⟩
      refine G_i2f d_X10_share_39 ?_
      refine G_iload_n d_X10_share_40 rfl ?_
      refine G_i2f d_X10_share_41 ?_
      refine G_fdiv d_X10_share_42 ((qu32_nn har (by omega)).1) ?_
      refine G_callS1 cl_X10_347 d_X10_share_43 (Nat.le_of_ble_eq_true rfl) (by decide) (sp_bitsOf32 _ (qu32_nn har (by omega)).2.1 (qu32_nn har (by omega)).2.2) ?_
      rintro _ _ ⟨rfl, rfl⟩
      refine G_iret (mc := 0) (ms := 0) (st := []) d_X10_share_46 rfl ?_
      exact ⟨by unfold vShare; rw [if_neg hdp]; rfl, m2, rfl, h1.trans h2⟩
    · refine G_iconst d_X10_share_30 ?_
      refine G_goto 46 d_X10_share_31 (by decide) ?_
      refine G_iret (mc := 0) (ms := 0) (st := []) d_X10_share_46 rfl ?_
      have hdp : dvS s a ≤ 0 := by by_cases h : dvS s a ≤ 0; (· exact h); (· rw [if_neg h] at c27; omega)
      exact ⟨by unfold vShare; rw [if_pos hdp], m1, rfl, h1⟩
  · rw [if_neg hin]
    refine G_if_eq 23 d_X10_share_12 (by decide) (by decide) (fun _ => ?_) (fun hd => absurd hd (by decide))
    refine G_iconst d_X10_share_23 ?_
    refine G_istore_n d_X10_share_24 (by decide) rfl ?_
    refine G_iload_n d_X10_share_25 rfl ?_
    refine G_iconst d_X10_share_26 ?_
    refine G_icmp_ne 34 d_X10_share_27 (by decide) (by decide) (by decide) (fun hd => absurd hd (by decide)) (fun _ => ?_)
    refine G_iconst d_X10_share_30 ?_
    refine G_goto 46 d_X10_share_31 (by decide) ?_
    refine G_iret (mc := 0) (ms := 0) (st := []) d_X10_share_46 rfl ?_
    exact ⟨by unfold vShare; rw [if_pos (by unfold dvS; rw [if_neg (by omega), if_neg (by omega), if_neg (by omega), if_neg (by omega), if_neg (by omega)]; decide)], m0, rfl, hQ0⟩
theorem sp_Mpart {w : List KD} {m : Nat → Nat → Int} (s : Nat → Int) (hV : VS s) (hI : MI s m) (a : Int) (hra : -2147483648 ≤ a ∧ a < 2147483648) : Sp M_X10_part 9 0 0 [rV 64, iV a] (WC ++ (WM ++ w), m) (fun r h => r = some (lV (vPart s a)) ∧ ∃ m2, h = (WC ++ (WM ++ w), m2) ∧ KQ s m m2) := by
  refine Sp.ofG (ls := [rV 64, iV a, uV]) (by decide +kernel) rfl (Nat.le_of_ble_eq_true rfl) ?_
  have hC := pC_le hV
  have hN := hV.N
  have hT := hV.T
  have hSc := hV.Sc
  refine G_aload_n d_X10_part_0 rfl ?_
  refine G_iconst d_X10_part_1 ?_
  refine G_putII fl_X10_1 d_X10_part_2 (wk_64 _) rfl ?_
  have hQ0 : KQ s m (upm m 64 0 0) := (KQ.refl hI).fld rfl
  generalize upm m 64 0 0 = m0 at hQ0 ⊢
  refine G_aload_n d_X10_part_5 rfl ?_
  refine G_iload_n d_X10_part_6 rfl ?_
  refine G_iconst d_X10_part_7 ?_
  refine G_iconst d_X10_part_8 ?_
  refine G_callV3 cl_X10_124 rfl d_X10_part_9 (wk_64 _) (Nat.le_of_ble_eq_true rfl) (by decide) (sp_MisIn a hra 0 (by omega) 4 (by omega)) ?_
  rintro _ _ ⟨rfl, rfl⟩
  by_cases hin : 0 ≤ a ∧ a ≤ 4
  · rw [if_pos hin]
    refine G_if_eq 23 d_X10_part_12 (by decide) (by decide) (fun hd => absurd hd (by decide)) (fun _ => ?_)
    refine G_aload_n d_X10_part_15 rfl ?_
    refine G_iload_n d_X10_part_16 rfl ?_
    refine G_callV1 cl_X10_341 rfl d_X10_part_17 (wk_64 _) (Nat.le_of_ble_eq_true rfl) (by decide) (sp_Mbelow s hV hQ0.2 a hin) ?_
    rintro _ _ ⟨rfl, m1, rfl, h1⟩
    have h1 := hQ0.trans h1
    have hdr := dvS_rng hV a
    have har := abS_rng hV a
    refine G_goto 24 d_X10_part_20 (by decide) ?_
    refine G_istore_n d_X10_part_24 (by decide) rfl ?_
    refine G_iload_n d_X10_part_25 rfl ?_
    refine G_iconst d_X10_part_26 ?_
    refine G_icmp_ne 36 d_X10_part_27 (by decide) (by first | omega | (split <;> omega)) (by first | omega | (split <;> omega)) (fun c27 => ?_) (fun c27 => ?_)
    · have hdp : ¬ dvS s a ≤ 0 := fun h => c27 (if_pos h)
      rw [if_neg hdp]
      refine G_aload_n d_X10_part_36 rfl ?_
      refine G_iload_n d_X10_part_37 rfl ?_
      refine G_callV1 cl_X10_344 rfl d_X10_part_38 (wk_64 _) (Nat.le_of_ble_eq_true rfl) (by decide) (sp_Mabove s hV h1.2 a hin) ?_
      rintro _ _ ⟨rfl, m2, rfl, h2⟩
      refine G_i2d d_X10_part_41 ?_
      refine G_iload_n d_X10_part_42 rfl ?_
      refine G_i2d d_X10_part_43 ?_
      refine G_ddiv d_X10_part_44 ((qu64_nn har (by omega)).1) ?_
      refine G_callS1 cl_X10_353 d_X10_part_45 (Nat.le_of_ble_eq_true rfl) (by decide) (sp_bitsOf64 _ (qu64_nn har (by omega)).2.1 (qu64_nn har (by omega)).2.2) ?_
      rintro _ _ ⟨rfl, rfl⟩
      refine G_lret (mc := 0) (ms := 0) (st := []) d_X10_part_48 rfl ?_
      exact ⟨by unfold vPart; rw [if_neg hdp]; rfl, m2, rfl, h1.trans h2⟩
    · refine G_ldc2 d_X10_part_30 co_X10_219 ?_
      refine G_goto 48 d_X10_part_33 (by decide) ?_
      refine G_lret (mc := 0) (ms := 0) (st := []) d_X10_part_48 rfl ?_
      have hdp : dvS s a ≤ 0 := by by_cases h : dvS s a ≤ 0; (· exact h); (· rw [if_neg h] at c27; omega)
      exact ⟨by unfold vPart; rw [if_pos hdp], m1, rfl, h1⟩
  · rw [if_neg hin]
    refine G_if_eq 23 d_X10_part_12 (by decide) (by decide) (fun _ => ?_) (fun hd => absurd hd (by decide))
    refine G_iconst d_X10_part_23 ?_
    refine G_istore_n d_X10_part_24 (by decide) rfl ?_
    refine G_iload_n d_X10_part_25 rfl ?_
    refine G_iconst d_X10_part_26 ?_
    refine G_icmp_ne 36 d_X10_part_27 (by decide) (by decide) (by decide) (fun hd => absurd hd (by decide)) (fun _ => ?_)
    refine G_ldc2 d_X10_part_30 co_X10_219 ?_
    refine G_goto 48 d_X10_part_33 (by decide) ?_
    refine G_lret (mc := 0) (ms := 0) (st := []) d_X10_part_48 rfl ?_
    exact ⟨by unfold vPart; rw [if_pos (by unfold dvS; rw [if_neg (by omega), if_neg (by omega), if_neg (by omega), if_neg (by omega), if_neg (by omega)]; decide)], m0, rfl, hQ0⟩
