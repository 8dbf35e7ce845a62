def dvS (s : Nat → Int) (w : Int) : Int := if w = 0 then (pC s : Int) else if w = 1 then (pC s : Int) else if w = 2 then (resF s).1 else if w = 3 then lC (resC s) else if w = 4 then (pSc s : Int) else -1
def abS (s : Nat → Int) (w : Int) : Int := if w = 0 then ((cntB (pLeak s) (pC s) : Nat) : Int) else if w = 1 then ((cntB (fun p => pSt s p != 0) (pC s) : Nat) : Int) else if w = 4 then (pT s : Int) else (pSc s : Int)
theorem dvS_rng {s : Nat → Int} (hV : VS s) (w : Int) : -1 ≤ dvS s w ∧ dvS s w ≤ 248832 := by
  have hC := pC_le hV
  have hSc := hV.Sc
  have h1 := resF_rng hV
  have h2 := lC_rng s
  unfold dvS
  repeat' split
  all_goals omega
theorem abS_rng {s : Nat → Int} (hV : VS s) (w : Int) : 0 ≤ abS s w ∧ abS s w ≤ 2401 := by
  have hC := pC_le hV
  have hSc := hV.Sc
  have hT := hV.T
  have h1 := cntB_le (pLeak s) (pC s)
  have h2 := cntB_le (fun p => pSt s p != 0) (pC s)
  unfold abS
  repeat' split
  all_goals omega
theorem sp_Cdivisor {w : List KD} {m : Nat → Nat → Int} (s : Nat → Int) (hV : VS s) (hI : CI s m) (a : Int) (hra : -2147483648 ≤ a ∧ a < 2147483648) : Sp M_X9_divisor 12 0 0 [rV 0, iV a] (WC ++ w, m) (fun r h => r = some (iV (dvS s a)) ∧ ∃ m2, h = (WC ++ w, m2) ∧ CI s m2 ∧ FXo m m2) := by
  refine Sp.ofG (ls := [rV 0, iV a]) (by decide +kernel) rfl (Nat.le_of_ble_eq_true rfl) ?_
  have hC := pC_le hV
  have hN := hV.N
  have hT := hV.T
  have hSc := hV.Sc
  refine G_iload_n d_X9_divisor_0 rfl ?_
  by_cases hs1 : 0 ≤ a ∧ a ≤ 4
  · rcases (show a = 0 ∨ a = 1 ∨ a = 2 ∨ a = 3 ∨ a = 4 by omega) with hv | hv | hv | hv | hv
    · refine G_tin 36 d_X9_divisor_1 (by omega) (by omega) (by omega) (by rw [hv]; rfl) (by decide) ?_
      refine G_aload_n d_X9_divisor_36 rfl ?_
      refine G_getR (r := 25) (fl_X9_43.r) d_X9_divisor_37 (wk_0 _) rfl rfl ?_
      refine G_getIe (v := (pC s : Int)) (fl_X9_110.r) d_X9_divisor_40 (wk_25 _) rfl (hI.1.2.2.1.1) ?_
      refine G_iret (mc := 0) (ms := 0) (st := []) d_X9_divisor_43 rfl ?_
      exact ⟨by unfold dvS; rw [hv]; rfl, m, rfl, hI, FXo.refl m⟩
    · refine G_tin 36 d_X9_divisor_1 (by omega) (by omega) (by omega) (by rw [hv]; rfl) (by decide) ?_
      refine G_aload_n d_X9_divisor_36 rfl ?_
      refine G_getR (r := 25) (fl_X9_43.r) d_X9_divisor_37 (wk_0 _) rfl rfl ?_
      refine G_getIe (v := (pC s : Int)) (fl_X9_110.r) d_X9_divisor_40 (wk_25 _) rfl (hI.1.2.2.1.1) ?_
      refine G_iret (mc := 0) (ms := 0) (st := []) d_X9_divisor_43 rfl ?_
      exact ⟨by unfold dvS; rw [hv]; rfl, m, rfl, hI, FXo.refl m⟩
    · refine G_tin 44 d_X9_divisor_1 (by omega) (by omega) (by omega) (by rw [hv]; rfl) (by decide) ?_
      refine G_aload_n d_X9_divisor_44 rfl ?_
      refine G_callV0 cl_X9_216 rfl d_X9_divisor_45 (wk_0 _) (Nat.le_of_ble_eq_true rfl) (by decide) (sp_CfindFewest s hV hI) ?_
      rintro _ _ ⟨rfl, m2, rfl, h2, hF2, hG2⟩
      refine G_aload_n d_X9_divisor_48 rfl ?_
      refine G_getR (r := 57) (fl_X9_86.r) d_X9_divisor_49 (wk_0 _) rfl rfl ?_
      refine G_getIe (v := (resF s).1) (fl_X9_219.r) d_X9_divisor_52 (wk_57 _) rfl (hG2.1) ?_
      refine G_iret (mc := 0) (ms := 0) (st := []) d_X9_divisor_55 rfl ?_
      exact ⟨by unfold dvS; rw [hv]; rfl, m2, rfl, h2, hF2.x⟩
    · refine G_tin 56 d_X9_divisor_1 (by omega) (by omega) (by omega) (by rw [hv]; rfl) (by decide) ?_
      refine G_aload_n d_X9_divisor_56 rfl ?_
      refine G_callV0 cl_X9_226 rfl d_X9_divisor_57 (wk_0 _) (Nat.le_of_ble_eq_true rfl) (by decide) (sp_CfindCogs s hV hI) ?_
      rintro _ _ ⟨rfl, m2, rfl, h2, hF2, hG2⟩
      refine G_aload_n d_X9_divisor_60 rfl ?_
      refine G_getR (r := 60) (fl_X9_93.r) d_X9_divisor_61 (wk_0 _) rfl rfl ?_
      refine G_getIe (v := lC (resC s)) (fl_X9_229.r) d_X9_divisor_64 (wk_60 _) rfl (hG2.1) ?_
      refine G_iret (mc := 0) (ms := 0) (st := []) d_X9_divisor_67 rfl ?_
      exact ⟨by unfold dvS; rw [hv]; rfl, m2, rfl, h2, hF2.x⟩
    · refine G_tin 68 d_X9_divisor_1 (by omega) (by omega) (by omega) (by rw [hv]; rfl) (by decide) ?_
      refine G_aload_n d_X9_divisor_68 rfl ?_
      refine G_getR (r := 6) (fl_X9_19.r) d_X9_divisor_69 (wk_0 _) rfl rfl ?_
      refine G_callV0 cl_X9_142 rfl d_X9_divisor_72 (wk_6 _) (Nat.le_of_ble_eq_true rfl) (by decide) (sp_Csc s hI.1.2.1.1) ?_
      rintro _ _ ⟨rfl, rfl⟩
      refine G_iret (mc := 0) (ms := 0) (st := []) d_X9_divisor_75 rfl ?_
      exact ⟨by unfold dvS; rw [hv]; rfl, m, rfl, hI, FXo.refl m⟩
  · refine G_tout 76 d_X9_divisor_1 (by omega) (by omega) (by decide) ?_
    refine G_iconst d_X9_divisor_76 ?_
    refine G_iret (mc := 0) (ms := 0) (st := []) d_X9_divisor_77 rfl ?_
    exact ⟨by unfold dvS; rw [if_neg (by omega), if_neg (by omega), if_neg (by omega), if_neg (by omega), if_neg (by omega)], m, rfl, hI, FXo.refl m⟩
theorem sp_Cdividend {w : List KD} {m : Nat → Nat → Int} (s : Nat → Int) (hV : VS s) (hI : CI s m) (a : Int) (hra : -2147483648 ≤ a ∧ a < 2147483648) : Sp M_X9_dividend 7 0 0 [rV 0, iV a] (WC ++ w, m) (fun r h => r = some (iV (abS s a)) ∧ ∃ m2, h = (WC ++ w, m2) ∧ CI s m2 ∧ FXo m m2) := by
  refine Sp.ofG (ls := [rV 0, iV a]) (by decide +kernel) rfl (Nat.le_of_ble_eq_true rfl) ?_
  have hC := pC_le hV
  have hN := hV.N
  have hT := hV.T
  have hSc := hV.Sc
  refine G_iload_n d_X9_dividend_0 rfl ?_
  by_cases hs1 : 0 ≤ a ∧ a ≤ 4
  · rcases (show a = 0 ∨ a = 1 ∨ a = 2 ∨ a = 3 ∨ a = 4 by omega) with hv | hv | hv | hv | hv
    · refine G_tin 36 d_X9_dividend_1 (by omega) (by omega) (by omega) (by rw [hv]; rfl) (by decide) ?_
      refine G_aload_n d_X9_dividend_36 rfl ?_
      refine G_iconst d_X9_dividend_37 ?_
      refine G_callV1 cl_X9_286 rfl d_X9_dividend_38 (wk_0 _) (Nat.le_of_ble_eq_true rfl) (by decide) (sp_Ccount s hV hI 0 (by decide)) ?_
      rintro _ _ ⟨rfl, m2, rfl, h2, hF2⟩
      refine G_iret (mc := 0) (ms := 0) (st := []) d_X9_dividend_41 rfl ?_
      exact ⟨by unfold abS; rw [hv]; rfl, m2, rfl, h2, hF2.x⟩
    · refine G_tin 42 d_X9_dividend_1 (by omega) (by omega) (by omega) (by rw [hv]; rfl) (by decide) ?_
      refine G_aload_n d_X9_dividend_42 rfl ?_
      refine G_iconst d_X9_dividend_43 ?_
      refine G_callV1 cl_X9_286 rfl d_X9_dividend_44 (wk_0 _) (Nat.le_of_ble_eq_true rfl) (by decide) (sp_Ccount s hV hI 3 (by decide)) ?_
      rintro _ _ ⟨rfl, m2, rfl, h2, hF2⟩
      refine G_iret (mc := 0) (ms := 0) (st := []) d_X9_dividend_47 rfl ?_
      exact ⟨by unfold abS; rw [hv]; rfl, m2, rfl, h2, hF2.x⟩
    · refine G_tin 56 d_X9_dividend_1 (by omega) (by omega) (by omega) (by rw [hv]; rfl) (by decide) ?_
      refine G_aload_n d_X9_dividend_56 rfl ?_
      refine G_getR (r := 6) (fl_X9_19.r) d_X9_dividend_57 (wk_0 _) rfl rfl ?_
      refine G_callV0 cl_X9_142 rfl d_X9_dividend_60 (wk_6 _) (Nat.le_of_ble_eq_true rfl) (by decide) (sp_Csc s hI.1.2.1.1) ?_
      rintro _ _ ⟨rfl, rfl⟩
      refine G_iret (mc := 0) (ms := 0) (st := []) d_X9_dividend_63 rfl ?_
      first | (exact ⟨by unfold abS; rw [hv]; rfl, m, rfl, hI, FXo.refl m⟩) | (exact ⟨by unfold abS; rw [if_neg (by omega), if_neg (by omega), if_neg (by omega)], m, rfl, hI, FXo.refl m⟩)
    · refine G_tin 56 d_X9_dividend_1 (by omega) (by omega) (by omega) (by rw [hv]; rfl) (by decide) ?_
      refine G_aload_n d_X9_dividend_56 rfl ?_
      refine G_getR (r := 6) (fl_X9_19.r) d_X9_dividend_57 (wk_0 _) rfl rfl ?_
      refine G_callV0 cl_X9_142 rfl d_X9_dividend_60 (wk_6 _) (Nat.le_of_ble_eq_true rfl) (by decide) (sp_Csc s hI.1.2.1.1) ?_
      rintro _ _ ⟨rfl, rfl⟩
      refine G_iret (mc := 0) (ms := 0) (st := []) d_X9_dividend_63 rfl ?_
      first | (exact ⟨by unfold abS; rw [hv]; rfl, m, rfl, hI, FXo.refl m⟩) | (exact ⟨by unfold abS; rw [if_neg (by omega), if_neg (by omega), if_neg (by omega)], m, rfl, hI, FXo.refl m⟩)
    · refine G_tin 48 d_X9_dividend_1 (by omega) (by omega) (by omega) (by rw [hv]; rfl) (by decide) ?_
      refine G_aload_n d_X9_dividend_48 rfl ?_
      refine G_getR (r := 6) (fl_X9_19.r) d_X9_dividend_49 (wk_0 _) rfl rfl ?_
      refine G_getIe (v := (pT s : Int)) (fl_X9_123.r) d_X9_dividend_52 (wk_6 _) rfl (hI.1.2.1.1.1) ?_
      refine G_iret (mc := 0) (ms := 0) (st := []) d_X9_dividend_55 rfl ?_
      exact ⟨by unfold abS; rw [hv]; rfl, m, rfl, hI, FXo.refl m⟩
  · refine G_tout 56 d_X9_dividend_1 (by omega) (by omega) (by decide) ?_
    refine G_aload_n d_X9_dividend_56 rfl ?_
    refine G_getR (r := 6) (fl_X9_19.r) d_X9_dividend_57 (wk_0 _) rfl rfl ?_
    refine G_callV0 cl_X9_142 rfl d_X9_dividend_60 (wk_6 _) (Nat.le_of_ble_eq_true rfl) (by decide) (sp_Csc s hI.1.2.1.1) ?_
    rintro _ _ ⟨rfl, rfl⟩
    refine G_iret (mc := 0) (ms := 0) (st := []) d_X9_dividend_63 rfl ?_
    first | (exact ⟨by unfold abS; rw [hv]; rfl, m, rfl, hI, FXo.refl m⟩) | (exact ⟨by unfold abS; rw [if_neg (by omega), if_neg (by omega), if_neg (by omega)], m, rfl, hI, FXo.refl m⟩)
