theorem sp_Cwish {w : List KD} {m : Nat → Nat → Int} (s : Nat → Int) (hV : VS s) (hI : CI s m) (a : Int) (hra : -2147483648 ≤ a ∧ a < 2147483648)(x : Int) (hx : x = 0 ∨ x = 1) : Sp M_X9_wish 2 0 0 [rV 0, iV a, iV x] (WC ++ w, m) (fun r h => r = some (iV (vMark s 1 a x)) ∧ ∃ m2, h = (WC ++ w, m2) ∧ CI (nxMark s 1 a x) m2 ∧ FXo m m2) := by
  refine Sp.ofG (ls := [rV 0, iV a, iV x]) (by decide +kernel) rfl (Nat.le_of_ble_eq_true rfl) ?_
  have hC := pC_le hV
  have hN := hV.N
  have hT := hV.T
  have hSc := hV.Sc
  refine G_aload_n d_X9_wish_0 rfl ?_
  refine G_iload_n d_X9_wish_1 rfl ?_
  refine G_iconst d_X9_wish_2 ?_
  refine G_iload_n d_X9_wish_3 rfl ?_
  refine G_callV3 cl_X9_167 rfl d_X9_wish_4 (wk_0 _) (Nat.le_of_ble_eq_true rfl) (by decide) (sp_Cmark s hV hI a hra x hx 1 (by decide)) ?_
  rintro _ _ ⟨rfl, m2, rfl, h2⟩
  refine G_zret (mc := 0) (ms := 0) (st := []) d_X9_wish_7 rfl (by unfold vMark; split <;> omega) ?_
  exact ⟨rfl, m2, rfl, h2⟩
theorem sp_Cfree {w : List KD} {m : Nat → Nat → Int} (s : Nat → Int) (hV : VS s) (hI : CI s m) (a : Int) (hra : -2147483648 ≤ a ∧ a < 2147483648)(x : Int) (hx : x = 0 ∨ x = 1) : Sp M_X9_free 2 0 0 [rV 0, iV a, iV x] (WC ++ w, m) (fun r h => r = some (iV (vMark s 2 a x)) ∧ ∃ m2, h = (WC ++ w, m2) ∧ CI (nxMark s 2 a x) m2 ∧ FXo m m2) := by
  refine Sp.ofG (ls := [rV 0, iV a, iV x]) (by decide +kernel) rfl (Nat.le_of_ble_eq_true rfl) ?_
  have hC := pC_le hV
  have hN := hV.N
  have hT := hV.T
  have hSc := hV.Sc
  refine G_aload_n d_X9_free_0 rfl ?_
  refine G_iload_n d_X9_free_1 rfl ?_
  refine G_iconst d_X9_free_2 ?_
  refine G_iload_n d_X9_free_3 rfl ?_
  refine G_callV3 cl_X9_167 rfl d_X9_free_4 (wk_0 _) (Nat.le_of_ble_eq_true rfl) (by decide) (sp_Cmark s hV hI a hra x hx 2 (by decide)) ?_
  rintro _ _ ⟨rfl, m2, rfl, h2⟩
  refine G_zret (mc := 0) (ms := 0) (st := []) d_X9_free_7 rfl (by unfold vMark; split <;> omega) ?_
  exact ⟨rfl, m2, rfl, h2⟩
theorem sp_CfreeAll {w : List KD} {m : Nat → Nat → Int} (s : Nat → Int) (hV : VS s) (hI : CI s m) (a : Int) (hra : -2147483648 ≤ a ∧ a < 2147483648) (b : Int) (hrb : -2147483648 ≤ b ∧ b < 2147483648) : Sp M_X9_freeAll 1 0 0 [rV 0, iV a, iV b] (WC ++ w, m) (fun r h => r = some (iV (vFreeAll s a b)) ∧ ∃ m2, h = (WC ++ w, m2) ∧ CI (nxFreeAll s a b) m2 ∧ FXo m m2) := by
  refine Sp.ofG (ls := [rV 0, iV a, iV b, uV, uV]) (by decide +kernel) rfl (Nat.le_of_ble_eq_true rfl) ?_
  have hC := pC_le hV
  have hN := hV.N
  have hT := hV.T
  have hSc := hV.Sc
  have hM := hV.M
  have L : ∀ k : Nat, k < pN s → (-(pM s : Int) ≤ b ∧ b ≤ (pM s : Int)) → ∀ p : Nat, p ≤ pC s → G M_X9_freeAll 1 0 0 38 [rV 0, iV (k : Int), iV b, iV ((cntB (isFA s k b) p : Nat) : Int), iV (p : Int)] [] (WC ++ w, faC s m k b p) (fun r h => r = some (iV (vFreeAll s (k : Int) b)) ∧ ∃ m2, h = (WC ++ w, m2) ∧ CI (nxFreeAll s (k : Int) b) m2 ∧ FXo m m2) := by
    intro k hk hb
    refine loop_up (pC s) _ ?_
    intro p hp ih
    have hL9 : CL s (faC s m k b p) := hI.1.2.2.1.keep2 (by rw [faC_off _ _ _ _ _ (by decide)]) (faC_off _ _ _ _ _ (by decide)) (faC_off _ _ _ _ _ (by decide))
    have hcl := cntB_le (isFA s k b) p
    have hMkp : pMk s p = s (227 + p) := rfl
    have h5 : p < pC s → m 5 p = s (227 + p) := fun h => hI.1.1.2.2.2.2.2 p (by omega)
    refine G_iload d_X9_freeAll_38 rfl ?_
    refine G_aload_n d_X9_freeAll_40 rfl ?_
    refine G_getR (r := 25) (fl_X9_43.r) d_X9_freeAll_41 (wk_0 _) rfl rfl ?_
    refine G_getIe (v := (pC s : Int)) (fl_X9_110.r) d_X9_freeAll_44 (wk_25 _) rfl (hL9.1) ?_
    refine G_icmp_ge 97 d_X9_freeAll_47 (by decide) (by omega) (by omega) (fun c47 => ?_) (fun c47 => ?_)
    · refine G_aload_n d_X9_freeAll_97 rfl ?_
      have hpe : p = pC s := by omega
      subst hpe
      refine G_callV0 cl_X9_129 rfl d_X9_freeAll_98 (wk_0 _) (Nat.le_of_ble_eq_true rfl) (by decide) (sp_searchesTold) ?_
      rintro _ _ ⟨rfl, rfl⟩
      refine G_iload_n d_X9_freeAll_101 rfl ?_
      refine G_iret (mc := 0) (ms := 0) (st := []) d_X9_freeAll_102 rfl ?_
      have hok : okFreeAll s (k : Int) b := ⟨⟨by omega, by omega⟩, hb⟩
      obtain ⟨h2, hF2⟩ := hI.fa hV k b
      exact ⟨by unfold vFreeAll; rw [if_pos hok]; rfl, _, rfl, by unfold nxFreeAll; rw [if_pos hok]; exact h2, hF2⟩
    · refine G_aload_n d_X9_freeAll_50 rfl ?_
      refine G_getR (r := 25) (fl_X9_43.r) d_X9_freeAll_51 (wk_0 _) rfl rfl ?_
      refine G_iload d_X9_freeAll_54 rfl ?_
      refine G_iload_n d_X9_freeAll_56 rfl ?_
      have hor := pO_rng hV p k
      refine G_callV2 cl_X9_174 rfl d_X9_freeAll_57 (wk_25 _) (Nat.le_of_ble_eq_true rfl) (by decide) (sp_Cor s hV hL9 p k (by omega) hk) ?_
      rintro _ _ ⟨rfl, rfl⟩
      refine G_iload_n d_X9_freeAll_60 rfl ?_
      refine G_icmp_ne 91 d_X9_freeAll_61 (by decide) (by omega) (by omega) (fun c61 => ?_) (fun c61 => ?_)
      · refine G_iinc d_X9_freeAll_91 rfl (by decide) rfl ?_
        refine G_goto 38 d_X9_freeAll_94 (by decide) ?_
        rw [faC_no (fun e => c61 e.1)] at ih
        rw [cntB_f (show isFA s k b p = false by unfold isFA; simp [c61])] at ih
        exact ih (by omega)
      · refine G_aload_n d_X9_freeAll_64 rfl ?_
        refine G_getR (r := 1) (fl_X9_12.r) d_X9_freeAll_65 (wk_0 _) rfl rfl ?_
        refine G_getR (r := 5) fl_X9_178 d_X9_freeAll_68 (wk_1 _) rfl rfl ?_
        refine G_iload d_X9_freeAll_71 rfl ?_
        refine G_baldj (p) d_X9_freeAll_73 (wk_5 _) (by omega) (by omega) (by decide) ?_
        rw [faC_at, h5 (by omega)]
        have hMk := hV.Mk p (by omega)
        refine G_if_ne 91 d_X9_freeAll_74 (by decide) (by omega) (fun c74 => ?_) (fun c74 => ?_)
        · refine G_iinc d_X9_freeAll_91 rfl (by decide) rfl ?_
          refine G_goto 38 d_X9_freeAll_94 (by decide) ?_
          rw [faC_no (fun e => c74 (by rw [h5 (by omega)] at e; exact e.2))] at ih
          rw [cntB_f (show isFA s k b p = false by unfold isFA; rw [hMkp]; simp [c74])] at ih
          exact ih (by omega)
        · refine G_aload_n d_X9_freeAll_77 rfl ?_
          refine G_getR (r := 1) (fl_X9_12.r) d_X9_freeAll_78 (wk_0 _) rfl rfl ?_
          refine G_getR (r := 5) fl_X9_178 d_X9_freeAll_81 (wk_1 _) rfl rfl ?_
          refine G_iload d_X9_freeAll_84 rfl ?_
          refine G_iconst d_X9_freeAll_86 ?_
          refine G_bastj (p) d_X9_freeAll_87 (wk_5 _) (by omega) (by omega) (by decide) (by omega) ?_
          refine G_iinc d_X9_freeAll_88 rfl (by decide) rfl ?_
          refine G_iinc d_X9_freeAll_91 rfl (by decide) rfl ?_
          refine G_goto 38 d_X9_freeAll_94 (by decide) ?_
          rw [faC_yes c61 (by rw [h5 (by omega)]; exact c74)]
          rw [cntB_t (show isFA s k b p = true by unfold isFA; rw [hMkp]; simp [c74, c61])] at ih
          exact ih (by omega)
  refine G_aload_n d_X9_freeAll_0 rfl ?_
  refine G_iload_n d_X9_freeAll_1 rfl ?_
  refine G_callV1 cl_X9_113 rfl d_X9_freeAll_2 (wk_0 _) (Nat.le_of_ble_eq_true rfl) (by decide) (sp_CisPulse s hV hI.1 a hra) ?_
  rintro _ _ ⟨rfl, rfl⟩
  by_cases hk : 0 ≤ a ∧ a < (pN s : Int)
  · rw [if_pos hk]
    obtain ⟨k, rfl⟩ : ∃ n : Nat, a = (n : Int) := ⟨a.toNat, by omega⟩
    refine G_if_eq 31 d_X9_freeAll_5 (by decide) (by decide) (fun hd => absurd hd (by decide)) (fun _ => ?_)
    refine G_iload_n d_X9_freeAll_8 rfl ?_
    refine G_aload_n d_X9_freeAll_9 rfl ?_
    refine G_getR (r := 1) (fl_X9_12.r) d_X9_freeAll_10 (wk_0 _) rfl rfl ?_
    refine G_getIe (v := (pM s : Int)) (fl_X9_171.r) d_X9_freeAll_13 (wk_1 _) rfl (hI.1.1.2.1) ?_
    refine G_ineg d_X9_freeAll_16 ?_
    refine G_icmp_lt 31 d_X9_freeAll_17 (by decide) (by omega) (by omega) (fun c17 => ?_) (fun c17 => ?_)
    · refine G_iconst d_X9_freeAll_31 ?_
      refine G_iret (mc := 0) (ms := 0) (st := []) d_X9_freeAll_32 rfl ?_
      have hno : ¬ okFreeAll s (k : Int) b := fun h => by obtain ⟨⟨h1, h2⟩, h3, h4⟩ := h; omega
      exact ⟨by unfold vFreeAll; rw [if_neg hno], m, rfl, by unfold nxFreeAll; rw [if_neg hno]; exact hI, FXo.refl m⟩
    · refine G_iload_n d_X9_freeAll_20 rfl ?_
      refine G_aload_n d_X9_freeAll_21 rfl ?_
      refine G_getR (r := 1) (fl_X9_12.r) d_X9_freeAll_22 (wk_0 _) rfl rfl ?_
      refine G_getIe (v := (pM s : Int)) (fl_X9_171.r) d_X9_freeAll_25 (wk_1 _) rfl (hI.1.1.2.1) ?_
      refine G_icmp_le 33 d_X9_freeAll_28 (by decide) (by omega) (by omega) (fun c28 => ?_) (fun c28 => ?_)
      · refine G_iconst d_X9_freeAll_33 ?_
        refine G_istore_n d_X9_freeAll_34 (by decide) rfl ?_
        refine G_iconst d_X9_freeAll_35 ?_
        refine G_istore d_X9_freeAll_36 (by decide) rfl ?_
        have h9 := L k (by omega) (by omega) 0 (by omega)
        rw [faC_0] at h9
        exact h9
      · refine G_iconst d_X9_freeAll_31 ?_
        refine G_iret (mc := 0) (ms := 0) (st := []) d_X9_freeAll_32 rfl ?_
        have hno : ¬ okFreeAll s (k : Int) b := fun h => by obtain ⟨⟨h1, h2⟩, h3, h4⟩ := h; omega
        exact ⟨by unfold vFreeAll; rw [if_neg hno], m, rfl, by unfold nxFreeAll; rw [if_neg hno]; exact hI, FXo.refl m⟩
  · rw [if_neg hk]
    refine G_if_eq 31 d_X9_freeAll_5 (by decide) (by decide) (fun _ => ?_) (fun hd => absurd hd (by decide))
    refine G_iconst d_X9_freeAll_31 ?_
    refine G_iret (mc := 0) (ms := 0) (st := []) d_X9_freeAll_32 rfl ?_
    have hno : ¬ okFreeAll s a b := fun h => by obtain ⟨⟨h1, h2⟩, h3, h4⟩ := h; omega
    exact ⟨by unfold vFreeAll; rw [if_neg hno], m, rfl, by unfold nxFreeAll; rw [if_neg hno]; exact hI, FXo.refl m⟩
