def vLookR (s : Nat → Int) (a : Int) : Int := if 20 ≤ a ∧ a ≤ 19 + pN s then pK s (a - 20).toNat else if 30 ≤ a ∧ a ≤ 33 then (pL s (a - 30).toNat : Int) else if 40 ≤ a ∧ a ≤ 40 + pN s then (pRL s (a - 40).toNat : Int) else if 50 ≤ a ∧ a ≤ 49 + pN s then pG s (a - 50).toNat else -100
def vLook (s : Nat → Int) (z a : Int) : Int := if a = 0 then (pN s : Int) else if a = 1 then (pM s : Int) else if a = 2 then (pT s : Int) else if a = 3 then (pC s : Int) else if a = 4 then (pSc s : Int)
  else if a = 5 then ((cntB (fun p => pMk s p == 1) (pC s) : Nat) : Int) else if a = 6 then ((cntB (fun p => pMk s p == 2) (pC s) : Nat) : Int) else if a = 7 then ((cntB (pLeak s) (pC s) : Nat) : Int) else if a = 8 then ((cntB (pLost s) (pC s) : Nat) : Int)
  else if a = 9 then (if pGood s = true then 1 else 0) else if a = 10 then pChief s else if a = 11 then (if s 3 = 0 then 1 else 0) else if a = 12 then z
  else if a = 13 then sumN (fun p => if pLeak s p = true then pWt s p else 0) (pC s) else if a = 14 then sumN (fun p => if pKept s p = true then pWt s p else 0) (pC s) else vLookR s a
theorem sp_MlookAtRows {w : List KD} {m : Nat → Nat → Int} (s : Nat → Int) (hV : VS s) (hO : MO s m) (a : Int) (hra : -2147483648 ≤ a ∧ a < 2147483648) : Sp M_X10_lookAtRows 1 0 0 [rV 64, iV a] (WC ++ (WM ++ w), m) (fun r h => r = some (iV (vLookR s a)) ∧ h = (WC ++ (WM ++ w), m)) := by
  refine Sp.ofG (ls := [rV 64, iV a]) (by decide +kernel) rfl (Nat.le_of_ble_eq_true rfl) ?_
  have hC := pC_le hV
  have hN := hV.N
  have hT := hV.T
  have hSc := hV.Sc
  refine G_aload_n d_X10_lookAtRows_0 rfl ?_
  refine G_iload_n d_X10_lookAtRows_1 rfl ?_
  refine G_bipush d_X10_lookAtRows_2 (by decide) ?_
  refine G_bipush d_X10_lookAtRows_4 (by decide) ?_
  refine G_aload_n d_X10_lookAtRows_6 rfl ?_
  refine G_callV0 cl_X10_11 rfl d_X10_lookAtRows_7 (wk_64 _) (Nat.le_of_ble_eq_true rfl) (by decide) (sp_Mn s hV hO) ?_
  rintro _ _ ⟨rfl, rfl⟩
  refine G_iadd d_X10_lookAtRows_10 ?_
  refine G_callV3 cl_X10_124 rfl d_X10_lookAtRows_11 (wk_64 _) (Nat.le_of_ble_eq_true rfl) (by decide) (sp_MisIn a hra (20) (by omega) (19 + (pN s : Int)) (by omega)) ?_
  rintro _ _ ⟨rfl, rfl⟩
  by_cases h1 : 20 ≤ a ∧ a ≤ 19 + (pN s : Int)
  · rw [if_pos h1]
    refine G_if_eq 29 d_X10_lookAtRows_14 (by decide) (by decide) (fun hd => absurd hd (by decide)) (fun _ => ?_)
    refine G_aload_n d_X10_lookAtRows_17 rfl ?_
    refine G_getR (r := 65) (fl_X10_7.r) d_X10_lookAtRows_18 (wk_64 _) rfl rfl ?_
    refine G_iconst d_X10_lookAtRows_21 ?_
    refine G_iload_n d_X10_lookAtRows_22 rfl ?_
    refine G_iadd d_X10_lookAtRows_23 ?_
    refine G_bipush d_X10_lookAtRows_24 (by decide) ?_
    refine G_isub d_X10_lookAtRows_26 ?_
    refine G_ialdj (4 + (a - 20).toNat) d_X10_lookAtRows_27 (wk_65 _) (by omega) (by omega) (by decide) ?_
    rw [hO (4 + (a - 20).toNat) (by omega)]
    refine G_iret (mc := 0) (ms := 0) (st := []) d_X10_lookAtRows_28 rfl ?_
    exact ⟨congrArg (fun x => some (iV x)) (Eq.symm (by unfold vLookR; rw [if_pos (by omega)]; first | done | rfl)), rfl⟩
  · rw [if_neg h1]
    refine G_if_eq 29 d_X10_lookAtRows_14 (by decide) (by decide) (fun _ => ?_) (fun hd => absurd hd (by decide))
    refine G_aload_n d_X10_lookAtRows_29 rfl ?_
    refine G_iload_n d_X10_lookAtRows_30 rfl ?_
    refine G_bipush d_X10_lookAtRows_31 (by decide) ?_
    refine G_bipush d_X10_lookAtRows_33 (by decide) ?_
    refine G_callV3 cl_X10_124 rfl d_X10_lookAtRows_35 (wk_64 _) (Nat.le_of_ble_eq_true rfl) (by decide) (sp_MisIn a hra (30) (by omega) (33) (by omega)) ?_
    rintro _ _ ⟨rfl, rfl⟩
    by_cases h2 : 30 ≤ a ∧ a ≤ 33
    · rw [if_pos h2]
      refine G_if_eq 50 d_X10_lookAtRows_38 (by decide) (by decide) (fun hd => absurd hd (by decide)) (fun _ => ?_)
      refine G_aload_n d_X10_lookAtRows_41 rfl ?_
      refine G_iload_n d_X10_lookAtRows_42 rfl ?_
      refine G_bipush d_X10_lookAtRows_43 (by decide) ?_
      refine G_isub d_X10_lookAtRows_45 ?_
      rw [show a - 30 = (((a - 30).toNat : Nat) : Int) by omega]
      refine G_callV1 cl_X10_136 rfl d_X10_lookAtRows_46 (wk_64 _) (Nat.le_of_ble_eq_true rfl) (by decide) (sp_MlengthOf s hV hO (a - 30).toNat (by omega)) ?_
      rintro _ _ ⟨rfl, rfl⟩
      refine G_iret (mc := 0) (ms := 0) (st := []) d_X10_lookAtRows_49 rfl ?_
      exact ⟨congrArg (fun x => some (iV x)) (Eq.symm (by unfold vLookR; rw [if_neg (by omega)]; rw [if_pos (by omega)]; first | done | rfl)), rfl⟩
    · rw [if_neg h2]
      refine G_if_eq 50 d_X10_lookAtRows_38 (by decide) (by decide) (fun _ => ?_) (fun hd => absurd hd (by decide))
      refine G_aload_n d_X10_lookAtRows_50 rfl ?_
      refine G_iload_n d_X10_lookAtRows_51 rfl ?_
      refine G_bipush d_X10_lookAtRows_52 (by decide) ?_
      refine G_bipush d_X10_lookAtRows_54 (by decide) ?_
      refine G_aload_n d_X10_lookAtRows_56 rfl ?_
      refine G_callV0 cl_X10_11 rfl d_X10_lookAtRows_57 (wk_64 _) (Nat.le_of_ble_eq_true rfl) (by decide) (sp_Mn s hV hO) ?_
      rintro _ _ ⟨rfl, rfl⟩
      refine G_iadd d_X10_lookAtRows_60 ?_
      refine G_callV3 cl_X10_124 rfl d_X10_lookAtRows_61 (wk_64 _) (Nat.le_of_ble_eq_true rfl) (by decide) (sp_MisIn a hra (40) (by omega) (40 + (pN s : Int)) (by omega)) ?_
      rintro _ _ ⟨rfl, rfl⟩
      by_cases h3 : 40 ≤ a ∧ a ≤ 40 + (pN s : Int)
      · rw [if_pos h3]
        refine G_if_eq 76 d_X10_lookAtRows_64 (by decide) (by decide) (fun hd => absurd hd (by decide)) (fun _ => ?_)
        refine G_aload_n d_X10_lookAtRows_67 rfl ?_
        refine G_iload_n d_X10_lookAtRows_68 rfl ?_
        refine G_bipush d_X10_lookAtRows_69 (by decide) ?_
        refine G_isub d_X10_lookAtRows_71 ?_
        rw [show a - 40 = (((a - 40).toNat : Nat) : Int) by omega]
        refine G_callV1 cl_X10_201 rfl d_X10_lookAtRows_72 (wk_64 _) (Nat.le_of_ble_eq_true rfl) (by decide) (sp_MrowLong s hV hO (a - 40).toNat (by omega)) ?_
        rintro _ _ ⟨rfl, rfl⟩
        refine G_iret (mc := 0) (ms := 0) (st := []) d_X10_lookAtRows_75 rfl ?_
        exact ⟨congrArg (fun x => some (iV x)) (Eq.symm (by unfold vLookR; rw [if_neg (by omega)]; rw [if_neg (by omega)]; rw [if_pos (by omega)]; first | done | rfl)), rfl⟩
      · rw [if_neg h3]
        refine G_if_eq 76 d_X10_lookAtRows_64 (by decide) (by decide) (fun _ => ?_) (fun hd => absurd hd (by decide))
        refine G_aload_n d_X10_lookAtRows_76 rfl ?_
        refine G_iload_n d_X10_lookAtRows_77 rfl ?_
        refine G_bipush d_X10_lookAtRows_78 (by decide) ?_
        refine G_bipush d_X10_lookAtRows_80 (by decide) ?_
        refine G_aload_n d_X10_lookAtRows_82 rfl ?_
        refine G_callV0 cl_X10_11 rfl d_X10_lookAtRows_83 (wk_64 _) (Nat.le_of_ble_eq_true rfl) (by decide) (sp_Mn s hV hO) ?_
        rintro _ _ ⟨rfl, rfl⟩
        refine G_iadd d_X10_lookAtRows_86 ?_
        refine G_callV3 cl_X10_124 rfl d_X10_lookAtRows_87 (wk_64 _) (Nat.le_of_ble_eq_true rfl) (by decide) (sp_MisIn a hra (50) (by omega) (49 + (pN s : Int)) (by omega)) ?_
        rintro _ _ ⟨rfl, rfl⟩
        by_cases h4 : 50 ≤ a ∧ a ≤ 49 + (pN s : Int)
        · rw [if_pos h4]
          refine G_if_eq 108 d_X10_lookAtRows_90 (by decide) (by decide) (fun hd => absurd hd (by decide)) (fun _ => ?_)
          refine G_aload_n d_X10_lookAtRows_93 rfl ?_
          refine G_getR (r := 65) (fl_X10_7.r) d_X10_lookAtRows_94 (wk_64 _) rfl rfl ?_
          refine G_bipush d_X10_lookAtRows_97 (by decide) ?_
          refine G_iload_n d_X10_lookAtRows_99 rfl ?_
          refine G_iadd d_X10_lookAtRows_100 ?_
          refine G_bipush d_X10_lookAtRows_101 (by decide) ?_
          refine G_isub d_X10_lookAtRows_103 ?_
          refine G_ialdj (9 + (a - 50).toNat) d_X10_lookAtRows_104 (wk_65 _) (by omega) (by omega) (by decide) ?_
          rw [hO (9 + (a - 50).toNat) (by omega)]
          refine G_goto 110 d_X10_lookAtRows_105 (by decide) ?_
          refine G_iret (mc := 0) (ms := 0) (st := []) d_X10_lookAtRows_110 rfl ?_
          exact ⟨congrArg (fun x => some (iV x)) (Eq.symm (by unfold vLookR; rw [if_neg (by omega)]; rw [if_neg (by omega)]; rw [if_neg (by omega)]; rw [if_pos (by omega)]; first | done | rfl)), rfl⟩
        · rw [if_neg h4]
          refine G_if_eq 108 d_X10_lookAtRows_90 (by decide) (by decide) (fun _ => ?_) (fun hd => absurd hd (by decide))
          refine G_bipush d_X10_lookAtRows_108 (by decide) ?_
          refine G_iret (mc := 0) (ms := 0) (st := []) d_X10_lookAtRows_110 rfl ?_
          exact ⟨congrArg (fun x => some (iV x)) (Eq.symm (by unfold vLookR; rw [if_neg (by omega)]; rw [if_neg (by omega)]; rw [if_neg (by omega)]; rw [if_neg (by omega)]; first | done | rfl)), rfl⟩
theorem sp_Mlook {w : List KD} {m : Nat → Nat → Int} (s : Nat → Int) (hV : VS s) (hI : MI s m) (a : Int) (hra : -2147483648 ≤ a ∧ a < 2147483648) : Sp M_X10_look 7 0 0 [rV 64, iV a] (WC ++ (WM ++ w), m) (fun r h => r = some (iV (vLook s (m 64 6) a)) ∧ ∃ m2, h = (WC ++ (WM ++ w), m2) ∧ KQ s m m2) := by
  refine Sp.ofG (ls := [rV 64, iV a]) (by decide +kernel) rfl (Nat.le_of_ble_eq_true rfl) ?_
  have hC := pC_le hV
  have hN := hV.N
  have hT := hV.T
  have hSc := hV.Sc
  refine G_aload_n d_X10_look_0 rfl ?_
  refine G_iconst d_X10_look_1 ?_
  refine G_putII fl_X10_1 d_X10_look_2 (wk_64 _) rfl ?_
  have hQ0 : KQ s m (upm m 64 0 0) := (KQ.refl hI).fld rfl
  generalize upm m 64 0 0 = m0 at hQ0 ⊢
  have h646 : m0 64 6 = m 64 6 := hQ0.1.2.2.2.1
  refine G_iload_n d_X10_look_5 rfl ?_
  refine G_if_ne 14 d_X10_look_6 (by decide) (by omega) (fun c6 => ?_) (fun c6 => ?_)
  · refine G_iload_n d_X10_look_14 rfl ?_
    refine G_iconst d_X10_look_15 ?_
    refine G_icmp_ne 24 d_X10_look_16 (by decide) (by omega) (by omega) (fun c16 => ?_) (fun c16 => ?_)
    · refine G_iload_n d_X10_look_24 rfl ?_
      refine G_iconst d_X10_look_25 ?_
      refine G_icmp_ne 34 d_X10_look_26 (by decide) (by omega) (by omega) (fun c26 => ?_) (fun c26 => ?_)
      · refine G_iload_n d_X10_look_34 rfl ?_
        refine G_iconst d_X10_look_35 ?_
        refine G_icmp_ne 44 d_X10_look_36 (by decide) (by omega) (by omega) (fun c36 => ?_) (fun c36 => ?_)
        · refine G_iload_n d_X10_look_44 rfl ?_
          refine G_iconst d_X10_look_45 ?_
          refine G_icmp_ne 54 d_X10_look_46 (by decide) (by omega) (by omega) (fun c46 => ?_) (fun c46 => ?_)
          · refine G_iload_n d_X10_look_54 rfl ?_
            refine G_iconst d_X10_look_55 ?_
            refine G_icmp_ne 65 d_X10_look_56 (by decide) (by omega) (by omega) (fun c56 => ?_) (fun c56 => ?_)
            · refine G_iload_n d_X10_look_65 rfl ?_
              refine G_bipush d_X10_look_66 (by decide) ?_
              refine G_icmp_ne 77 d_X10_look_68 (by decide) (by omega) (by omega) (fun c68 => ?_) (fun c68 => ?_)
              · refine G_iload_n d_X10_look_77 rfl ?_
                refine G_bipush d_X10_look_78 (by decide) ?_
                refine G_icmp_ne 88 d_X10_look_80 (by decide) (by omega) (by omega) (fun c80 => ?_) (fun c80 => ?_)
                · refine G_iload_n d_X10_look_88 rfl ?_
                  refine G_bipush d_X10_look_89 (by decide) ?_
                  refine G_icmp_ne 99 d_X10_look_91 (by decide) (by omega) (by omega) (fun c91 => ?_) (fun c91 => ?_)
                  · refine G_iload_n d_X10_look_99 rfl ?_
                    refine G_bipush d_X10_look_100 (by decide) ?_
                    refine G_icmp_ne 114 d_X10_look_102 (by decide) (by omega) (by omega) (fun c102 => ?_) (fun c102 => ?_)
                    · refine G_iload_n d_X10_look_114 rfl ?_
                      refine G_bipush d_X10_look_115 (by decide) ?_
                      refine G_icmp_ne 125 d_X10_look_117 (by decide) (by omega) (by omega) (fun c117 => ?_) (fun c117 => ?_)
                      · refine G_iload_n d_X10_look_125 rfl ?_
                        refine G_bipush d_X10_look_126 (by decide) ?_
                        refine G_icmp_ne 140 d_X10_look_128 (by decide) (by omega) (by omega) (fun c128 => ?_) (fun c128 => ?_)
                        · refine G_iload_n d_X10_look_140 rfl ?_
                          refine G_bipush d_X10_look_141 (by decide) ?_
                          refine G_icmp_ne 151 d_X10_look_143 (by decide) (by omega) (by omega) (fun c143 => ?_) (fun c143 => ?_)
                          · refine G_iload_n d_X10_look_151 rfl ?_
                            refine G_bipush d_X10_look_152 (by decide) ?_
                            refine G_icmp_ne 163 d_X10_look_154 (by decide) (by omega) (by omega) (fun c154 => ?_) (fun c154 => ?_)
                            · refine G_iload_n d_X10_look_163 rfl ?_
                              refine G_bipush d_X10_look_164 (by decide) ?_
                              refine G_icmp_ne 177 d_X10_look_166 (by decide) (by omega) (by omega) (fun c166 => ?_) (fun c166 => ?_)
                              · refine G_aload_n d_X10_look_177 rfl ?_
                                refine G_iload_n d_X10_look_178 rfl ?_
                                refine G_callV1 cl_X10_368 rfl d_X10_look_179 (wk_64 _) (Nat.le_of_ble_eq_true rfl) (by decide) (sp_MlookAtRows s hV hQ0.2.1 a hra) ?_
                                rintro _ _ ⟨rfl, rfl⟩
                                refine G_iret (mc := 0) (ms := 0) (st := []) d_X10_look_182 rfl ?_
                                exact ⟨congrArg (fun x => some (iV x)) (Eq.symm (by unfold vLook; rw [if_neg (by omega)]; rw [if_neg (by omega)]; rw [if_neg (by omega)]; rw [if_neg (by omega)]; rw [if_neg (by omega)]; rw [if_neg (by omega)]; rw [if_neg (by omega)]; rw [if_neg (by omega)]; rw [if_neg (by omega)]; rw [if_neg (by omega)]; rw [if_neg (by omega)]; rw [if_neg (by omega)]; rw [if_neg (by omega)]; rw [if_neg (by omega)]; rw [if_neg (by omega)]; first | done | rfl)), m0, rfl, hQ0⟩
                              · refine G_aload_n d_X10_look_169 rfl ?_
                                refine G_iconst d_X10_look_170 ?_
                                refine G_callV1 cl_X10_365 rfl d_X10_look_171 (wk_64 _) (Nat.le_of_ble_eq_true rfl) (by decide) (sp_MweightsOfK s hV hQ0.2) ?_
                                rintro _ _ ⟨rfl, m2, rfl, h2⟩
                                refine G_goto 182 d_X10_look_174 (by decide) ?_
                                refine G_iret (mc := 0) (ms := 0) (st := []) d_X10_look_182 rfl ?_
                                exact ⟨congrArg (fun x => some (iV x)) (Eq.symm (by unfold vLook; rw [if_neg (by omega)]; rw [if_neg (by omega)]; rw [if_neg (by omega)]; rw [if_neg (by omega)]; rw [if_neg (by omega)]; rw [if_neg (by omega)]; rw [if_neg (by omega)]; rw [if_neg (by omega)]; rw [if_neg (by omega)]; rw [if_neg (by omega)]; rw [if_neg (by omega)]; rw [if_neg (by omega)]; rw [if_neg (by omega)]; rw [if_neg (by omega)]; rw [if_pos (by omega)]; first | done | rfl)), m2, rfl, (hQ0.trans h2)⟩
                            · refine G_aload_n d_X10_look_157 rfl ?_
                              refine G_iconst d_X10_look_158 ?_
                              refine G_callV1 cl_X10_365 rfl d_X10_look_159 (wk_64 _) (Nat.le_of_ble_eq_true rfl) (by decide) (sp_MweightsOfL s hV hQ0.2) ?_
                              rintro _ _ ⟨rfl, m2, rfl, h2⟩
                              refine G_iret (mc := 0) (ms := 0) (st := []) d_X10_look_162 rfl ?_
                              exact ⟨congrArg (fun x => some (iV x)) (Eq.symm (by unfold vLook; rw [if_neg (by omega)]; rw [if_neg (by omega)]; rw [if_neg (by omega)]; rw [if_neg (by omega)]; rw [if_neg (by omega)]; rw [if_neg (by omega)]; rw [if_neg (by omega)]; rw [if_neg (by omega)]; rw [if_neg (by omega)]; rw [if_neg (by omega)]; rw [if_neg (by omega)]; rw [if_neg (by omega)]; rw [if_neg (by omega)]; rw [if_pos (by omega)]; first | done | rfl)), m2, rfl, (hQ0.trans h2)⟩
                          · refine G_aload_n d_X10_look_146 rfl ?_
                            refine G_getI (fl_X10_166.r) d_X10_look_147 (wk_64 _) rfl ?_
                            refine G_iret (mc := 0) (ms := 0) (st := []) d_X10_look_150 rfl ?_
                            exact ⟨congrArg (fun x => some (iV x)) (Eq.symm (by unfold vLook; rw [if_neg (by omega)]; rw [if_neg (by omega)]; rw [if_neg (by omega)]; rw [if_neg (by omega)]; rw [if_neg (by omega)]; rw [if_neg (by omega)]; rw [if_neg (by omega)]; rw [if_neg (by omega)]; rw [if_neg (by omega)]; rw [if_neg (by omega)]; rw [if_neg (by omega)]; rw [if_neg (by omega)]; rw [if_pos (by omega)]; exact h646.symm)), m0, rfl, hQ0⟩
                        · refine G_aload_n d_X10_look_131 rfl ?_
                          refine G_aload_n d_X10_look_132 rfl ?_
                          refine G_callV0 cl_X10_155 rfl d_X10_look_133 (wk_64 _) (Nat.le_of_ble_eq_true rfl) (by decide) (sp_Mfollows s hV hQ0.2.1) ?_
                          rintro _ _ ⟨rfl, rfl⟩
                          refine G_callV1 cl_X10_310 rfl d_X10_look_136 (wk_64 _) (Nat.le_of_ble_eq_true rfl) (by decide) (sp_Mone (by split <;> simp)) ?_
                          rintro _ _ ⟨rfl, rfl⟩
                          refine G_iret (mc := 0) (ms := 0) (st := []) d_X10_look_139 rfl ?_
                          exact ⟨congrArg (fun x => some (iV x)) (Eq.symm (by unfold vLook; rw [if_neg (by omega)]; rw [if_neg (by omega)]; rw [if_neg (by omega)]; rw [if_neg (by omega)]; rw [if_neg (by omega)]; rw [if_neg (by omega)]; rw [if_neg (by omega)]; rw [if_neg (by omega)]; rw [if_neg (by omega)]; rw [if_neg (by omega)]; rw [if_neg (by omega)]; rw [if_pos (by omega)]; first | done | rfl)), m0, rfl, hQ0⟩
                      · refine G_aload_n d_X10_look_120 rfl ?_
                        refine G_callV0 cl_X10_213 rfl d_X10_look_121 (wk_64 _) (Nat.le_of_ble_eq_true rfl) (by decide) (sp_Mchief s hV hQ0.2.1 hQ0.2.2.1) ?_
                        rintro _ _ ⟨rfl, rfl⟩
                        refine G_iret (mc := 0) (ms := 0) (st := []) d_X10_look_124 rfl ?_
                        exact ⟨congrArg (fun x => some (iV x)) (Eq.symm (by unfold vLook; rw [if_neg (by omega)]; rw [if_neg (by omega)]; rw [if_neg (by omega)]; rw [if_neg (by omega)]; rw [if_neg (by omega)]; rw [if_neg (by omega)]; rw [if_neg (by omega)]; rw [if_neg (by omega)]; rw [if_neg (by omega)]; rw [if_neg (by omega)]; rw [if_pos (by omega)]; first | done | rfl)), m0, rfl, hQ0⟩
                    · refine G_aload_n d_X10_look_105 rfl ?_
                      refine G_aload_n d_X10_look_106 rfl ?_
                      refine G_callV0 cl_X10_332 rfl d_X10_look_107 (wk_64 _) (Nat.le_of_ble_eq_true rfl) (by decide) (sp_MisGood s hV hQ0.2) ?_
                      rintro _ _ ⟨rfl, m2, rfl, h2⟩
                      refine G_callV1 cl_X10_310 rfl d_X10_look_110 (wk_64 _) (Nat.le_of_ble_eq_true rfl) (by decide) (sp_Mone (by split <;> simp)) ?_
                      rintro _ _ ⟨rfl, rfl⟩
                      refine G_iret (mc := 0) (ms := 0) (st := []) d_X10_look_113 rfl ?_
                      exact ⟨congrArg (fun x => some (iV x)) (Eq.symm (by unfold vLook; rw [if_neg (by omega)]; rw [if_neg (by omega)]; rw [if_neg (by omega)]; rw [if_neg (by omega)]; rw [if_neg (by omega)]; rw [if_neg (by omega)]; rw [if_neg (by omega)]; rw [if_neg (by omega)]; rw [if_neg (by omega)]; rw [if_pos (by omega)]; first | done | rfl)), m2, rfl, (hQ0.trans h2)⟩
                  · refine G_aload_n d_X10_look_94 rfl ?_
                    refine G_callV0 cl_X10_326 rfl d_X10_look_95 (wk_64 _) (Nat.le_of_ble_eq_true rfl) (by decide) (sp_Mlosts s hV hQ0.2) ?_
                    rintro _ _ ⟨rfl, m2, rfl, h2⟩
                    refine G_iret (mc := 0) (ms := 0) (st := []) d_X10_look_98 rfl ?_
                    exact ⟨congrArg (fun x => some (iV x)) (Eq.symm (by unfold vLook; rw [if_neg (by omega)]; rw [if_neg (by omega)]; rw [if_neg (by omega)]; rw [if_neg (by omega)]; rw [if_neg (by omega)]; rw [if_neg (by omega)]; rw [if_neg (by omega)]; rw [if_neg (by omega)]; rw [if_pos (by omega)]; first | done | rfl)), m2, rfl, (hQ0.trans h2)⟩
                · refine G_aload_n d_X10_look_83 rfl ?_
                  refine G_callV0 cl_X10_323 rfl d_X10_look_84 (wk_64 _) (Nat.le_of_ble_eq_true rfl) (by decide) (sp_Mleaks s hV hQ0.2) ?_
                  rintro _ _ ⟨rfl, m2, rfl, h2⟩
                  refine G_iret (mc := 0) (ms := 0) (st := []) d_X10_look_87 rfl ?_
                  exact ⟨congrArg (fun x => some (iV x)) (Eq.symm (by unfold vLook; rw [if_neg (by omega)]; rw [if_neg (by omega)]; rw [if_neg (by omega)]; rw [if_neg (by omega)]; rw [if_neg (by omega)]; rw [if_neg (by omega)]; rw [if_neg (by omega)]; rw [if_pos (by omega)]; first | done | rfl)), m2, rfl, (hQ0.trans h2)⟩
              · refine G_aload_n d_X10_look_71 rfl ?_
                refine G_iconst d_X10_look_72 ?_
                refine G_callV1 cl_X10_362 rfl d_X10_look_73 (wk_64 _) (Nat.le_of_ble_eq_true rfl) (by decide) (sp_MmanyOf s hV hQ0.2.1 hQ0.2.2.1 2 (by decide)) ?_
                rintro _ _ ⟨rfl, rfl⟩
                refine G_iret (mc := 0) (ms := 0) (st := []) d_X10_look_76 rfl ?_
                exact ⟨congrArg (fun x => some (iV x)) (Eq.symm (by unfold vLook; rw [if_neg (by omega)]; rw [if_neg (by omega)]; rw [if_neg (by omega)]; rw [if_neg (by omega)]; rw [if_neg (by omega)]; rw [if_neg (by omega)]; rw [if_pos (by omega)]; first | done | rfl)), m0, rfl, hQ0⟩
            · refine G_aload_n d_X10_look_59 rfl ?_
              refine G_iconst d_X10_look_60 ?_
              refine G_callV1 cl_X10_362 rfl d_X10_look_61 (wk_64 _) (Nat.le_of_ble_eq_true rfl) (by decide) (sp_MmanyOf s hV hQ0.2.1 hQ0.2.2.1 1 (by decide)) ?_
              rintro _ _ ⟨rfl, rfl⟩
              refine G_iret (mc := 0) (ms := 0) (st := []) d_X10_look_64 rfl ?_
              exact ⟨congrArg (fun x => some (iV x)) (Eq.symm (by unfold vLook; rw [if_neg (by omega)]; rw [if_neg (by omega)]; rw [if_neg (by omega)]; rw [if_neg (by omega)]; rw [if_neg (by omega)]; rw [if_pos (by omega)]; first | done | rfl)), m0, rfl, hQ0⟩
          · refine G_aload_n d_X10_look_49 rfl ?_
            refine G_callV0 cl_X10_142 rfl d_X10_look_50 (wk_64 _) (Nat.le_of_ble_eq_true rfl) (by decide) (sp_Mscans s hV hQ0.2.1) ?_
            rintro _ _ ⟨rfl, rfl⟩
            refine G_iret (mc := 0) (ms := 0) (st := []) d_X10_look_53 rfl ?_
            exact ⟨congrArg (fun x => some (iV x)) (Eq.symm (by unfold vLook; rw [if_neg (by omega)]; rw [if_neg (by omega)]; rw [if_neg (by omega)]; rw [if_neg (by omega)]; rw [if_pos (by omega)]; first | done | rfl)), m0, rfl, hQ0⟩
        · refine G_aload_n d_X10_look_39 rfl ?_
          refine G_getIe (fl_X10_25.r) d_X10_look_40 (wk_64 _) rfl (hQ0.2.2.1.1) ?_
          refine G_iret (mc := 0) (ms := 0) (st := []) d_X10_look_43 rfl ?_
          exact ⟨congrArg (fun x => some (iV x)) (Eq.symm (by unfold vLook; rw [if_neg (by omega)]; rw [if_neg (by omega)]; rw [if_neg (by omega)]; rw [if_pos (by omega)]; first | done | rfl)), m0, rfl, hQ0⟩
      · refine G_aload_n d_X10_look_29 rfl ?_
        refine G_callV0 cl_X10_148 rfl d_X10_look_30 (wk_64 _) (Nat.le_of_ble_eq_true rfl) (by decide) (sp_Mt s hV hQ0.2.1) ?_
        rintro _ _ ⟨rfl, rfl⟩
        refine G_iret (mc := 0) (ms := 0) (st := []) d_X10_look_33 rfl ?_
        exact ⟨congrArg (fun x => some (iV x)) (Eq.symm (by unfold vLook; rw [if_neg (by omega)]; rw [if_neg (by omega)]; rw [if_pos (by omega)]; first | done | rfl)), m0, rfl, hQ0⟩
    · refine G_aload_n d_X10_look_19 rfl ?_
      refine G_callV0 cl_X10_22 rfl d_X10_look_20 (wk_64 _) (Nat.le_of_ble_eq_true rfl) (by decide) (sp_Mm s hV hQ0.2.1) ?_
      rintro _ _ ⟨rfl, rfl⟩
      refine G_iret (mc := 0) (ms := 0) (st := []) d_X10_look_23 rfl ?_
      exact ⟨congrArg (fun x => some (iV x)) (Eq.symm (by unfold vLook; rw [if_neg (by omega)]; rw [if_pos (by omega)]; first | done | rfl)), m0, rfl, hQ0⟩
  · refine G_aload_n d_X10_look_9 rfl ?_
    refine G_callV0 cl_X10_11 rfl d_X10_look_10 (wk_64 _) (Nat.le_of_ble_eq_true rfl) (by decide) (sp_Mn s hV hQ0.2.1) ?_
    rintro _ _ ⟨rfl, rfl⟩
    refine G_iret (mc := 0) (ms := 0) (st := []) d_X10_look_13 rfl ?_
    exact ⟨congrArg (fun x => some (iV x)) (Eq.symm (by unfold vLook; rw [if_pos (by omega)]; first | done | rfl)), m0, rfl, hQ0⟩
theorem sp_Mfault {w : List KD} {m : Nat → Nat → Int} (s : Nat → Int) (hV : VS s) (hI : MI s m) (a : Int) (hra : -2147483648 ≤ a ∧ a < 2147483648) : Sp M_X10_fault 0 0 0 [rV 64, iV a] (WC ++ (WM ++ w), m) (fun r h => r = some (iV (if a = 0 then m 64 7 else if a = 1 then m 64 8 else -1)) ∧ ∃ m2, h = (WC ++ (WM ++ w), m2) ∧ KQ s m m2) := by
  refine Sp.ofG (ls := [rV 64, iV a]) (by decide +kernel) rfl (Nat.le_of_ble_eq_true rfl) ?_
  have hC := pC_le hV
  have hN := hV.N
  have hT := hV.T
  have hSc := hV.Sc
  refine G_aload_n d_X10_fault_0 rfl ?_
  refine G_iconst d_X10_fault_1 ?_
  refine G_putII fl_X10_1 d_X10_fault_2 (wk_64 _) rfl ?_
  have hQ0 : KQ s m (upm m 64 0 0) := (KQ.refl hI).fld rfl
  generalize upm m 64 0 0 = m0 at hQ0 ⊢
  refine G_iload_n d_X10_fault_5 rfl ?_
  refine G_if_ne 16 d_X10_fault_6 (by decide) (by omega) (fun c6 => ?_) (fun c6 => ?_)
  · refine G_iload_n d_X10_fault_16 rfl ?_
    refine G_iconst d_X10_fault_17 ?_
    refine G_icmp_ne 28 d_X10_fault_18 (by decide) (by omega) (by omega) (fun c18 => ?_) (fun c18 => ?_)
    · refine G_iconst d_X10_fault_28 ?_
      refine G_iret (mc := 0) (ms := 0) (st := []) d_X10_fault_29 rfl ?_
      exact ⟨by rw [if_neg (by omega), if_neg c18], m0, rfl, hQ0⟩
    · refine G_aload_n d_X10_fault_21 rfl ?_
      refine G_getIe (fl_X10_45.r) d_X10_fault_22 (wk_64 _) rfl (hQ0.1.2.2.2.2.2.1) ?_
      refine G_goto 29 d_X10_fault_25 (by decide) ?_
      refine G_iret (mc := 0) (ms := 0) (st := []) d_X10_fault_29 rfl ?_
      exact ⟨by rw [if_neg (by omega), if_pos c18], m0, rfl, hQ0⟩
  · refine G_aload_n d_X10_fault_9 rfl ?_
    refine G_getIe (fl_X10_182.r) d_X10_fault_10 (wk_64 _) rfl (hQ0.1.2.2.2.2.1) ?_
    refine G_goto 29 d_X10_fault_13 (by decide) ?_
    refine G_iret (mc := 0) (ms := 0) (st := []) d_X10_fault_29 rfl ?_
    exact ⟨by rw [if_pos c6], m0, rfl, hQ0⟩
/-- all but the tape's length and bytes -/
def EQT (m m2 : Nat → Nat → Int) : Prop := (∀ a, a < 64 → m2 a = m a) ∧ m2 83 = m 83 ∧ m2 64 7 = m 64 7 ∧ m2 64 8 = m 64 8 ∧ m2 64 28 = m 64 28
theorem EQM.t {m m2 : Nat → Nat → Int} (h : EQM m m2) : EQT m m2 := ⟨h.1, h.2.2.1, h.2.2.2.2.1, h.2.2.2.2.2.1, h.2.2.2.2.2.2⟩
theorem MI.fld6 {s : Nat → Int} {m : Nat → Nat → Int} (h : MI s m) (x : Int) : MI s (upm m 64 6 x) :=
  h.congr (upm_off _ _ (by decide)) (upm_off _ _ (by decide)) (upm_off _ _ (by decide)) (upm_off _ _ (by decide)) (upm_ne _ _ (fun _ => by decide)) (upm_ne _ _ (fun _ => by decide)) (upm_ne _ _ (fun _ => by decide))
theorem sp_Mend {w : List KD} {m : Nat → Nat → Int} (s : Nat → Int) (hV : VS s) (hI : MI s m) (a : Int) (hra : -2147483648 ≤ a ∧ a < 2147483648) (hz : 0 ≤ m 64 6 ∧ m 64 6 ≤ 400) : Sp M_X10_end 1 0 0 [rV 64, iV a] (WC ++ (WM ++ w), m) (fun r h => r = some (iV (if 0 ≤ a ∧ a ≤ m 64 6 then 1 else 0)) ∧ ∃ m2, h = (WC ++ (WM ++ w), m2) ∧ MI s m2 ∧ EQT m m2 ∧ m2 67 = m 67 ∧ m2 64 6 = if 0 ≤ a ∧ a ≤ m 64 6 then a else m 64 6) := by
  refine Sp.ofG (ls := [rV 64, iV a]) (by decide +kernel) rfl (Nat.le_of_ble_eq_true rfl) ?_
  have hC := pC_le hV
  have hN := hV.N
  have hT := hV.T
  have hSc := hV.Sc
  refine G_aload_n d_X10_end_0 rfl ?_
  refine G_iconst d_X10_end_1 ?_
  refine G_putII fl_X10_1 d_X10_end_2 (wk_64 _) rfl ?_
  have hQ0 : KQ s m (upm m 64 0 0) := (KQ.refl hI).fld rfl
  generalize upm m 64 0 0 = m0 at hQ0 ⊢
  refine G_aload_n d_X10_end_5 rfl ?_
  refine G_iload_n d_X10_end_6 rfl ?_
  refine G_iconst d_X10_end_7 ?_
  refine G_aload_n d_X10_end_8 rfl ?_
  refine G_getIe (fl_X10_166.r) d_X10_end_9 (wk_64 _) rfl (hQ0.1.2.2.2.1) ?_
  refine G_callV3 cl_X10_124 rfl d_X10_end_12 (wk_64 _) (Nat.le_of_ble_eq_true rfl) (by decide) (sp_MisIn a hra 0 (by omega) (m 64 6) (by omega)) ?_
  rintro _ _ ⟨rfl, rfl⟩
  by_cases ha : 0 ≤ a ∧ a ≤ m 64 6
  · rw [if_pos ha]
    refine G_if_ne 20 d_X10_end_15 (by decide) (by decide) (fun _ => ?_) (fun hd => absurd hd (by decide))
    refine G_aload_n d_X10_end_20 rfl ?_
    refine G_iload_n d_X10_end_21 rfl ?_
    refine G_putII fl_X10_166 d_X10_end_22 (wk_64 _) rfl ?_
    refine G_iconst d_X10_end_25 ?_
    refine G_zret (mc := 0) (ms := 0) (st := []) d_X10_end_26 rfl (by omega) ?_
    refine ⟨rfl, _, rfl, hQ0.2.fld6 a, ⟨fun c hc => by rw [upm_off _ _ (by omega)]; exact hQ0.1.1 c hc, by rw [upm_off _ _ (by decide)]; exact hQ0.1.2.2.1, by rw [upm_ne _ _ (fun _ => by decide)]; exact hQ0.1.t.2.2.1, by rw [upm_ne _ _ (fun _ => by decide)]; exact hQ0.1.t.2.2.2.1, by rw [upm_ne _ _ (fun _ => by decide)]; exact hQ0.1.t.2.2.2.2⟩, by rw [upm_off _ _ (by decide)]; exact hQ0.1.2.1, by rw [if_pos ha, upm_same]⟩
  · rw [if_neg ha]
    refine G_if_ne 20 d_X10_end_15 (by decide) (by decide) (fun hd => absurd hd (by decide)) (fun _ => ?_)
    refine G_iconst d_X10_end_18 ?_
    refine G_zret (mc := 0) (ms := 0) (st := []) d_X10_end_19 rfl (by omega) ?_
    exact ⟨rfl, m0, rfl, hQ0.2, hQ0.1.t, hQ0.1.2.1, by rw [if_neg ha]; exact hQ0.1.2.2.2.1⟩
def spF (s : Nat → Int) (j l : Nat) : Bool := decide (oth s j * l ≤ 512) && pGood (sU s (49 + j) ((l : Int) - 1))
def vSpare (s : Nat → Int) (a : Int) : Int := if okCtr a then fst1 (firstB (fun l => spF s a.toNat (l + 1)) 12) else -1
theorem sU_sU (s : Nat → Int) (j : Nat) (x y : Int) : sU (sU s j x) j y = sU s j y := by
  funext i
  unfold sU
  by_cases e : i = j
  · rw [if_pos e, if_pos e]
  · rw [if_neg e, if_neg e, if_neg e]
theorem sU_id (s : Nat → Int) (j : Nat) : sU s j (s j) = s := by
  funext i
  unfold sU
  by_cases e : i = j
  · rw [if_pos e, e]
  · rw [if_neg e]
theorem VS_len {s : Nat → Int} (hV : VS s) {j l : Nat} (hj : j < 4) (h1 : 1 ≤ l ∧ l ≤ 12) (hl : oth s j * l ≤ 512) : VS (sU s (49 + j) ((l : Int) - 1)) := by
  refine VS_sU hV _ _ (by omega) (fun h => absurd h (by omega)) ⟨fun h1 h2 => absurd h2 (by omega), fun h1 h2 => absurd h2 (by omega), fun h1 h2 => absurd h2 (by omega), fun h1 h2 => by omega, fun h1 h2 => absurd h1 (by omega), fun h1 h2 => absurd h1 (by omega), fun h1 h2 => absurd h1 (by omega), fun h1 => absurd h1 (by omega)⟩ ?_
  rw [oth_len hj h1.1]
  exact hl
theorem sp_Mspare {w : List KD} {m : Nat → Nat → Int} (s : Nat → Int) (hV : VS s) (hI : MI s m) (a : Int) (hra : -2147483648 ≤ a ∧ a < 2147483648) : Sp M_X10_spare 6 0 0 [rV 64, iV a] (WC ++ (WM ++ w), m) (fun r h => r = some (iV (vSpare s a)) ∧ ∃ m2, h = (WC ++ (WM ++ w), m2) ∧ KQ s m m2) := by
  refine Sp.ofG (ls := [rV 64, iV a, uV, uV, uV, uV]) (by decide +kernel) rfl (Nat.le_of_ble_eq_true rfl) ?_
  have hC := pC_le hV
  have hN := hV.N
  have hT := hV.T
  have hSc := hV.Sc
  have L : ∀ j : Nat, j < 4 → ∀ l : Nat, l ≤ 12 → ∀ m1 x, VS (sU s (49 + j) x) → KQ (sU s (49 + j) x) m m1 → (∀ i, i < l → spF s j (i + 1) = false) → G M_X10_spare 6 0 0 42 [rV 64, iV (j : Int), iV (s (49 + j)), iV (oth s j : Int), iV (-1), iV ((l : Int) + 1)] [] (WC ++ (WM ++ w), m1) (fun r h => r = some (iV (vSpare s (j : Int))) ∧ ∃ m2, h = (WC ++ (WM ++ w), m2) ∧ KQ s m m2) := by
    intro j hj
    have hob := oth_rng hV hj
    refine loop_up 12 _ ?_
    intro l hl ih m1 x hV1 h1 hno
    have hmb := mulb (a := (oth s j : Int)) (b := (l : Int) + 1) (A := 512) (B := 13) ⟨by omega, by omega⟩ ⟨by omega, by omega⟩
    refine G_iload d_X10_spare_42 rfl ?_
    refine G_bipush d_X10_spare_44 (by decide) ?_
    refine G_icmp_gt 103 d_X10_spare_46 (by decide) (by omega) (by omega) (fun c46 => ?_) (fun c46 => ?_)
    · have hl12 : l = 12 := by omega
      subst hl12
      refine G_aload_n d_X10_spare_103 rfl ?_
      refine G_getR (r := 65) (fl_X10_7.r) d_X10_spare_104 (wk_64 _) rfl rfl ?_
      refine G_bipush d_X10_spare_107 (by decide) ?_
      refine G_iload_n d_X10_spare_109 rfl ?_
      refine G_iadd d_X10_spare_110 ?_
      refine G_iload_n d_X10_spare_111 rfl ?_
      refine G_iastj (49 + j) d_X10_spare_112 (wk_65 _) (by omega) (by omega) (by decide) ?_
      refine G_aload_n d_X10_spare_113 rfl ?_
      refine G_iconst d_X10_spare_114 ?_
      refine G_putZ fl_X10_32 d_X10_spare_115 (wk_64 _) rfl (by omega) ?_
      refine G_iload d_X10_spare_118 rfl ?_
      refine G_iret (mc := 0) (ms := 0) (st := []) d_X10_spare_120 rfl ?_
      exact ⟨by unfold vSpare; rw [if_pos (show okCtr (j : Int) from ⟨by omega, by omega⟩), show ((j : Int)).toNat = j from rfl, firstB_none (fun i hi => hno i (by omega))]; rfl, _, rfl, by
        have h9 := KQ_set (x := s (49 + j)) hV1 h1.2 (j := 49 + j) (by omega) (by omega)
        rw [sU_sU, sU_id] at h9
        exact h1.trans h9⟩
    · refine G_iload d_X10_spare_49 rfl ?_
      refine G_iconst d_X10_spare_51 ?_
      refine G_icmp_ne 103 d_X10_spare_52 (by decide) (by decide) (by decide) (fun hd => absurd hd (by decide)) (fun _ => ?_)
      refine G_iload_n d_X10_spare_55 rfl ?_
      refine G_iload d_X10_spare_56 rfl ?_
      refine G_imul d_X10_spare_58 ?_
      refine G_sipush d_X10_spare_59 (by decide) ?_
      refine G_icmp_le 68 d_X10_spare_62 (by decide) (by omega) (by omega) (fun c62 => ?_) (fun c62 => ?_)
      · refine G_aload_n d_X10_spare_68 rfl ?_
        refine G_getR (r := 65) (fl_X10_7.r) d_X10_spare_69 (wk_64 _) rfl rfl ?_
        refine G_bipush d_X10_spare_72 (by decide) ?_
        refine G_iload_n d_X10_spare_74 rfl ?_
        refine G_iadd d_X10_spare_75 ?_
        refine G_iload d_X10_spare_76 rfl ?_
        refine G_iconst d_X10_spare_78 ?_
        refine G_isub d_X10_spare_79 ?_
        refine G_iastj (49 + j) d_X10_spare_80 (wk_65 _) (by omega) (by omega) (by decide) ?_
        refine G_aload_n d_X10_spare_81 rfl ?_
        refine G_iconst d_X10_spare_82 ?_
        refine G_putZ fl_X10_32 d_X10_spare_83 (wk_64 _) rfl (by omega) ?_
        refine G_aload_n d_X10_spare_86 rfl ?_
        have hle : oth s j * (l + 1) ≤ 512 := Int.ofNat_le.mp (by rw [Int.natCast_mul]; simpa using c62)
        have hV2 : VS (sU s (49 + j) ((l : Int) + 1 - 1)) := by
          have h9 := VS_len hV hj (l := l + 1) ⟨by omega, by omega⟩ hle
          rw [Int.natCast_add] at h9
          exact h9
        have hQ2 : KQ (sU s (49 + j) ((l : Int) + 1 - 1)) m (upm (upm m1 65 (49 + j) ((l : Int) + 1 - 1)) 64 2 0) := by
          have h9 := KQ_set (x := (l : Int) + 1 - 1) hV1 h1.2 (j := 49 + j) (by omega) (by omega)
          rw [sU_sU] at h9
          exact h1.trans h9
        have K : ∀ m1 x, VS (sU s (49 + j) x) → KQ (sU s (49 + j) x) m m1 → pGood (sU s (49 + j) ((l : Int) + 1 - 1)) = true → ∀ v : Int, v = (l : Int) + 1 + 1 → G M_X10_spare 6 0 0 103 [rV 64, iV (j : Int), iV (s (49 + j)), iV (oth s j : Int), iV ((l : Int) + 1), iV v] [] (WC ++ (WM ++ w), m1) (fun r h => r = some (iV (vSpare s (j : Int))) ∧ ∃ m2, h = (WC ++ (WM ++ w), m2) ∧ KQ s m m2) := by
          intro m1 x hV1 h1 hg v _
          refine G_aload_n d_X10_spare_103 rfl ?_
          refine G_getR (r := 65) (fl_X10_7.r) d_X10_spare_104 (wk_64 _) rfl rfl ?_
          refine G_bipush d_X10_spare_107 (by decide) ?_
          refine G_iload_n d_X10_spare_109 rfl ?_
          refine G_iadd d_X10_spare_110 ?_
          refine G_iload_n d_X10_spare_111 rfl ?_
          refine G_iastj (49 + j) d_X10_spare_112 (wk_65 _) (by omega) (by omega) (by decide) ?_
          refine G_aload_n d_X10_spare_113 rfl ?_
          refine G_iconst d_X10_spare_114 ?_
          refine G_putZ fl_X10_32 d_X10_spare_115 (wk_64 _) rfl (by omega) ?_
          refine G_iload d_X10_spare_118 rfl ?_
          refine G_iret (mc := 0) (ms := 0) (st := []) d_X10_spare_120 rfl ?_
          exact ⟨by unfold vSpare; rw [if_pos (show okCtr (j : Int) from ⟨by omega, by omega⟩), show ((j : Int)).toNat = j from rfl, firstB_found l (by omega) hno (by unfold spF; rw [Bool.and_eq_true_iff]; exact ⟨by simpa using hle, by rw [Int.natCast_add]; exact hg⟩)]; unfold fst1; rw [if_neg (by omega)], _, rfl, by
            have h9 := KQ_set (x := s (49 + j)) hV1 h1.2 (j := 49 + j) (by omega) (by omega)
            rw [sU_sU, sU_id] at h9
            exact h1.trans h9⟩
        refine G_callV0 cl_X10_332 rfl d_X10_spare_87 (wk_64 _) (Nat.le_of_ble_eq_true rfl) (by decide) (sp_MisGood _ hV2 hQ2.2) ?_
        rintro _ _ ⟨rfl, m2, rfl, h2⟩
        by_cases hg : pGood (sU s (49 + j) ((l : Int) + 1 - 1)) = true
        · rw [if_pos hg]
          refine G_if_eq 97 d_X10_spare_90 (by decide) (by decide) (fun hd => absurd hd (by decide)) (fun _ => ?_)
          refine G_iload d_X10_spare_93 rfl ?_
          refine G_istore d_X10_spare_95 (by decide) rfl ?_
          refine G_iinc d_X10_spare_97 rfl (by decide) rfl ?_
          refine G_goto 42 d_X10_spare_100 (by decide) ?_
          skip
          refine G_iload d_X10_spare_42 rfl ?_
          refine G_bipush d_X10_spare_44 (by decide) ?_
          refine G_icmp_gt 103 d_X10_spare_46 (by decide) (by omega) (by omega) (fun c46 => ?_) (fun c46 => ?_)
          · exact K _ _ hV2 (hQ2.trans h2) hg _ rfl
          · refine G_iload d_X10_spare_49 rfl ?_
            refine G_iconst d_X10_spare_51 ?_
            refine G_icmp_ne 103 d_X10_spare_52 (by decide) (by omega) (by omega) (fun c52 => ?_) (fun c52 => ?_)
            · exact K _ _ hV2 (hQ2.trans h2) hg _ rfl
            · omega
        · rw [if_neg hg]
          refine G_if_eq 97 d_X10_spare_90 (by decide) (by decide) (fun _ => ?_) (fun hd => absurd hd (by decide))
          refine G_iinc d_X10_spare_97 rfl (by decide) rfl ?_
          refine G_goto 42 d_X10_spare_100 (by decide) ?_
          have h9 := ih (by omega) m2 _ hV2 (hQ2.trans h2) (fun i hi => by
            by_cases e : i = l
            · subst e; unfold spF; simp only [Bool.and_eq_false_iff]; right; rw [Int.natCast_add]; simpa using hg
            · exact hno i (by omega))
          rw [Int.natCast_add] at h9
          exact h9
      · refine G_goto 97 d_X10_spare_65 (by decide) ?_
        refine G_iinc d_X10_spare_97 rfl (by decide) rfl ?_
        refine G_goto 42 d_X10_spare_100 (by decide) ?_
        have h9 := ih (by omega) m1 x hV1 h1 (fun i hi => by
          by_cases e : i = l
          · subst e; unfold spF; simp only [Bool.and_eq_false_iff, decide_eq_false_iff_not]; left; intro h8; exact Int.not_le.mpr c62 (by have h7 := Int.ofNat_le.mpr h8; rw [Int.natCast_mul] at h7; simpa using h7)
          · exact hno i (by omega))
        rw [Int.natCast_add] at h9
        exact h9
  refine G_aload_n d_X10_spare_0 rfl ?_
  refine G_iconst d_X10_spare_1 ?_
  refine G_putII fl_X10_1 d_X10_spare_2 (wk_64 _) rfl ?_
  have hQ0 : KQ s m (upm m 64 0 0) := (KQ.refl hI).fld rfl
  generalize upm m 64 0 0 = m0 at hQ0 ⊢
  refine G_aload_n d_X10_spare_5 rfl ?_
  refine G_iload_n d_X10_spare_6 rfl ?_
  refine G_callV1 cl_X10_139 rfl d_X10_spare_7 (wk_64 _) (Nat.le_of_ble_eq_true rfl) (by decide) (sp_MisCounter a hra) ?_
  rintro _ _ ⟨rfl, rfl⟩
  by_cases ha : 0 ≤ a ∧ a < 4
  · rw [if_pos ha]
    obtain ⟨j, rfl⟩ : ∃ n : Nat, a = (n : Int) := ⟨a.toNat, by omega⟩
    refine G_if_ne 15 d_X10_spare_10 (by decide) (by decide) (fun _ => ?_) (fun hd => absurd hd (by decide))
    refine G_aload_n d_X10_spare_15 rfl ?_
    refine G_getR (r := 65) (fl_X10_7.r) d_X10_spare_16 (wk_64 _) rfl rfl ?_
    refine G_bipush d_X10_spare_19 (by decide) ?_
    refine G_iload_n d_X10_spare_21 rfl ?_
    refine G_iadd d_X10_spare_22 ?_
    refine G_ialdj (49 + j) d_X10_spare_23 (wk_65 _) (by omega) (by omega) (by decide) ?_
    rw [hQ0.2.1 (49 + j) (by omega)]
    refine G_istore_n d_X10_spare_24 (by decide) rfl ?_
    refine G_aload_n d_X10_spare_25 rfl ?_
    refine G_callV0 cl_X10_142 rfl d_X10_spare_26 (wk_64 _) (Nat.le_of_ble_eq_true rfl) (by decide) (sp_Mscans s hV hQ0.2.1) ?_
    rintro _ _ ⟨rfl, rfl⟩
    refine G_aload_n d_X10_spare_29 rfl ?_
    refine G_iload_n d_X10_spare_30 rfl ?_
    refine G_callV1 cl_X10_136 rfl d_X10_spare_31 (wk_64 _) (Nat.le_of_ble_eq_true rfl) (by decide) (sp_MlengthOf s hV hQ0.2.1 j (by omega)) ?_
    rintro _ _ ⟨rfl, rfl⟩
    have hLj := hV.L j (by omega)
    refine G_idivN (pSc s) (pL s j) (rfl) (rfl) d_X10_spare_34 (by omega) (by omega) (by omega) ?_
    rw [oth_div hV (show j < 4 by omega)]
    refine G_istore_n d_X10_spare_35 (by decide) rfl ?_
    refine G_iconst d_X10_spare_36 ?_
    refine G_istore d_X10_spare_37 (by decide) rfl ?_
    refine G_iconst d_X10_spare_39 ?_
    refine G_istore d_X10_spare_40 (by decide) rfl ?_
    exact L j (by omega) 0 (by omega) m0 (s (49 + j)) (by rw [sU_id]; exact hV) (by rw [sU_id]; exact hQ0) (fun i hi => absurd hi (by omega))
  · rw [if_neg ha]
    refine G_if_ne 15 d_X10_spare_10 (by decide) (by decide) (fun hd => absurd hd (by decide)) (fun _ => ?_)
    refine G_iconst d_X10_spare_13 ?_
    refine G_iret (mc := 0) (ms := 0) (st := []) d_X10_spare_14 rfl ?_
    exact ⟨by unfold vSpare; rw [if_neg ha], m0, rfl, hQ0⟩
