theorem sp_Cpower {w : List KD} {m : Nat → Nat → Int} (s : Nat → Int) (hV : VS s) (hI : CI s m) (a : Int) (hra : -2147483648 ≤ a ∧ a < 2147483648) : Sp M_X9_power 3 0 0 [rV 0, iV a] (WC ++ w, m) (fun r h => r = some (lV (vPower s a)) ∧ ∃ m2, h = (WC ++ w, m2) ∧ CI s m2 ∧ FXo m m2) := by
  refine Sp.ofG (ls := [rV 0, iV a, uV, uV, uV, uV, uV, uV]) (by decide +kernel) rfl (Nat.le_of_ble_eq_true rfl) ?_
  have hC := pC_le hV
  have hN := hV.N
  have hT := hV.T
  have hSc := hV.Sc
  have L : ∀ p : Nat, p < pC s → (pT s = 2 ∨ pT s = 3 ∨ pT s = 4 ∨ pT s = 6) → ∀ m3, CI s m3 → FXo m m3 → (∀ x, x < 48 → m3 45 x = (pCnt s p (pSc s)) x) → ∀ a : Nat, a ≤ pT s → ∀ u7 : PV, pcat u7 ≠ 2 → G M_X9_power 3 0 0 71 [rV 0, iV (p : Int), iV (pT s : Int), rV 45, lV (dblS (pT s) (pCnt s p (pSc s)) a 0), uV, iV (a : Int), u7] [] (WC ++ w, m3) (fun r h => r = some (lV (vPower s (p : Int))) ∧ ∃ m2, h = (WC ++ w, m2) ∧ CI s m2 ∧ FXo m m2) := by
    intro p hp hT4 m3 hI3 hX3 hc3
    refine loop_up (pT s) _ ?_
    intro a ha ih u7 hu7
    have LB : a < pT s → ∀ b : Nat, b ≤ pT s → G M_X9_power 3 0 0 80 [rV 0, iV (p : Int), iV (pT s : Int), rV 45, lV (dblS (pT s) (pCnt s p (pSc s)) a b), uV, iV (a : Int), iV (b : Int)] [] (WC ++ w, m3) (fun r h => r = some (lV (vPower s (p : Int))) ∧ ∃ m2, h = (WC ++ w, m2) ∧ CI s m2 ∧ FXo m m2) := by
      intro ha2
      refine loop_up (pT s) _ ?_
      intro b hb ihb
      refine G_iload d_X9_power_80 rfl ?_
      refine G_iload_n d_X9_power_82 rfl ?_
      refine G_icmp_ge 122 d_X9_power_83 (by decide) (by omega) (by omega) (fun c83 => ?_) (fun c83 => ?_)
      · refine G_iinc d_X9_power_122 rfl (by decide) rfl ?_
        refine G_goto 71 d_X9_power_125 (by decide) ?_
        have hbe : b = pT s := by omega
        have e9 : dblS (pT s) (pCnt s p (pSc s)) (a + 1) 0 = dblS (pT s) (pCnt s p (pSc s)) a b := by
          rw [hbe]
          unfold dblS
          show sumN _ a + _ + 0 = _
          rw [Int.add_zero]
        have h9 := ih (by omega) (iV (b : Int)) (by show (1 : Nat) ≠ 2; decide)
        rw [e9, Int.natCast_add] at h9
        exact h9
      · refine G_lload d_X9_power_86 rfl ?_
        refine G_aload_n d_X9_power_88 rfl ?_
        refine G_iload d_X9_power_89 rfl ?_
        refine G_ialdj (a) d_X9_power_91 (wk_45 _) (by omega) (by omega) (by decide) ?_
        rw [hc3 a (by omega)]
        have hca := pCnt_rng s p (pSc s) a
        refine G_i2l d_X9_power_92 (by omega) ?_
        refine G_aload_n d_X9_power_93 rfl ?_
        refine G_iload d_X9_power_94 rfl ?_
        refine G_ialdj (b) d_X9_power_96 (wk_45 _) (by omega) (by omega) (by decide) ?_
        rw [hc3 b (by omega)]
        have hcb := pCnt_rng s p (pSc s) b
        refine G_i2l d_X9_power_97 (by omega) ?_
        refine G_lmul d_X9_power_98 ?_
        refine G_iload d_X9_power_99 rfl ?_
        refine G_iload d_X9_power_101 rfl ?_
        refine G_isub d_X9_power_103 ?_
        refine G_callS1 cl_X9_352 d_X9_power_104 (Nat.le_of_ble_eq_true rfl) (by decide) (sp_abs (by omega)) ?_
        rintro _ _ ⟨rfl, rfl⟩
        refine G_iload_n d_X9_power_107 rfl ?_
        refine G_callS2 cl_X9_355 d_X9_power_108 (Nat.le_of_ble_eq_true rfl) (by decide) (sp_CtwiceCosine ((a : Int) - (b : Int)).natAbs (pT s) hT4 (by omega)) ?_
        rintro _ _ ⟨rfl, rfl⟩
        have htr := tcv_rng (((a : Int) - (b : Int)).natAbs * 12 / pT s)
        refine G_i2l d_X9_power_111 (by omega) ?_
        refine G_lmul d_X9_power_112 ?_
        refine G_ladd d_X9_power_113 ?_
        refine G_lstore d_X9_power_114 (by decide) rfl ?_
        refine G_iinc d_X9_power_116 rfl (by decide) rfl ?_
        refine G_goto 80 d_X9_power_119 (by decide) ?_
        have e8 : dblS (pT s) (pCnt s p (pSc s)) a (b + 1) = dblS (pT s) (pCnt s p (pSc s)) a b + (pCnt s p (pSc s)) a * (pCnt s p (pSc s)) b * tcv (((a : Int) - (b : Int)).natAbs * 12 / pT s) := by
          unfold dblS
          rw [Int.add_assoc]
          rfl
        have h9 := ihb (by omega)
        rw [e8, Int.natCast_add] at h9
        exact h9
    refine G_iload d_X9_power_71 rfl ?_
    refine G_iload_n d_X9_power_73 rfl ?_
    refine G_icmp_ge 128 d_X9_power_74 (by decide) (by omega) (by omega) (fun c74 => ?_) (fun c74 => ?_)
    · refine G_lload d_X9_power_128 rfl ?_
      refine G_ldc2 d_X9_power_130 co_X9_358 ?_
      have hae : a = pT s := by omega
      rw [hae, pw_dbl hT4]
      refine G_ldiv (pw (pT s) (pCnt s p (pSc s))) d_X9_power_133 (by decide) (ol_half (pw_rng hV hT4 p (pSc s) (by omega))) ?_
      refine G_lret (mc := 0) (ms := 0) (st := []) d_X9_power_134 rfl ?_
      exact ⟨by unfold vPower; rw [if_pos ⟨⟨by omega, by omega⟩, hT4⟩]; rfl, m3, rfl, hI3, hX3⟩
    · refine G_iconst d_X9_power_77 ?_
      refine G_istore d_X9_power_78 (by decide) rfl ?_
      exact LB (by omega) 0 (by omega)
  refine G_aload_n d_X9_power_0 rfl ?_
  refine G_getR (r := 6) (fl_X9_19.r) d_X9_power_1 (wk_0 _) rfl rfl ?_
  refine G_getIe (v := (pT s : Int)) (fl_X9_123.r) d_X9_power_4 (wk_6 _) rfl (hI.1.2.1.1.1) ?_
  refine G_istore_n d_X9_power_7 (by decide) rfl ?_
  refine G_aload_n d_X9_power_8 rfl ?_
  refine G_iload_n d_X9_power_9 rfl ?_
  refine G_callV1 cl_X9_181 rfl d_X9_power_10 (wk_0 _) (Nat.le_of_ble_eq_true rfl) (by decide) (sp_CisPath s hV hI.1 a hra) ?_
  rintro _ _ ⟨rfl, rfl⟩
  by_cases hp : 0 ≤ a ∧ a < (pC s : Int)
  · rw [if_pos hp]
    obtain ⟨p, rfl⟩ : ∃ n : Nat, a = (n : Int) := ⟨a.toNat, by omega⟩
    refine G_if_eq 37 d_X9_power_13 (by decide) (by decide) (fun hd => absurd hd (by decide)) (fun _ => ?_)
    refine G_iload_n d_X9_power_16 rfl ?_
    refine G_iconst d_X9_power_17 ?_
    refine G_icmp_eq 41 d_X9_power_18 (by decide) (by omega) (by omega) (fun c18 => ?_) (fun c18 => ?_)
    · have hT4 : (pT s = 2 ∨ pT s = 3 ∨ pT s = 4 ∨ pT s = 6) := by omega
      refine G_aload_n d_X9_power_41 rfl ?_
      refine G_callV0 cl_X9_247 rfl d_X9_power_42 (wk_0 _) (Nat.le_of_ble_eq_true rfl) (by decide) (sp_CbuildScans s hV hI.1) ?_
      rintro _ _ ⟨rfl, m2, rfl, hB2, hF2, h302, hS2⟩
      refine G_aload_n d_X9_power_45 rfl ?_
      refine G_getR (r := 30) (fl_X9_54.r) d_X9_power_46 (wk_0 _) rfl rfl ?_
      refine G_aload_n d_X9_power_49 rfl ?_
      refine G_getR (r := 25) (fl_X9_43.r) d_X9_power_50 (wk_0 _) rfl rfl ?_
      refine G_iload_n d_X9_power_53 rfl ?_
      refine G_aload_n d_X9_power_54 rfl ?_
      refine G_getR (r := 30) (fl_X9_54.r) d_X9_power_55 (wk_0 _) rfl rfl ?_
      refine G_getIe (v := (pSc s : Int)) (fl_X9_258.r) d_X9_power_58 (wk_30 _) rfl (hS2.1.1.1) ?_
      refine G_callV3 cl_X9_259 rfl d_X9_power_61 (wk_30 _) (Nat.le_of_ble_eq_true rfl) (by decide) (sp_tally s hV hB2.2.2.1 hS2 p (pSc s) (by omega) (by omega)) ?_
      rintro _ _ ⟨rfl, m3, rfl, hS3, hc3, hf3, hg3⟩
      obtain ⟨hB3, hF3b, h303⟩ := hB2.tally h302 hS3 hf3 hg3
      refine G_astore_n d_X9_power_64 (by decide) rfl ?_
      refine G_lconst d_X9_power_65 ?_
      refine G_lstore d_X9_power_66 (by decide) rfl ?_
      refine G_iconst d_X9_power_68 ?_
      refine G_istore d_X9_power_69 (by decide) rfl ?_
      exact L p (by omega) hT4 m3 (hI.fb hB3 (hF2.trans hF3b)) (hF2.trans hF3b).x hc3 0 (by omega) uV (by decide)
    · refine G_iload_n d_X9_power_21 rfl ?_
      refine G_iconst d_X9_power_22 ?_
      refine G_icmp_eq 41 d_X9_power_23 (by decide) (by omega) (by omega) (fun c23 => ?_) (fun c23 => ?_)
      · have hT4 : (pT s = 2 ∨ pT s = 3 ∨ pT s = 4 ∨ pT s = 6) := by omega
        refine G_aload_n d_X9_power_41 rfl ?_
        refine G_callV0 cl_X9_247 rfl d_X9_power_42 (wk_0 _) (Nat.le_of_ble_eq_true rfl) (by decide) (sp_CbuildScans s hV hI.1) ?_
        rintro _ _ ⟨rfl, m2, rfl, hB2, hF2, h302, hS2⟩
        refine G_aload_n d_X9_power_45 rfl ?_
        refine G_getR (r := 30) (fl_X9_54.r) d_X9_power_46 (wk_0 _) rfl rfl ?_
        refine G_aload_n d_X9_power_49 rfl ?_
        refine G_getR (r := 25) (fl_X9_43.r) d_X9_power_50 (wk_0 _) rfl rfl ?_
        refine G_iload_n d_X9_power_53 rfl ?_
        refine G_aload_n d_X9_power_54 rfl ?_
        refine G_getR (r := 30) (fl_X9_54.r) d_X9_power_55 (wk_0 _) rfl rfl ?_
        refine G_getIe (v := (pSc s : Int)) (fl_X9_258.r) d_X9_power_58 (wk_30 _) rfl (hS2.1.1.1) ?_
        refine G_callV3 cl_X9_259 rfl d_X9_power_61 (wk_30 _) (Nat.le_of_ble_eq_true rfl) (by decide) (sp_tally s hV hB2.2.2.1 hS2 p (pSc s) (by omega) (by omega)) ?_
        rintro _ _ ⟨rfl, m3, rfl, hS3, hc3, hf3, hg3⟩
        obtain ⟨hB3, hF3b, h303⟩ := hB2.tally h302 hS3 hf3 hg3
        refine G_astore_n d_X9_power_64 (by decide) rfl ?_
        refine G_lconst d_X9_power_65 ?_
        refine G_lstore d_X9_power_66 (by decide) rfl ?_
        refine G_iconst d_X9_power_68 ?_
        refine G_istore d_X9_power_69 (by decide) rfl ?_
        exact L p (by omega) hT4 m3 (hI.fb hB3 (hF2.trans hF3b)) (hF2.trans hF3b).x hc3 0 (by omega) uV (by decide)
      · refine G_iload_n d_X9_power_26 rfl ?_
        refine G_iconst d_X9_power_27 ?_
        refine G_icmp_eq 41 d_X9_power_28 (by decide) (by omega) (by omega) (fun c28 => ?_) (fun c28 => ?_)
        · have hT4 : (pT s = 2 ∨ pT s = 3 ∨ pT s = 4 ∨ pT s = 6) := by omega
          refine G_aload_n d_X9_power_41 rfl ?_
          refine G_callV0 cl_X9_247 rfl d_X9_power_42 (wk_0 _) (Nat.le_of_ble_eq_true rfl) (by decide) (sp_CbuildScans s hV hI.1) ?_
          rintro _ _ ⟨rfl, m2, rfl, hB2, hF2, h302, hS2⟩
          refine G_aload_n d_X9_power_45 rfl ?_
          refine G_getR (r := 30) (fl_X9_54.r) d_X9_power_46 (wk_0 _) rfl rfl ?_
          refine G_aload_n d_X9_power_49 rfl ?_
          refine G_getR (r := 25) (fl_X9_43.r) d_X9_power_50 (wk_0 _) rfl rfl ?_
          refine G_iload_n d_X9_power_53 rfl ?_
          refine G_aload_n d_X9_power_54 rfl ?_
          refine G_getR (r := 30) (fl_X9_54.r) d_X9_power_55 (wk_0 _) rfl rfl ?_
          refine G_getIe (v := (pSc s : Int)) (fl_X9_258.r) d_X9_power_58 (wk_30 _) rfl (hS2.1.1.1) ?_
          refine G_callV3 cl_X9_259 rfl d_X9_power_61 (wk_30 _) (Nat.le_of_ble_eq_true rfl) (by decide) (sp_tally s hV hB2.2.2.1 hS2 p (pSc s) (by omega) (by omega)) ?_
          rintro _ _ ⟨rfl, m3, rfl, hS3, hc3, hf3, hg3⟩
          obtain ⟨hB3, hF3b, h303⟩ := hB2.tally h302 hS3 hf3 hg3
          refine G_astore_n d_X9_power_64 (by decide) rfl ?_
          refine G_lconst d_X9_power_65 ?_
          refine G_lstore d_X9_power_66 (by decide) rfl ?_
          refine G_iconst d_X9_power_68 ?_
          refine G_istore d_X9_power_69 (by decide) rfl ?_
          exact L p (by omega) hT4 m3 (hI.fb hB3 (hF2.trans hF3b)) (hF2.trans hF3b).x hc3 0 (by omega) uV (by decide)
        · refine G_iload_n d_X9_power_31 rfl ?_
          refine G_bipush d_X9_power_32 (by decide) ?_
          refine G_icmp_eq 41 d_X9_power_34 (by decide) (by omega) (by omega) (fun c34 => ?_) (fun c34 => ?_)
          · have hT4 : (pT s = 2 ∨ pT s = 3 ∨ pT s = 4 ∨ pT s = 6) := by omega
            refine G_aload_n d_X9_power_41 rfl ?_
            refine G_callV0 cl_X9_247 rfl d_X9_power_42 (wk_0 _) (Nat.le_of_ble_eq_true rfl) (by decide) (sp_CbuildScans s hV hI.1) ?_
            rintro _ _ ⟨rfl, m2, rfl, hB2, hF2, h302, hS2⟩
            refine G_aload_n d_X9_power_45 rfl ?_
            refine G_getR (r := 30) (fl_X9_54.r) d_X9_power_46 (wk_0 _) rfl rfl ?_
            refine G_aload_n d_X9_power_49 rfl ?_
            refine G_getR (r := 25) (fl_X9_43.r) d_X9_power_50 (wk_0 _) rfl rfl ?_
            refine G_iload_n d_X9_power_53 rfl ?_
            refine G_aload_n d_X9_power_54 rfl ?_
            refine G_getR (r := 30) (fl_X9_54.r) d_X9_power_55 (wk_0 _) rfl rfl ?_
            refine G_getIe (v := (pSc s : Int)) (fl_X9_258.r) d_X9_power_58 (wk_30 _) rfl (hS2.1.1.1) ?_
            refine G_callV3 cl_X9_259 rfl d_X9_power_61 (wk_30 _) (Nat.le_of_ble_eq_true rfl) (by decide) (sp_tally s hV hB2.2.2.1 hS2 p (pSc s) (by omega) (by omega)) ?_
            rintro _ _ ⟨rfl, m3, rfl, hS3, hc3, hf3, hg3⟩
            obtain ⟨hB3, hF3b, h303⟩ := hB2.tally h302 hS3 hf3 hg3
            refine G_astore_n d_X9_power_64 (by decide) rfl ?_
            refine G_lconst d_X9_power_65 ?_
            refine G_lstore d_X9_power_66 (by decide) rfl ?_
            refine G_iconst d_X9_power_68 ?_
            refine G_istore d_X9_power_69 (by decide) rfl ?_
            exact L p (by omega) hT4 m3 (hI.fb hB3 (hF2.trans hF3b)) (hF2.trans hF3b).x hc3 0 (by omega) uV (by decide)
          · refine G_ldc2 d_X9_power_37 co_X9_350 ?_
            refine G_lret (mc := 0) (ms := 0) (st := []) d_X9_power_40 rfl ?_
            exact ⟨by unfold vPower; rw [if_neg (fun h => by omega)], m, rfl, hI, FXo.refl m⟩
  · rw [if_neg hp]
    refine G_if_eq 37 d_X9_power_13 (by decide) (by decide) (fun _ => ?_) (fun hd => absurd hd (by decide))
    refine G_ldc2 d_X9_power_37 co_X9_350 ?_
    refine G_lret (mc := 0) (ms := 0) (st := []) d_X9_power_40 rfl ?_
    exact ⟨by unfold vPower; rw [if_neg (fun h => hp h.1)], m, rfl, hI, FXo.refl m⟩
