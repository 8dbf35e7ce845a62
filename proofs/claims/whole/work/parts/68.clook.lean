theorem cntB_all0 {f : Nat → Bool} : ∀ {n : Nat}, cntB f n = 0 ↔ ∀ i, i < n → f i = false
  | 0 => ⟨fun _ i hi => absurd hi (by omega), fun _ => rfl⟩
  | n + 1 => by
    have ih := cntB_all0 (f := f) (n := n)
    cases h : f n with
    | false =>
      rw [cntB_f h, ih]
      refine ⟨fun g i hi => ?_, fun g i hi => g i (by omega)⟩
      by_cases e : i = n
      · rw [e]; exact h
      · exact g i (by omega)
    | true =>
      rw [cntB_t h]
      refine ⟨fun g => absurd g (by omega), fun g => ?_⟩
      have := g n (by omega)
      rw [h] at this
      exact absurd this (by decide)
theorem good_eq (s : Nat → Int) : pGood s = true ↔ (pChief s ≠ -1 ∧ cntB (pLost s) (pC s) = 0 ∧ cntB (pLeak s) (pC s) = 0) := by
  unfold pGood
  rw [Bool.and_eq_true_iff, cntB_all0, cntB_all0]
  refine ⟨fun h => ⟨by simpa using h.1, fun i hi => ?_, fun i hi => ?_⟩, fun h => ⟨by simpa using h.1, allN_true (fun i hi => by simp [h.2.1 i hi, h.2.2 i hi])⟩⟩
  · have := allN_of h.2 i hi
    rw [Bool.and_eq_true_iff] at this
    simpa using this.2
  · have := allN_of h.2 i hi
    rw [Bool.and_eq_true_iff] at this
    simpa using this.1
theorem sp_ClookAtParts {w : List KD} {m : Nat → Nat → Int} (s : Nat → Int) (hV : VS s) (hI : CI s m) (a : Int) (hra : -2147483648 ≤ a ∧ a < 2147483648) : Sp M_X9_lookAtParts 1 0 0 [rV 0, iV a] (WC ++ w, m) (fun r h => r = some (iV (vLookR s a)) ∧ ∃ m2, h = (WC ++ w, m2) ∧ CI s m2 ∧ FXo m m2) := by
  refine Sp.ofG (ls := [rV 0, iV a, uV]) (by decide +kernel) rfl (Nat.le_of_ble_eq_true rfl) ?_
  have hC := pC_le hV
  have hN := hV.N
  have hT := hV.T
  have hSc := hV.Sc
  refine G_iload_n d_X9_lookAtParts_0 rfl ?_
  refine G_bipush d_X9_lookAtParts_1 (by decide) ?_
  refine G_icmp_lt 12 d_X9_lookAtParts_3 (by decide) (by omega) (by omega) (fun c3 => ?_) (fun c3 => ?_)
  · refine G_bipush d_X9_lookAtParts_12 (by decide) ?_
    refine G_iret (mc := 0) (ms := 0) (st := []) d_X9_lookAtParts_14 rfl ?_
    exact ⟨by unfold vLookR; rw [if_neg (by omega), if_neg (by omega), if_neg (by omega), if_neg (by omega)], m, rfl, hI, FXo.refl m⟩
  · refine G_iload_n d_X9_lookAtParts_6 rfl ?_
    refine G_bipush d_X9_lookAtParts_7 (by decide) ?_
    refine G_icmp_lt 15 d_X9_lookAtParts_9 (by decide) (by omega) (by omega) (fun c9 => ?_) (fun c9 => ?_)
    · refine G_iload_n d_X9_lookAtParts_15 rfl ?_
      refine G_bipush d_X9_lookAtParts_16 (by decide) ?_
      have hat := Int.toNat_of_nonneg (show 0 ≤ a by omega)
      refine G_iremN (a.toNat) (10) (hat.symm) (rfl) d_X9_lookAtParts_18 (by omega) (by omega) (by omega) ?_
      have hmd : a.toNat % 10 < 10 := Nat.mod_lt _ (by decide)
      refine G_istore_n d_X9_lookAtParts_19 (by decide) rfl ?_
      refine G_iload_n d_X9_lookAtParts_20 rfl ?_
      refine G_bipush d_X9_lookAtParts_21 (by decide) ?_
      refine G_idivN (a.toNat) (10) (hat.symm) (rfl) d_X9_lookAtParts_23 (by omega) (by omega) (by omega) ?_
      have hdm := Nat.div_add_mod a.toNat 10
      generalize hq : a.toNat / 10 = q at hdm ⊢
      generalize hp : a.toNat % 10 = p at hdm hmd ⊢
      by_cases hs24 : 2 ≤ (q : Int) ∧ (q : Int) ≤ 4
      · rcases (show (q : Int) = 2 ∨ (q : Int) = 3 ∨ (q : Int) = 4 by omega) with hv | hv | hv
        · refine G_tin 52 d_X9_lookAtParts_24 (by omega) (by omega) (by omega) (by rw [hv]; rfl) (by decide) ?_
          refine G_aload_n d_X9_lookAtParts_52 rfl ?_
          refine G_iload_n d_X9_lookAtParts_53 rfl ?_
          refine G_callV1 cl_X9_113 rfl d_X9_lookAtParts_54 (wk_0 _) (Nat.le_of_ble_eq_true rfl) (by decide) (sp_CisPulse s hV hI.1 (p : Int) (by omega)) ?_
          rintro _ _ ⟨rfl, rfl⟩
          by_cases hk : 0 ≤ (p : Int) ∧ (p : Int) < (pN s : Int)
          · rw [if_pos hk]
            refine G_if_eq 72 d_X9_lookAtParts_57 (by decide) (by decide) (fun hd => absurd hd (by decide)) (fun _ => ?_)
            refine G_aload_n d_X9_lookAtParts_60 rfl ?_
            refine G_getR (r := 1) (fl_X9_12.r) d_X9_lookAtParts_61 (wk_0 _) rfl rfl ?_
            refine G_getR (r := 2) fl_X9_117 d_X9_lookAtParts_64 (wk_1 _) rfl rfl ?_
            refine G_iload_n d_X9_lookAtParts_67 rfl ?_
            refine G_ialdj (p) d_X9_lookAtParts_68 (wk_2 _) (by omega) (by omega) (by decide) ?_
            rw [hI.1.1.2.2.1 p (by omega)]
            refine G_goto 74 d_X9_lookAtParts_69 (by decide) ?_
            refine G_iret (mc := 0) (ms := 0) (st := []) d_X9_lookAtParts_74 rfl ?_
            exact ⟨by unfold vLookR; rw [if_pos (by omega), (show (a - 20).toNat = p by omega)]; rfl, m, rfl, hI, FXo.refl m⟩
          · rw [if_neg hk]
            refine G_if_eq 72 d_X9_lookAtParts_57 (by decide) (by decide) (fun _ => ?_) (fun hd => absurd hd (by decide))
            refine G_bipush d_X9_lookAtParts_72 (by decide) ?_
            refine G_iret (mc := 0) (ms := 0) (st := []) d_X9_lookAtParts_74 rfl ?_
            exact ⟨by unfold vLookR; rw [if_neg (by omega), if_neg (by omega), if_neg (by omega), if_neg (by omega)], m, rfl, hI, FXo.refl m⟩
        · refine G_tin 75 d_X9_lookAtParts_24 (by omega) (by omega) (by omega) (by rw [hv]; rfl) (by decide) ?_
          refine G_iload_n d_X9_lookAtParts_75 rfl ?_
          refine G_callS1 cl_X9_132 d_X9_lookAtParts_76 (Nat.le_of_ble_eq_true rfl) (by decide) (sp_CisCounter (p : Int) (by omega)) ?_
          rintro _ _ ⟨rfl, rfl⟩
          by_cases hk : 0 ≤ (p : Int) ∧ (p : Int) < 4
          · rw [if_pos hk]
            refine G_if_eq 94 d_X9_lookAtParts_79 (by decide) (by decide) (fun hd => absurd hd (by decide)) (fun _ => ?_)
            refine G_aload_n d_X9_lookAtParts_82 rfl ?_
            refine G_getR (r := 6) (fl_X9_19.r) d_X9_lookAtParts_83 (wk_0 _) rfl rfl ?_
            refine G_getR (r := 7) fl_X9_139 d_X9_lookAtParts_86 (wk_6 _) rfl rfl ?_
            refine G_iload_n d_X9_lookAtParts_89 rfl ?_
            refine G_ialdj (p) d_X9_lookAtParts_90 (wk_7 _) (by omega) (by omega) (by decide) ?_
            rw [hI.1.2.1.1.2.1 p (by omega)]
            refine G_goto 96 d_X9_lookAtParts_91 (by decide) ?_
            refine G_iret (mc := 0) (ms := 0) (st := []) d_X9_lookAtParts_96 rfl ?_
            exact ⟨by unfold vLookR; rw [if_neg (by omega), if_pos (by omega), (show (a - 30).toNat = p by omega)], m, rfl, hI, FXo.refl m⟩
          · rw [if_neg hk]
            refine G_if_eq 94 d_X9_lookAtParts_79 (by decide) (by decide) (fun _ => ?_) (fun hd => absurd hd (by decide))
            refine G_bipush d_X9_lookAtParts_94 (by decide) ?_
            refine G_iret (mc := 0) (ms := 0) (st := []) d_X9_lookAtParts_96 rfl ?_
            exact ⟨by unfold vLookR; rw [if_neg (by omega), if_neg (by omega), if_neg (by omega), if_neg (by omega)], m, rfl, hI, FXo.refl m⟩
        · refine G_tin 97 d_X9_lookAtParts_24 (by omega) (by omega) (by omega) (by rw [hv]; rfl) (by decide) ?_
          refine G_aload_n d_X9_lookAtParts_97 rfl ?_
          refine G_iload_n d_X9_lookAtParts_98 rfl ?_
          refine G_callV1 cl_X9_146 rfl d_X9_lookAtParts_99 (wk_0 _) (Nat.le_of_ble_eq_true rfl) (by decide) (sp_CisRow s hV hI.1 (p : Int) (by omega)) ?_
          rintro _ _ ⟨rfl, rfl⟩
          by_cases hk : 0 ≤ (p : Int) ∧ (p : Int) ≤ (pN s : Int)
          · rw [if_pos hk]
            refine G_if_eq 117 d_X9_lookAtParts_102 (by decide) (by decide) (fun hd => absurd hd (by decide)) (fun _ => ?_)
            refine G_aload_n d_X9_lookAtParts_105 rfl ?_
            refine G_getR (r := 6) (fl_X9_19.r) d_X9_lookAtParts_106 (wk_0 _) rfl rfl ?_
            refine G_getR (r := 10) fl_X9_403 d_X9_lookAtParts_109 (wk_6 _) rfl rfl ?_
            refine G_iload_n d_X9_lookAtParts_112 rfl ?_
            refine G_ialdj (p) d_X9_lookAtParts_113 (wk_10 _) (by omega) (by omega) (by decide) ?_
            rw [hI.1.2.1.1.2.2.2.2 p (by omega)]
            refine G_goto 119 d_X9_lookAtParts_114 (by decide) ?_
            refine G_iret (mc := 0) (ms := 0) (st := []) d_X9_lookAtParts_119 rfl ?_
            exact ⟨by unfold vLookR; rw [if_neg (by omega), if_neg (by omega), if_pos (by omega), (show (a - 40).toNat = p by omega)], m, rfl, hI, FXo.refl m⟩
          · rw [if_neg hk]
            refine G_if_eq 117 d_X9_lookAtParts_102 (by decide) (by decide) (fun _ => ?_) (fun hd => absurd hd (by decide))
            refine G_bipush d_X9_lookAtParts_117 (by decide) ?_
            refine G_iret (mc := 0) (ms := 0) (st := []) d_X9_lookAtParts_119 rfl ?_
            exact ⟨by unfold vLookR; rw [if_neg (by omega), if_neg (by omega), if_neg (by omega), if_neg (by omega)], m, rfl, hI, FXo.refl m⟩
      · refine G_tout 120 d_X9_lookAtParts_24 (by omega) (by omega) (by decide) ?_
        have hv : q = 5 := by omega
        refine G_aload_n d_X9_lookAtParts_120 rfl ?_
        refine G_iload_n d_X9_lookAtParts_121 rfl ?_
        refine G_callV1 cl_X9_113 rfl d_X9_lookAtParts_122 (wk_0 _) (Nat.le_of_ble_eq_true rfl) (by decide) (sp_CisPulse s hV hI.1 (p : Int) (by omega)) ?_
        rintro _ _ ⟨rfl, rfl⟩
        by_cases hk : 0 ≤ (p : Int) ∧ (p : Int) < (pN s : Int)
        · rw [if_pos hk]
          refine G_if_eq 140 d_X9_lookAtParts_125 (by decide) (by decide) (fun hd => absurd hd (by decide)) (fun _ => ?_)
          refine G_aload_n d_X9_lookAtParts_128 rfl ?_
          refine G_getR (r := 1) (fl_X9_12.r) d_X9_lookAtParts_129 (wk_0 _) rfl rfl ?_
          refine G_getR (r := 3) fl_X9_152 d_X9_lookAtParts_132 (wk_1 _) rfl rfl ?_
          refine G_iload_n d_X9_lookAtParts_135 rfl ?_
          refine G_ialdj (p) d_X9_lookAtParts_136 (wk_3 _) (by omega) (by omega) (by decide) ?_
          rw [hI.1.1.2.2.2.1 p (by omega)]
          refine G_goto 142 d_X9_lookAtParts_137 (by decide) ?_
          refine G_iret (mc := 0) (ms := 0) (st := []) d_X9_lookAtParts_142 rfl ?_
          exact ⟨by unfold vLookR; rw [if_neg (by omega), if_neg (by omega), if_neg (by omega), if_pos (by omega), (show (a - 50).toNat = p by omega)]; rfl, m, rfl, hI, FXo.refl m⟩
        · rw [if_neg hk]
          refine G_if_eq 140 d_X9_lookAtParts_125 (by decide) (by decide) (fun _ => ?_) (fun hd => absurd hd (by decide))
          refine G_bipush d_X9_lookAtParts_140 (by decide) ?_
          refine G_iret (mc := 0) (ms := 0) (st := []) d_X9_lookAtParts_142 rfl ?_
          exact ⟨by unfold vLookR; rw [if_neg (by omega), if_neg (by omega), if_neg (by omega), if_neg (by omega)], m, rfl, hI, FXo.refl m⟩
    · refine G_bipush d_X9_lookAtParts_12 (by decide) ?_
      refine G_iret (mc := 0) (ms := 0) (st := []) d_X9_lookAtParts_14 rfl ?_
      exact ⟨by unfold vLookR; rw [if_neg (by omega), if_neg (by omega), if_neg (by omega), if_neg (by omega)], m, rfl, hI, FXo.refl m⟩
theorem sp_Clook {w : List KD} {m : Nat → Nat → Int} (s : Nat → Int) (hV : VS s) (hI : CI s m) (a : Int) (hra : -2147483648 ≤ a ∧ a < 2147483648) : Sp M_X9_look 7 0 0 [rV 0, iV a] (WC ++ w, m) (fun r h => r = some (iV (vLook s (m 21 0) a)) ∧ ∃ m2, h = (WC ++ w, m2) ∧ CI s m2 ∧ FXo m m2) := by
  refine Sp.ofG (ls := [rV 0, iV a]) (by decide +kernel) rfl (Nat.le_of_ble_eq_true rfl) ?_
  have hC := pC_le hV
  have hN := hV.N
  have hT := hV.T
  have hSc := hV.Sc
  refine G_iload_n d_X9_look_0 rfl ?_
  by_cases hs1 : 0 ≤ a ∧ a ≤ 14
  · rcases (show a = 0 ∨ a = 1 ∨ a = 2 ∨ a = 3 ∨ a = 4 ∨ a = 5 ∨ a = 6 ∨ a = 7 ∨ a = 8 ∨ a = 9 ∨ a = 10 ∨ a = 11 ∨ a = 12 ∨ a = 13 ∨ a = 14 by omega) with hv | hv | hv | hv | hv | hv | hv | hv | hv | hv | hv | hv | hv | hv | hv
    · refine G_tin 76 d_X9_look_1 (by omega) (by omega) (by omega) (by rw [hv]; rfl) (by decide) ?_
      refine G_aload_n d_X9_look_76 rfl ?_
      refine G_getR (r := 1) (fl_X9_12.r) d_X9_look_77 (wk_0 _) rfl rfl ?_
      refine G_getIe (v := (pN s : Int)) (fl_X9_194.r) d_X9_look_80 (wk_1 _) rfl (hI.1.1.1) ?_
      refine G_iret (mc := 0) (ms := 0) (st := []) d_X9_look_83 rfl ?_
      exact ⟨by unfold vLook; rw [hv]; rfl, m, rfl, hI, FXo.refl m⟩
    · refine G_tin 84 d_X9_look_1 (by omega) (by omega) (by omega) (by rw [hv]; rfl) (by decide) ?_
      refine G_aload_n d_X9_look_84 rfl ?_
      refine G_getR (r := 1) (fl_X9_12.r) d_X9_look_85 (wk_0 _) rfl rfl ?_
      refine G_getIe (v := (pM s : Int)) (fl_X9_171.r) d_X9_look_88 (wk_1 _) rfl (hI.1.1.2.1) ?_
      refine G_iret (mc := 0) (ms := 0) (st := []) d_X9_look_91 rfl ?_
      exact ⟨by unfold vLook; rw [hv]; rfl, m, rfl, hI, FXo.refl m⟩
    · refine G_tin 92 d_X9_look_1 (by omega) (by omega) (by omega) (by rw [hv]; rfl) (by decide) ?_
      refine G_aload_n d_X9_look_92 rfl ?_
      refine G_getR (r := 6) (fl_X9_19.r) d_X9_look_93 (wk_0 _) rfl rfl ?_
      refine G_getIe (v := (pT s : Int)) (fl_X9_123.r) d_X9_look_96 (wk_6 _) rfl (hI.1.2.1.1.1) ?_
      refine G_iret (mc := 0) (ms := 0) (st := []) d_X9_look_99 rfl ?_
      exact ⟨by unfold vLook; rw [hv]; rfl, m, rfl, hI, FXo.refl m⟩
    · refine G_tin 100 d_X9_look_1 (by omega) (by omega) (by omega) (by rw [hv]; rfl) (by decide) ?_
      refine G_aload_n d_X9_look_100 rfl ?_
      refine G_getR (r := 25) (fl_X9_43.r) d_X9_look_101 (wk_0 _) rfl rfl ?_
      refine G_getIe (v := (pC s : Int)) (fl_X9_110.r) d_X9_look_104 (wk_25 _) rfl (hI.1.2.2.1.1) ?_
      refine G_iret (mc := 0) (ms := 0) (st := []) d_X9_look_107 rfl ?_
      exact ⟨by unfold vLook; rw [hv]; rfl, m, rfl, hI, FXo.refl m⟩
    · refine G_tin 108 d_X9_look_1 (by omega) (by omega) (by omega) (by rw [hv]; rfl) (by decide) ?_
      refine G_aload_n d_X9_look_108 rfl ?_
      refine G_getR (r := 6) (fl_X9_19.r) d_X9_look_109 (wk_0 _) rfl rfl ?_
      refine G_callV0 cl_X9_142 rfl d_X9_look_112 (wk_6 _) (Nat.le_of_ble_eq_true rfl) (by decide) (sp_Csc s hI.1.2.1.1) ?_
      rintro _ _ ⟨rfl, rfl⟩
      refine G_iret (mc := 0) (ms := 0) (st := []) d_X9_look_115 rfl ?_
      exact ⟨by unfold vLook; rw [hv]; rfl, m, rfl, hI, FXo.refl m⟩
    · refine G_tin 116 d_X9_look_1 (by omega) (by omega) (by omega) (by rw [hv]; rfl) (by decide) ?_
      refine G_aload_n d_X9_look_116 rfl ?_
      refine G_getR (r := 1) (fl_X9_12.r) d_X9_look_117 (wk_0 _) rfl rfl ?_
      refine G_iconst d_X9_look_120 ?_
      refine G_aload_n d_X9_look_121 rfl ?_
      refine G_getR (r := 25) (fl_X9_43.r) d_X9_look_122 (wk_0 _) rfl rfl ?_
      refine G_getIe (v := (pC s : Int)) (fl_X9_110.r) d_X9_look_125 (wk_25 _) rfl (hI.1.2.2.1.1) ?_
      refine G_callV2 cl_X9_394 rfl d_X9_look_128 (wk_1 _) (Nat.le_of_ble_eq_true rfl) (by decide) (sp_countMarks (pC s) 1 (by omega) (by decide) (fun j hj => by rw [hI.1.1.2.2.2.2.2 j hj]; exact hV.Mk j hj)) ?_
      rintro _ _ ⟨rfl, rfl⟩
      rw [show cntB (fun p => m 5 p == 1) (pC s) = cntB (fun p => pMk s p == 1) (pC s) from cntB_congr (fun p hp => by rw [hI.1.1.2.2.2.2.2 p (by omega)]; rfl)]
      refine G_iret (mc := 0) (ms := 0) (st := []) d_X9_look_131 rfl ?_
      exact ⟨by unfold vLook; rw [hv]; rfl, m, rfl, hI, FXo.refl m⟩
    · refine G_tin 132 d_X9_look_1 (by omega) (by omega) (by omega) (by rw [hv]; rfl) (by decide) ?_
      refine G_aload_n d_X9_look_132 rfl ?_
      refine G_getR (r := 1) (fl_X9_12.r) d_X9_look_133 (wk_0 _) rfl rfl ?_
      refine G_iconst d_X9_look_136 ?_
      refine G_aload_n d_X9_look_137 rfl ?_
      refine G_getR (r := 25) (fl_X9_43.r) d_X9_look_138 (wk_0 _) rfl rfl ?_
      refine G_getIe (v := (pC s : Int)) (fl_X9_110.r) d_X9_look_141 (wk_25 _) rfl (hI.1.2.2.1.1) ?_
      refine G_callV2 cl_X9_394 rfl d_X9_look_144 (wk_1 _) (Nat.le_of_ble_eq_true rfl) (by decide) (sp_countMarks (pC s) 2 (by omega) (by decide) (fun j hj => by rw [hI.1.1.2.2.2.2.2 j hj]; exact hV.Mk j hj)) ?_
      rintro _ _ ⟨rfl, rfl⟩
      rw [show cntB (fun p => m 5 p == 2) (pC s) = cntB (fun p => pMk s p == 2) (pC s) from cntB_congr (fun p hp => by rw [hI.1.1.2.2.2.2.2 p (by omega)]; rfl)]
      refine G_iret (mc := 0) (ms := 0) (st := []) d_X9_look_147 rfl ?_
      exact ⟨by unfold vLook; rw [hv]; rfl, m, rfl, hI, FXo.refl m⟩
    · refine G_tin 148 d_X9_look_1 (by omega) (by omega) (by omega) (by rw [hv]; rfl) (by decide) ?_
      refine G_aload_n d_X9_look_148 rfl ?_
      refine G_iconst d_X9_look_149 ?_
      refine G_callV1 cl_X9_286 rfl d_X9_look_150 (wk_0 _) (Nat.le_of_ble_eq_true rfl) (by decide) (sp_Ccount s hV hI 0 (by decide)) ?_
      rintro _ _ ⟨rfl, m2, rfl, h2, hF2⟩
      have hcl2 := cntB_le (grp s 0) (pC s)
      refine G_iret (mc := 0) (ms := 0) (st := []) d_X9_look_153 rfl ?_
      exact ⟨by unfold vLook; rw [hv]; rfl, m2, rfl, h2, hF2.x⟩
    · refine G_tin 154 d_X9_look_1 (by omega) (by omega) (by omega) (by rw [hv]; rfl) (by decide) ?_
      refine G_aload_n d_X9_look_154 rfl ?_
      refine G_iconst d_X9_look_155 ?_
      refine G_callV1 cl_X9_286 rfl d_X9_look_156 (wk_0 _) (Nat.le_of_ble_eq_true rfl) (by decide) (sp_Ccount s hV hI 1 (by decide)) ?_
      rintro _ _ ⟨rfl, m2, rfl, h2, hF2⟩
      have hcl2 := cntB_le (grp s 1) (pC s)
      refine G_iret (mc := 0) (ms := 0) (st := []) d_X9_look_159 rfl ?_
      exact ⟨by unfold vLook; rw [hv]; rfl, m2, rfl, h2, hF2.x⟩
    · refine G_tin 160 d_X9_look_1 (by omega) (by omega) (by omega) (by rw [hv]; rfl) (by decide) ?_
      refine G_aload_n d_X9_look_160 rfl ?_
      refine G_getIe (v := pChief s) (fl_X9_47.r) d_X9_look_161 (wk_0 _) rfl (hI.1.2.2.2.1) ?_
      refine G_iconst d_X9_look_164 ?_
      have hcr := pChief_rng s
      refine G_icmp_eq 188 d_X9_look_165 (by decide) (by omega) (by omega) (fun c165 => ?_) (fun c165 => ?_)
      · refine G_iconst d_X9_look_188 ?_
        refine G_iret (mc := 0) (ms := 0) (st := []) d_X9_look_189 rfl ?_
        exact ⟨by unfold vLook; rw [hv]; show some (iV 0) = some (iV (if pGood s = true then 1 else 0)); rw [if_neg (fun h => ((good_eq s).mp h).1 c165)], m, rfl, hI, FXo.refl m⟩
      · refine G_aload_n d_X9_look_168 rfl ?_
        refine G_iconst d_X9_look_169 ?_
        refine G_callV1 cl_X9_286 rfl d_X9_look_170 (wk_0 _) (Nat.le_of_ble_eq_true rfl) (by decide) (sp_Ccount s hV hI 1 (by decide)) ?_
        rintro _ _ ⟨rfl, m2, rfl, h2, hF2⟩
        have hcl2 := cntB_le (grp s 1) (pC s)
        refine G_if_ne 188 d_X9_look_173 (by decide) (by omega) (fun c173 => ?_) (fun c173 => ?_)
        · refine G_iconst d_X9_look_188 ?_
          refine G_iret (mc := 0) (ms := 0) (st := []) d_X9_look_189 rfl ?_
          exact ⟨by unfold vLook; rw [hv]; show some (iV 0) = some (iV (if pGood s = true then 1 else 0)); rw [if_neg (fun h => by have h9 : cntB (grp s 1) (pC s) = 0 := ((good_eq s).mp h).2.1; omega)], m2, rfl, h2, hF2.x⟩
        · refine G_aload_n d_X9_look_176 rfl ?_
          refine G_iconst d_X9_look_177 ?_
          refine G_callV1 cl_X9_286 rfl d_X9_look_178 (wk_0 _) (Nat.le_of_ble_eq_true rfl) (by decide) (sp_Ccount s hV h2 0 (by decide)) ?_
          rintro _ _ ⟨rfl, m3, rfl, h3, hF3⟩
          have hcl3 := cntB_le (grp s 0) (pC s)
          have hF3 := hF2.trans hF3
          refine G_if_ne 188 d_X9_look_181 (by decide) (by omega) (fun c181 => ?_) (fun c181 => ?_)
          · refine G_iconst d_X9_look_188 ?_
            refine G_iret (mc := 0) (ms := 0) (st := []) d_X9_look_189 rfl ?_
            exact ⟨by unfold vLook; rw [hv]; show some (iV 0) = some (iV (if pGood s = true then 1 else 0)); rw [if_neg (fun h => by have h9 : cntB (grp s 0) (pC s) = 0 := ((good_eq s).mp h).2.2; omega)], m3, rfl, h3, hF3.x⟩
          · refine G_iconst d_X9_look_184 ?_
            refine G_goto 189 d_X9_look_185 (by decide) ?_
            refine G_iret (mc := 0) (ms := 0) (st := []) d_X9_look_189 rfl ?_
            exact ⟨by unfold vLook; rw [hv]; show some (iV 1) = some (iV (if pGood s = true then 1 else 0)); rw [if_pos ((good_eq s).mpr ⟨c165, Int.ofNat.inj c173, Int.ofNat.inj c181⟩)], m3, rfl, h3, hF3.x⟩
    · refine G_tin 190 d_X9_look_1 (by omega) (by omega) (by omega) (by rw [hv]; rfl) (by decide) ?_
      refine G_aload_n d_X9_look_190 rfl ?_
      refine G_getIe (v := pChief s) (fl_X9_47.r) d_X9_look_191 (wk_0 _) rfl (hI.1.2.2.2.1) ?_
      refine G_iret (mc := 0) (ms := 0) (st := []) d_X9_look_194 rfl ?_
      exact ⟨by unfold vLook; rw [hv]; rfl, m, rfl, hI, FXo.refl m⟩
    · refine G_tin 195 d_X9_look_1 (by omega) (by omega) (by omega) (by rw [hv]; rfl) (by decide) ?_
      refine G_aload_n d_X9_look_195 rfl ?_
      refine G_getR (r := 6) (fl_X9_19.r) d_X9_look_196 (wk_0 _) rfl rfl ?_
      refine G_getIe (v := (if s 3 = 0 then (1 : Int) else 0)) (fl_X9_164.r) d_X9_look_199 (wk_6 _) rfl (hI.1.2.1.2) ?_
      refine G_if_eq 209 d_X9_look_202 (by decide) (by split <;> omega) (fun c202 => ?_) (fun c202 => ?_)
      · refine G_iconst d_X9_look_209 ?_
        refine G_iret (mc := 0) (ms := 0) (st := []) d_X9_look_210 rfl ?_
        exact ⟨by unfold vLook; rw [hv]; show some (iV 0) = some (iV (if s 3 = 0 then 1 else 0)); rw [c202], m, rfl, hI, FXo.refl m⟩
      · refine G_iconst d_X9_look_205 ?_
        refine G_goto 210 d_X9_look_206 (by decide) ?_
        refine G_iret (mc := 0) (ms := 0) (st := []) d_X9_look_210 rfl ?_
        exact ⟨by unfold vLook; rw [hv]; show some (iV 1) = some (iV (if s 3 = 0 then 1 else 0)); rw [show (if s 3 = 0 then (1 : Int) else 0) = 1 from Decidable.byCases (fun h0 : s 3 = 0 => if_pos h0) (fun h0 : ¬ s 3 = 0 => absurd (if_neg h0) c202)], m, rfl, hI, FXo.refl m⟩
    · refine G_tin 211 d_X9_look_1 (by omega) (by omega) (by omega) (by rw [hv]; rfl) (by decide) ?_
      refine G_aload_n d_X9_look_211 rfl ?_
      refine G_getR (r := 21) (fl_X9_36.r) d_X9_look_212 (wk_0 _) rfl rfl ?_
      refine G_getIe (v := m 21 0) (fl_X9_187.r) d_X9_look_215 (wk_21 _) rfl (rfl) ?_
      refine G_iret (mc := 0) (ms := 0) (st := []) d_X9_look_218 rfl ?_
      exact ⟨by unfold vLook; rw [hv]; rfl, m, rfl, hI, FXo.refl m⟩
    · refine G_tin 219 d_X9_look_1 (by omega) (by omega) (by omega) (by rw [hv]; rfl) (by decide) ?_
      refine G_aload_n d_X9_look_219 rfl ?_
      refine G_iconst d_X9_look_220 ?_
      refine G_callV1 cl_X9_397 rfl d_X9_look_221 (wk_0 _) (Nat.le_of_ble_eq_true rfl) (by decide) (sp_CcountWeights s hV hI 0 (by decide)) ?_
      rintro _ _ ⟨rfl, m2, rfl, h2, hF2⟩
      refine G_iret (mc := 0) (ms := 0) (st := []) d_X9_look_224 rfl ?_
      exact ⟨by unfold vLook; rw [hv]; rfl, m2, rfl, h2, hF2.x⟩
    · refine G_tin 225 d_X9_look_1 (by omega) (by omega) (by omega) (by rw [hv]; rfl) (by decide) ?_
      refine G_aload_n d_X9_look_225 rfl ?_
      refine G_iconst d_X9_look_226 ?_
      refine G_callV1 cl_X9_397 rfl d_X9_look_227 (wk_0 _) (Nat.le_of_ble_eq_true rfl) (by decide) (sp_CcountWeights s hV hI 2 (by decide)) ?_
      rintro _ _ ⟨rfl, m2, rfl, h2, hF2⟩
      refine G_iret (mc := 0) (ms := 0) (st := []) d_X9_look_230 rfl ?_
      exact ⟨by unfold vLook; rw [hv]; rfl, m2, rfl, h2, hF2.x⟩
  · refine G_tout 231 d_X9_look_1 (by omega) (by omega) (by decide) ?_
    refine G_aload_n d_X9_look_231 rfl ?_
    refine G_iload_n d_X9_look_232 rfl ?_
    refine G_callV1 cl_X9_400 rfl d_X9_look_233 (wk_0 _) (Nat.le_of_ble_eq_true rfl) (by decide) (sp_ClookAtParts s hV hI a hra) ?_
    rintro _ _ ⟨rfl, m2, rfl, h2, hF2⟩
    refine G_iret (mc := 0) (ms := 0) (st := []) d_X9_look_236 rfl ?_
    exact ⟨by unfold vLook; rw [if_neg (by omega), if_neg (by omega), if_neg (by omega), if_neg (by omega), if_neg (by omega), if_neg (by omega), if_neg (by omega), if_neg (by omega), if_neg (by omega), if_neg (by omega), if_neg (by omega), if_neg (by omega), if_neg (by omega), if_neg (by omega), if_neg (by omega)], m2, rfl, h2, hF2⟩
