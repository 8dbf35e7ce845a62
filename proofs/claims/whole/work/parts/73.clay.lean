theorem CY.len {s : Nat → Int} {m : Nat → Nat → Int} (h : CY s m) {i : Nat} (hi : i < 4) {b : Int} (hb : 1 ≤ b) : CY (sU s (49 + i) (b - 1)) (upm m 7 i b) := by
  obtain ⟨g1, g2, g3, g4, g5⟩ := h
  refine ⟨?_, fun j hj => ?_, fun j hj => ?_, fun j hj => ?_, fun j hj => ?_⟩
  · rw [upm_off _ _ (by decide)]; unfold pT; rw [sU_ne _ _ (by omega)]; exact g1
  · unfold pL
    by_cases e : j = i
    · rw [e, upm_same, sU_at]; omega
    · rw [upm_ne _ _ (fun _ => e), sU_ne _ _ (by omega)]; exact g2 j hj
  · rw [upm_off _ _ (by decide), sU_ne _ _ (by omega)]; exact g3 j hj
  · rw [upm_off _ _ (by decide), sU_ne _ _ (by omega)]; exact g4 j hj
  · rw [upm_off _ _ (by decide)]; unfold pRL; rw [sU_ne _ _ (by omega)]; exact g5 j hj
theorem CY.stp {s : Nat → Int} {m : Nat → Nat → Int} (h : CY s m) {i : Nat} (hi : i < 24) (c : Int) : CY (sU s (53 + i) c) (upm m 8 i c) := by
  obtain ⟨g1, g2, g3, g4, g5⟩ := h
  refine ⟨?_, fun j hj => ?_, fun j hj => ?_, fun j hj => ?_, fun j hj => ?_⟩
  · rw [upm_off _ _ (by decide)]; unfold pT; rw [sU_ne _ _ (by omega)]; exact g1
  · rw [upm_off _ _ (by decide)]; unfold pL; rw [sU_ne _ _ (by omega)]; exact g2 j hj
  · by_cases e : j = i
    · rw [e, upm_same, sU_at]
    · rw [upm_ne _ _ (fun _ => e), sU_ne _ _ (by omega)]; exact g3 j hj
  · rw [upm_off _ _ (by decide), sU_ne _ _ (by omega)]; exact g4 j hj
  · rw [upm_off _ _ (by decide)]; unfold pRL; rw [sU_ne _ _ (by omega)]; exact g5 j hj
theorem CY_clr {s2 : Nat → Int} {m : Nat → Nat → Int} (h6 : m 6 0 = (pT s2 : Int)) (hz : ∀ i, 49 ≤ i → i < 227 → s2 i = 0) : CY s2 (cbM m) := by
  refine ⟨by rw [cbM_off _ (by decide)]; exact h6, fun j hj => ?_, fun i hi => ?_, fun i hi => ?_, fun i hi => ?_⟩
  · have : pL s2 j = 1 := by unfold pL; rw [hz _ (by omega) (by omega)]; rfl
    rw [this]
    unfold cbM
    rw [flm_off _ _ _ _ (by decide), flm_off _ _ _ _ (by decide), flm_off _ _ _ _ (by decide), flm_in _ _ (by omega) (by omega)]
    rfl
  · rw [hz _ (by omega) (by omega)]
    unfold cbM
    rw [flm_off _ _ _ _ (by decide), flm_off _ _ _ _ (by decide), flm_in _ _ (by omega) (by omega)]
  · rw [hz _ (by omega) (by omega)]
    unfold cbM
    rw [flm_off _ _ _ _ (by decide), flm_in _ _ (by omega) (by omega)]
  · have : pRL s2 i = 1 := by unfold pRL; rw [hz _ (by omega) (by omega)]; rfl
    rw [this]
    unfold cbM
    rw [flm_in _ _ (by omega) (by omega)]
    rfl
theorem AL.as {s s2 : Nat → Int} (h : AL s s2) : AS s s2 := ⟨h.1, h.2.1, fun k hk => h.2.2.2 _ (by omega), fun k hk => h.2.2.2 _ (by omega), fun p => h.2.2.2 _ (by omega)⟩
theorem CY.fo {s : Nat → Int} {m : Nat → Nat → Int} (h : CY s m) (h3 : s 3 = 0) : CFo s (upm m 6 1 1) := ⟨h.congr (upm_ne _ _ (fun _ => by decide)) (fun a h1 h2 => upm_off _ _ (by omega)), by rw [upm_same, if_pos h3]⟩
theorem CY_uclr {s : Nat → Int} {m : Nat → Nat → Int} (h6 : m 6 0 = (pT s : Int)) : CY (uClr s) (cbM m) :=
  CY_clr (by rw [h6]; unfold pT uClr; rw [if_neg (by decide), if_neg (by decide)]) (fun i h1 h2 => by unfold uClr; rw [if_neg (by omega), if_pos ⟨h1, h2⟩])
theorem sp_layFewest {w : List KD} {m : Nat → Nat → Int} (s : Nat → Int) (hV : VS s) (hI : CI s m) (hne : (resF s).1 ≠ -1) (hF : FN s m) : Sp M_X9_layFewest 2 0 0 [rV 0] (WC ++ w, m) (fun r h => r = some (iV (if okLayF s then 1 else 0)) ∧ ∃ m2, h = (WC ++ w, m2) ∧ (okLayF s → CY (layFk s (resF s).2 (pN s)) m2 ∧ (∀ a, (a < 7 ∨ 10 < a) → m2 a = m a)) ∧ (¬ okLayF s → m2 = m)) := by
  refine Sp.ofG (ls := [rV 0, uV, uV, uV, uV]) (by decide +kernel) rfl (Nat.le_of_ble_eq_true rfl) ?_
  have hC := pC_le hV
  have hN := hV.N
  have hT := hV.T
  have hSc := hV.Sc
  have hrr := resF_rng hV
  have L2 : ∀ k : Nat, k ≤ pN s → okLayF s → ∀ (m1 : Nat → Nat → Int) (u4 : PV), pcat u4 ≠ 2 → CY (layFk s (resF s).2 k) m1 → (∀ a, (a < 7 ∨ 10 < a) → m1 a = m a) → G M_X9_layFewest 2 0 0 68 [rV 0, iV (jxN (resF s).2 (pN s) : Nat), iV (jxN (resF s).2 k : Nat), iV (k : Int), u4] [] (WC ++ w, m1) (fun r h => r = some (iV (if okLayF s then 1 else 0)) ∧ ∃ m2, h = (WC ++ w, m2) ∧ (okLayF s → CY (layFk s (resF s).2 (pN s)) m2 ∧ (∀ a, (a < 7 ∨ 10 < a) → m2 a = m a)) ∧ (¬ okLayF s → m2 = m)) := by
    refine loop_up (pN s) _ ?_
    intro k hk ih hok m1 u4 hu4 hY hfr
    refine G_iload_n d_X9_layFewest_68 rfl ?_
    refine G_aload_n d_X9_layFewest_69 rfl ?_
    refine G_getR (r := 1) (fl_X9_12.r) d_X9_layFewest_70 (wk_0 _) rfl rfl ?_
    refine G_getIe (v := (pN s : Int)) (fl_X9_194.r) d_X9_layFewest_73 (wk_1 _) rfl ((by rw [hfr 1 (by omega)]; exact hI.1.1.1)) ?_
    refine G_icmp_ge 144 d_X9_layFewest_76 (by decide) (by omega) (by omega) (fun c76 => ?_) (fun c76 => ?_)
    · refine G_iconst d_X9_layFewest_144 ?_
      refine G_zret (mc := 0) (ms := 0) (st := []) d_X9_layFewest_145 rfl (by omega) ?_
      have hke : k = pN s := by omega
      subst hke
      exact ⟨by rw [if_pos hok], m1, rfl, fun _ => ⟨hY, hfr⟩, fun h => absurd hok h⟩
    · refine G_aload_n d_X9_layFewest_79 rfl ?_
      refine G_getR (r := 57) (fl_X9_86.r) d_X9_layFewest_80 (wk_0 _) rfl rfl ?_
      refine G_getR (r := 58) fl_X9_235 d_X9_layFewest_83 (wk_57 _) rfl rfl ?_
      refine G_iload_n d_X9_layFewest_86 rfl ?_
      refine G_ialdj (k) d_X9_layFewest_87 (wk_58 _) (by omega) (by omega) (by decide) ?_
      have hNk := (hrr.2.2.2 k (by omega)).2 hne
      have hN12 := (hrr.2.2.2 k (by omega)).1
      have hjn : jxN (resF s).2 k ≤ jxN (resF s).2 (pN s) := jxN_mono (by omega)
      have hj4 := hok.2.1
      rw [show m1 58 k = (((resF s).2 k : Nat) : Int) by rw [hfr 58 (by omega)]; exact hF.2 hne k (by omega)]
      refine G_istore d_X9_layFewest_88 (by decide) rfl ?_
      refine G_iload d_X9_layFewest_90 rfl ?_
      refine G_iconst d_X9_layFewest_92 ?_
      refine G_icmp_le 138 d_X9_layFewest_93 (by decide) (by omega) (by omega) (fun c93 => ?_) (fun c93 => ?_)
      · refine G_iinc d_X9_layFewest_138 rfl (by decide) rfl ?_
        refine G_goto 68 d_X9_layFewest_141 (by decide) ?_
        have e1 : (resF s).2 k = 1 := by omega
        have hl : layFk s (resF s).2 (k + 1) = layFk s (resF s).2 k := if_pos e1
        rw [jxN_f e1] at ih
        exact ih (by omega) hok m1 _ (by show (1 : Nat) ≠ 2; decide) (by rw [hl]; exact hY) hfr
      · refine G_iload_n d_X9_layFewest_96 rfl ?_
        refine G_iconst d_X9_layFewest_97 ?_
        refine G_icmp_ge 138 d_X9_layFewest_98 (by decide) (by omega) (by omega) (fun c98 => ?_) (fun c98 => ?_)
        · have h1 : jxN (resF s).2 (k + 1) = jxN (resF s).2 k + 1 := jxN_t (by omega)
          have h2 : jxN (resF s).2 (k + 1) ≤ jxN (resF s).2 (pN s) := jxN_mono (by omega)
          omega
        · refine G_aload_n d_X9_layFewest_101 rfl ?_
          refine G_getR (r := 6) (fl_X9_19.r) d_X9_layFewest_102 (wk_0 _) rfl rfl ?_
          refine G_getR (r := 7) fl_X9_139 d_X9_layFewest_105 (wk_6 _) rfl rfl ?_
          refine G_iload_n d_X9_layFewest_108 rfl ?_
          refine G_iload d_X9_layFewest_109 rfl ?_
          refine G_iastj (jxN (resF s).2 k) d_X9_layFewest_111 (wk_7 _) (by omega) (by omega) (by decide) ?_
          refine G_aload_n d_X9_layFewest_112 rfl ?_
          refine G_getR (r := 6) (fl_X9_19.r) d_X9_layFewest_113 (wk_0 _) rfl rfl ?_
          refine G_getR (r := 8) fl_X9_149 d_X9_layFewest_116 (wk_6 _) rfl rfl ?_
          refine G_iload_n d_X9_layFewest_119 rfl ?_
          refine G_iconst d_X9_layFewest_120 ?_
          refine G_imul d_X9_layFewest_121 ?_
          refine G_iload_n d_X9_layFewest_122 rfl ?_
          refine G_iadd d_X9_layFewest_123 ?_
          refine G_aload_n d_X9_layFewest_124 rfl ?_
          refine G_getR (r := 6) (fl_X9_19.r) d_X9_layFewest_125 (wk_0 _) rfl rfl ?_
          refine G_getIe (v := (pT s : Int)) (fl_X9_123.r) d_X9_layFewest_128 (wk_6 _) rfl ((by rw [upm_off _ _ (by decide), hfr 6 (by omega)]; exact hI.1.2.1.1.1)) ?_
          refine G_iload d_X9_layFewest_131 rfl ?_
          have hdl : pT s / (resF s).2 k ≤ pT s := Nat.div_le_self _ _
          refine G_idivN (pT s) ((resF s).2 k) (rfl) (rfl) d_X9_layFewest_133 (by omega) (by omega) (by omega) ?_
          refine G_iastj (4 * k + jxN (resF s).2 k) d_X9_layFewest_134 (wk_8 _) (by omega) (by omega) (by decide) ?_
          refine G_iinc d_X9_layFewest_135 rfl (by decide) rfl ?_
          refine G_iinc d_X9_layFewest_138 rfl (by decide) rfl ?_
          refine G_goto 68 d_X9_layFewest_141 (by decide) ?_
          have e1 : ¬ (resF s).2 k = 1 := by omega
          have hl : layFk s (resF s).2 (k + 1) = sU (sU (layFk s (resF s).2 k) (49 + jxN (resF s).2 k) (((resF s).2 k : Int) - 1)) (53 + 4 * k + jxN (resF s).2 k) ((pT s / (resF s).2 k : Nat) : Int) := if_neg e1
          rw [jxN_t e1] at ih
          refine ih (by omega) hok _ _ (by show (1 : Nat) ≠ 2; decide) ?_ (fun a ha => by rw [upm_off _ _ (by omega), upm_off _ _ (by omega)]; exact hfr a ha)
          rw [hl, show 53 + 4 * k + jxN (resF s).2 k = 53 + (4 * k + jxN (resF s).2 k) by omega]
          exact (hY.len (by omega) (by omega)).stp (by omega) _
  have L1 : ∀ k : Nat, k ≤ pN s → G M_X9_layFewest 2 0 0 4 [rV 0, iV (jxN (resF s).2 k : Nat), iV (k : Int), uV, uV] [] (WC ++ w, m) (fun r h => r = some (iV (if okLayF s then 1 else 0)) ∧ ∃ m2, h = (WC ++ w, m2) ∧ (okLayF s → CY (layFk s (resF s).2 (pN s)) m2 ∧ (∀ a, (a < 7 ∨ 10 < a) → m2 a = m a)) ∧ (¬ okLayF s → m2 = m)) := by
    refine loop_up (pN s) _ ?_
    intro k hk ih
    refine G_iload_n d_X9_layFewest_4 rfl ?_
    refine G_aload_n d_X9_layFewest_5 rfl ?_
    refine G_getR (r := 1) (fl_X9_12.r) d_X9_layFewest_6 (wk_0 _) rfl rfl ?_
    refine G_getIe (v := (pN s : Int)) (fl_X9_194.r) d_X9_layFewest_9 (wk_1 _) rfl (hI.1.1.1) ?_
    refine G_icmp_ge 37 d_X9_layFewest_12 (by decide) (by omega) (by omega) (fun c12 => ?_) (fun c12 => ?_)
    · have hke : k = pN s := by omega
      subst hke
      have hjl : jxN (resF s).2 (pN s) ≤ pN s := cntB_le _ _
      refine G_iload_n d_X9_layFewest_37 rfl ?_
      refine G_iconst d_X9_layFewest_38 ?_
      refine G_icmp_gt 55 d_X9_layFewest_39 (by decide) (by omega) (by omega) (fun c39 => ?_) (fun c39 => ?_)
      · refine G_iconst d_X9_layFewest_55 ?_
        refine G_zret (mc := 0) (ms := 0) (st := []) d_X9_layFewest_56 rfl (by omega) ?_
        have hno : ¬ okLayF s := fun h => by obtain ⟨h1, h2, h3⟩ := h; omega
        exact ⟨by rw [if_neg hno], m, rfl, fun h => absurd h hno, fun _ => rfl⟩
      · refine G_aload_n d_X9_layFewest_42 rfl ?_
        refine G_getR (r := 57) (fl_X9_86.r) d_X9_layFewest_43 (wk_0 _) rfl rfl ?_
        refine G_getIe (v := (resF s).1) (fl_X9_219.r) d_X9_layFewest_46 (wk_57 _) rfl (hF.1) ?_
        refine G_sipush d_X9_layFewest_49 (by decide) ?_
        refine G_icmp_le 57 d_X9_layFewest_52 (by decide) (by omega) (by omega) (fun c52 => ?_) (fun c52 => ?_)
        · refine G_aload_n d_X9_layFewest_57 rfl ?_
          refine G_getR (r := 6) (fl_X9_19.r) d_X9_layFewest_58 (wk_0 _) rfl rfl ?_
          refine G_callV0 cl_X9_105 rfl d_X9_layFewest_61 (wk_6 _) (Nat.le_of_ble_eq_true rfl) (by decide) (sp_cbegin) ?_
          rintro _ _ ⟨rfl, rfl⟩
          refine G_iconst d_X9_layFewest_64 ?_
          refine G_istore_n d_X9_layFewest_65 (by decide) rfl ?_
          refine G_iconst d_X9_layFewest_66 ?_
          refine G_istore_n d_X9_layFewest_67 (by decide) rfl ?_
          exact L2 0 (by omega) ⟨hne, by omega, by omega⟩ (cbM m) uV (by decide) (CY_uclr hI.1.2.1.1.1) (fun a ha => cbM_off _ ha)
        · refine G_iconst d_X9_layFewest_55 ?_
          refine G_zret (mc := 0) (ms := 0) (st := []) d_X9_layFewest_56 rfl (by omega) ?_
          have hno : ¬ okLayF s := fun h => by obtain ⟨h1, h2, h3⟩ := h; omega
          exact ⟨by rw [if_neg hno], m, rfl, fun h => absurd h hno, fun _ => rfl⟩
    · refine G_aload_n d_X9_layFewest_15 rfl ?_
      refine G_getR (r := 57) (fl_X9_86.r) d_X9_layFewest_16 (wk_0 _) rfl rfl ?_
      refine G_getR (r := 58) fl_X9_235 d_X9_layFewest_19 (wk_57 _) rfl rfl ?_
      refine G_iload_n d_X9_layFewest_22 rfl ?_
      refine G_ialdj (k) d_X9_layFewest_23 (wk_58 _) (by omega) (by omega) (by decide) ?_
      have hNk := (hrr.2.2.2 k (by omega)).2 hne
      have hN12 := (hrr.2.2.2 k (by omega)).1
      rw [hF.2 hne k (by omega)]
      refine G_iconst d_X9_layFewest_24 ?_
      refine G_icmp_le 31 d_X9_layFewest_25 (by decide) (by omega) (by omega) (fun c25 => ?_) (fun c25 => ?_)
      · refine G_iinc d_X9_layFewest_31 rfl (by decide) rfl ?_
        refine G_goto 4 d_X9_layFewest_34 (by decide) ?_
        rw [jxN_f (by omega)] at ih
        exact ih (by omega)
      · refine G_iinc d_X9_layFewest_28 rfl (by decide) rfl ?_
        refine G_iinc d_X9_layFewest_31 rfl (by decide) rfl ?_
        refine G_goto 4 d_X9_layFewest_34 (by decide) ?_
        rw [jxN_t (by omega)] at ih
        exact ih (by omega)
  refine G_iconst d_X9_layFewest_0 ?_
  refine G_istore_n d_X9_layFewest_1 (by decide) rfl ?_
  refine G_iconst d_X9_layFewest_2 ?_
  refine G_istore_n d_X9_layFewest_3 (by decide) rfl ?_
  exact L1 0 (by omega)
theorem sp_layCogs {w : List KD} {m : Nat → Nat → Int} (s : Nat → Int) (hV : VS s) (hI : CI s m) (hne : lC (resC s) ≠ -1) (hG : GN s m) : Sp M_X9_layCogs 2 0 0 [rV 0] (WC ++ w, m) (fun r h => r = some (iV 1) ∧ ∃ m2, h = (WC ++ w, m2) ∧ CY (layCk s (lC (resC s)).toNat (nCg (resC s)) (pN s)) m2 ∧ (∀ a, (a < 7 ∨ 10 < a) → m2 a = m a)) := by
  refine Sp.ofG (ls := [rV 0, uV, uV]) (by decide +kernel) rfl (Nat.le_of_ble_eq_true rfl) ?_
  have hC := pC_le hV
  have hN := hV.N
  have hT := hV.T
  have hSc := hV.Sc
  have hlr := lC_rng s
  have hll := Int.toNat_of_nonneg (show 0 ≤ lC (resC s) by omega)
  have hcN : ∀ k, k < pN s → (nCg (resC s)) k < 12 := fun k hk => by
    cases hq : resC s with
    | none => rw [hq] at hne; exact absurd rfl hne
    | some v =>
      have h1 := resC_N hq
      have h2 := h1.2.2.2 k hk
      show v.2 k < 12
      omega
  have L : ∀ k : Nat, k ≤ pN s → ∀ m1, CY (layCk s (lC (resC s)).toNat (nCg (resC s)) k) m1 → (∀ a, (a < 7 ∨ 10 < a) → m1 a = m a) → G M_X9_layCogs 2 0 0 34 [rV 0, iV (((lC (resC s)).toNat : Nat) : Int), iV (k : Int)] [] (WC ++ w, m1) (fun r h => r = some (iV 1) ∧ ∃ m2, h = (WC ++ w, m2) ∧ CY (layCk s (lC (resC s)).toNat (nCg (resC s)) (pN s)) m2 ∧ (∀ a, (a < 7 ∨ 10 < a) → m2 a = m a)) := by
    refine loop_up (pN s) _ ?_
    intro k hk ih m1 hY hfr
    refine G_iload_n d_X9_layCogs_34 rfl ?_
    refine G_aload_n d_X9_layCogs_35 rfl ?_
    refine G_getR (r := 1) (fl_X9_12.r) d_X9_layCogs_36 (wk_0 _) rfl rfl ?_
    refine G_getIe (v := (pN s : Int)) (fl_X9_194.r) d_X9_layCogs_39 (wk_1 _) rfl ((by rw [hfr 1 (by omega)]; exact hI.1.1.1)) ?_
    refine G_icmp_ge 81 d_X9_layCogs_42 (by decide) (by omega) (by omega) (fun c42 => ?_) (fun c42 => ?_)
    · refine G_iconst d_X9_layCogs_81 ?_
      refine G_zret (mc := 0) (ms := 0) (st := []) d_X9_layCogs_82 rfl (by omega) ?_
      have hke : k = pN s := by omega
      subst hke
      exact ⟨rfl, m1, rfl, hY, hfr⟩
    · refine G_aload_n d_X9_layCogs_45 rfl ?_
      refine G_getR (r := 6) (fl_X9_19.r) d_X9_layCogs_46 (wk_0 _) rfl rfl ?_
      refine G_getR (r := 8) fl_X9_149 d_X9_layCogs_49 (wk_6 _) rfl rfl ?_
      refine G_iload_n d_X9_layCogs_52 rfl ?_
      refine G_iconst d_X9_layCogs_53 ?_
      refine G_imul d_X9_layCogs_54 ?_
      refine G_aload_n d_X9_layCogs_55 rfl ?_
      refine G_getR (r := 60) (fl_X9_93.r) d_X9_layCogs_56 (wk_0 _) rfl rfl ?_
      refine G_getR (r := 61) fl_X9_238 d_X9_layCogs_59 (wk_60 _) rfl rfl ?_
      refine G_iload_n d_X9_layCogs_62 rfl ?_
      refine G_ialdj (k) d_X9_layCogs_63 (wk_61 _) (by omega) (by omega) (by decide) ?_
      rw [show m1 61 k = (((nCg (resC s)) k : Nat) : Int) by rw [hfr 61 (by omega)]; exact hG.2 hne k (by omega)]
      have hck := hcN k (by omega)
      refine G_aload_n d_X9_layCogs_64 rfl ?_
      refine G_getR (r := 6) (fl_X9_19.r) d_X9_layCogs_65 (wk_0 _) rfl rfl ?_
      refine G_getIe (v := (pT s : Int)) (fl_X9_123.r) d_X9_layCogs_68 (wk_6 _) rfl ((by rw [hfr 6 (by omega)]; exact hI.1.2.1.1.1)) ?_
      refine G_iload_n d_X9_layCogs_71 rfl ?_
      refine G_idivN (pT s) ((lC (resC s)).toNat) (rfl) (rfl) d_X9_layCogs_72 (by omega) (by omega) (by omega) ?_
      have hdl : pT s / (lC (resC s)).toNat ≤ pT s := Nat.div_le_self _ _
      have hmul : ((nCg (resC s)) k : Int) * ((pT s / (lC (resC s)).toNat : Nat) : Int) ≤ 12 * 48 ∧ 0 ≤ ((nCg (resC s)) k : Int) * ((pT s / (lC (resC s)).toNat : Nat) : Int) := ⟨Int.mul_le_mul (by omega) (by omega) (Int.natCast_nonneg _) (by omega), Int.mul_nonneg (by omega) (Int.natCast_nonneg _)⟩
      refine G_imul d_X9_layCogs_73 ?_
      refine G_iastj (4 * k) d_X9_layCogs_74 (wk_8 _) (by omega) (by omega) (by decide) ?_
      refine G_iinc d_X9_layCogs_75 rfl (by decide) rfl ?_
      refine G_goto 34 d_X9_layCogs_78 (by decide) ?_
      refine ih (by omega) _ ?_ (fun a ha => by rw [upm_off _ _ (by omega)]; exact hfr a ha)
      show CY (sU (layCk s (lC (resC s)).toNat (nCg (resC s)) k) (53 + 4 * k) (((nCg (resC s)) k : Int) * ((pT s / (lC (resC s)).toNat : Nat) : Int))) _
      exact hY.stp (by omega) _
  refine G_aload_n d_X9_layCogs_0 rfl ?_
  refine G_getR (r := 60) (fl_X9_93.r) d_X9_layCogs_1 (wk_0 _) rfl rfl ?_
  refine G_getIe (v := lC (resC s)) (fl_X9_229.r) d_X9_layCogs_4 (wk_60 _) rfl (hG.1) ?_
  refine G_istore_n d_X9_layCogs_7 (by decide) rfl ?_
  rw [← hll]
  refine G_iload_n d_X9_layCogs_8 rfl ?_
  refine G_iconst d_X9_layCogs_9 ?_
  refine G_icmp_ge 15 d_X9_layCogs_10 (by decide) (by omega) (by omega) (fun c10 => ?_) (fun c10 => ?_)
  · refine G_aload_n d_X9_layCogs_15 rfl ?_
    refine G_getR (r := 6) (fl_X9_19.r) d_X9_layCogs_16 (wk_0 _) rfl rfl ?_
    refine G_callV0 cl_X9_105 rfl d_X9_layCogs_19 (wk_6 _) (Nat.le_of_ble_eq_true rfl) (by decide) (sp_cbegin) ?_
    rintro _ _ ⟨rfl, rfl⟩
    refine G_aload_n d_X9_layCogs_22 rfl ?_
    refine G_getR (r := 6) (fl_X9_19.r) d_X9_layCogs_23 (wk_0 _) rfl rfl ?_
    refine G_getR (r := 7) fl_X9_139 d_X9_layCogs_26 (wk_6 _) rfl rfl ?_
    refine G_iconst d_X9_layCogs_29 ?_
    refine G_iload_n d_X9_layCogs_30 rfl ?_
    refine G_iastj (0) d_X9_layCogs_31 (wk_7 _) (by omega) (by omega) (by decide) ?_
    refine G_iconst d_X9_layCogs_32 ?_
    refine G_istore_n d_X9_layCogs_33 (by decide) rfl ?_
    exact L 0 (by omega) _ ((CY_uclr hI.1.2.1.1.1).len (i := 0) (by omega) (by omega)) (fun a ha => by rw [upm_off _ _ (by omega)]; exact cbM_off _ ha)
  · omega
theorem sp_Clay {w : List KD} {m : Nat → Nat → Int} (s : Nat → Int) (hV : VS s) (hI : CI s m) (a : Int) (hra : -2147483648 ≤ a ∧ a < 2147483648) : Sp M_X9_lay 12 0 0 [rV 0, iV a] (WC ++ w, m) (fun r h => r = some (iV (vLay s a)) ∧ ∃ m2, h = (WC ++ w, m2) ∧ CI (nxLay s a) m2 ∧ FXo m m2) := by
  refine Sp.ofG (ls := [rV 0, iV a, uV]) (by decide +kernel) rfl (Nat.le_of_ble_eq_true rfl) ?_
  have hC := pC_le hV
  have hN := hV.N
  have hT := hV.T
  have hSc := hV.Sc
  have K : ∀ (s2 : Nat → Int) (m1 m2 : Nat → Nat → Int), CI s m1 → FXo m m1 → CY s2 m2 → AL s s2 → (∀ c, (c < 7 ∨ 10 < c) → m2 c = m1 c) → VS s2 → vLay s a = (pSc s2 : Int) → nxLay s a = s2 → G M_X9_lay 12 0 0 76 [rV 0, iV a, iV 1] [] (WC ++ w, m2) (fun r h => r = some (iV (vLay s a)) ∧ ∃ m2, h = (WC ++ w, m2) ∧ CI (nxLay s a) m2 ∧ FXo m m2) := by
    intro s2 m1 m2 hI1 hX1 hY hA hfr hV2 hv hn
    obtain ⟨h3, hF3⟩ := hI1.told (m1 := upm m2 6 1 1) hV hA.as (fun c hc => by rw [upm_off _ _ (by omega)]; exact hfr c (by omega)) (hY.fo hA.2.2.1)
    have hSc2 := hV2.Sc
    refine G_aload_n d_X9_lay_76 rfl ?_
    refine G_getR (r := 6) (fl_X9_19.r) d_X9_lay_77 (wk_0 _) rfl rfl ?_
    refine G_iconst d_X9_lay_80 ?_
    refine G_putZ fl_X9_164 d_X9_lay_81 (wk_6 _) rfl (by omega) ?_
    refine G_aload_n d_X9_lay_84 rfl ?_
    refine G_callV0 cl_X9_126 rfl d_X9_lay_85 (wk_0 _) (Nat.le_of_ble_eq_true rfl) (by decide) (sp_cycleTold) ?_
    rintro _ _ ⟨rfl, rfl⟩
    refine G_aload_n d_X9_lay_88 rfl ?_
    refine G_getR (r := 6) (fl_X9_19.r) d_X9_lay_89 (wk_0 _) rfl rfl ?_
    refine G_callV0 cl_X9_142 rfl d_X9_lay_92 (wk_6 _) (Nat.le_of_ble_eq_true rfl) (by decide) (sp_Csc s2 h3.1.2.1.1) ?_
    rintro _ _ ⟨rfl, rfl⟩
    refine G_iret (mc := 0) (ms := 0) (st := []) d_X9_lay_95 rfl ?_
    exact ⟨by rw [hv], _, rfl, by rw [hn]; exact h3, hX1.trans hF3⟩
  refine G_iconst d_X9_lay_0 ?_
  refine G_istore_n d_X9_lay_1 (by decide) rfl ?_
  refine G_iload_n d_X9_lay_2 rfl ?_
  refine G_if_ne 37 d_X9_lay_3 (by decide) (by omega) (fun c3 => ?_) (fun c3 => ?_)
  · refine G_iload_n d_X9_lay_37 rfl ?_
    refine G_iconst d_X9_lay_38 ?_
    refine G_icmp_ne 70 d_X9_lay_39 (by decide) (by omega) (by omega) (fun c39 => ?_) (fun c39 => ?_)
    · refine G_iload_n d_X9_lay_70 rfl ?_
      refine G_if_ne 76 d_X9_lay_71 (by decide) (by decide) (fun hd => absurd hd (by decide)) (fun _ => ?_)
      refine G_iconst d_X9_lay_74 ?_
      refine G_iret (mc := 0) (ms := 0) (st := []) d_X9_lay_75 rfl ?_
      exact ⟨by unfold vLay; rw [if_neg c3, if_neg c39], m, rfl, by unfold nxLay; rw [if_neg c3, if_neg c39]; exact hI, FXo.refl m⟩
    · refine G_aload_n d_X9_lay_42 rfl ?_
      refine G_callV0 cl_X9_226 rfl d_X9_lay_43 (wk_0 _) (Nat.le_of_ble_eq_true rfl) (by decide) (sp_CfindCogs s hV hI) ?_
      rintro _ _ ⟨rfl, m1, rfl, hI1, hF1, hG1⟩
      have hlr := lC_rng s
      refine G_aload_n d_X9_lay_46 rfl ?_
      refine G_getR (r := 60) (fl_X9_93.r) d_X9_lay_47 (wk_0 _) rfl rfl ?_
      refine G_getIe (v := lC (resC s)) (fl_X9_229.r) d_X9_lay_50 (wk_60 _) rfl (hG1.1) ?_
      refine G_iconst d_X9_lay_53 ?_
      refine G_icmp_eq 68 d_X9_lay_54 (by decide) (by omega) (by omega) (fun c54 => ?_) (fun c54 => ?_)
      · refine G_iconst d_X9_lay_68 ?_
        refine G_istore_n d_X9_lay_69 (by decide) rfl ?_
        refine G_iload_n d_X9_lay_70 rfl ?_
        refine G_if_ne 76 d_X9_lay_71 (by decide) (by decide) (fun hd => absurd hd (by decide)) (fun _ => ?_)
        refine G_iconst d_X9_lay_74 ?_
        refine G_iret (mc := 0) (ms := 0) (st := []) d_X9_lay_75 rfl ?_
        exact ⟨by unfold vLay; rw [if_neg c3, if_pos c39, if_neg (fun h => h c54)], m1, rfl, by unfold nxLay; rw [if_neg c3, if_pos c39, if_neg (fun h => h c54)]; exact hI1, hF1.x⟩
      · refine G_aload_n d_X9_lay_57 rfl ?_
        refine G_callV0 cl_X9_232 rfl d_X9_lay_58 (wk_0 _) (Nat.le_of_ble_eq_true rfl) (by decide) (sp_layCogs s hV hI1 c54 hG1) ?_
        rintro _ _ ⟨rfl, m2, rfl, hY, hfr⟩
        refine G_if_eq 68 d_X9_lay_61 (by decide) (by omega) (fun c61 => ?_) (fun c61 => ?_)
        · exact absurd c61 (by decide)
        · refine G_iconst d_X9_lay_64 ?_
          refine G_goto 69 d_X9_lay_65 (by decide) ?_
          refine G_istore_n d_X9_lay_69 (by decide) rfl ?_
          refine G_iload_n d_X9_lay_70 rfl ?_
          refine G_if_ne 76 d_X9_lay_71 (by decide) (by decide) (fun _ => ?_) (fun hd => absurd hd (by decide))
          have hk9 : VS (layCk s (lC (resC s)).toNat (nCg (resC s)) (pN s)) ∧ AL s (layCk s (lC (resC s)).toNat (nCg (resC s)) (pN s)) := by
            cases hq : resC s with
            | none => rw [hq] at c54; exact absurd rfl c54
            | some v =>
              have h1 := resC_N hq
              exact layCk_ok hV (l := v.1) (N := v.2) ⟨h1.1, h1.2.1⟩ h1.2.2.1 h1.2.2.2 (pN s) (Nat.le_refl _)
          exact K _ m1 m2 hI1 hF1.x hY hk9.2 hfr hk9.1 (by unfold vLay nxLay; rw [if_neg c3, if_pos c39, if_pos c54, if_neg c3, if_pos c39, if_pos c54]) (by unfold nxLay; rw [if_neg c3, if_pos c39, if_pos c54])
  · refine G_aload_n d_X9_lay_6 rfl ?_
    refine G_callV0 cl_X9_216 rfl d_X9_lay_7 (wk_0 _) (Nat.le_of_ble_eq_true rfl) (by decide) (sp_CfindFewest s hV hI) ?_
    rintro _ _ ⟨rfl, m1, rfl, hI1, hF1, hG1⟩
    have hrr := resF_rng hV
    refine G_aload_n d_X9_lay_10 rfl ?_
    refine G_getR (r := 57) (fl_X9_86.r) d_X9_lay_11 (wk_0 _) rfl rfl ?_
    refine G_getIe (v := (resF s).1) (fl_X9_219.r) d_X9_lay_14 (wk_57 _) rfl (hG1.1) ?_
    refine G_iconst d_X9_lay_17 ?_
    refine G_icmp_eq 32 d_X9_lay_18 (by decide) (by omega) (by omega) (fun c18 => ?_) (fun c18 => ?_)
    · refine G_iconst d_X9_lay_32 ?_
      refine G_istore_n d_X9_lay_33 (by decide) rfl ?_
      refine G_goto 70 d_X9_lay_34 (by decide) ?_
      refine G_iload_n d_X9_lay_70 rfl ?_
      refine G_if_ne 76 d_X9_lay_71 (by decide) (by decide) (fun hd => absurd hd (by decide)) (fun _ => ?_)
      refine G_iconst d_X9_lay_74 ?_
      refine G_iret (mc := 0) (ms := 0) (st := []) d_X9_lay_75 rfl ?_
      exact ⟨by unfold vLay; rw [if_pos c3, if_neg (fun h => h.1 c18)], m1, rfl, by unfold nxLay; rw [if_pos c3, if_neg (fun h => h.1 c18)]; exact hI1, hF1.x⟩
    · refine G_aload_n d_X9_lay_21 rfl ?_
      refine G_callV0 cl_X9_222 rfl d_X9_lay_22 (wk_0 _) (Nat.le_of_ble_eq_true rfl) (by decide) (sp_layFewest s hV hI1 c18 hG1) ?_
      rintro _ _ ⟨rfl, m2, rfl, hy, hn⟩
      by_cases hok : okLayF s
      · rw [if_pos hok]
        refine G_if_eq 32 d_X9_lay_25 (by decide) (by decide) (fun hd => absurd hd (by decide)) (fun _ => ?_)
        refine G_iconst d_X9_lay_28 ?_
        refine G_goto 33 d_X9_lay_29 (by decide) ?_
        refine G_istore_n d_X9_lay_33 (by decide) rfl ?_
        refine G_goto 70 d_X9_lay_34 (by decide) ?_
        refine G_iload_n d_X9_lay_70 rfl ?_
        refine G_if_ne 76 d_X9_lay_71 (by decide) (by decide) (fun _ => ?_) (fun hd => absurd hd (by decide))
        obtain ⟨hY, hfr⟩ := hy hok
        have hpr := resF_pr hV c18
        have hk9 := layFk_ok hV (N := (resF s).2) (fun k hk => ⟨((hrr.2.2.2 k hk).2 c18).1, (hrr.2.2.2 k hk).1⟩) hok.2.1 (by rw [hpr]; exact hok.2.2) (pN s) (Nat.le_refl _)
        exact K _ m1 m2 hI1 hF1.x hY hk9.2.1 hfr hk9.1 (by unfold vLay nxLay; rw [if_pos c3, if_pos hok, if_pos c3, if_pos hok]) (by unfold nxLay; rw [if_pos c3, if_pos hok])
      · rw [if_neg hok]
        refine G_if_eq 32 d_X9_lay_25 (by decide) (by decide) (fun _ => ?_) (fun hd => absurd hd (by decide))
        refine G_iconst d_X9_lay_32 ?_
        refine G_istore_n d_X9_lay_33 (by decide) rfl ?_
        refine G_goto 70 d_X9_lay_34 (by decide) ?_
        refine G_iload_n d_X9_lay_70 rfl ?_
        refine G_if_ne 76 d_X9_lay_71 (by decide) (by decide) (fun hd => absurd hd (by decide)) (fun _ => ?_)
        refine G_iconst d_X9_lay_74 ?_
        refine G_iret (mc := 0) (ms := 0) (st := []) d_X9_lay_75 rfl ?_
        rw [hn hok] at *
        exact ⟨by unfold vLay; rw [if_pos c3, if_neg hok], m1, rfl, by unfold nxLay; rw [if_pos c3, if_neg hok]; exact hI1, hF1.x⟩
