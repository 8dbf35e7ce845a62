/-- searches change nothing below cell 51 -/
theorem CB.far {s : Nat → Int} {m m2 : Nat → Nat → Int} (h : CB s m) (hN : pN s ≤ 5) (k : ∀ a, a < 51 → m2 a = m a) : CB s m2 :=
  ⟨h.1.keep (fun a _ _ => k a (by omega)), h.2.1.keep (fun a _ _ => k a (by omega)), h.2.2.1.keep (k 25 (by decide)) (k 26 (by decide)) (k 27 (by decide)), by rw [k 0 (by decide)]; exact h.2.2.2.1, h.2.2.2.2.1.keep (by rw [k 25 (by decide)]) (k 28 (by decide)) (k 29 (by decide)), h.2.2.2.2.2.1.keep hN (fun a _ _ => k a (by omega)), h.2.2.2.2.2.2.keep (k 46 (by decide)) (k 47 (by decide)) (k 48 (by decide))⟩
theorem WGk.congr {s : Nat → Int} {m m2 : Nat → Nat → Int} (h : WGk s m) (h8 : m2 28 = m 28) (h9 : m2 29 = m 29) : WGk s m2 := fun p hp => by rw [h8, h9]; exact h p hp
theorem posb_all {s : Nat → Int} (h : pChief s ≠ -1) : b1 (allN (fun q => !(pMk s q == 1 && pGone s q)) (pC s)) = b1 (posb s) := by
  unfold posb anyGone
  simp [h]
theorem posb_no {s : Nat → Int} (h : pChief s = -1) : posb s = false := by
  unfold posb
  simp [h]
theorem sp_gather {w : List KD} {m : Nat → Nat → Int} (s : Nat → Int) (hV : VS s) (hB : CB s m) (hW : WGk s m) : Sp M_X8_gather 3 0 0 [rV 52, rV 1, rV 25, iV (pChief s)] (WC ++ w, m) (fun r h => r = none ∧ ∃ m2, h = (WC ++ w, m2) ∧ WN s m2 ∧ m2 52 0 = 1 ∧ (∀ a, (a < 52 ∨ 56 < a) → m2 a = m a)) := by
  refine Sp.ofG (ls := [rV 52, rV 1, rV 25, iV (pChief s), uV]) (by decide +kernel) rfl (Nat.le_of_ble_eq_true rfl) ?_
  have hC := pC_le hV
  have hN := hV.N
  have hT := hV.T
  have hSc := hV.Sc
  have hcr := pChief_rng s
  have L2 : ∀ p : Nat, p ≤ pC s → ∀ m1, pChief s ≠ -1 → GS s p m1 → m1 52 0 = 1 → (∀ a, (a < 52 ∨ 56 < a) → m1 a = m a) → G M_X8_gather 3 0 0 89 [rV 52, rV 1, rV 25, iV (pChief s), iV (p : Int)] [] (WC ++ w, m1) (fun r h => r = none ∧ ∃ m2, h = (WC ++ w, m2) ∧ WN s m2 ∧ m2 52 0 = 1 ∧ (∀ a, (a < 52 ∨ 56 < a) → m2 a = m a)) := by
    refine loop_up (pC s) _ ?_
    intro p hp ih m1 hch hG h0 hfr
    refine G_iload d_X8_gather_89 rfl ?_
    refine G_aload_n d_X8_gather_91 rfl ?_
    refine G_getIe (v := (pC s : Int)) (fl_X8_22.r) d_X8_gather_92 (wk_52 _) rfl (hG.2.1) ?_
    refine G_icmp_ge 112 d_X8_gather_95 (by decide) (by omega) (by omega) (fun c95 => ?_) (fun c95 => ?_)
    · refine G_vret (mc := 0) (ms := 0) (st := []) d_X8_gather_112 rfl ?_
      have hpe : p = pC s := by omega
      rw [hpe] at hG
      obtain ⟨g1, g2, g3, g4, g5, g6, g7, g8⟩ := hG
      exact ⟨rfl, m1, rfl, ⟨g1, g4.trans (posb_all hch), fun _ => ⟨g3, g5, g6, g7, otl s (pC s), List.Perm.refl _, g8⟩⟩, h0, hfr⟩
    · refine G_aload_n d_X8_gather_98 rfl ?_
      refine G_aload_n d_X8_gather_99 rfl ?_
      refine G_aload_n d_X8_gather_100 rfl ?_
      refine G_iload d_X8_gather_101 rfl ?_
      refine G_callV3 cl_X8_58 rfl d_X8_gather_103 (wk_52 _) (Nat.le_of_ble_eq_true rfl) (by decide) (sp_sort s hV (hB.far (by omega) (fun a ha => hfr a (by omega))) (hW.congr (hfr 28 (by decide)) (hfr 29 (by decide))) p (by omega) hG) ?_
      rintro _ _ ⟨rfl, m2, rfl, h2, hf2, hk2⟩
      refine G_iinc d_X8_gather_106 rfl (by decide) rfl ?_
      refine G_goto 89 d_X8_gather_109 (by decide) ?_
      exact ih (by omega) m2 hch h2 (hk2.trans h0) (fun a ha => (hf2 a (by omega) (by omega) (by omega) (by omega)).trans (hfr a ha))
  have L1 : ∀ k : Nat, k ≤ pN s → ∀ m1, pChief s ≠ -1 → (∀ j, j < k → m1 53 j = pCh s (pChief s).toNat j) → m1 52 0 = 1 → m1 52 1 = 1 → m1 52 2 = (pN s : Int) → m1 52 3 = (pC s : Int) → m1 52 6 = 0 → (∀ j, j < 5 → m1 54 j = 0) → (∀ a, (a < 52 ∨ 56 < a) → m1 a = m a) → G M_X8_gather 3 0 0 57 [rV 52, rV 1, rV 25, iV (pChief s), iV (k : Int)] [] (WC ++ w, m1) (fun r h => r = none ∧ ∃ m2, h = (WC ++ w, m2) ∧ WN s m2 ∧ m2 52 0 = 1 ∧ (∀ a, (a < 52 ∨ 56 < a) → m2 a = m a)) := by
    refine loop_up (pN s) _ ?_
    intro k hk ih m1 hch hz h0 h1 h2 h3 h6 h54 hfr
    refine G_iload d_X8_gather_57 rfl ?_
    refine G_aload_n d_X8_gather_59 rfl ?_
    have hcr := pChief_rng s
    refine G_getIe (v := (pN s : Int)) (fl_X8_18.r) d_X8_gather_60 (wk_52 _) rfl (h2) ?_
    refine G_icmp_ge 86 d_X8_gather_63 (by decide) (by omega) (by omega) (fun c63 => ?_) (fun c63 => ?_)
    · refine G_iconst d_X8_gather_86 ?_
      refine G_istore d_X8_gather_87 (by decide) rfl ?_
      have hke : k = pN s := by omega
      rw [hke] at hz
      exact L2 0 (by omega) m1 hch ⟨h2, h3, hz, h1, fun j hj => h54 j (by omega), fun q hq => absurd hq (by omega), h6, fun i q hq => absurd hq (by simp [otl])⟩ h0 hfr
    · refine G_aload_n d_X8_gather_66 rfl ?_
      refine G_getR (r := 53) (fl_X8_25.r) d_X8_gather_67 (wk_52 _) rfl rfl ?_
      refine G_iload d_X8_gather_70 rfl ?_
      refine G_aload_n d_X8_gather_72 rfl ?_
      refine G_iload_n d_X8_gather_73 rfl ?_
      refine G_iload d_X8_gather_74 rfl ?_
      have h9 := sp_Cch (w := w) (m := m1) s hV (hB.2.2.1.keep (hfr 25 (by decide)) (hfr 26 (by decide)) (hfr 27 (by decide))) (pChief s).toNat k (by omega) (by omega)
      rw [show (((pChief s).toNat : Nat) : Int) = pChief s by omega] at h9
      refine G_callV2 cl_X8_54 rfl d_X8_gather_76 (wk_25 _) (Nat.le_of_ble_eq_true rfl) (by decide) (h9) ?_
      rintro _ _ ⟨rfl, rfl⟩
      refine G_iastj (k) d_X8_gather_79 (wk_53 _) (by omega) (by omega) (by decide) ?_
      refine G_iinc d_X8_gather_80 rfl (by decide) rfl ?_
      refine G_goto 57 d_X8_gather_83 (by decide) ?_
      exact ih (by omega) _ hch (fun j hj => by
        by_cases e : j = k
        · rw [e, upm_same]
        · rw [upm_ne _ _ (fun _ => e)]; exact hz j (by omega)) (by rw [upm_off _ _ (by decide)]; exact h0) (by rw [upm_off _ _ (by decide)]; exact h1) (by rw [upm_off _ _ (by decide)]; exact h2) (by rw [upm_off _ _ (by decide)]; exact h3) (by rw [upm_off _ _ (by decide)]; exact h6) (fun j hj => by rw [upm_off _ _ (by decide)]; exact h54 j hj) (fun a ha => by rw [upm_off _ _ (by omega)]; exact hfr a ha)
  refine G_aload_n d_X8_gather_0 rfl ?_
  refine G_iconst d_X8_gather_1 ?_
  refine G_putZ fl_X8_9 d_X8_gather_2 (wk_52 _) rfl (by omega) ?_
  refine G_aload_n d_X8_gather_5 rfl ?_
  refine G_aload_n d_X8_gather_6 rfl ?_
  refine G_getIe (v := (pN s : Int)) (fl_X8_42.r) d_X8_gather_7 (wk_1 _) rfl ((by rw [upm_off _ _ (by decide)]; exact hB.1.1)) ?_
  refine G_putII fl_X8_18 d_X8_gather_10 (wk_52 _) rfl ?_
  refine G_aload_n d_X8_gather_13 rfl ?_
  refine G_aload_n d_X8_gather_14 rfl ?_
  refine G_getIe (v := (pC s : Int)) (fl_X8_45.r) d_X8_gather_15 (wk_25 _) rfl ((by rw [upm_off _ _ (by decide), upm_off _ _ (by decide)]; exact hB.2.2.1.1)) ?_
  refine G_putII fl_X8_22 d_X8_gather_18 (wk_52 _) rfl ?_
  refine G_aload_n d_X8_gather_21 rfl ?_
  refine G_iload_n d_X8_gather_22 rfl ?_
  refine G_iconst d_X8_gather_23 ?_
  refine G_icmp_eq 31 d_X8_gather_24 (by decide) (by omega) (by omega) (fun c24 => ?_) (fun c24 => ?_)
  · refine G_iconst d_X8_gather_31 ?_
    refine G_putZ fl_X8_15 d_X8_gather_32 (wk_52 _) rfl (by omega) ?_
    refine G_aload_n d_X8_gather_35 rfl ?_
    refine G_iconst d_X8_gather_36 ?_
    refine G_putII fl_X8_32 d_X8_gather_37 (wk_52 _) rfl ?_
    refine G_aload_n d_X8_gather_40 rfl ?_
    refine G_getR (r := 54) (fl_X8_29.r) d_X8_gather_41 (wk_52 _) rfl rfl ?_
    refine G_iconst d_X8_gather_44 ?_
    refine G_callS2 cl_X8_48 d_X8_gather_45 (Nat.le_of_ble_eq_true rfl) (by decide) (sp_fillI (wk_54 _) (by decide)) ?_
    rintro _ _ ⟨rfl, rfl⟩
    refine G_iload_n d_X8_gather_48 rfl ?_
    refine G_iconst d_X8_gather_49 ?_
    refine G_icmp_ne 54 d_X8_gather_50 (by decide) (by omega) (by omega) (fun c50 => ?_) (fun c50 => ?_)
    · omega
    · refine G_vret (mc := 0) (ms := 0) (st := []) d_X8_gather_53 rfl ?_
      exact ⟨rfl, _, rfl, ⟨by rw [flm_off _ _ _ _ (by decide), upm_ne _ _ (fun _ => by decide), upm_ne _ _ (fun _ => by decide), upm_ne _ _ (fun _ => by decide), upm_same], by rw [flm_off _ _ _ _ (by decide), upm_ne _ _ (fun _ => by decide), upm_same, posb_no c24]; rfl, fun h => absurd c24 h⟩, by rw [flm_off _ _ _ _ (by decide), upm_ne _ _ (fun _ => by decide), upm_ne _ _ (fun _ => by decide), upm_ne _ _ (fun _ => by decide), upm_ne _ _ (fun _ => by decide), upm_same], fun a ha => by rw [flm_off _ _ _ _ (by omega), upm_off _ _ (by omega), upm_off _ _ (by omega), upm_off _ _ (by omega), upm_off _ _ (by omega), upm_off _ _ (by omega)]⟩
  · refine G_iconst d_X8_gather_27 ?_
    refine G_goto 32 d_X8_gather_28 (by decide) ?_
    refine G_putZ fl_X8_15 d_X8_gather_32 (wk_52 _) rfl (by omega) ?_
    refine G_aload_n d_X8_gather_35 rfl ?_
    refine G_iconst d_X8_gather_36 ?_
    refine G_putII fl_X8_32 d_X8_gather_37 (wk_52 _) rfl ?_
    refine G_aload_n d_X8_gather_40 rfl ?_
    refine G_getR (r := 54) (fl_X8_29.r) d_X8_gather_41 (wk_52 _) rfl rfl ?_
    refine G_iconst d_X8_gather_44 ?_
    refine G_callS2 cl_X8_48 d_X8_gather_45 (Nat.le_of_ble_eq_true rfl) (by decide) (sp_fillI (wk_54 _) (by decide)) ?_
    rintro _ _ ⟨rfl, rfl⟩
    refine G_iload_n d_X8_gather_48 rfl ?_
    refine G_iconst d_X8_gather_49 ?_
    refine G_icmp_ne 54 d_X8_gather_50 (by decide) (by omega) (by omega) (fun c50 => ?_) (fun c50 => ?_)
    · refine G_iconst d_X8_gather_54 ?_
      refine G_istore d_X8_gather_55 (by decide) rfl ?_
      exact L1 0 (by omega) _ c24 (fun j hj => absurd hj (by omega)) (by rw [flm_off _ _ _ _ (by decide), upm_ne _ _ (fun _ => by decide), upm_ne _ _ (fun _ => by decide), upm_ne _ _ (fun _ => by decide), upm_ne _ _ (fun _ => by decide), upm_same]) (by rw [flm_off _ _ _ _ (by decide), upm_ne _ _ (fun _ => by decide), upm_same]) (by rw [flm_off _ _ _ _ (by decide), upm_ne _ _ (fun _ => by decide), upm_ne _ _ (fun _ => by decide), upm_ne _ _ (fun _ => by decide), upm_same]) (by rw [flm_off _ _ _ _ (by decide), upm_ne _ _ (fun _ => by decide), upm_ne _ _ (fun _ => by decide), upm_same]) (by rw [flm_off _ _ _ _ (by decide), upm_same]) (fun j hj => by rw [flm_in _ _ (by omega) hj]) (fun a ha => by rw [flm_off _ _ _ _ (by omega), upm_off _ _ (by omega), upm_off _ _ (by omega), upm_off _ _ (by omega), upm_off _ _ (by omega), upm_off _ _ (by omega)])
    · omega
theorem WA.rng {s : Nat → Int} {m : Nat → Nat → Int} (h : WA s m) : 0 ≤ m 52 0 ∧ m 52 0 ≤ 1 := by rcases h with h | h <;> omega
/-- searches may change what they keep; told things, states stand -/
def FSe (m m2 : Nat → Nat → Int) : Prop := (∀ a, a ≠ 25 → a ≠ 28 → a ≠ 29 → (a < 30 ∨ 49 < a) → (a < 52 ∨ 63 < a) → m2 a = m a) ∧ (∀ j, j ≠ 1 → m2 25 j = m 25 j) ∧ (m 25 1 = 1 → m2 25 1 = 1)
theorem FSe.refl (m : Nat → Nat → Int) : FSe m m := ⟨fun _ _ _ _ _ _ => rfl, fun _ _ => rfl, fun h => h⟩
theorem FSe.trans {m m1 m2 : Nat → Nat → Int} (h : FSe m m1) (k : FSe m1 m2) : FSe m m2 := ⟨fun a h1 h2 h3 h4 h5 => (k.1 a h1 h2 h3 h4 h5).trans (h.1 a h1 h2 h3 h4 h5), fun j h1 => (k.2.1 j h1).trans (h.2.1 j h1), fun h1 => k.2.2 (h.2.2 h1)⟩
theorem FBs.se {m m2 : Nat → Nat → Int} (h : FBs m m2) : FSe m m2 := ⟨fun a h1 h2 h3 h4 _ => h.1 a h1 h2 h3 h4, h.2⟩
theorem FSe.of {m m2 : Nat → Nat → Int} (k : ∀ a, (a < 52 ∨ 63 < a) → m2 a = m a) : FSe m m2 := ⟨fun a _ _ _ _ h => k a h, fun j _ => by rw [k 25 (by decide)], fun h => by rw [k 25 (by decide)]; exact h⟩
theorem ST.se {s : Nat → Int} {m m2 : Nat → Nat → Int} (h : ST s m) (k : FSe m m2) : ST s m2 := h.keep (by rw [k.1 0 (by decide) (by decide) (by decide) (by decide) (by decide)]) (k.1 50 (by decide) (by decide) (by decide) (by decide) (by decide))
theorem FW.keep {s : Nat → Int} {m m2 : Nat → Nat → Int} (h : FW s m) (h7 : m2 57 = m 57) (h8 : m2 58 = m 58) : FW s m2 := by
  unfold FW FN
  rw [h7, h8]
  exact h
theorem CG.keep {s : Nat → Int} {m m2 : Nat → Nat → Int} (h : CG s m) (h0 : m2 60 = m 60) (h1 : m2 61 = m 61) : CG s m2 := by
  unfold CG GN
  rw [h0, h1]
  exact h
theorem WN.keep {s : Nat → Int} {m m2 : Nat → Nat → Int} (h : WN s m) (k : ∀ a, 52 ≤ a → a ≤ 56 → m2 a = m a) : WN s m2 := by
  unfold WN LM at *
  rw [k 52 (by decide) (by decide), k 53 (by decide) (by decide), k 54 (by decide) (by decide), k 55 (by decide) (by decide), k 56 (by decide) (by decide)]
  exact h
theorem sp_CgatherWants {w : List KD} {m : Nat → Nat → Int} (s : Nat → Int) (hV : VS s) (hI : CI s m) : Sp M_X9_gatherWants 4 0 0 [rV 0] (WC ++ w, m) (fun r h => r = none ∧ ∃ m2, h = (WC ++ w, m2) ∧ CI s m2 ∧ FSe m m2 ∧ WN s m2 ∧ m2 52 0 = 1 ∧ m2 25 1 = 1 ∧ m2 57 = m 57 ∧ m2 60 = m 60) := by
  refine Sp.ofG (ls := [rV 0]) (by decide +kernel) rfl (Nat.le_of_ble_eq_true rfl) ?_
  have hC := pC_le hV
  have hN := hV.N
  have hT := hV.T
  have hSc := hV.Sc
  have hwr := hI.2.2.1.rng
  refine G_aload_n d_X9_gatherWants_0 rfl ?_
  refine G_getR (r := 52) (fl_X9_79.r) d_X9_gatherWants_1 (wk_0 _) rfl rfl ?_
  refine G_getIe (fl_X9_423.r) d_X9_gatherWants_4 (wk_52 _) rfl (show _ = m 52 0 from rfl) ?_
  refine G_if_ne 33 d_X9_gatherWants_7 (by decide) (by omega) (fun c7 => ?_) (fun c7 => ?_)
  · refine G_vret (mc := 0) (ms := 0) (st := []) d_X9_gatherWants_33 rfl ?_
    rcases hI.2.2.1 with h | h
    · omega
    · exact ⟨rfl, m, rfl, hI, FSe.refl m, h.2.1, h.1, h.2.2, rfl, rfl⟩
  · refine G_aload_n d_X9_gatherWants_10 rfl ?_
    refine G_callV0 cl_X9_276 rfl d_X9_gatherWants_11 (wk_0 _) (Nat.le_of_ble_eq_true rfl) (by decide) (sp_CweighPaths s hV hI.1) ?_
    rintro _ _ ⟨rfl, m1, rfl, hB1, hF1, hK1, -, hk1⟩
    have hI1 := hI.fb hB1 hF1
    refine G_aload_n d_X9_gatherWants_14 rfl ?_
    refine G_getR (r := 52) (fl_X9_79.r) d_X9_gatherWants_15 (wk_0 _) rfl rfl ?_
    refine G_aload_n d_X9_gatherWants_18 rfl ?_
    refine G_getR (r := 1) (fl_X9_12.r) d_X9_gatherWants_19 (wk_0 _) rfl rfl ?_
    refine G_aload_n d_X9_gatherWants_22 rfl ?_
    refine G_getR (r := 25) (fl_X9_43.r) d_X9_gatherWants_23 (wk_0 _) rfl rfl ?_
    refine G_aload_n d_X9_gatherWants_26 rfl ?_
    refine G_getIe (v := pChief s) (fl_X9_47.r) d_X9_gatherWants_27 (wk_0 _) rfl (hB1.2.2.2.1) ?_
    refine G_callV3 cl_X9_426 rfl d_X9_gatherWants_30 (wk_52 _) (Nat.le_of_ble_eq_true rfl) (by decide) (sp_gather s hV hB1 hK1) ?_
    rintro _ _ ⟨rfl, m2, rfl, h2, hk2, hf2⟩
    refine G_vret (mc := 0) (ms := 0) (st := []) d_X9_gatherWants_33 rfl ?_
    have hF : FSe m m2 := hF1.se.trans (FSe.of (fun a ha => hf2 a (by omega)))
    refine ⟨rfl, m2, rfl, ⟨hB1.far (by omega) (fun a ha => hf2 a (by omega)), hI.2.1.se hF, Or.inr ⟨hk2, h2, by rw [hf2 25 (by decide)]; exact hk1⟩, hI1.2.2.2.1.keep (hf2 57 (by decide)) (hf2 58 (by decide)), hI1.2.2.2.2.keep (hf2 60 (by decide)) (hf2 61 (by decide))⟩, hF, h2, hk2, by rw [hf2 25 (by decide)]; exact hk1, (hf2 57 (by decide)).trans (hF1.1 57 (by decide) (by decide) (by decide) (by decide)), (hf2 60 (by decide)).trans (hF1.1 60 (by decide) (by decide) (by decide) (by decide))⟩
theorem otl_cnt (s : Nat → Int) (L : Nat → Bool) : ∀ n : Nat, (otl s n).countP L = cntB (fun p => pOther s p && L p) n
  | 0 => by simp [otl, cntB]
  | n + 1 => by
    by_cases h : pOther s n = true
    · rw [otl_t h, List.countP_append, otl_cnt s L n]
      by_cases h2 : L n = true
      · rw [cntB_t (f := fun p => pOther s p && L p) (by simp [h, h2])]; simp [h2]
      · rw [cntB_f (f := fun p => pOther s p && L p) (by simp [h2])]; simp [h2]
    · rw [otl_f h, otl_cnt s L n, cntB_f (f := fun p => pOther s p && L p) (by simp [h])]
theorem sp_countLeft {w : List KD} {m : Nat → Nat → Int} (s : Nat → Int) (hV : VS s) (hB : CB s m) (hWN : WN s m) (hch : pChief s ≠ -1) (N : Nat → Nat) (hN1 : ∀ k, k < pN s → m 51 k = (N k : Int) ∧ 1 ≤ N k ∧ N k ≤ 12) : Sp M_X8_countLeft 2 0 0 [rV 52, rV 25, rV 51] (WC ++ w, m) (fun r h => r = some (iV (cntB (fun p => pOther s p && lft s N p) (pC s) : Nat)) ∧ h = (WC ++ w, m)) := by
  refine Sp.ofG (ls := [rV 52, rV 25, rV 51, uV, uV, uV, uV]) (by decide +kernel) rfl (Nat.le_of_ble_eq_true rfl) ?_
  have hC := pC_le hV
  have hN := hV.N
  have hT := hV.T
  have hSc := hV.Sc
  obtain ⟨hH, -, -, hlen, l, hperm, hLl⟩ := hWN.2.2 hch
  have hll : l.length = (otl s (pC s)).length := hperm.length_eq
  have hol := otl_le s (pC s)
  have L : ∀ i : Nat, i ≤ l.length → ∀ u5 u6 : PV, G M_X8_countLeft 2 0 0 5 [rV 52, rV 25, rV 51, iV (((l.take i).countP (lft s N) : Nat) : Int), iV (i : Int), u5, u6] [] (WC ++ w, m) (fun r h => r = some (iV (cntB (fun p => pOther s p && lft s N p) (pC s) : Nat)) ∧ h = (WC ++ w, m)) := by
    refine loop_up l.length _ ?_
    intro i hi9 ih u5 u6
    by_cases hil : i < l.length
    · obtain ⟨q, hq⟩ : ∃ q, l[i]? = some q := ⟨l[i], List.getElem?_eq_getElem hil⟩
      have hqC : q < pC s := (otl_mem (hperm.mem_iff.mp (List.mem_of_getElem? hq))).1
      have htk : l.take (i + 1) = l.take i ++ [q] := by rw [List.take_add_one, hq]; rfl
      have L2 : ∀ k : Nat, k ≤ pN s → G M_X8_countLeft 2 0 0 20 [rV 52, rV 25, rV 51, iV (((l.take i).countP (lft s N) : Nat) : Int), iV (i : Int), iV (if allN (fun k => gapD s q k % (N k : Int) == 0) k = true then 1 else 0), iV (k : Int)] [] (WC ++ w, m) (fun r h => r = some (iV (cntB (fun p => pOther s p && lft s N p) (pC s) : Nat)) ∧ h = (WC ++ w, m)) := by
        refine loop_up (pN s) _ ?_
        intro k hk ih2
        refine G_iload d_X8_countLeft_20 rfl ?_
        refine G_aload_n d_X8_countLeft_22 rfl ?_
        refine G_getIe (v := (pN s : Int)) (fl_X8_18.r) d_X8_countLeft_23 (wk_52 _) rfl (hWN.1) ?_
        refine G_icmp_ge 69 d_X8_countLeft_26 (by decide) (by omega) (by omega) (fun c26 => ?_) (fun c26 => ?_)
        · by_cases hi2 : allN (fun k => gapD s q k % (N k : Int) == 0) k = true
          · rw [if_pos hi2]
            refine G_iload d_X8_countLeft_69 rfl ?_
            refine G_if_eq 77 d_X8_countLeft_71 (by decide) (by decide) (fun hd => absurd hd (by decide)) (fun _ => ?_)
            refine G_iinc d_X8_countLeft_74 rfl (by decide) rfl ?_
            refine G_iinc d_X8_countLeft_77 rfl (by decide) rfl ?_
            refine G_goto 5 d_X8_countLeft_80 (by decide) ?_
            have hlf : lft s N q = true := by
              have hke : k = pN s := by omega
              rw [hke] at hi2
              exact hi2
            rw [htk, List.countP_append] at ih
            simp [hlf] at ih
            exact G.fg (ih (by omega) _ _) (by
              repeat (first | exact trivial | refine wkL_cons (Or.inl rfl) ?_ | refine wkL_cons (Or.inr rfl) ?_))
          · rw [if_neg hi2]
            refine G_iload d_X8_countLeft_69 rfl ?_
            refine G_if_eq 77 d_X8_countLeft_71 (by decide) (by decide) (fun _ => ?_) (fun hd => absurd hd (by decide))
            refine G_iinc d_X8_countLeft_77 rfl (by decide) rfl ?_
            refine G_goto 5 d_X8_countLeft_80 (by decide) ?_
            have hlf : ¬ lft s N q = true := fun h => hi2 (allN_true (fun j hj => allN_of h j (by omega)))
            rw [htk, List.countP_append] at ih
            simp [hlf] at ih
            exact G.fg (ih (by omega) _ _) (by
              repeat (first | exact trivial | refine wkL_cons (Or.inl rfl) ?_ | refine wkL_cons (Or.inr rfl) ?_))
        · by_cases hi : allN (fun k => gapD s q k % (N k : Int) == 0) k = true
          · rw [if_pos hi]
            refine G_iload d_X8_countLeft_29 rfl ?_
            refine G_if_eq 69 d_X8_countLeft_31 (by decide) (by decide) (fun hd => absurd hd (by decide)) (fun _ => ?_)
            refine G_aload_n d_X8_countLeft_34 rfl ?_
            refine G_aload_n d_X8_countLeft_35 rfl ?_
            refine G_aload_n d_X8_countLeft_36 rfl ?_
            refine G_getR (r := 55) (fl_X8_35.r) d_X8_countLeft_37 (wk_52 _) rfl rfl ?_
            refine G_iload d_X8_countLeft_40 rfl ?_
            refine G_ialdj (i) d_X8_countLeft_42 (wk_55 _) (by omega) (by omega) (by decide) ?_
            rw [hLl i q hq]
            refine G_iload d_X8_countLeft_43 rfl ?_
            refine G_callV3 cl_X8_69 rfl d_X8_countLeft_45 (wk_52 _) (Nat.le_of_ble_eq_true rfl) (by decide) (sp_gap s hV hB.2.2.1 hH q k hqC (by omega)) ?_
            rintro _ _ ⟨rfl, rfl⟩
            have hgr := gapD_rng hV q k
            have hNk := hN1 k (by omega)
            refine G_aload_n d_X8_countLeft_48 rfl ?_
            refine G_iload d_X8_countLeft_49 rfl ?_
            refine G_ialdj (k) d_X8_countLeft_51 (wk_51 _) (by omega) (by omega) (by decide) ?_
            rw [(hN1 k (by omega)).1]
            refine G_irem d_X8_countLeft_52 (by omega) (by omega) (by omega) ?_
            have htm := tmod_b (x := gapD s q k) (y := (N k : Int)) (B := 12) hgr
            refine G_if_ne 60 d_X8_countLeft_53 (by decide) (by omega) (fun c53 => ?_) (fun c53 => ?_)
            · refine G_iconst d_X8_countLeft_60 ?_
              refine G_istore d_X8_countLeft_61 (by decide) rfl ?_
              refine G_iinc d_X8_countLeft_63 rfl (by decide) rfl ?_
              refine G_goto 20 d_X8_countLeft_66 (by decide) ?_
              rw [show (if allN (fun k => gapD s q k % (N k : Int) == 0) (k + 1) = true then (1 : Int) else 0) = 0 by rw [if_neg (allN_n1 (by simpa using fun h => c53 (tm0.mpr h)))]] at ih2
              exact ih2 (by omega)
            · refine G_iconst d_X8_countLeft_56 ?_
              refine G_goto 61 d_X8_countLeft_57 (by decide) ?_
              refine G_istore d_X8_countLeft_61 (by decide) rfl ?_
              refine G_iinc d_X8_countLeft_63 rfl (by decide) rfl ?_
              refine G_goto 20 d_X8_countLeft_66 (by decide) ?_
              rw [show (if allN (fun k => gapD s q k % (N k : Int) == 0) (k + 1) = true then (1 : Int) else 0) = 1 by rw [if_pos (allN_s hi (by simpa using tm0.mp c53))]] at ih2
              exact ih2 (by omega)
          · rw [if_neg hi]
            refine G_iload d_X8_countLeft_29 rfl ?_
            refine G_if_eq 69 d_X8_countLeft_31 (by decide) (by decide) (fun _ => ?_) (fun hd => absurd hd (by decide))
            refine G_iload d_X8_countLeft_69 rfl ?_
            refine G_if_eq 77 d_X8_countLeft_71 (by decide) (by decide) (fun _ => ?_) (fun hd => absurd hd (by decide))
            refine G_iinc d_X8_countLeft_77 rfl (by decide) rfl ?_
            refine G_goto 5 d_X8_countLeft_80 (by decide) ?_
            have hlf : ¬ lft s N q = true := fun h => hi (allN_true (fun j hj => allN_of h j (by omega)))
            rw [htk, List.countP_append] at ih
            simp [hlf] at ih
            exact G.fg (ih (by omega) _ _) (by
              repeat (first | exact trivial | refine wkL_cons (Or.inl rfl) ?_ | refine wkL_cons (Or.inr rfl) ?_))
      refine G_iload d_X8_countLeft_5 rfl ?_
      refine G_aload_n d_X8_countLeft_7 rfl ?_
      refine G_getIe (v := (l.length : Int)) (fl_X8_32.r) d_X8_countLeft_8 (wk_52 _) rfl ((by rw [hlen, hll])) ?_
      refine G_icmp_ge 83 d_X8_countLeft_11 (by decide) (by omega) (by omega) (fun c11 => ?_) (fun c11 => ?_)
      · omega
      · refine G_iconst d_X8_countLeft_14 ?_
        refine G_istore d_X8_countLeft_15 (by decide) rfl ?_
        refine G_iconst d_X8_countLeft_17 ?_
        refine G_istore d_X8_countLeft_18 (by decide) rfl ?_
        exact L2 0 (by omega)
    · have hie : i = l.length := by omega
      subst hie
      refine G_iload d_X8_countLeft_5 rfl ?_
      refine G_aload_n d_X8_countLeft_7 rfl ?_
      refine G_getIe (v := (l.length : Int)) (fl_X8_32.r) d_X8_countLeft_8 (wk_52 _) rfl ((by rw [hlen, hll])) ?_
      refine G_icmp_ge 83 d_X8_countLeft_11 (by decide) (by omega) (by omega) (fun c11 => ?_) (fun c11 => ?_)
      · refine G_iload_n d_X8_countLeft_83 rfl ?_
        refine G_iret (mc := 0) (ms := 0) (st := []) d_X8_countLeft_84 rfl ?_
        exact ⟨by rw [List.take_length, hperm.countP_eq, otl_cnt], rfl⟩
      · omega
  refine G_iconst d_X8_countLeft_0 ?_
  refine G_istore_n d_X8_countLeft_1 (by decide) rfl ?_
  refine G_iconst d_X8_countLeft_2 ?_
  refine G_istore d_X8_countLeft_3 (by decide) rfl ?_
  exact L 0 (by omega) uV uV
