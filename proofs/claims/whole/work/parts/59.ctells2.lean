theorem AS_sU {s : Nat → Int} {j : Nat} {x : Int} (h : j = 3 ∨ (49 ≤ j ∧ j < 227)) : AS s (sU s j x) :=
  ⟨⟨sU_ne _ _ (by omega), sU_ne _ _ (by omega), fun k hk => sU_ne _ _ (by omega)⟩, sU_ne _ _ (by omega), fun k hk => sU_ne _ _ (by omega), fun k hk => sU_ne _ _ (by omega), fun p => sU_ne _ _ (by omega)⟩
theorem CFo.len {s : Nat → Int} {m : Nat → Nat → Int} (h : CFo s m) {i : Nat} (hi : i < 4) {b : Int} (hb : 1 ≤ b) : CFo (sU s (49 + i) (b - 1)) (upm m 7 i b) := by
  obtain ⟨⟨g1, g2, g3, g4, g5⟩, g6⟩ := h
  refine ⟨⟨?_, fun j hj => ?_, fun j hj => ?_, fun j hj => ?_, fun j hj => ?_⟩, ?_⟩
  · rw [upm_off _ _ (by decide)]; unfold pT; rw [sU_ne _ _ (by omega)]; exact g1
  · unfold pL
    by_cases e : j = i
    · rw [e, upm_same, sU_at]; omega
    · rw [upm_ne _ _ (fun _ => e), sU_ne _ _ (by omega)]; exact g2 j hj
  · rw [upm_off _ _ (by decide), sU_ne _ _ (by omega)]; exact g3 j hj
  · rw [upm_off _ _ (by decide), sU_ne _ _ (by omega)]; exact g4 j hj
  · rw [upm_off _ _ (by decide)]; unfold pRL; rw [sU_ne _ _ (by omega)]; exact g5 j hj
  · rw [upm_off _ _ (by decide), sU_ne _ _ (by omega)]; exact g6
theorem CFo.stp {s : Nat → Int} {m : Nat → Nat → Int} (h : CFo s m) {i : Nat} (hi : i < 24) (c : Int) : CFo (sU s (53 + i) c) (upm m 8 i c) := by
  obtain ⟨⟨g1, g2, g3, g4, g5⟩, g6⟩ := h
  refine ⟨⟨?_, fun j hj => ?_, fun j hj => ?_, fun j hj => ?_, fun j hj => ?_⟩, ?_⟩
  · rw [upm_off _ _ (by decide)]; unfold pT; rw [sU_ne _ _ (by omega)]; exact g1
  · rw [upm_off _ _ (by decide)]; unfold pL; rw [sU_ne _ _ (by omega)]; exact g2 j hj
  · by_cases e : j = i
    · rw [e, upm_same, sU_at]
    · rw [upm_ne _ _ (fun _ => e), sU_ne _ _ (by omega)]; exact g3 j hj
  · rw [upm_off _ _ (by decide), sU_ne _ _ (by omega)]; exact g4 j hj
  · rw [upm_off _ _ (by decide)]; unfold pRL; rw [sU_ne _ _ (by omega)]; exact g5 j hj
  · rw [upm_off _ _ (by decide), sU_ne _ _ (by omega)]; exact g6
theorem CFo.fol {s : Nat → Int} {m : Nat → Nat → Int} (h : CFo s m) {x : Int} (hx : x = 0 ∨ x = 1) : CFo (sU s 3 (1 - x)) (upm m 6 1 x) := by
  obtain ⟨⟨g1, g2, g3, g4, g5⟩, g6⟩ := h
  refine ⟨⟨?_, fun j hj => ?_, fun j hj => ?_, fun j hj => ?_, fun j hj => ?_⟩, ?_⟩
  · rw [upm_ne _ _ (fun _ => by decide)]; unfold pT; rw [sU_ne _ _ (by omega)]; exact g1
  · rw [upm_off _ _ (by decide)]; unfold pL; rw [sU_ne _ _ (by omega)]; exact g2 j hj
  · rw [upm_off _ _ (by decide), sU_ne _ _ (by omega)]; exact g3 j hj
  · rw [upm_off _ _ (by decide), sU_ne _ _ (by omega)]; exact g4 j hj
  · rw [upm_off _ _ (by decide)]; unfold pRL; rw [sU_ne _ _ (by omega)]; exact g5 j hj
  · rw [upm_same, sU_at]
    rcases hx with rfl | rfl
    · rfl
    · rfl
theorem CFo.swp {s : Nat → Int} {m : Nat → Nat → Int} (h : CFo s m) {a b : Nat} (ha : a < 4) (hb : b < 4) : CFo (uSwap s a b) (exM m a b 6) := by
  obtain ⟨⟨g1, g2, g3, g4, g5⟩, g6⟩ := h
  have e6 : exM m a b 6 6 = m 6 := exM_off _ (by decide) (by decide)
  refine ⟨⟨?_, fun j hj => ?_, fun j hj => ?_, fun j hj => ?_, fun j hj => ?_⟩, ?_⟩
  · rw [e6]; unfold pT; rw [uSwap_off ha hb (by omega)]; exact g1
  · have l7 : exM m a b 6 7 j = if j = a then m 7 b else if j = b then m 7 a else m 7 j := by unfold exM; rw [if_pos rfl]
    rw [l7]
    unfold pL uSwap
    by_cases e : j = a
    · rw [if_pos e, if_pos (show 49 + j = 49 + a by omega)]; exact g2 b hb
    · rw [if_neg e, if_neg (show ¬ 49 + j = 49 + a by omega)]
      by_cases e2 : j = b
      · rw [if_pos e2, if_pos (show 49 + j = 49 + b by omega)]; exact g2 a ha
      · rw [if_neg e2, if_neg (show ¬ 49 + j = 49 + b by omega), if_neg (show ¬ (53 ≤ 49 + j ∧ 49 + j < 77 ∧ (49 + j - 53) % 4 = a) by omega), if_neg (show ¬ (53 ≤ 49 + j ∧ 49 + j < 77 ∧ (49 + j - 53) % 4 = b) by omega)]; exact g2 j hj
  · have l8 : exM m a b 6 8 j = if j < 4 * 6 ∧ j % 4 = a then m 8 (j - a + b) else if j < 4 * 6 ∧ j % 4 = b then m 8 (j - b + a) else m 8 j := by unfold exM; rw [if_neg (by decide), if_pos rfl]
    rw [l8]
    unfold uSwap
    rw [if_neg (show ¬ 53 + j = 49 + a by omega), if_neg (show ¬ 53 + j = 49 + b by omega)]
    by_cases e : j % 4 = a
    · rw [if_pos (show j < 4 * 6 ∧ j % 4 = a from ⟨by omega, e⟩), if_pos (show 53 ≤ 53 + j ∧ 53 + j < 77 ∧ (53 + j - 53) % 4 = a by omega), g3 (j - a + b) (by omega)]
      congr 1
      omega
    · rw [if_neg (show ¬ (j < 4 * 6 ∧ j % 4 = a) by omega), if_neg (show ¬ (53 ≤ 53 + j ∧ 53 + j < 77 ∧ (53 + j - 53) % 4 = a) by omega)]
      by_cases e2 : j % 4 = b
      · rw [if_pos (show j < 4 * 6 ∧ j % 4 = b from ⟨by omega, e2⟩), if_pos (show 53 ≤ 53 + j ∧ 53 + j < 77 ∧ (53 + j - 53) % 4 = b by omega), g3 (j - b + a) (by omega)]
        congr 1
        omega
      · rw [if_neg (show ¬ (j < 4 * 6 ∧ j % 4 = b) by omega), if_neg (show ¬ (53 ≤ 53 + j ∧ 53 + j < 77 ∧ (53 + j - 53) % 4 = b) by omega)]; exact g3 j hj
  · rw [exM_off _ (by decide) (by decide), uSwap_off ha hb (by omega)]; exact g4 j hj
  · rw [exM_off _ (by decide) (by decide)]; unfold pRL; rw [uSwap_off ha hb (by omega)]; exact g5 j hj
  · rw [e6, uSwap_off ha hb (by omega)]; exact g6
/-- the cycle told: only cells 6 to 10 before -/
theorem CI.told {s s2 : Nat → Int} {m m1 : Nat → Nat → Int} (h : CI s m) (hV : VS s) (a : AS s s2) (k : ∀ c, (c < 6 ∨ 10 < c) → m1 c = m c) (hC : CFo s2 m1) : CI s2 (cyT m1) ∧ FXo m (cyT m1) :=
  h.cyc hV a (fun c c0 c1 c2 => by rw [cyT_off _ c0 c2, k c c1]) (fun j hj => by rw [cyT_0 _ hj, k 0 (by decide)]) (hC.keep (fun c c1 c2 => cyT_off _ (by omega) (by omega))) (cyT_11 _) (cyT_30 _)
theorem AS_swap {s : Nat → Int} {a b : Nat} (ha : a < 4) (hb : b < 4) : AS s (uSwap s a b) :=
  ⟨⟨uSwap_off ha hb (by omega), uSwap_off ha hb (by omega), fun k hk => uSwap_off ha hb (by omega)⟩, uSwap_off ha hb (by omega), fun k hk => uSwap_off ha hb (by omega), fun k hk => uSwap_off ha hb (by omega), fun p => uSwap_off ha hb (by omega)⟩
/-- the cycle begun anew with T told -/
theorem CI.trn {s s2 : Nat → Int} {m m1 : Nat → Nat → Int} (h : CI s m) (hV : VS s) (a : AP s s2) (hg : ∀ k, k < 5 → s2 (9 + k) = s (9 + k)) (hw : ∀ i, i < 35 → s2 (14 + i) = s (14 + i)) (hm : ∀ p, s2 (227 + p) = s (227 + p)) (k : ∀ c, (c < 6 ∨ 10 < c) → m1 c = m c) (hC : CFo s2 m1) : CI s2 (seT (cyT m1)) ∧ FXo m (seT (cyT m1)) := by
  have e : ∀ c, c ≠ 0 → (c < 6 ∨ 10 < c) → c ≠ 30 → c ≠ 52 → c ≠ 57 → c ≠ 60 → seT (cyT m1) c = m c := fun c h0 h1 h2 h3 h4 h5 => by rw [seT_off _ h3 h4 h5, cyT_off _ h0 h2, k c h1]
  have e0 : ∀ j, j ≠ 11 → seT (cyT m1) 0 j = m 0 j := fun j hj => by rw [seT_off _ (by decide) (by decide) (by decide), cyT_0 _ hj, k 0 (by decide)]
  have h0 := h.1.1.keep (m2 := seT (cyT m1)) (fun c c1 c2 => e c (by omega) (by omega) (by omega) (by omega) (by omega) (by omega))
  exact ⟨⟨⟨⟨by rw [a.N]; exact h0.1, by rw [a.M]; exact h0.2.1, fun i hi => by rw [a.2.2 i hi]; exact h0.2.2.1 i hi, fun i hi => by rw [hg i hi]; exact h0.2.2.2.1 i hi, fun i hi => by rw [hw i hi]; exact h0.2.2.2.2.1 i hi, fun p hp => by rw [hm p]; exact h0.2.2.2.2.2 p hp⟩, hC.keep (fun c c1 c2 => by rw [seT_off _ (by omega) (by omega) (by omega), cyT_off _ (by omega) (by omega)]), a.cl hV (h.1.2.2.1.keep2 (by rw [e 25 (by decide) (by decide) (by decide) (by decide) (by decide) (by decide)]) (e 26 (by decide) (by decide) (by decide) (by decide) (by decide) (by decide)) (e 27 (by decide) (by decide) (by decide) (by decide) (by decide) (by decide))), by rw [e0 7 (by decide), a.chief hV (fun p _ => by rw [hm p])]; exact h.1.2.2.2.1, a.wgh hV hg hw (h.1.2.2.2.2.1.keep (by rw [e 25 (by decide) (by decide) (by decide) (by decide) (by decide) (by decide)]) (e 28 (by decide) (by decide) (by decide) (by decide) (by decide) (by decide)) (e 29 (by decide) (by decide) (by decide) (by decide) (by decide) (by decide))), Or.inl (by rw [seT_off _ (by decide) (by decide) (by decide)]; exact cyT_30 _), h.1.2.2.2.2.2.2.keep (e 46 (by decide) (by decide) (by decide) (by decide) (by decide) (by decide)) (e 47 (by decide) (by decide) (by decide) (by decide) (by decide) (by decide)) (e 48 (by decide) (by decide) (by decide) (by decide) (by decide) (by decide))⟩, Or.inl (by rw [seT_off _ (by decide) (by decide) (by decide)]; exact cyT_11 _), Or.inl (seT_52 _), Or.inl (seT_57 _), Or.inl (seT_60 _)⟩, fun c c1 c2 => e c (by omega) (by omega) (by omega) (by omega) (by omega) (by omega), e0 4 (by decide)⟩
theorem sp_Cturn {w : List KD} {m : Nat → Nat → Int} (s : Nat → Int) (hV : VS s) (hI : CI s m) (a : Int) (hra : -2147483648 ≤ a ∧ a < 2147483648) : Sp M_X9_turn 2 0 0 [rV 0, iV a] (WC ++ w, m) (fun r h => r = some (iV (vTurn a)) ∧ ∃ m2, h = (WC ++ w, m2) ∧ CI (nxTurn s a) m2 ∧ FXo m m2) := by
  refine Sp.ofG (ls := [rV 0, iV a]) (by decide +kernel) rfl (Nat.le_of_ble_eq_true rfl) ?_
  have hC := pC_le hV
  have hN := hV.N
  have hT := hV.T
  have hSc := hV.Sc
  refine G_iload_n d_X9_turn_0 rfl ?_
  refine G_iconst d_X9_turn_1 ?_
  refine G_icmp_lt 11 d_X9_turn_2 (by decide) (by omega) (by omega) (fun c2 => ?_) (fun c2 => ?_)
  · refine G_iconst d_X9_turn_11 ?_
    refine G_zret (mc := 0) (ms := 0) (st := []) d_X9_turn_12 rfl (by omega) ?_
    have hno : ¬ okTurn a := fun h => by obtain ⟨h1, h2⟩ := h; omega
    exact ⟨by unfold vTurn; rw [if_neg hno], m, rfl, by unfold nxTurn; rw [if_neg hno]; exact hI, FXo.refl m⟩
  · refine G_iload_n d_X9_turn_5 rfl ?_
    refine G_bipush d_X9_turn_6 (by decide) ?_
    refine G_icmp_le 13 d_X9_turn_8 (by decide) (by omega) (by omega) (fun c8 => ?_) (fun c8 => ?_)
    · refine G_aload_n d_X9_turn_13 rfl ?_
      refine G_getR (r := 6) (fl_X9_19.r) d_X9_turn_14 (wk_0 _) rfl rfl ?_
      refine G_iload_n d_X9_turn_17 rfl ?_
      refine G_putII fl_X9_123 d_X9_turn_18 (wk_6 _) rfl ?_
      refine G_aload_n d_X9_turn_21 rfl ?_
      refine G_getR (r := 6) (fl_X9_19.r) d_X9_turn_22 (wk_0 _) rfl rfl ?_
      refine G_callV0 cl_X9_105 rfl d_X9_turn_25 (wk_6 _) (Nat.le_of_ble_eq_true rfl) (by decide) (sp_cbegin) ?_
      rintro _ _ ⟨rfl, rfl⟩
      refine G_aload_n d_X9_turn_28 rfl ?_
      refine G_callV0 cl_X9_126 rfl d_X9_turn_29 (wk_0 _) (Nat.le_of_ble_eq_true rfl) (by decide) (sp_cycleTold) ?_
      rintro _ _ ⟨rfl, rfl⟩
      refine G_aload_n d_X9_turn_32 rfl ?_
      refine G_callV0 cl_X9_129 rfl d_X9_turn_33 (wk_0 _) (Nat.le_of_ble_eq_true rfl) (by decide) (sp_searchesTold) ?_
      rintro _ _ ⟨rfl, rfl⟩
      refine G_iconst d_X9_turn_36 ?_
      refine G_zret (mc := 0) (ms := 0) (st := []) d_X9_turn_37 rfl (by omega) ?_
      have hok : okTurn a := ⟨by omega, by omega⟩
      have hz : ∀ i, 49 ≤ i → i < 227 → uTurn s a i = 0 := fun i h1 h2 => by unfold uTurn; rw [if_neg (by omega), if_pos (by omega)]
      have es : ∀ i, i ≠ 2 → (i < 49 ∨ 227 ≤ i) → uTurn s a i = s i := fun i h1 h2 => by unfold uTurn; rw [if_neg h1, if_neg (by omega)]
      have hCF := CFo_clr (s2 := uTurn s a) (m := upm m 6 0 a) (by rw [upm_same]; unfold pT uTurn; rw [if_pos rfl]; omega) (by rw [upm_ne _ _ (fun _ => by decide), es 3 (by decide) (by decide)]; exact hI.1.2.1.2) hz
      obtain ⟨h2, hF2⟩ := hI.trn (s2 := uTurn s a) (m1 := cbM (upm m 6 0 a)) hV ⟨es 0 (by decide) (by decide), es 1 (by decide) (by decide), fun k hk => es _ (by omega) (by omega)⟩ (fun k hk => es _ (by omega) (by omega)) (fun k hk => es _ (by omega) (by omega)) (fun k => es _ (by omega) (by omega)) (fun c hc => by rw [cbM_off _ (by omega), upm_off _ _ (by omega)]) hCF
      exact ⟨by unfold vTurn; rw [if_pos hok], _, rfl, by unfold nxTurn; rw [if_pos hok]; exact h2, hF2⟩
    · refine G_iconst d_X9_turn_11 ?_
      refine G_zret (mc := 0) (ms := 0) (st := []) d_X9_turn_12 rfl (by omega) ?_
      have hno : ¬ okTurn a := fun h => by obtain ⟨h1, h2⟩ := h; omega
      exact ⟨by unfold vTurn; rw [if_neg hno], m, rfl, by unfold nxTurn; rw [if_neg hno]; exact hI, FXo.refl m⟩
theorem sp_Ccounter {w : List KD} {m : Nat → Nat → Int} (s : Nat → Int) (hV : VS s) (hI : CI s m) (a : Int) (hra : -2147483648 ≤ a ∧ a < 2147483648) (b : Int) (hrb : -2147483648 ≤ b ∧ b < 2147483648) : Sp M_X9_counter 1 0 0 [rV 0, iV a, iV b] (WC ++ w, m) (fun r h => r = some (iV (vCounter s a b)) ∧ ∃ m2, h = (WC ++ w, m2) ∧ CI (nxCounter s a b) m2 ∧ FXo m m2) := by
  refine Sp.ofG (ls := [rV 0, iV a, iV b]) (by decide +kernel) rfl (Nat.le_of_ble_eq_true rfl) ?_
  have hC := pC_le hV
  have hN := hV.N
  have hT := hV.T
  have hSc := hV.Sc
  refine G_iload_n d_X9_counter_0 rfl ?_
  refine G_callS1 cl_X9_132 d_X9_counter_1 (Nat.le_of_ble_eq_true rfl) (by decide) (sp_CisCounter a hra) ?_
  rintro _ _ ⟨rfl, rfl⟩
  by_cases ha : 0 ≤ a ∧ a < 4
  · rw [if_pos ha]
    obtain ⟨i, rfl⟩ : ∃ n : Nat, a = (n : Int) := ⟨a.toNat, by omega⟩
    refine G_if_eq 34 d_X9_counter_4 (by decide) (by decide) (fun hd => absurd hd (by decide)) (fun _ => ?_)
    refine G_iload_n d_X9_counter_7 rfl ?_
    refine G_iconst d_X9_counter_8 ?_
    refine G_icmp_lt 34 d_X9_counter_9 (by decide) (by omega) (by omega) (fun c9 => ?_) (fun c9 => ?_)
    · refine G_iconst d_X9_counter_34 ?_
      refine G_iret (mc := 0) (ms := 0) (st := []) d_X9_counter_35 rfl ?_
      have hno : ¬ okCounter s (i : Int) b := fun h => by obtain ⟨⟨h1, h2⟩, ⟨h3, h4⟩, h5⟩ := h; rw [show ((i : Int)).toNat = i from rfl] at h5; omega
      exact ⟨by unfold vCounter; rw [if_neg hno], m, rfl, by unfold nxCounter; rw [if_neg hno]; exact hI, FXo.refl m⟩
    · refine G_iload_n d_X9_counter_12 rfl ?_
      refine G_bipush d_X9_counter_13 (by decide) ?_
      refine G_icmp_gt 34 d_X9_counter_15 (by decide) (by omega) (by omega) (fun c15 => ?_) (fun c15 => ?_)
      · refine G_iconst d_X9_counter_34 ?_
        refine G_iret (mc := 0) (ms := 0) (st := []) d_X9_counter_35 rfl ?_
        have hno : ¬ okCounter s (i : Int) b := fun h => by obtain ⟨⟨h1, h2⟩, ⟨h3, h4⟩, h5⟩ := h; rw [show ((i : Int)).toNat = i from rfl] at h5; omega
        exact ⟨by unfold vCounter; rw [if_neg hno], m, rfl, by unfold nxCounter; rw [if_neg hno]; exact hI, FXo.refl m⟩
      · refine G_aload_n d_X9_counter_18 rfl ?_
        refine G_getR (r := 6) (fl_X9_19.r) d_X9_counter_19 (wk_0 _) rfl rfl ?_
        refine G_iload_n d_X9_counter_22 rfl ?_
        refine G_callV1 cl_X9_135 rfl d_X9_counter_23 (wk_6 _) (Nat.le_of_ble_eq_true rfl) (by decide) (sp_scansBut s hV hI.1.2.1.1 i (by omega)) ?_
        rintro _ _ ⟨rfl, rfl⟩
        have hoth := oth_rng hV (j := i) (by omega)
        have hmul : 0 ≤ (oth s i : Int) * b ∧ (oth s i : Int) * b ≤ 512 * 12 := ⟨Int.mul_nonneg (by omega) (by omega), Int.mul_le_mul (by omega) (by omega) (by omega) (by omega)⟩
        refine G_iload_n d_X9_counter_26 rfl ?_
        refine G_imul d_X9_counter_27 ?_
        refine G_sipush d_X9_counter_28 (by decide) ?_
        refine G_icmp_le 36 d_X9_counter_31 (by decide) (by omega) (by omega) (fun c31 => ?_) (fun c31 => ?_)
        · refine G_aload_n d_X9_counter_36 rfl ?_
          refine G_getR (r := 6) (fl_X9_19.r) d_X9_counter_37 (wk_0 _) rfl rfl ?_
          refine G_getR (r := 7) fl_X9_139 d_X9_counter_40 (wk_6 _) rfl rfl ?_
          refine G_iload_n d_X9_counter_43 rfl ?_
          refine G_iload_n d_X9_counter_44 rfl ?_
          refine G_iastj (i) d_X9_counter_45 (wk_7 _) (by omega) (by omega) (by decide) ?_
          refine G_aload_n d_X9_counter_46 rfl ?_
          refine G_callV0 cl_X9_126 rfl d_X9_counter_47 (wk_0 _) (Nat.le_of_ble_eq_true rfl) (by decide) (sp_cycleTold) ?_
          rintro _ _ ⟨rfl, rfl⟩
          refine G_aload_n d_X9_counter_50 rfl ?_
          refine G_getR (r := 6) (fl_X9_19.r) d_X9_counter_51 (wk_0 _) rfl rfl ?_
          have hok : okCounter s (i : Int) b := ⟨ha, by omega, by rw [show ((i : Int)).toNat = i from rfl]; omega⟩
          obtain ⟨h2, hF2⟩ := hI.told (m1 := upm m 7 i b) hV (AS_sU (s := s) (j := 49 + i) (x := b - 1) (by omega)) (fun c hc => upm_off _ _ (by omega)) (hI.1.2.1.len (by omega) (by omega))
          refine G_callV0 cl_X9_142 rfl d_X9_counter_54 (wk_6 _) (Nat.le_of_ble_eq_true rfl) (by decide) (sp_Csc (sU s (49 + i) (b - 1)) h2.1.2.1.1) ?_
          rintro _ _ ⟨rfl, rfl⟩
          refine G_iret (mc := 0) (ms := 0) (st := []) d_X9_counter_57 rfl ?_
          exact ⟨by unfold vCounter; rw [if_pos hok]; rfl, _, rfl, by unfold nxCounter; rw [if_pos hok]; exact h2, hF2⟩
        · refine G_iconst d_X9_counter_34 ?_
          refine G_iret (mc := 0) (ms := 0) (st := []) d_X9_counter_35 rfl ?_
          have hno : ¬ okCounter s (i : Int) b := fun h => by obtain ⟨⟨h1, h2⟩, ⟨h3, h4⟩, h5⟩ := h; rw [show ((i : Int)).toNat = i from rfl] at h5; omega
          exact ⟨by unfold vCounter; rw [if_neg hno], m, rfl, by unfold nxCounter; rw [if_neg hno]; exact hI, FXo.refl m⟩
  · rw [if_neg ha]
    refine G_if_eq 34 d_X9_counter_4 (by decide) (by decide) (fun _ => ?_) (fun hd => absurd hd (by decide))
    refine G_iconst d_X9_counter_34 ?_
    refine G_iret (mc := 0) (ms := 0) (st := []) d_X9_counter_35 rfl ?_
    have hno : ¬ okCounter s a b := fun h => by obtain ⟨h1, h2, h3⟩ := h; omega
    exact ⟨by unfold vCounter; rw [if_neg hno], m, rfl, by unfold nxCounter; rw [if_neg hno]; exact hI, FXo.refl m⟩
theorem sp_Cstep {w : List KD} {m : Nat → Nat → Int} (s : Nat → Int) (hV : VS s) (hI : CI s m) (a : Int) (hra : -2147483648 ≤ a ∧ a < 2147483648) (b : Int) (hrb : -2147483648 ≤ b ∧ b < 2147483648) (c : Int) (hrc : -2147483648 ≤ c ∧ c < 2147483648) : Sp M_X9_step 1 0 0 [rV 0, iV a, iV b, iV c] (WC ++ w, m) (fun r h => r = some (iV (vStep s a b c)) ∧ ∃ m2, h = (WC ++ w, m2) ∧ CI (nxStep s a b c) m2 ∧ FXo m m2) := by
  refine Sp.ofG (ls := [rV 0, iV a, iV b, iV c]) (by decide +kernel) rfl (Nat.le_of_ble_eq_true rfl) ?_
  have hC := pC_le hV
  have hN := hV.N
  have hT := hV.T
  have hSc := hV.Sc
  refine G_aload_n d_X9_step_0 rfl ?_
  refine G_iload_n d_X9_step_1 rfl ?_
  refine G_callV1 cl_X9_146 rfl d_X9_step_2 (wk_0 _) (Nat.le_of_ble_eq_true rfl) (by decide) (sp_CisRow s hV hI.1 a hra) ?_
  rintro _ _ ⟨rfl, rfl⟩
  by_cases hk : 0 ≤ a ∧ a ≤ (pN s : Int)
  · rw [if_pos hk]
    obtain ⟨k, rfl⟩ : ∃ n : Nat, a = (n : Int) := ⟨a.toNat, by omega⟩
    refine G_if_eq 30 d_X9_step_5 (by decide) (by decide) (fun hd => absurd hd (by decide)) (fun _ => ?_)
    refine G_iload_n d_X9_step_8 rfl ?_
    refine G_callS1 cl_X9_132 d_X9_step_9 (Nat.le_of_ble_eq_true rfl) (by decide) (sp_CisCounter b hrb) ?_
    rintro _ _ ⟨rfl, rfl⟩
    by_cases hb : 0 ≤ b ∧ b < 4
    · rw [if_pos hb]
      obtain ⟨j, rfl⟩ : ∃ n : Nat, b = (n : Int) := ⟨b.toNat, by omega⟩
      refine G_if_eq 30 d_X9_step_12 (by decide) (by decide) (fun hd => absurd hd (by decide)) (fun _ => ?_)
      refine G_iload_n d_X9_step_15 rfl ?_
      refine G_if_lt 30 d_X9_step_16 (by decide) (by omega) (fun c16 => ?_) (fun c16 => ?_)
      · refine G_iconst d_X9_step_30 ?_
        refine G_zret (mc := 0) (ms := 0) (st := []) d_X9_step_31 rfl (by omega) ?_
        have hno : ¬ okStep s (k : Int) (j : Int) c := fun h => by obtain ⟨⟨h1, h2⟩, ⟨h3, h4⟩, h5, h6⟩ := h; omega
        exact ⟨by unfold vStep; rw [if_neg hno], m, rfl, by unfold nxStep; rw [if_neg hno]; exact hI, FXo.refl m⟩
      · refine G_iload_n d_X9_step_19 rfl ?_
        refine G_aload_n d_X9_step_20 rfl ?_
        refine G_getR (r := 6) (fl_X9_19.r) d_X9_step_21 (wk_0 _) rfl rfl ?_
        refine G_getIe (v := (pT s : Int)) (fl_X9_123.r) d_X9_step_24 (wk_6 _) rfl (hI.1.2.1.1.1) ?_
        refine G_icmp_lt 32 d_X9_step_27 (by decide) (by omega) (by omega) (fun c27 => ?_) (fun c27 => ?_)
        · refine G_aload_n d_X9_step_32 rfl ?_
          refine G_getR (r := 6) (fl_X9_19.r) d_X9_step_33 (wk_0 _) rfl rfl ?_
          refine G_getR (r := 8) fl_X9_149 d_X9_step_36 (wk_6 _) rfl rfl ?_
          refine G_iload_n d_X9_step_39 rfl ?_
          refine G_iconst d_X9_step_40 ?_
          refine G_imul d_X9_step_41 ?_
          refine G_iload_n d_X9_step_42 rfl ?_
          refine G_iadd d_X9_step_43 ?_
          refine G_iload_n d_X9_step_44 rfl ?_
          refine G_iastj (4 * k + j) d_X9_step_45 (wk_8 _) (by omega) (by omega) (by decide) ?_
          refine G_aload_n d_X9_step_46 rfl ?_
          refine G_callV0 cl_X9_126 rfl d_X9_step_47 (wk_0 _) (Nat.le_of_ble_eq_true rfl) (by decide) (sp_cycleTold) ?_
          rintro _ _ ⟨rfl, rfl⟩
          refine G_iconst d_X9_step_50 ?_
          refine G_zret (mc := 0) (ms := 0) (st := []) d_X9_step_51 rfl (by omega) ?_
          have hok : okStep s (k : Int) (j : Int) c := ⟨hk, hb, by omega⟩
          obtain ⟨h2, hF2⟩ := hI.told (s2 := sU s (53 + 4 * k + j) c) (m1 := upm m 8 (4 * k + j) c) hV (AS_sU (by omega)) (fun c hc => upm_off _ _ (by omega)) (by rw [show 53 + 4 * k + j = 53 + (4 * k + j) by omega]; exact hI.1.2.1.stp (by omega) c)
          exact ⟨by unfold vStep; rw [if_pos hok], _, rfl, by unfold nxStep; rw [if_pos hok]; exact h2, hF2⟩
        · refine G_iconst d_X9_step_30 ?_
          refine G_zret (mc := 0) (ms := 0) (st := []) d_X9_step_31 rfl (by omega) ?_
          have hno : ¬ okStep s (k : Int) (j : Int) c := fun h => by obtain ⟨⟨h1, h2⟩, ⟨h3, h4⟩, h5, h6⟩ := h; omega
          exact ⟨by unfold vStep; rw [if_neg hno], m, rfl, by unfold nxStep; rw [if_neg hno]; exact hI, FXo.refl m⟩
    · rw [if_neg hb]
      refine G_if_eq 30 d_X9_step_12 (by decide) (by decide) (fun _ => ?_) (fun hd => absurd hd (by decide))
      refine G_iconst d_X9_step_30 ?_
      refine G_zret (mc := 0) (ms := 0) (st := []) d_X9_step_31 rfl (by omega) ?_
      have hno : ¬ okStep s (k : Int) b c := fun h => by obtain ⟨⟨h1, h2⟩, ⟨h3, h4⟩, h5, h6⟩ := h; omega
      exact ⟨by unfold vStep; rw [if_neg hno], m, rfl, by unfold nxStep; rw [if_neg hno]; exact hI, FXo.refl m⟩
  · rw [if_neg hk]
    refine G_if_eq 30 d_X9_step_5 (by decide) (by decide) (fun _ => ?_) (fun hd => absurd hd (by decide))
    refine G_iconst d_X9_step_30 ?_
    refine G_zret (mc := 0) (ms := 0) (st := []) d_X9_step_31 rfl (by omega) ?_
    have hno : ¬ okStep s a b c := fun h => by obtain ⟨⟨h1, h2⟩, ⟨h3, h4⟩, h5, h6⟩ := h; omega
    exact ⟨by unfold vStep; rw [if_neg hno], m, rfl, by unfold nxStep; rw [if_neg hno]; exact hI, FXo.refl m⟩
theorem sp_Cswap {w : List KD} {m : Nat → Nat → Int} (s : Nat → Int) (hV : VS s) (hI : CI s m) (a : Int) (hra : -2147483648 ≤ a ∧ a < 2147483648) (b : Int) (hrb : -2147483648 ≤ b ∧ b < 2147483648) : Sp M_X9_swap 1 0 0 [rV 0, iV a, iV b] (WC ++ w, m) (fun r h => r = some (iV (vSwap a b)) ∧ ∃ m2, h = (WC ++ w, m2) ∧ CI (nxSwap s a b) m2 ∧ FXo m m2) := by
  refine Sp.ofG (ls := [rV 0, iV a, iV b]) (by decide +kernel) rfl (Nat.le_of_ble_eq_true rfl) ?_
  have hC := pC_le hV
  have hN := hV.N
  have hT := hV.T
  have hSc := hV.Sc
  refine G_iload_n d_X9_swap_0 rfl ?_
  refine G_iload_n d_X9_swap_1 rfl ?_
  refine G_icmp_eq 19 d_X9_swap_2 (by decide) (by omega) (by omega) (fun c2 => ?_) (fun c2 => ?_)
  · refine G_iconst d_X9_swap_19 ?_
    refine G_zret (mc := 0) (ms := 0) (st := []) d_X9_swap_20 rfl (by omega) ?_
    have hno : ¬ okSwap a b := fun h => by obtain ⟨⟨h1, h2⟩, ⟨h3, h4⟩, h5⟩ := h; omega
    exact ⟨by unfold vSwap; rw [if_neg hno], m, rfl, by unfold nxSwap; rw [if_neg hno]; exact hI, FXo.refl m⟩
  · refine G_iload_n d_X9_swap_5 rfl ?_
    refine G_callS1 cl_X9_132 d_X9_swap_6 (Nat.le_of_ble_eq_true rfl) (by decide) (sp_CisCounter a hra) ?_
    rintro _ _ ⟨rfl, rfl⟩
    by_cases ha : 0 ≤ a ∧ a < 4
    · rw [if_pos ha]
      obtain ⟨i, rfl⟩ : ∃ n : Nat, a = (n : Int) := ⟨a.toNat, by omega⟩
      refine G_if_eq 19 d_X9_swap_9 (by decide) (by decide) (fun hd => absurd hd (by decide)) (fun _ => ?_)
      refine G_iload_n d_X9_swap_12 rfl ?_
      refine G_callS1 cl_X9_132 d_X9_swap_13 (Nat.le_of_ble_eq_true rfl) (by decide) (sp_CisCounter b hrb) ?_
      rintro _ _ ⟨rfl, rfl⟩
      by_cases hb : 0 ≤ b ∧ b < 4
      · rw [if_pos hb]
        obtain ⟨j, rfl⟩ : ∃ n : Nat, b = (n : Int) := ⟨b.toNat, by omega⟩
        refine G_if_ne 21 d_X9_swap_16 (by decide) (by decide) (fun _ => ?_) (fun hd => absurd hd (by decide))
        refine G_aload_n d_X9_swap_21 rfl ?_
        refine G_getR (r := 6) (fl_X9_19.r) d_X9_swap_22 (wk_0 _) rfl rfl ?_
        refine G_iload_n d_X9_swap_25 rfl ?_
        refine G_iload_n d_X9_swap_26 rfl ?_
        refine G_callV2 cl_X9_161 rfl d_X9_swap_27 (wk_6 _) (Nat.le_of_ble_eq_true rfl) (by decide) (sp_exchange i j (by omega) (by omega) (by omega)) ?_
        rintro _ _ ⟨rfl, rfl⟩
        refine G_aload_n d_X9_swap_30 rfl ?_
        refine G_callV0 cl_X9_126 rfl d_X9_swap_31 (wk_0 _) (Nat.le_of_ble_eq_true rfl) (by decide) (sp_cycleTold) ?_
        rintro _ _ ⟨rfl, rfl⟩
        refine G_iconst d_X9_swap_34 ?_
        refine G_zret (mc := 0) (ms := 0) (st := []) d_X9_swap_35 rfl (by omega) ?_
        have hok : okSwap (i : Int) (j : Int) := ⟨ha, hb, by omega⟩
        obtain ⟨h2, hF2⟩ := hI.told (s2 := uSwap s i j) (m1 := exM m i j 6) hV (AS_swap (by omega) (by omega)) (fun c hc => exM_off _ (by omega) (by omega)) (hI.1.2.1.swp (by omega) (by omega))
        exact ⟨by unfold vSwap; rw [if_pos hok], _, rfl, by unfold nxSwap; rw [if_pos hok]; exact h2, hF2⟩
      · rw [if_neg hb]
        refine G_if_ne 21 d_X9_swap_16 (by decide) (by decide) (fun hd => absurd hd (by decide)) (fun _ => ?_)
        refine G_iconst d_X9_swap_19 ?_
        refine G_zret (mc := 0) (ms := 0) (st := []) d_X9_swap_20 rfl (by omega) ?_
        have hno : ¬ okSwap (i : Int) b := fun h => by obtain ⟨⟨h1, h2⟩, ⟨h3, h4⟩, h5⟩ := h; omega
        exact ⟨by unfold vSwap; rw [if_neg hno], m, rfl, by unfold nxSwap; rw [if_neg hno]; exact hI, FXo.refl m⟩
    · rw [if_neg ha]
      refine G_if_eq 19 d_X9_swap_9 (by decide) (by decide) (fun _ => ?_) (fun hd => absurd hd (by decide))
      refine G_iconst d_X9_swap_19 ?_
      refine G_zret (mc := 0) (ms := 0) (st := []) d_X9_swap_20 rfl (by omega) ?_
      have hno : ¬ okSwap a b := fun h => by obtain ⟨⟨h1, h2⟩, ⟨h3, h4⟩, h5⟩ := h; omega
      exact ⟨by unfold vSwap; rw [if_neg hno], m, rfl, by unfold nxSwap; rw [if_neg hno]; exact hI, FXo.refl m⟩
theorem sp_Cfollow {w : List KD} {m : Nat → Nat → Int} (s : Nat → Int) (hV : VS s) (hI : CI s m) (x : Int) (hx : x = 0 ∨ x = 1) : Sp M_X9_follow 1 0 0 [rV 0, iV x] (WC ++ w, m) (fun r h => r = some (iV (vFollow s x)) ∧ ∃ m2, h = (WC ++ w, m2) ∧ CI (nxFollow s x) m2 ∧ FXo m m2) := by
  refine Sp.ofG (ls := [rV 0, iV x]) (by decide +kernel) rfl (Nat.le_of_ble_eq_true rfl) ?_
  have hC := pC_le hV
  have hN := hV.N
  have hT := hV.T
  have hSc := hV.Sc
  have hFo := hV.F
  refine G_aload_n d_X9_follow_0 rfl ?_
  refine G_getR (r := 6) (fl_X9_19.r) d_X9_follow_1 (wk_0 _) rfl rfl ?_
  refine G_getIe (v := (if s 3 = 0 then (1 : Int) else 0)) (fl_X9_164.r) d_X9_follow_4 (wk_6 _) rfl (hI.1.2.1.2) ?_
  refine G_iload_n d_X9_follow_7 rfl ?_
  refine G_icmp_ne 13 d_X9_follow_8 (by decide) (by first | omega | (split <;> omega)) (by first | omega | (split <;> omega)) (fun c8 => ?_) (fun c8 => ?_)
  · refine G_aload_n d_X9_follow_13 rfl ?_
    refine G_getR (r := 6) (fl_X9_19.r) d_X9_follow_14 (wk_0 _) rfl rfl ?_
    refine G_iload_n d_X9_follow_17 rfl ?_
    refine G_putZ fl_X9_164 d_X9_follow_18 (wk_6 _) rfl (by omega) ?_
    refine G_aload_n d_X9_follow_21 rfl ?_
    refine G_callV0 cl_X9_126 rfl d_X9_follow_22 (wk_0 _) (Nat.le_of_ble_eq_true rfl) (by decide) (sp_cycleTold) ?_
    rintro _ _ ⟨rfl, rfl⟩
    refine G_iconst d_X9_follow_25 ?_
    refine G_zret (mc := 0) (ms := 0) (st := []) d_X9_follow_26 rfl (by omega) ?_
    have hok : okFollow s x := c8
    obtain ⟨h2, hF2⟩ := hI.told (s2 := sU s 3 (1 - x)) (m1 := upm m 6 1 x) hV (AS_sU (Or.inl rfl)) (fun c hc => upm_off _ _ (by omega)) (hI.1.2.1.fol hx)
    exact ⟨by unfold vFollow; rw [if_pos hok], _, rfl, by unfold nxFollow; rw [if_pos hok]; exact h2, hF2⟩
  · refine G_iconst d_X9_follow_11 ?_
    refine G_zret (mc := 0) (ms := 0) (st := []) d_X9_follow_12 rfl (by omega) ?_
    have hno : ¬ okFollow s x := fun h => h c8
    exact ⟨by unfold vFollow; rw [if_neg hno], m, rfl, by unfold nxFollow; rw [if_neg hno]; exact hI, FXo.refl m⟩
