/-! what makes out of date what was found out -/
def cyT (m : Nat → Nat → Int) : Nat → Nat → Int := upm (upm m 30 0 0) 0 11 0
def seT (m : Nat → Nat → Int) : Nat → Nat → Int := upm (upm (upm m 52 0 0) 57 0 0) 60 0 0
def goT (m : Nat → Nat → Int) : Nat → Nat → Int := seT (upm m 25 1 0)
theorem cyT_off (m : Nat → Nat → Int) {a : Nat} (h : a ≠ 0) (h2 : a ≠ 30) : cyT m a = m a := by unfold cyT; rw [upm_off _ _ h, upm_off _ _ h2]
theorem cyT_0 (m : Nat → Nat → Int) {j : Nat} (h : j ≠ 11) : cyT m 0 j = m 0 j := by unfold cyT; rw [upm_ne _ _ (fun _ => h), upm_off _ _ (by decide)]
theorem cyT_11 (m : Nat → Nat → Int) : cyT m 0 11 = 0 := upm_same _ _ _ _
theorem cyT_30 (m : Nat → Nat → Int) : cyT m 30 0 = 0 := by unfold cyT; rw [upm_off _ _ (by decide)]; exact upm_same _ _ _ _
theorem seT_off (m : Nat → Nat → Int) {a : Nat} (h : a ≠ 52) (h2 : a ≠ 57) (h3 : a ≠ 60) : seT m a = m a := by unfold seT; rw [upm_off _ _ h3, upm_off _ _ h2, upm_off _ _ h]
theorem seT_52 (m : Nat → Nat → Int) : seT m 52 0 = 0 := by unfold seT; rw [upm_off _ _ (by decide), upm_off _ _ (by decide)]; exact upm_same _ _ _ _
theorem seT_57 (m : Nat → Nat → Int) : seT m 57 0 = 0 := by unfold seT; rw [upm_off _ _ (by decide)]; exact upm_same _ _ _ _
theorem seT_60 (m : Nat → Nat → Int) : seT m 60 0 = 0 := upm_same _ _ _ _
theorem goT_off (m : Nat → Nat → Int) {a : Nat} (h : a ≠ 52) (h2 : a ≠ 57) (h3 : a ≠ 60) (h4 : a ≠ 25) : goT m a = m a := by unfold goT; rw [seT_off _ h h2 h3, upm_off _ _ h4]
theorem goT_25 (m : Nat → Nat → Int) : goT m 25 1 = 0 := by unfold goT; rw [seT_off _ (by decide) (by decide) (by decide)]; exact upm_same _ _ _ _
theorem goT_250 (m : Nat → Nat → Int) : goT m 25 0 = m 25 0 := by unfold goT; rw [seT_off _ (by decide) (by decide) (by decide)]; exact upm_ne _ _ (fun _ => by decide)
theorem sp_cycleTold {w : List KD} {m : Nat → Nat → Int}  : Sp M_X9_cycleTold 0 0 0 [rV 0] (WC ++ w, m) (fun r h => r = none ∧ h = (WC ++ w, cyT m)) := by
  refine Sp.ofG (ls := [rV 0]) (by decide +kernel) rfl (Nat.le_of_ble_eq_true rfl) ?_
  refine G_aload_n d_X9_cycleTold_0 rfl ?_
  refine G_getR (r := 30) (fl_X9_54.r) d_X9_cycleTold_1 (wk_0 _) rfl rfl ?_
  refine G_iconst d_X9_cycleTold_4 ?_
  refine G_putZ fl_X9_326 d_X9_cycleTold_5 (wk_30 _) rfl (by omega) ?_
  refine G_aload_n d_X9_cycleTold_8 rfl ?_
  refine G_iconst d_X9_cycleTold_9 ?_
  refine G_putZ fl_X9_69 d_X9_cycleTold_10 (wk_0 _) rfl (by omega) ?_
  refine G_vret (mc := 0) (ms := 0) (st := []) d_X9_cycleTold_13 rfl ?_
  exact ⟨rfl, rfl⟩
theorem sp_searchesTold {w : List KD} {m : Nat → Nat → Int}  : Sp M_X9_searchesTold 0 0 0 [rV 0] (WC ++ w, m) (fun r h => r = none ∧ h = (WC ++ w, seT m)) := by
  refine Sp.ofG (ls := [rV 0]) (by decide +kernel) rfl (Nat.le_of_ble_eq_true rfl) ?_
  refine G_aload_n d_X9_searchesTold_0 rfl ?_
  refine G_getR (r := 52) (fl_X9_79.r) d_X9_searchesTold_1 (wk_0 _) rfl rfl ?_
  refine G_iconst d_X9_searchesTold_4 ?_
  refine G_putZ fl_X9_423 d_X9_searchesTold_5 (wk_52 _) rfl (by omega) ?_
  refine G_aload_n d_X9_searchesTold_8 rfl ?_
  refine G_getR (r := 57) (fl_X9_86.r) d_X9_searchesTold_9 (wk_0 _) rfl rfl ?_
  refine G_iconst d_X9_searchesTold_12 ?_
  refine G_putZ fl_X9_430 d_X9_searchesTold_13 (wk_57 _) rfl (by omega) ?_
  refine G_aload_n d_X9_searchesTold_16 rfl ?_
  refine G_getR (r := 60) (fl_X9_93.r) d_X9_searchesTold_17 (wk_0 _) rfl rfl ?_
  refine G_iconst d_X9_searchesTold_20 ?_
  refine G_putZ fl_X9_435 d_X9_searchesTold_21 (wk_60 _) rfl (by omega) ?_
  refine G_vret (mc := 0) (ms := 0) (st := []) d_X9_searchesTold_24 rfl ?_
  exact ⟨rfl, rfl⟩
theorem sp_goneTold {w : List KD} {m : Nat → Nat → Int}  : Sp M_X9_goneTold 1 0 0 [rV 0] (WC ++ w, m) (fun r h => r = none ∧ h = (WC ++ w, goT m)) := by
  refine Sp.ofG (ls := [rV 0]) (by decide +kernel) rfl (Nat.le_of_ble_eq_true rfl) ?_
  refine G_aload_n d_X9_goneTold_0 rfl ?_
  refine G_getR (r := 25) (fl_X9_43.r) d_X9_goneTold_1 (wk_0 _) rfl rfl ?_
  refine G_iconst d_X9_goneTold_4 ?_
  refine G_putZ fl_X9_417 d_X9_goneTold_5 (wk_25 _) rfl (by omega) ?_
  refine G_aload_n d_X9_goneTold_8 rfl ?_
  refine G_callV0 cl_X9_129 rfl d_X9_goneTold_9 (wk_0 _) (Nat.le_of_ble_eq_true rfl) (by decide) (sp_searchesTold) ?_
  rintro _ _ ⟨rfl, rfl⟩
  refine G_vret (mc := 0) (ms := 0) (st := []) d_X9_goneTold_12 rfl ?_
  exact ⟨rfl, rfl⟩
theorem sp_CpathsTold {w : List KD} {m : Nat → Nat → Int} (s : Nat → Int) (hV : VS s) (hT0 : TO s m) (hC0 : CFo s m) (hU : US m) : Sp M_X9_pathsTold 3 0 0 [rV 0] (WC ++ w, m) (fun r h => r = none ∧ ∃ m2, h = (WC ++ w, m2) ∧ CI s m2 ∧ FXo m m2) := by
  refine Sp.ofG (ls := [rV 0]) (by decide +kernel) rfl (Nat.le_of_ble_eq_true rfl) ?_
  have hC := pC_le hV
  have hN := hV.N
  have hT := hV.T
  have hSc := hV.Sc
  have hM := hV.M
  have hcr := pChief_rng s
  refine G_aload_n d_X9_pathsTold_0 rfl ?_
  refine G_getR (r := 25) (fl_X9_43.r) d_X9_pathsTold_1 (wk_0 _) rfl rfl ?_
  refine G_aload_n d_X9_pathsTold_4 rfl ?_
  refine G_getR (r := 1) (fl_X9_12.r) d_X9_pathsTold_5 (wk_0 _) rfl rfl ?_
  refine G_callV1 cl_X9_97 rfl d_X9_pathsTold_8 (wk_25 _) (Nat.le_of_ble_eq_true rfl) (by decide) (sp_list (pN s) (pM s) (pK s) hT0.1 hT0.2.1 ⟨by omega, by omega⟩ ⟨by omega, by omega⟩ (fun k hk => hT0.2.2.1 k (by omega)) (fun k hk => hV.K k (by omega))) ?_
  rintro _ _ ⟨rfl, m1, rfl, h1⟩
  refine G_aload_n d_X9_pathsTold_11 rfl ?_
  refine G_aload_n d_X9_pathsTold_12 rfl ?_
  refine G_getR (r := 1) (fl_X9_12.r) d_X9_pathsTold_13 (wk_0 _) rfl rfl ?_
  refine G_aload_n d_X9_pathsTold_16 rfl ?_
  refine G_getR (r := 25) (fl_X9_43.r) d_X9_pathsTold_17 (wk_0 _) rfl rfl ?_
  refine G_getIe (v := (pC s : Int)) (fl_X9_110.r) d_X9_pathsTold_20 (wk_25 _) rfl (h1.2.2.1) ?_
  have h5 : ∀ j, j < 2401 → m1 5 j = s (227 + j) := fun j hj => by rw [h1.1 5 (by decide) (by decide) (by decide)]; exact hT0.2.2.2.2.2 j hj
  refine G_callV1 cl_X9_184 rfl d_X9_pathsTold_23 (wk_1 _) (Nat.le_of_ble_eq_true rfl) (by decide) (sp_firstWished (pC s) (by omega) (fun j hj => by rw [h5 j hj]; exact hV.Mk j hj)) ?_
  rintro _ _ ⟨rfl, rfl⟩
  rw [show firstB (fun p => m1 5 p == 1) (pC s) = pChief s from firstB_congr (fun p hp => by rw [h5 p (by omega)]; rfl)]
  refine G_putII fl_X9_47 d_X9_pathsTold_26 (wk_0 _) rfl ?_
  refine G_aload_n d_X9_pathsTold_29 rfl ?_
  refine G_callV0 cl_X9_126 rfl d_X9_pathsTold_30 (wk_0 _) (Nat.le_of_ble_eq_true rfl) (by decide) (sp_cycleTold) ?_
  rintro _ _ ⟨rfl, rfl⟩
  refine G_aload_n d_X9_pathsTold_33 rfl ?_
  refine G_callV0 cl_X9_155 rfl d_X9_pathsTold_34 (wk_0 _) (Nat.le_of_ble_eq_true rfl) (by decide) (sp_goneTold) ?_
  rintro _ _ ⟨rfl, rfl⟩
  refine G_vret (mc := 0) (ms := 0) (st := []) d_X9_pathsTold_37 rfl ?_
  have e : ∀ a, a ≠ 0 → a ≠ 25 → a ≠ 26 → a ≠ 27 → a ≠ 30 → a ≠ 52 → a ≠ 57 → a ≠ 60 → goT (cyT (upm m1 0 7 (pChief s))) a = m a := fun a a0 a1 a2 a3 a4 a5 a6 a7 => by
    rw [goT_off _ a5 a6 a7 a1, cyT_off _ a0 a4, upm_off _ _ a0, h1.1 a a1 a2 a3]
  have e0 : ∀ j, j ≠ 11 → goT (cyT (upm m1 0 7 (pChief s))) 0 j = upm m1 0 7 (pChief s) 0 j := fun j hj => by
    rw [goT_off _ (by decide) (by decide) (by decide) (by decide), cyT_0 _ hj]
  have e1 : ∀ a, a = 26 ∨ a = 27 → goT (cyT (upm m1 0 7 (pChief s))) a = m1 a := fun a ha => by
    rw [goT_off _ (by omega) (by omega) (by omega) (by omega), cyT_off _ (by omega) (by omega), upm_off _ _ (by omega)]
  exact ⟨rfl, _, rfl, ⟨⟨hT0.keep (fun a a1 a2 => e a (by omega) (by omega) (by omega) (by omega) (by omega) (by omega) (by omega) (by omega)), hC0.keep (fun a a1 a2 => e a (by omega) (by omega) (by omega) (by omega) (by omega) (by omega) (by omega) (by omega)), h1.2.2.keep2 (by rw [goT_250, cyT_off _ (by decide) (by decide), upm_off _ _ (by decide)]) (e1 26 (Or.inl rfl)) (e1 27 (Or.inr rfl)), by rw [e0 7 (by decide)]; exact upm_same _ _ _ _, Or.inl (goT_25 _), Or.inl (by rw [goT_off _ (by decide) (by decide) (by decide) (by decide)]; exact cyT_30 _), hU.keep (e 46 (by decide) (by decide) (by decide) (by decide) (by decide) (by decide) (by decide) (by decide)) (e 47 (by decide) (by decide) (by decide) (by decide) (by decide) (by decide) (by decide) (by decide)) (e 48 (by decide) (by decide) (by decide) (by decide) (by decide) (by decide) (by decide) (by decide))⟩, Or.inl (by rw [goT_off _ (by decide) (by decide) (by decide) (by decide)]; exact cyT_11 _), Or.inl (seT_52 _), Or.inl (seT_57 _), Or.inl (seT_60 _)⟩, fun a a1 a2 => e a (by omega) (by omega) (by omega) (by omega) (by omega) (by omega) (by omega) (by omega), by rw [e0 4 (by decide), upm_ne _ _ (fun _ => by decide), h1.1 0 (by decide) (by decide) (by decide)]⟩
def pbM (m : Nat → Nat → Int) (n M : Int) : Nat → Nat → Int := flm (flm (flm (flm (upm (upm m 1 0 n) 1 1 M) 2 0 5 0) 3 0 5 0) 4 0 35 1) 5 0 2401 0
def cbM (m : Nat → Nat → Int) : Nat → Nat → Int := flm (flm (flm (flm m 7 0 4 1) 8 0 24 0) 9 0 144 0) 10 0 6 1
theorem cbM_off (m : Nat → Nat → Int) {a : Nat} (h : a < 7 ∨ 10 < a) : cbM m a = m a := by
  unfold cbM
  rw [flm_off _ _ _ _ (by omega), flm_off _ _ _ _ (by omega), flm_off _ _ _ _ (by omega), flm_off _ _ _ _ (by omega)]
theorem CFo_clr {s2 : Nat → Int} {m : Nat → Nat → Int} (h6 : m 6 0 = (pT s2 : Int)) (h61 : m 6 1 = if s2 3 = 0 then 1 else 0) (hz : ∀ i, 49 ≤ i → i < 227 → s2 i = 0) : CFo s2 (cbM m) := by
  refine ⟨⟨by rw [cbM_off _ (by decide)]; exact h6, fun j hj => ?_, fun i hi => ?_, fun i hi => ?_, fun i hi => ?_⟩, by rw [cbM_off _ (by decide)]; exact h61⟩
  · have : pL s2 j = 1 := by unfold pL; rw [hz _ (by omega) (by omega)]; rfl
    rw [this]
    unfold cbM
    rw [flm_off _ _ _ _ (by decide), flm_off _ _ _ _ (by decide), flm_off _ _ _ _ (by decide), flm_in _ _ (by omega) (by omega)]
    rfl
  · rw [hz _ (by omega) (by omega)]
    unfold cbM
    rw [flm_off _ _ _ _ (by decide), flm_off _ _ _ _ (by decide), flm_in _ _ (by omega) (by omega)]
  · rw [hz _ (by omega) (by omega)]
    unfold cbM
    rw [flm_off _ _ _ _ (by decide), flm_in _ _ (by omega) (by omega)]
  · have : pRL s2 i = 1 := by unfold pRL; rw [hz _ (by omega) (by omega)]; rfl
    rw [this]
    unfold cbM
    rw [flm_in _ _ (by omega) (by omega)]
    rfl
theorem pbM_off (m : Nat → Nat → Int) {n M : Int} {a : Nat} (h : a < 1 ∨ 5 < a) : pbM m n M a = m a := by
  unfold pbM
  rw [flm_off _ _ _ _ (by omega), flm_off _ _ _ _ (by omega), flm_off _ _ _ _ (by omega), flm_off _ _ _ _ (by omega), upm_off _ _ (by omega), upm_off _ _ (by omega)]
theorem TO_pb {s : Nat → Int} {m : Nat → Nat → Int} {a b : Int} (ha : 1 ≤ a) (hb : 1 ≤ b) : TO (uPulses s a b) (pbM m a b) := by
  have e : ∀ i, 4 ≤ i → uPulses s a b i = 0 := fun i hi => by unfold uPulses; rw [if_neg (by omega), if_neg (by omega), if_pos hi]
  have e0 : (pN (uPulses s a b) : Int) = a := by unfold pN uPulses; rw [if_pos rfl]; omega
  have e1 : (pM (uPulses s a b) : Int) = b := by unfold pM uPulses; rw [if_neg (by decide), if_pos rfl]; omega
  have f1 : ∀ j, pbM m a b 1 j = upm (upm m 1 0 a) 1 1 b 1 j := fun j => by
    unfold pbM
    rw [flm_off _ _ _ _ (by decide), flm_off _ _ _ _ (by decide), flm_off _ _ _ _ (by decide), flm_off _ _ _ _ (by decide)]
  refine ⟨by rw [e0, f1, upm_ne _ _ (fun _ => by decide)]; exact upm_same _ _ _ _, by rw [e1, f1]; exact upm_same _ _ _ _, fun k hk => ?_, fun k hk => ?_, fun k hk => ?_, fun p hp => ?_⟩
  · rw [e _ (by omega)]
    unfold pbM
    rw [flm_off _ _ _ _ (by decide), flm_off _ _ _ _ (by decide), flm_off _ _ _ _ (by decide), flm_in _ _ (by omega) (by omega)]
  · rw [e _ (by omega)]
    unfold pbM
    rw [flm_off _ _ _ _ (by decide), flm_off _ _ _ _ (by decide), flm_in _ _ (by omega) (by omega)]
  · rw [e _ (by omega)]
    unfold pbM
    rw [flm_off _ _ _ _ (by decide), flm_in _ _ (by omega) (by omega)]
    rfl
  · rw [e _ (by omega)]
    unfold pbM
    rw [flm_in _ _ (by omega) (by omega)]
theorem sp_Cpulses {w : List KD} {m : Nat → Nat → Int} (s : Nat → Int) (hV : VS s) (hI : CI s m) (a : Int) (hra : -2147483648 ≤ a ∧ a < 2147483648) (b : Int) (hrb : -2147483648 ≤ b ∧ b < 2147483648) : Sp M_X9_pulses 4 0 0 [rV 0, iV a, iV b] (WC ++ w, m) (fun r h => r = some (iV (vPulses s a b)) ∧ ∃ m2, h = (WC ++ w, m2) ∧ CI (nxPulses s a b) m2 ∧ FXo m m2) := by
  refine Sp.ofG (ls := [rV 0, iV a, iV b]) (by decide +kernel) rfl (Nat.le_of_ble_eq_true rfl) ?_
  have hC := pC_le hV
  have hN := hV.N
  have hT := hV.T
  have hSc := hV.Sc
  refine G_iload_n d_X9_pulses_0 rfl ?_
  refine G_iconst d_X9_pulses_1 ?_
  refine G_icmp_lt 20 d_X9_pulses_2 (by decide) (by omega) (by omega) (fun c2 => ?_) (fun c2 => ?_)
  · refine G_iconst d_X9_pulses_20 ?_
    refine G_iret (mc := 0) (ms := 0) (st := []) d_X9_pulses_21 rfl ?_
    have hno : ¬ okPulses a b := fun h => by obtain ⟨⟨h1, h2⟩, h3, h4⟩ := h; omega
    exact ⟨by unfold vPulses; rw [if_neg hno], m, rfl, by unfold nxPulses; rw [if_neg hno]; exact hI, FXo.refl m⟩
  · refine G_iload_n d_X9_pulses_5 rfl ?_
    refine G_iconst d_X9_pulses_6 ?_
    refine G_icmp_gt 20 d_X9_pulses_7 (by decide) (by omega) (by omega) (fun c7 => ?_) (fun c7 => ?_)
    · refine G_iconst d_X9_pulses_20 ?_
      refine G_iret (mc := 0) (ms := 0) (st := []) d_X9_pulses_21 rfl ?_
      have hno : ¬ okPulses a b := fun h => by obtain ⟨⟨h1, h2⟩, h3, h4⟩ := h; omega
      exact ⟨by unfold vPulses; rw [if_neg hno], m, rfl, by unfold nxPulses; rw [if_neg hno]; exact hI, FXo.refl m⟩
    · refine G_iload_n d_X9_pulses_10 rfl ?_
      refine G_iconst d_X9_pulses_11 ?_
      refine G_icmp_lt 20 d_X9_pulses_12 (by decide) (by omega) (by omega) (fun c12 => ?_) (fun c12 => ?_)
      · refine G_iconst d_X9_pulses_20 ?_
        refine G_iret (mc := 0) (ms := 0) (st := []) d_X9_pulses_21 rfl ?_
        have hno : ¬ okPulses a b := fun h => by obtain ⟨⟨h1, h2⟩, h3, h4⟩ := h; omega
        exact ⟨by unfold vPulses; rw [if_neg hno], m, rfl, by unfold nxPulses; rw [if_neg hno]; exact hI, FXo.refl m⟩
      · refine G_iload_n d_X9_pulses_15 rfl ?_
        refine G_iconst d_X9_pulses_16 ?_
        refine G_icmp_le 22 d_X9_pulses_17 (by decide) (by omega) (by omega) (fun c17 => ?_) (fun c17 => ?_)
        · refine G_aload_n d_X9_pulses_22 rfl ?_
          refine G_getR (r := 1) (fl_X9_12.r) d_X9_pulses_23 (wk_0 _) rfl rfl ?_
          refine G_iload_n d_X9_pulses_26 rfl ?_
          refine G_iload_n d_X9_pulses_27 rfl ?_
          refine G_callV2 cl_X9_101 rfl d_X9_pulses_28 (wk_1 _) (Nat.le_of_ble_eq_true rfl) (by decide) (sp_pbegin) ?_
          rintro _ _ ⟨rfl, rfl⟩
          refine G_aload_n d_X9_pulses_31 rfl ?_
          refine G_getR (r := 6) (fl_X9_19.r) d_X9_pulses_32 (wk_0 _) rfl rfl ?_
          refine G_callV0 cl_X9_105 rfl d_X9_pulses_35 (wk_6 _) (Nat.le_of_ble_eq_true rfl) (by decide) (sp_cbegin) ?_
          rintro _ _ ⟨rfl, rfl⟩
          refine G_aload_n d_X9_pulses_38 rfl ?_
          have hok : okPulses a b := ⟨by omega, by omega⟩
          have hz : ∀ i, 49 ≤ i → i < 227 → uPulses s a b i = 0 := fun i h1 h2 => by unfold uPulses; rw [if_neg (by omega), if_neg (by omega), if_pos (by omega)]
          have hCF := CFo_clr (s2 := uPulses s a b) (m := pbM m a b) (by rw [pbM_off _ (by decide)]; exact hI.1.2.1.1.1) (by rw [pbM_off _ (by decide)]; exact hI.1.2.1.2) hz
          have hTO : TO (uPulses s a b) (cbM (pbM m a b)) := (TO_pb hok.1.1 hok.2.1).keep (fun c c1 c2 => cbM_off _ (by omega))
          have eo : ∀ c, 11 ≤ c → cbM (pbM m a b) c = m c := fun c hc => by rw [cbM_off _ (by omega), pbM_off _ (by omega)]
          refine G_callV0 cl_X9_107 rfl d_X9_pulses_39 (wk_0 _) (Nat.le_of_ble_eq_true rfl) (by decide) (sp_CpathsTold (uPulses s a b) (VS_pulses hV hok.1 hok.2) hTO hCF (hI.1.2.2.2.2.2.2.keep (eo 46 (by decide)) (eo 47 (by decide)) (eo 48 (by decide)))) ?_
          rintro _ _ ⟨rfl, m2, rfl, h2, hF2⟩
          refine G_aload_n d_X9_pulses_42 rfl ?_
          refine G_getR (r := 25) (fl_X9_43.r) d_X9_pulses_43 (wk_0 _) rfl rfl ?_
          have hC9 := pC_le (VS_pulses hV hok.1 hok.2)
          refine G_getIe (v := (pC (uPulses s a b) : Int)) (fl_X9_110.r) d_X9_pulses_46 (wk_25 _) rfl (h2.1.2.2.1.1) ?_
          refine G_iret (mc := 0) (ms := 0) (st := []) d_X9_pulses_49 rfl ?_
          exact ⟨by unfold vPulses; rw [if_pos hok], m2, rfl, by unfold nxPulses; rw [if_pos hok]; exact h2, FXo.trans ⟨fun c c1 c2 => eo c c1, by rw [cbM_off _ (by decide), pbM_off _ (by decide)]⟩ hF2⟩
        · refine G_iconst d_X9_pulses_20 ?_
          refine G_iret (mc := 0) (ms := 0) (st := []) d_X9_pulses_21 rfl ?_
          have hno : ¬ okPulses a b := fun h => by obtain ⟨⟨h1, h2⟩, h3, h4⟩ := h; omega
          exact ⟨by unfold vPulses; rw [if_neg hno], m, rfl, by unfold nxPulses; rw [if_neg hno]; exact hI, FXo.refl m⟩
theorem sp_Ckind {w : List KD} {m : Nat → Nat → Int} (s : Nat → Int) (hV : VS s) (hI : CI s m) (a : Int) (hra : -2147483648 ≤ a ∧ a < 2147483648) (b : Int) (hrb : -2147483648 ≤ b ∧ b < 2147483648) : Sp M_X9_kind 4 0 0 [rV 0, iV a, iV b] (WC ++ w, m) (fun r h => r = some (iV (vKind s a b)) ∧ ∃ m2, h = (WC ++ w, m2) ∧ CI (nxKind s a b) m2 ∧ FXo m m2) := by
  refine Sp.ofG (ls := [rV 0, iV a, iV b]) (by decide +kernel) rfl (Nat.le_of_ble_eq_true rfl) ?_
  have hC := pC_le hV
  have hN := hV.N
  have hT := hV.T
  have hSc := hV.Sc
  refine G_aload_n d_X9_kind_0 rfl ?_
  refine G_iload_n d_X9_kind_1 rfl ?_
  refine G_callV1 cl_X9_113 rfl d_X9_kind_2 (wk_0 _) (Nat.le_of_ble_eq_true rfl) (by decide) (sp_CisPulse s hV hI.1 a hra) ?_
  rintro _ _ ⟨rfl, rfl⟩
  by_cases hk : 0 ≤ a ∧ a < (pN s : Int)
  · rw [if_pos hk]
    obtain ⟨k, rfl⟩ : ∃ n : Nat, a = (n : Int) := ⟨a.toNat, by omega⟩
    refine G_if_eq 17 d_X9_kind_5 (by decide) (by decide) (fun hd => absurd hd (by decide)) (fun _ => ?_)
    refine G_iload_n d_X9_kind_8 rfl ?_
    refine G_if_lt 17 d_X9_kind_9 (by decide) (by omega) (fun c9 => ?_) (fun c9 => ?_)
    · refine G_iconst d_X9_kind_17 ?_
      refine G_zret (mc := 0) (ms := 0) (st := []) d_X9_kind_18 rfl (by omega) ?_
      have hno : ¬ okKind s (k : Int) b := fun h => by obtain ⟨⟨h1, h2⟩, h3, h4⟩ := h; omega
      exact ⟨by unfold vKind; rw [if_neg hno], m, rfl, by unfold nxKind; rw [if_neg hno]; exact hI, FXo.refl m⟩
    · refine G_iload_n d_X9_kind_12 rfl ?_
      refine G_iconst d_X9_kind_13 ?_
      refine G_icmp_le 19 d_X9_kind_14 (by decide) (by omega) (by omega) (fun c14 => ?_) (fun c14 => ?_)
      · refine G_aload_n d_X9_kind_19 rfl ?_
        refine G_getR (r := 1) (fl_X9_12.r) d_X9_kind_20 (wk_0 _) rfl rfl ?_
        refine G_getR (r := 2) fl_X9_117 d_X9_kind_23 (wk_1 _) rfl rfl ?_
        refine G_iload_n d_X9_kind_26 rfl ?_
        refine G_iload_n d_X9_kind_27 rfl ?_
        refine G_iastj (k) d_X9_kind_28 (wk_2 _) (by omega) (by omega) (by decide) ?_
        refine G_aload_n d_X9_kind_29 rfl ?_
        refine G_getR (r := 1) (fl_X9_12.r) d_X9_kind_30 (wk_0 _) rfl rfl ?_
        refine G_callV0 cl_X9_120 rfl d_X9_kind_33 (wk_1 _) (Nat.le_of_ble_eq_true rfl) (by decide) (sp_unmark) ?_
        rintro _ _ ⟨rfl, rfl⟩
        refine G_aload_n d_X9_kind_36 rfl ?_
        have hok : okKind s (k : Int) b := ⟨hk, by omega⟩
        have hV2 := VS_kind hV (p := k) (by omega) hok.2
        have eo : ∀ c, c ≠ 2 → c ≠ 5 → flm (upm m 2 k b) 5 0 2401 0 c = m c := fun c h1 h2 => by rw [flm_off _ _ _ _ h2, upm_off _ _ h1]
        have es : ∀ i, i < 227 → i ≠ 4 + k → uKind s k b i = s i := fun i h1 h2 => by unfold uKind; rw [if_neg (by omega), if_neg h2]
        have hTO : TO (uKind s k b) (flm (upm m 2 k b) 5 0 2401 0) := by
          have h0 := hI.1.1
          refine ⟨by rw [eo 1 (by decide) (by decide)]; unfold pN; rw [es 0 (by decide) (by omega)]; exact h0.1, by rw [eo 1 (by decide) (by decide)]; unfold pM; rw [es 1 (by decide) (by omega)]; exact h0.2.1, fun j hj => ?_, fun j hj => by rw [eo 3 (by decide) (by decide), es _ (by omega) (by omega)]; exact h0.2.2.2.1 j hj, fun j hj => by rw [eo 4 (by decide) (by decide), es _ (by omega) (by omega)]; exact h0.2.2.2.2.1 j hj, fun p hp => ?_⟩
          · rw [flm_off _ _ _ _ (by decide)]
            by_cases e : j = k
            · rw [e, upm_same]; unfold uKind; rw [if_neg (by omega), if_pos rfl]
            · rw [upm_ne _ _ (fun _ => e), es _ (by omega) (by omega)]; exact h0.2.2.1 j hj
          · rw [flm_in _ _ (by omega) (by omega)]; unfold uKind; rw [if_pos (by omega)]
        have hCF : CFo (uKind s k b) (flm (upm m 2 k b) 5 0 2401 0) := by
          have h0 := hI.1.2.1.keep (m2 := flm (upm m 2 k b) 5 0 2401 0) (fun c c1 c2 => eo c (by omega) (by omega))
          refine ⟨⟨by unfold pT; rw [es 2 (by decide) (by omega)]; exact h0.1.1, fun j hj => by unfold pL; rw [es _ (by omega) (by omega)]; exact h0.1.2.1 j hj, fun j hj => by rw [es _ (by omega) (by omega)]; exact h0.1.2.2.1 j hj, fun j hj => by rw [es _ (by omega) (by omega)]; exact h0.1.2.2.2.1 j hj, fun j hj => by unfold pRL; rw [es _ (by omega) (by omega)]; exact h0.1.2.2.2.2 j hj⟩, by rw [es 3 (by decide) (by omega)]; exact h0.2⟩
        refine G_callV0 cl_X9_107 rfl d_X9_kind_37 (wk_0 _) (Nat.le_of_ble_eq_true rfl) (by decide) (sp_CpathsTold (uKind s k b) hV2 hTO hCF (hI.1.2.2.2.2.2.2.keep (eo 46 (by decide) (by decide)) (eo 47 (by decide) (by decide)) (eo 48 (by decide) (by decide)))) ?_
        rintro _ _ ⟨rfl, m2, rfl, h2, hF2⟩
        refine G_iconst d_X9_kind_40 ?_
        refine G_zret (mc := 0) (ms := 0) (st := []) d_X9_kind_41 rfl (by omega) ?_
        exact ⟨by unfold vKind; rw [if_pos hok], m2, rfl, by unfold nxKind; rw [if_pos hok]; exact h2, FXo.trans ⟨fun c c1 c2 => eo c (by omega) (by omega), by rw [eo 0 (by decide) (by decide)]⟩ hF2⟩
      · refine G_iconst d_X9_kind_17 ?_
        refine G_zret (mc := 0) (ms := 0) (st := []) d_X9_kind_18 rfl (by omega) ?_
        have hno : ¬ okKind s (k : Int) b := fun h => by obtain ⟨⟨h1, h2⟩, h3, h4⟩ := h; omega
        exact ⟨by unfold vKind; rw [if_neg hno], m, rfl, by unfold nxKind; rw [if_neg hno]; exact hI, FXo.refl m⟩
  · rw [if_neg hk]
    refine G_if_eq 17 d_X9_kind_5 (by decide) (by decide) (fun _ => ?_) (fun hd => absurd hd (by decide))
    refine G_iconst d_X9_kind_17 ?_
    refine G_zret (mc := 0) (ms := 0) (st := []) d_X9_kind_18 rfl (by omega) ?_
    have hno : ¬ okKind s a b := fun h => by obtain ⟨⟨h1, h2⟩, h3, h4⟩ := h; omega
    exact ⟨by unfold vKind; rw [if_neg hno], m, rfl, by unfold nxKind; rw [if_neg hno]; exact hI, FXo.refl m⟩
