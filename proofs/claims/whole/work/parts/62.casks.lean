theorem pPh_rng {s : Nat → Int} (h : VS s) (k t : Nat) : 0 ≤ pPh s k t ∧ pPh s k t < (pT s : Int) := by
  have h1 := pRcv_rng h t
  have h2 := pOwn_rng h k t
  unfold pPh
  split <;> omega
theorem firstB_rng (f : Nat → Bool) : ∀ n : Nat, -1 ≤ firstB f n ∧ firstB f n ≤ (n : Int)
  | 0 => by show (-1 : Int) ≤ -1 ∧ (-1 : Int) ≤ 0; omega
  | n + 1 => by
    have ih := firstB_rng f n
    unfold firstB
    by_cases h : 0 ≤ firstB f n
    · rw [if_pos h]; omega
    · rw [if_neg h]
      by_cases c : f n = true
      · rw [if_pos c]; omega
      · rw [if_neg c]; omega
theorem nthB_rng (f : Nat → Bool) (n : Nat) (i : Int) : -1 ≤ nthB f n i ∧ nthB f n i ≤ (n : Int) := firstB_rng _ n
theorem vMem_of (f : Nat → Bool) (n : Nat) (a : Int) (h : a ≠ -1) : (if a < 0 then -1 else nthB f n a) = vMem f n a := by
  unfold vMem
  rw [if_neg h]
  by_cases c : a < 0
  · rw [if_pos c]
    exact (nthB_none (f := f) (fun q hq hf => by omega)).symm
  · rw [if_neg c]
theorem sp_Corder {w : List KD} {m : Nat → Nat → Int} (s : Nat → Int) (hV : VS s) (hI : CI s m) (a : Int) (hra : -2147483648 ≤ a ∧ a < 2147483648) (b : Int) (hrb : -2147483648 ≤ b ∧ b < 2147483648) : Sp M_X9_order 1 0 0 [rV 0, iV a, iV b] (WC ++ w, m) (fun r h => r = some (iV (vOrder s a b)) ∧ ∃ m2, h = (WC ++ w, m2) ∧ CI s m2 ∧ FXo m m2) := by
  refine Sp.ofG (ls := [rV 0, iV a, iV b]) (by decide +kernel) rfl (Nat.le_of_ble_eq_true rfl) ?_
  have hC := pC_le hV
  have hN := hV.N
  have hT := hV.T
  have hSc := hV.Sc
  refine G_aload_n d_X9_order_0 rfl ?_
  refine G_iload_n d_X9_order_1 rfl ?_
  refine G_callV1 cl_X9_181 rfl d_X9_order_2 (wk_0 _) (Nat.le_of_ble_eq_true rfl) (by decide) (sp_CisPath s hV hI.1 a hra) ?_
  rintro _ _ ⟨rfl, rfl⟩
  by_cases hp : 0 ≤ a ∧ a < (pC s : Int)
  · rw [if_pos hp]
    obtain ⟨p, rfl⟩ : ∃ n : Nat, a = (n : Int) := ⟨a.toNat, by omega⟩
    refine G_if_eq 28 d_X9_order_5 (by decide) (by decide) (fun hd => absurd hd (by decide)) (fun _ => ?_)
    refine G_aload_n d_X9_order_8 rfl ?_
    refine G_iload_n d_X9_order_9 rfl ?_
    refine G_callV1 cl_X9_113 rfl d_X9_order_10 (wk_0 _) (Nat.le_of_ble_eq_true rfl) (by decide) (sp_CisPulse s hV hI.1 b hrb) ?_
    rintro _ _ ⟨rfl, rfl⟩
    by_cases hk : 0 ≤ b ∧ b < (pN s : Int)
    · rw [if_pos hk]
      obtain ⟨k, rfl⟩ : ∃ n : Nat, b = (n : Int) := ⟨b.toNat, by omega⟩
      refine G_if_eq 28 d_X9_order_13 (by decide) (by decide) (fun hd => absurd hd (by decide)) (fun _ => ?_)
      refine G_aload_n d_X9_order_16 rfl ?_
      refine G_getR (r := 25) (fl_X9_43.r) d_X9_order_17 (wk_0 _) rfl rfl ?_
      refine G_iload_n d_X9_order_20 rfl ?_
      refine G_iload_n d_X9_order_21 rfl ?_
      refine G_callV2 cl_X9_174 rfl d_X9_order_22 (wk_25 _) (Nat.le_of_ble_eq_true rfl) (by decide) (sp_Cor s hV hI.1.2.2.1 p k (by omega) (by omega)) ?_
      rintro _ _ ⟨rfl, rfl⟩
      have hor := pO_rng hV p k
      refine G_goto 30 d_X9_order_25 (by decide) ?_
      refine G_iret (mc := 0) (ms := 0) (st := []) d_X9_order_30 rfl ?_
      exact ⟨by unfold vOrder; rw [if_pos ⟨hp, hk⟩]; rfl, m, rfl, hI, FXo.refl m⟩
    · rw [if_neg hk]
      refine G_if_eq 28 d_X9_order_13 (by decide) (by decide) (fun _ => ?_) (fun hd => absurd hd (by decide))
      refine G_bipush d_X9_order_28 (by decide) ?_
      refine G_iret (mc := 0) (ms := 0) (st := []) d_X9_order_30 rfl ?_
      exact ⟨by unfold vOrder; rw [if_neg (fun h => hk h.2)], m, rfl, hI, FXo.refl m⟩
  · rw [if_neg hp]
    refine G_if_eq 28 d_X9_order_5 (by decide) (by decide) (fun _ => ?_) (fun hd => absurd hd (by decide))
    refine G_bipush d_X9_order_28 (by decide) ?_
    refine G_iret (mc := 0) (ms := 0) (st := []) d_X9_order_30 rfl ?_
    exact ⟨by unfold vOrder; rw [if_neg (fun h => hp h.1)], m, rfl, hI, FXo.refl m⟩
theorem sp_Cphase {w : List KD} {m : Nat → Nat → Int} (s : Nat → Int) (hV : VS s) (hI : CI s m) (a : Int) (hra : -2147483648 ≤ a ∧ a < 2147483648) (b : Int) (hrb : -2147483648 ≤ b ∧ b < 2147483648) : Sp M_X9_phase 3 0 0 [rV 0, iV a, iV b] (WC ++ w, m) (fun r h => r = some (iV (vPhase s a b)) ∧ ∃ m2, h = (WC ++ w, m2) ∧ CI s m2 ∧ FXo m m2) := by
  refine Sp.ofG (ls := [rV 0, iV a, iV b]) (by decide +kernel) rfl (Nat.le_of_ble_eq_true rfl) ?_
  have hC := pC_le hV
  have hN := hV.N
  have hT := hV.T
  have hSc := hV.Sc
  refine G_aload_n d_X9_phase_0 rfl ?_
  refine G_iload_n d_X9_phase_1 rfl ?_
  refine G_callV1 cl_X9_146 rfl d_X9_phase_2 (wk_0 _) (Nat.le_of_ble_eq_true rfl) (by decide) (sp_CisRow s hV hI.1 a hra) ?_
  rintro _ _ ⟨rfl, rfl⟩
  by_cases hk : 0 ≤ a ∧ a ≤ (pN s : Int)
  · rw [if_pos hk]
    obtain ⟨k, rfl⟩ : ∃ n : Nat, a = (n : Int) := ⟨a.toNat, by omega⟩
    refine G_if_eq 16 d_X9_phase_5 (by decide) (by decide) (fun hd => absurd hd (by decide)) (fun _ => ?_)
    refine G_aload_n d_X9_phase_8 rfl ?_
    refine G_iload_n d_X9_phase_9 rfl ?_
    refine G_callV1 cl_X9_244 rfl d_X9_phase_10 (wk_0 _) (Nat.le_of_ble_eq_true rfl) (by decide) (sp_CisScan s hV hI.1 b hrb) ?_
    rintro _ _ ⟨rfl, rfl⟩
    by_cases ht : 0 ≤ b ∧ b < (pSc s : Int)
    · rw [if_pos ht]
      obtain ⟨t, rfl⟩ : ∃ n : Nat, b = (n : Int) := ⟨b.toNat, by omega⟩
      refine G_if_ne 18 d_X9_phase_13 (by decide) (by decide) (fun _ => ?_) (fun hd => absurd hd (by decide))
      refine G_aload_n d_X9_phase_18 rfl ?_
      refine G_callV0 cl_X9_247 rfl d_X9_phase_19 (wk_0 _) (Nat.le_of_ble_eq_true rfl) (by decide) (sp_CbuildScans s hV hI.1) ?_
      rintro _ _ ⟨rfl, m2, rfl, hB2, hF2, h302, hS2⟩
      refine G_aload_n d_X9_phase_22 rfl ?_
      refine G_getR (r := 30) (fl_X9_54.r) d_X9_phase_23 (wk_0 _) rfl rfl ?_
      refine G_getR (r := 31) fl_X9_250 d_X9_phase_26 (wk_30 _) rfl rfl ?_
      refine G_iload_n d_X9_phase_29 rfl ?_
      refine G_aald (r := 32 + k) d_X9_phase_30 (wk_31 _) (by omega) (by decide) (ph_at (by omega)) ?_
      refine G_iload_n d_X9_phase_31 rfl ?_
      refine G_ialdj (t) d_X9_phase_32 (wk_ph _ (show k < 6 by omega)) (by omega) (by omega) (by first | decide | assumption | omega) ?_
      rw [hS2.1.2 k (by omega) t (by omega)]
      have hpr := pPh_rng hV k t
      refine G_iret (mc := 0) (ms := 0) (st := []) d_X9_phase_33 rfl ?_
      exact ⟨by unfold vPhase; rw [if_pos ⟨hk, ht⟩]; rfl, m2, rfl, hI.fb hB2 hF2, hF2.x⟩
    · rw [if_neg ht]
      refine G_if_ne 18 d_X9_phase_13 (by decide) (by decide) (fun hd => absurd hd (by decide)) (fun _ => ?_)
      refine G_iconst d_X9_phase_16 ?_
      refine G_iret (mc := 0) (ms := 0) (st := []) d_X9_phase_17 rfl ?_
      exact ⟨by unfold vPhase; rw [if_neg (fun h => ht h.2)], m, rfl, hI, FXo.refl m⟩
  · rw [if_neg hk]
    refine G_if_eq 16 d_X9_phase_5 (by decide) (by decide) (fun _ => ?_) (fun hd => absurd hd (by decide))
    refine G_iconst d_X9_phase_16 ?_
    refine G_iret (mc := 0) (ms := 0) (st := []) d_X9_phase_17 rfl ?_
    exact ⟨by unfold vPhase; rw [if_neg (fun h => hk h.1)], m, rfl, hI, FXo.refl m⟩
theorem sp_Cresidue {w : List KD} {m : Nat → Nat → Int} (s : Nat → Int) (hV : VS s) (hI : CI s m) (a : Int) (hra : -2147483648 ≤ a ∧ a < 2147483648) (b : Int) (hrb : -2147483648 ≤ b ∧ b < 2147483648) : Sp M_X9_residue 3 0 0 [rV 0, iV a, iV b] (WC ++ w, m) (fun r h => r = some (iV (vRes s a b)) ∧ ∃ m2, h = (WC ++ w, m2) ∧ CI s m2 ∧ FXo m m2) := by
  refine Sp.ofG (ls := [rV 0, iV a, iV b]) (by decide +kernel) rfl (Nat.le_of_ble_eq_true rfl) ?_
  have hC := pC_le hV
  have hN := hV.N
  have hT := hV.T
  have hSc := hV.Sc
  refine G_aload_n d_X9_residue_0 rfl ?_
  refine G_iload_n d_X9_residue_1 rfl ?_
  refine G_callV1 cl_X9_181 rfl d_X9_residue_2 (wk_0 _) (Nat.le_of_ble_eq_true rfl) (by decide) (sp_CisPath s hV hI.1 a hra) ?_
  rintro _ _ ⟨rfl, rfl⟩
  by_cases hp : 0 ≤ a ∧ a < (pC s : Int)
  · rw [if_pos hp]
    obtain ⟨p, rfl⟩ : ∃ n : Nat, a = (n : Int) := ⟨a.toNat, by omega⟩
    refine G_if_eq 16 d_X9_residue_5 (by decide) (by decide) (fun hd => absurd hd (by decide)) (fun _ => ?_)
    refine G_aload_n d_X9_residue_8 rfl ?_
    refine G_iload_n d_X9_residue_9 rfl ?_
    refine G_callV1 cl_X9_244 rfl d_X9_residue_10 (wk_0 _) (Nat.le_of_ble_eq_true rfl) (by decide) (sp_CisScan s hV hI.1 b hrb) ?_
    rintro _ _ ⟨rfl, rfl⟩
    by_cases ht : 0 ≤ b ∧ b < (pSc s : Int)
    · rw [if_pos ht]
      obtain ⟨t, rfl⟩ : ∃ n : Nat, b = (n : Int) := ⟨b.toNat, by omega⟩
      refine G_if_ne 18 d_X9_residue_13 (by decide) (by decide) (fun _ => ?_) (fun hd => absurd hd (by decide))
      refine G_aload_n d_X9_residue_18 rfl ?_
      refine G_callV0 cl_X9_247 rfl d_X9_residue_19 (wk_0 _) (Nat.le_of_ble_eq_true rfl) (by decide) (sp_CbuildScans s hV hI.1) ?_
      rintro _ _ ⟨rfl, m2, rfl, hB2, hF2, h302, hS2⟩
      refine G_aload_n d_X9_residue_22 rfl ?_
      refine G_getR (r := 30) (fl_X9_54.r) d_X9_residue_23 (wk_0 _) rfl rfl ?_
      refine G_aload_n d_X9_residue_26 rfl ?_
      refine G_getR (r := 25) (fl_X9_43.r) d_X9_residue_27 (wk_0 _) rfl rfl ?_
      refine G_iload_n d_X9_residue_30 rfl ?_
      refine G_callV2 cl_X9_254 rfl d_X9_residue_31 (wk_30 _) (Nat.le_of_ble_eq_true rfl) (by decide) (sp_residues s hV hB2.2.2.1 hS2 p (by omega)) ?_
      rintro _ _ ⟨rfl, m3, rfl, hS3, hr3, hF3⟩
      obtain ⟨hB3, hF3b, h303⟩ := hB2.tally h302 hS3 (fun a h1 h2 => hF3.1 a h1 (by omega)) hF3.2
      refine G_iload_n d_X9_residue_34 rfl ?_
      refine G_ialdj (t) d_X9_residue_35 (wk_tu _ (show pN s < 6 by omega)) (by omega) (by omega) (by first | decide | assumption | omega) ?_
      rw [hr3 t (by omega)]
      have hrl := pRes_lt hV p t
      refine G_iret (mc := 0) (ms := 0) (st := []) d_X9_residue_36 rfl ?_
      exact ⟨by unfold vRes; rw [if_pos ⟨hp, ht⟩]; rfl, m3, rfl, hI.fb hB3 (hF2.trans hF3b), (hF2.trans hF3b).x⟩
    · rw [if_neg ht]
      refine G_if_ne 18 d_X9_residue_13 (by decide) (by decide) (fun hd => absurd hd (by decide)) (fun _ => ?_)
      refine G_iconst d_X9_residue_16 ?_
      refine G_iret (mc := 0) (ms := 0) (st := []) d_X9_residue_17 rfl ?_
      exact ⟨by unfold vRes; rw [if_neg (fun h => ht h.2)], m, rfl, hI, FXo.refl m⟩
  · rw [if_neg hp]
    refine G_if_eq 16 d_X9_residue_5 (by decide) (by decide) (fun _ => ?_) (fun hd => absurd hd (by decide))
    refine G_iconst d_X9_residue_16 ?_
    refine G_iret (mc := 0) (ms := 0) (st := []) d_X9_residue_17 rfl ?_
    exact ⟨by unfold vRes; rw [if_neg (fun h => hp h.1)], m, rfl, hI, FXo.refl m⟩
theorem sp_Cmany {w : List KD} {m : Nat → Nat → Int} (s : Nat → Int) (hV : VS s) (hI : CI s m) (a : Int) (hra : -2147483648 ≤ a ∧ a < 2147483648) (b : Int) (hrb : -2147483648 ≤ b ∧ b < 2147483648) : Sp M_X9_many 3 0 0 [rV 0, iV a, iV b] (WC ++ w, m) (fun r h => r = some (iV (vMany s a b)) ∧ ∃ m2, h = (WC ++ w, m2) ∧ CI s m2 ∧ FXo m m2) := by
  refine Sp.ofG (ls := [rV 0, iV a, iV b]) (by decide +kernel) rfl (Nat.le_of_ble_eq_true rfl) ?_
  have hC := pC_le hV
  have hN := hV.N
  have hT := hV.T
  have hSc := hV.Sc
  refine G_aload_n d_X9_many_0 rfl ?_
  refine G_iload_n d_X9_many_1 rfl ?_
  refine G_callV1 cl_X9_181 rfl d_X9_many_2 (wk_0 _) (Nat.le_of_ble_eq_true rfl) (by decide) (sp_CisPath s hV hI.1 a hra) ?_
  rintro _ _ ⟨rfl, rfl⟩
  by_cases hp : 0 ≤ a ∧ a < (pC s : Int)
  · rw [if_pos hp]
    obtain ⟨p, rfl⟩ : ∃ n : Nat, a = (n : Int) := ⟨a.toNat, by omega⟩
    refine G_if_eq 23 d_X9_many_5 (by decide) (by decide) (fun hd => absurd hd (by decide)) (fun _ => ?_)
    refine G_iload_n d_X9_many_8 rfl ?_
    refine G_if_lt 23 d_X9_many_9 (by decide) (by omega) (fun c9 => ?_) (fun c9 => ?_)
    · refine G_iconst d_X9_many_23 ?_
      refine G_iret (mc := 0) (ms := 0) (st := []) d_X9_many_24 rfl ?_
      exact ⟨by unfold vMany; rw [if_neg (fun h => by omega)], m, rfl, hI, FXo.refl m⟩
    · refine G_iload_n d_X9_many_12 rfl ?_
      refine G_aload_n d_X9_many_13 rfl ?_
      refine G_getR (r := 6) (fl_X9_19.r) d_X9_many_14 (wk_0 _) rfl rfl ?_
      refine G_getIe (v := (pT s : Int)) (fl_X9_123.r) d_X9_many_17 (wk_6 _) rfl (hI.1.2.1.1.1) ?_
      refine G_icmp_lt 25 d_X9_many_20 (by decide) (by omega) (by omega) (fun c20 => ?_) (fun c20 => ?_)
      · obtain ⟨x, rfl⟩ : ∃ n : Nat, b = (n : Int) := ⟨b.toNat, by omega⟩
        refine G_aload_n d_X9_many_25 rfl ?_
        refine G_callV0 cl_X9_247 rfl d_X9_many_26 (wk_0 _) (Nat.le_of_ble_eq_true rfl) (by decide) (sp_CbuildScans s hV hI.1) ?_
        rintro _ _ ⟨rfl, m2, rfl, hB2, hF2, h302, hS2⟩
        refine G_aload_n d_X9_many_29 rfl ?_
        refine G_getR (r := 30) (fl_X9_54.r) d_X9_many_30 (wk_0 _) rfl rfl ?_
        refine G_aload_n d_X9_many_33 rfl ?_
        refine G_getR (r := 25) (fl_X9_43.r) d_X9_many_34 (wk_0 _) rfl rfl ?_
        refine G_iload_n d_X9_many_37 rfl ?_
        refine G_aload_n d_X9_many_38 rfl ?_
        refine G_getR (r := 30) (fl_X9_54.r) d_X9_many_39 (wk_0 _) rfl rfl ?_
        refine G_getIe (v := (pSc s : Int)) (fl_X9_258.r) d_X9_many_42 (wk_30 _) rfl (hS2.1.1.1) ?_
        refine G_callV3 cl_X9_259 rfl d_X9_many_45 (wk_30 _) (Nat.le_of_ble_eq_true rfl) (by decide) (sp_tally s hV hB2.2.2.1 hS2 p (pSc s) (by omega) (by omega)) ?_
        rintro _ _ ⟨rfl, m3, rfl, hS3, hc3, hf3, hg3⟩
        obtain ⟨hB3, hF3b, h303⟩ := hB2.tally h302 hS3 hf3 hg3
        refine G_iload_n d_X9_many_48 rfl ?_
        refine G_ialdj (x) d_X9_many_49 (wk_45 _) (by omega) (by omega) (by decide) ?_
        rw [hc3 x (by omega)]
        have hcr := pCnt_rng s p (pSc s) x
        refine G_iret (mc := 0) (ms := 0) (st := []) d_X9_many_50 rfl ?_
        exact ⟨by unfold vMany; rw [if_pos ⟨hp, by omega⟩]; rfl, m3, rfl, hI.fb hB3 (hF2.trans hF3b), (hF2.trans hF3b).x⟩
      · refine G_iconst d_X9_many_23 ?_
        refine G_iret (mc := 0) (ms := 0) (st := []) d_X9_many_24 rfl ?_
        exact ⟨by unfold vMany; rw [if_neg (fun h => by omega)], m, rfl, hI, FXo.refl m⟩
  · rw [if_neg hp]
    refine G_if_eq 23 d_X9_many_5 (by decide) (by decide) (fun _ => ?_) (fun hd => absurd hd (by decide))
    refine G_iconst d_X9_many_23 ?_
    refine G_iret (mc := 0) (ms := 0) (st := []) d_X9_many_24 rfl ?_
    exact ⟨by unfold vMany; rw [if_neg (fun h => hp h.1)], m, rfl, hI, FXo.refl m⟩
theorem sp_Cpath {w : List KD} {m : Nat → Nat → Int} (s : Nat → Int) (hV : VS s) (hI : CI s m) (a : Int) (hra : -2147483648 ≤ a ∧ a < 2147483648) (b : Int) (hrb : -2147483648 ≤ b ∧ b < 2147483648) : Sp M_X9_path 6 0 0 [rV 0, iV a, iV b] (WC ++ w, m) (fun r h => r = some (iV (vPath s a b)) ∧ ∃ m2, h = (WC ++ w, m2) ∧ CI s m2 ∧ FXo m m2) := by
  refine Sp.ofG (ls := [rV 0, iV a, iV b]) (by decide +kernel) rfl (Nat.le_of_ble_eq_true rfl) ?_
  have hC := pC_le hV
  have hN := hV.N
  have hT := hV.T
  have hSc := hV.Sc
  refine G_aload_n d_X9_path_0 rfl ?_
  refine G_iload_n d_X9_path_1 rfl ?_
  refine G_callV1 cl_X9_181 rfl d_X9_path_2 (wk_0 _) (Nat.le_of_ble_eq_true rfl) (by decide) (sp_CisPath s hV hI.1 a hra) ?_
  rintro _ _ ⟨rfl, rfl⟩
  by_cases hp : 0 ≤ a ∧ a < (pC s : Int)
  · rw [if_pos hp]
    obtain ⟨p, rfl⟩ : ∃ n : Nat, a = (n : Int) := ⟨a.toNat, by omega⟩
    refine G_if_ne 10 d_X9_path_5 (by decide) (by decide) (fun _ => ?_) (fun hd => absurd hd (by decide))
    refine G_iload_n d_X9_path_10 rfl ?_
    by_cases hs11 : 0 ≤ b ∧ b ≤ 8
    · rcases (show b = 0 ∨ b = 1 ∨ b = 2 ∨ b = 3 ∨ b = 4 ∨ b = 5 ∨ b = 6 ∨ b = 7 ∨ b = 8 by omega) with hv | hv | hv | hv | hv | hv | hv | hv | hv
      · refine G_tin 60 d_X9_path_11 (by omega) (by omega) (by omega) (by rw [hv]; rfl) (by decide) ?_
        refine G_aload_n d_X9_path_60 rfl ?_
        refine G_iload_n d_X9_path_61 rfl ?_
        refine G_callV1 cl_X9_263 rfl d_X9_path_62 (wk_0 _) (Nat.le_of_ble_eq_true rfl) (by decide) (sp_CstateOf s hV hI p (by omega)) ?_
        rintro _ _ ⟨rfl, m2, rfl, h2, hF2⟩
        have hsr := pSt_rng s p
        refine G_iret (mc := 0) (ms := 0) (st := []) d_X9_path_65 rfl ?_
        exact ⟨by unfold vPath; rw [if_pos hp, hv]; rfl, m2, rfl, h2, hF2.x⟩
      · refine G_tin 66 d_X9_path_11 (by omega) (by omega) (by omega) (by rw [hv]; rfl) (by decide) ?_
        refine G_aload_n d_X9_path_66 rfl ?_
        refine G_getR (r := 1) (fl_X9_12.r) d_X9_path_67 (wk_0 _) rfl rfl ?_
        refine G_getR (r := 5) fl_X9_178 d_X9_path_70 (wk_1 _) rfl rfl ?_
        refine G_iload_n d_X9_path_73 rfl ?_
        refine G_baldj (p) d_X9_path_74 (wk_5 _) (by omega) (by omega) (by decide) ?_
        rw [hI.1.1.2.2.2.2.2 p (by omega), show s (227 + p) = pMk s p from rfl]
        have hMk := hV.Mk p (by omega)
        refine G_iconst d_X9_path_75 ?_
        refine G_icmp_ne 83 d_X9_path_76 (by decide) (by omega) (by omega) (fun c76 => ?_) (fun c76 => ?_)
        · refine G_iconst d_X9_path_83 ?_
          refine G_iret (mc := 0) (ms := 0) (st := []) d_X9_path_84 rfl ?_
          exact ⟨by unfold vPath; rw [if_pos hp, hv]; show some (iV 0) = some (iV (b1 (pMk s p == 1))); unfold b1; rw [if_neg (by simpa using c76)], m, rfl, hI, FXo.refl m⟩
        · refine G_iconst d_X9_path_79 ?_
          refine G_goto 84 d_X9_path_80 (by decide) ?_
          refine G_iret (mc := 0) (ms := 0) (st := []) d_X9_path_84 rfl ?_
          exact ⟨by unfold vPath; rw [if_pos hp, hv]; show some (iV 1) = some (iV (b1 (pMk s p == 1))); unfold b1; rw [if_pos (by simpa using c76)], m, rfl, hI, FXo.refl m⟩
      · refine G_tin 85 d_X9_path_11 (by omega) (by omega) (by omega) (by rw [hv]; rfl) (by decide) ?_
        refine G_aload_n d_X9_path_85 rfl ?_
        refine G_getR (r := 1) (fl_X9_12.r) d_X9_path_86 (wk_0 _) rfl rfl ?_
        refine G_getR (r := 5) fl_X9_178 d_X9_path_89 (wk_1 _) rfl rfl ?_
        refine G_iload_n d_X9_path_92 rfl ?_
        refine G_baldj (p) d_X9_path_93 (wk_5 _) (by omega) (by omega) (by decide) ?_
        rw [hI.1.1.2.2.2.2.2 p (by omega), show s (227 + p) = pMk s p from rfl]
        have hMk := hV.Mk p (by omega)
        refine G_iconst d_X9_path_94 ?_
        refine G_icmp_ne 102 d_X9_path_95 (by decide) (by omega) (by omega) (fun c95 => ?_) (fun c95 => ?_)
        · refine G_iconst d_X9_path_102 ?_
          refine G_iret (mc := 0) (ms := 0) (st := []) d_X9_path_103 rfl ?_
          exact ⟨by unfold vPath; rw [if_pos hp, hv]; show some (iV 0) = some (iV (b1 (pMk s p == 2))); unfold b1; rw [if_neg (by simpa using c95)], m, rfl, hI, FXo.refl m⟩
        · refine G_iconst d_X9_path_98 ?_
          refine G_goto 103 d_X9_path_99 (by decide) ?_
          refine G_iret (mc := 0) (ms := 0) (st := []) d_X9_path_103 rfl ?_
          exact ⟨by unfold vPath; rw [if_pos hp, hv]; show some (iV 1) = some (iV (b1 (pMk s p == 2))); unfold b1; rw [if_pos (by simpa using c95)], m, rfl, hI, FXo.refl m⟩
      · refine G_tin 104 d_X9_path_11 (by omega) (by omega) (by omega) (by rw [hv]; rfl) (by decide) ?_
        refine G_aload_n d_X9_path_104 rfl ?_
        refine G_iconst d_X9_path_105 ?_
        refine G_iload_n d_X9_path_106 rfl ?_
        refine G_callV2 cl_X9_266 rfl d_X9_path_107 (wk_0 _) (Nat.le_of_ble_eq_true rfl) (by decide) (sp_CisIn s hV hI 0 p (by decide) (by omega)) ?_
        rintro _ _ ⟨rfl, m2, rfl, h2, hF2⟩
        by_cases hg : grp s 0 p = true
        · rw [if_pos hg]
          refine G_if_eq 117 d_X9_path_110 (by decide) (by decide) (fun hd => absurd hd (by decide)) (fun _ => ?_)
          refine G_iconst d_X9_path_113 ?_
          refine G_goto 118 d_X9_path_114 (by decide) ?_
          refine G_iret (mc := 0) (ms := 0) (st := []) d_X9_path_118 rfl ?_
          exact ⟨by unfold vPath; rw [if_pos hp, hv]; show some (iV 1) = some (iV (b1 (pLeak s p))); unfold b1; rw [if_pos (show pLeak s p = true from hg)], m2, rfl, h2, hF2.x⟩
        · rw [if_neg hg]
          refine G_if_eq 117 d_X9_path_110 (by decide) (by decide) (fun _ => ?_) (fun hd => absurd hd (by decide))
          refine G_iconst d_X9_path_117 ?_
          refine G_iret (mc := 0) (ms := 0) (st := []) d_X9_path_118 rfl ?_
          exact ⟨by unfold vPath; rw [if_pos hp, hv]; show some (iV 0) = some (iV (b1 (pLeak s p))); unfold b1; rw [if_neg (show ¬ pLeak s p = true from hg)], m2, rfl, h2, hF2.x⟩
      · refine G_tin 119 d_X9_path_11 (by omega) (by omega) (by omega) (by rw [hv]; rfl) (by decide) ?_
        refine G_aload_n d_X9_path_119 rfl ?_
        refine G_getR (r := 25) (fl_X9_43.r) d_X9_path_120 (wk_0 _) rfl rfl ?_
        refine G_iload_n d_X9_path_123 rfl ?_
        refine G_aload_n d_X9_path_124 rfl ?_
        refine G_getR (r := 1) (fl_X9_12.r) d_X9_path_125 (wk_0 _) rfl rfl ?_
        refine G_getIe (v := (pN s : Int)) (fl_X9_194.r) d_X9_path_128 (wk_1 _) rfl (hI.1.1.1) ?_
        refine G_callV2 cl_X9_270 rfl d_X9_path_131 (wk_25 _) (Nat.le_of_ble_eq_true rfl) (by decide) (sp_countChanges s hV hI.1.2.2.1 p (by omega)) ?_
        rintro _ _ ⟨rfl, rfl⟩
        have hcl := cntB_le (fun k => pCh s p k != 0) (pN s)
        refine G_iret (mc := 0) (ms := 0) (st := []) d_X9_path_134 rfl ?_
        exact ⟨by unfold vPath; rw [if_pos hp, hv]; rfl, m, rfl, hI, FXo.refl m⟩
      · refine G_tin 135 d_X9_path_11 (by omega) (by omega) (by omega) (by rw [hv]; rfl) (by decide) ?_
        refine G_aload_n d_X9_path_135 rfl ?_
        refine G_getR (r := 25) (fl_X9_43.r) d_X9_path_136 (wk_0 _) rfl rfl ?_
        refine G_iload_n d_X9_path_139 rfl ?_
        refine G_aload_n d_X9_path_140 rfl ?_
        refine G_getR (r := 1) (fl_X9_12.r) d_X9_path_141 (wk_0 _) rfl rfl ?_
        refine G_getIe (v := (pN s : Int)) (fl_X9_194.r) d_X9_path_144 (wk_1 _) rfl (hI.1.1.1) ?_
        refine G_callV2 cl_X9_273 rfl d_X9_path_147 (wk_25 _) (Nat.le_of_ble_eq_true rfl) (by decide) (sp_greatestOrder s hV hI.1.2.2.1 p (by omega)) ?_
        rintro _ _ ⟨rfl, rfl⟩
        have hmx := maxN_rng (f := fun k => ((pO s p k).natAbs : Int)) (B := 3) (by decide) (n := pN s) (fun i _ => by have := pO_rng hV p i; omega)
        refine G_iret (mc := 0) (ms := 0) (st := []) d_X9_path_150 rfl ?_
        exact ⟨by unfold vPath; rw [if_pos hp, hv]; rfl, m, rfl, hI, FXo.refl m⟩
      · refine G_tin 151 d_X9_path_11 (by omega) (by omega) (by omega) (by rw [hv]; rfl) (by decide) ?_
        refine G_aload_n d_X9_path_151 rfl ?_
        refine G_callV0 cl_X9_276 rfl d_X9_path_152 (wk_0 _) (Nat.le_of_ble_eq_true rfl) (by decide) (sp_CweighPaths s hV hI.1) ?_
        rintro _ _ ⟨rfl, m2, rfl, hB2, hF2, hK2, -, -⟩
        have hKp := hK2 p (by omega)
        have hwr := pWt_rng hV p
        refine G_aload_n d_X9_path_155 rfl ?_
        refine G_getR (r := 25) (fl_X9_43.r) d_X9_path_156 (wk_0 _) rfl rfl ?_
        refine G_getR (r := 29) fl_X9_279 d_X9_path_159 (wk_25 _) rfl rfl ?_
        refine G_iload_n d_X9_path_162 rfl ?_
        refine G_baldj (p) d_X9_path_163 (wk_29 _) (by omega) (by omega) (by decide) ?_
        rw [hKp.2]
        refine G_iret (mc := 0) (ms := 0) (st := []) d_X9_path_164 rfl ?_
        exact ⟨by unfold vPath; rw [if_pos hp, hv]; show some (iV (if pSp s p ≠ 0 then 1 else 0)) = some (iV (b1 (pSp s p != 0))); unfold b1; by_cases c : pSp s p = 0 <;> simp [c], m2, rfl, hI.fb hB2 hF2, hF2.x⟩
      · refine G_tin 165 d_X9_path_11 (by omega) (by omega) (by omega) (by rw [hv]; rfl) (by decide) ?_
        refine G_aload_n d_X9_path_165 rfl ?_
        refine G_callV0 cl_X9_276 rfl d_X9_path_166 (wk_0 _) (Nat.le_of_ble_eq_true rfl) (by decide) (sp_CweighPaths s hV hI.1) ?_
        rintro _ _ ⟨rfl, m2, rfl, hB2, hF2, hK2, -, -⟩
        have hKp := hK2 p (by omega)
        have hwr := pWt_rng hV p
        refine G_aload_n d_X9_path_169 rfl ?_
        refine G_getR (r := 25) (fl_X9_43.r) d_X9_path_170 (wk_0 _) rfl rfl ?_
        refine G_getR (r := 28) fl_X9_282 d_X9_path_173 (wk_25 _) rfl rfl ?_
        refine G_iload_n d_X9_path_176 rfl ?_
        refine G_ialdj (p) d_X9_path_177 (wk_28 _) (by omega) (by omega) (by decide) ?_
        rw [hKp.1]
        refine G_iret (mc := 0) (ms := 0) (st := []) d_X9_path_178 rfl ?_
        exact ⟨by unfold vPath; rw [if_pos hp, hv]; rfl, m2, rfl, hI.fb hB2 hF2, hF2.x⟩
      · refine G_tin 179 d_X9_path_11 (by omega) (by omega) (by omega) (by rw [hv]; rfl) (by decide) ?_
        refine G_aload_n d_X9_path_179 rfl ?_
        refine G_iload_n d_X9_path_180 rfl ?_
        refine G_callV1 cl_X9_283 rfl d_X9_path_181 (wk_0 _) (Nat.le_of_ble_eq_true rfl) (by decide) (sp_CisGone s hV hI.1 p (by omega)) ?_
        rintro _ _ ⟨rfl, m2, rfl, h2, hF2, -⟩
        by_cases hg : pGone s p = true
        · rw [if_pos hg]
          refine G_if_eq 191 d_X9_path_184 (by decide) (by decide) (fun hd => absurd hd (by decide)) (fun _ => ?_)
          refine G_iconst d_X9_path_187 ?_
          refine G_goto 192 d_X9_path_188 (by decide) ?_
          refine G_iret (mc := 0) (ms := 0) (st := []) d_X9_path_192 rfl ?_
          exact ⟨by unfold vPath; rw [if_pos hp, hv]; show some (iV 1) = some (iV (b1 (pGone s p))); unfold b1; rw [if_pos (show pGone s p = true from hg)], m2, rfl, hI.fb h2 hF2, hF2.x⟩
        · rw [if_neg hg]
          refine G_if_eq 191 d_X9_path_184 (by decide) (by decide) (fun _ => ?_) (fun hd => absurd hd (by decide))
          refine G_iconst d_X9_path_191 ?_
          refine G_iret (mc := 0) (ms := 0) (st := []) d_X9_path_192 rfl ?_
          exact ⟨by unfold vPath; rw [if_pos hp, hv]; show some (iV 0) = some (iV (b1 (pGone s p))); unfold b1; rw [if_neg (show ¬ pGone s p = true from hg)], m2, rfl, hI.fb h2 hF2, hF2.x⟩
    · refine G_tout 193 d_X9_path_11 (by omega) (by omega) (by decide) ?_
      refine G_iconst d_X9_path_193 ?_
      refine G_iret (mc := 0) (ms := 0) (st := []) d_X9_path_194 rfl ?_
      exact ⟨by unfold vPath; rw [if_pos hp, if_neg (by omega), if_neg (by omega), if_neg (by omega), if_neg (by omega), if_neg (by omega), if_neg (by omega), if_neg (by omega), if_neg (by omega), if_neg (by omega)], m, rfl, hI, FXo.refl m⟩
  · rw [if_neg hp]
    refine G_if_ne 10 d_X9_path_5 (by decide) (by decide) (fun hd => absurd hd (by decide)) (fun _ => ?_)
    refine G_iconst d_X9_path_8 ?_
    refine G_iret (mc := 0) (ms := 0) (st := []) d_X9_path_9 rfl ?_
    exact ⟨by unfold vPath; rw [if_neg hp], m, rfl, hI, FXo.refl m⟩
theorem sp_Cleak {w : List KD} {m : Nat → Nat → Int} (s : Nat → Int) (hV : VS s) (hI : CI s m) (a : Int) (hra : -2147483648 ≤ a ∧ a < 2147483648) : Sp M_X9_leak 7 0 0 [rV 0, iV a] (WC ++ w, m) (fun r h => r = some (iV (vMem (pLeak s) (pC s) a)) ∧ ∃ m2, h = (WC ++ w, m2) ∧ CI s m2 ∧ FXo m m2) := by
  refine Sp.ofG (ls := [rV 0, iV a]) (by decide +kernel) rfl (Nat.le_of_ble_eq_true rfl) ?_
  have hC := pC_le hV
  have hN := hV.N
  have hT := hV.T
  have hSc := hV.Sc
  refine G_iload_n d_X9_leak_0 rfl ?_
  refine G_iconst d_X9_leak_1 ?_
  refine G_icmp_ne 13 d_X9_leak_2 (by decide) (by omega) (by omega) (fun c2 => ?_) (fun c2 => ?_)
  · refine G_aload_n d_X9_leak_13 rfl ?_
    refine G_iconst d_X9_leak_14 ?_
    refine G_iload_n d_X9_leak_15 rfl ?_
    refine G_callV2 cl_X9_288 rfl d_X9_leak_16 (wk_0 _) (Nat.le_of_ble_eq_true rfl) (by decide) (sp_Cmember s hV hI 0 (by decide) a hra) ?_
    rintro _ _ ⟨rfl, m2, rfl, h2, hF2⟩
    have hnr := nthB_rng (grp s 0) (pC s) a
    refine G_iret (mc := 0) (ms := 0) (st := []) d_X9_leak_19 rfl ?_
    exact ⟨by rw [show (if a < 0 then -1 else nthB (grp s 0) (pC s) a) = vMem (pLeak s) (pC s) a from vMem_of _ _ _ (by omega)], m2, rfl, h2, hF2.x⟩
  · refine G_aload_n d_X9_leak_5 rfl ?_
    refine G_iconst d_X9_leak_6 ?_
    refine G_callV1 cl_X9_286 rfl d_X9_leak_7 (wk_0 _) (Nat.le_of_ble_eq_true rfl) (by decide) (sp_Ccount s hV hI 0 (by decide)) ?_
    rintro _ _ ⟨rfl, m2, rfl, h2, hF2⟩
    refine G_goto 19 d_X9_leak_10 (by decide) ?_
    have hcl := cntB_le (grp s 0) (pC s)
    refine G_iret (mc := 0) (ms := 0) (st := []) d_X9_leak_19 rfl ?_
    exact ⟨by unfold vMem; rw [if_pos (by omega)]; rfl, m2, rfl, h2, hF2.x⟩
theorem sp_Clost {w : List KD} {m : Nat → Nat → Int} (s : Nat → Int) (hV : VS s) (hI : CI s m) (a : Int) (hra : -2147483648 ≤ a ∧ a < 2147483648) : Sp M_X9_lost 7 0 0 [rV 0, iV a] (WC ++ w, m) (fun r h => r = some (iV (vMem (pLost s) (pC s) a)) ∧ ∃ m2, h = (WC ++ w, m2) ∧ CI s m2 ∧ FXo m m2) := by
  refine Sp.ofG (ls := [rV 0, iV a]) (by decide +kernel) rfl (Nat.le_of_ble_eq_true rfl) ?_
  have hC := pC_le hV
  have hN := hV.N
  have hT := hV.T
  have hSc := hV.Sc
  refine G_iload_n d_X9_lost_0 rfl ?_
  refine G_iconst d_X9_lost_1 ?_
  refine G_icmp_ne 13 d_X9_lost_2 (by decide) (by omega) (by omega) (fun c2 => ?_) (fun c2 => ?_)
  · refine G_aload_n d_X9_lost_13 rfl ?_
    refine G_iconst d_X9_lost_14 ?_
    refine G_iload_n d_X9_lost_15 rfl ?_
    refine G_callV2 cl_X9_288 rfl d_X9_lost_16 (wk_0 _) (Nat.le_of_ble_eq_true rfl) (by decide) (sp_Cmember s hV hI 1 (by decide) a hra) ?_
    rintro _ _ ⟨rfl, m2, rfl, h2, hF2⟩
    have hnr := nthB_rng (grp s 1) (pC s) a
    refine G_iret (mc := 0) (ms := 0) (st := []) d_X9_lost_19 rfl ?_
    exact ⟨by rw [show (if a < 0 then -1 else nthB (grp s 1) (pC s) a) = vMem (pLost s) (pC s) a from vMem_of _ _ _ (by omega)], m2, rfl, h2, hF2.x⟩
  · refine G_aload_n d_X9_lost_5 rfl ?_
    refine G_iconst d_X9_lost_6 ?_
    refine G_callV1 cl_X9_286 rfl d_X9_lost_7 (wk_0 _) (Nat.le_of_ble_eq_true rfl) (by decide) (sp_Ccount s hV hI 1 (by decide)) ?_
    rintro _ _ ⟨rfl, m2, rfl, h2, hF2⟩
    refine G_goto 19 d_X9_lost_10 (by decide) ?_
    have hcl := cntB_le (grp s 1) (pC s)
    refine G_iret (mc := 0) (ms := 0) (st := []) d_X9_lost_19 rfl ?_
    exact ⟨by unfold vMem; rw [if_pos (by omega)]; rfl, m2, rfl, h2, hF2.x⟩
