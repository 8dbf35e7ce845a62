theorem sp_csearch {w : List KD} {m : Nat → Nat → Int} (s : Nat → Int) (hV : VS s) (hB : CB s m) (hW : WN s m) (hWk : WGk s m) : Sp M_X0_search 10 0 0 [rV 60, rV 52, rV 25, rV 5, iV (pT s : Int)] (WC ++ w, m) (fun r h => r = none ∧ ∃ m2, h = (WC ++ w, m2) ∧ GN s m2 ∧ m2 60 0 = 1 ∧ (∀ a, (a < 60 ∨ 63 < a) → m2 a = m a)) := by
  refine Sp.ofG (ls := [rV 60, rV 52, rV 25, rV 5, iV (pT s : Int), uV]) (by decide +kernel) rfl (Nat.le_of_ble_eq_true rfl) ?_
  have hC := pC_le hV
  have hN := hV.N
  have hT := hV.T
  have hSc := hV.Sc
  have e0 : ∀ a, a ≠ 60 → (upm (upm m 60 0 1) 60 1 (-1)) a = m a := fun a h => by rw [upm_off _ _ h, upm_off _ _ h]
  have hbr := b1_rng (posb s)
  have K : ∀ m1 (v : Nat × (Nat → Nat)) (x : Nat), resC s = some v → m1 60 1 = (v.1 : Int) → m1 60 0 = 1 → (∀ i, i < pN s → m1 61 i = (v.2 i : Int)) → (∀ a, (a < 60 ∨ 63 < a) → m1 a = m a) → x ≤ 14 → 1 ≤ v.1 ∧ v.1 ≤ 12 → G M_X0_search 10 0 0 38 [rV 60, rV 52, rV 25, rV 5, iV (pT s : Int), iV (x : Int)] [] (WC ++ w, m1) (fun r h => r = none ∧ ∃ m2, h = (WC ++ w, m2) ∧ GN s m2 ∧ m2 60 0 = 1 ∧ (∀ a, (a < 60 ∨ 63 < a) → m2 a = m a)) := by
    intro m1 v x hv h1 h60 h61 hfr hx hv12
    have hg : GN s m1 := ⟨by rw [h1, hv]; rfl, fun _ i hi => by rw [hv]; exact h61 i hi⟩
    refine G_iload d_X0_search_38 rfl ?_
    refine G_bipush d_X0_search_40 (by decide) ?_
    refine G_icmp_gt 86 d_X0_search_42 (by decide) (by omega) (by omega) (fun c42 => ?_) (fun c42 => ?_)
    · refine G_vret (mc := 0) (ms := 0) (st := []) d_X0_search_86 rfl ?_
      exact ⟨rfl, m1, rfl, hg, h60, hfr⟩
    · refine G_aload_n d_X0_search_45 rfl ?_
      refine G_getIe (v := (v.1 : Int)) (fl_X0_15.r) d_X0_search_46 (wk_60 _) rfl (h1) ?_
      refine G_iconst d_X0_search_49 ?_
      refine G_icmp_ne 86 d_X0_search_50 (by decide) (by omega) (by omega) (fun c50 => ?_) (fun c50 => ?_)
      · refine G_vret (mc := 0) (ms := 0) (st := []) d_X0_search_86 rfl ?_
        exact ⟨rfl, m1, rfl, hg, h60, hfr⟩
      · omega
  have L : ∀ x : Nat, x ≤ 12 → pChief s ≠ -1 → pC s ≤ 200 → posb s = true → ∀ m1, WS s m1 → SO s m1 → m1 60 1 = -1 → m1 60 0 = 1 → fndC s x = none → (∀ a, (a < 60 ∨ 63 < a) → m1 a = m a) → G M_X0_search 10 0 0 38 [rV 60, rV 52, rV 25, rV 5, iV (pT s : Int), iV ((x : Int) + 1)] [] (WC ++ w, m1) (fun r h => r = none ∧ ∃ m2, h = (WC ++ w, m2) ∧ GN s m2 ∧ m2 60 0 = 1 ∧ (∀ a, (a < 60 ∨ 63 < a) → m2 a = m a)) := by
    refine loop_up (12) _ ?_
    intro x hx ih hch h200 hpos m1 hS hO h1 h60 hf hfr
    refine G_iload d_X0_search_38 rfl ?_
    refine G_bipush d_X0_search_40 (by decide) ?_
    refine G_icmp_gt 86 d_X0_search_42 (by decide) (by omega) (by omega) (fun c42 => ?_) (fun c42 => ?_)
    · refine G_vret (mc := 0) (ms := 0) (st := []) d_X0_search_86 rfl ?_
      have hxe : x = 12 := by omega
      rw [hxe] at hf
      have hr : resC s = none := by unfold resC; rw [if_pos ⟨h200, hpos⟩]; exact hf
      exact ⟨rfl, m1, rfl, ⟨by rw [h1, hr]; rfl, fun h => absurd (by rw [hr]; rfl) h⟩, h60, hfr⟩
    · refine G_aload_n d_X0_search_45 rfl ?_
      refine G_getIe (v := (-1 : Int)) (fl_X0_15.r) d_X0_search_46 (wk_60 _) rfl (h1) ?_
      refine G_iconst d_X0_search_49 ?_
      refine G_icmp_ne 86 d_X0_search_50 (by decide) (by omega) (by omega) (fun c50 => ?_) (fun c50 => ?_)
      · omega
      · refine G_iload d_X0_search_53 rfl ?_
        refine G_iload d_X0_search_55 rfl ?_
        refine G_iremN (pT s) (x + 1) (rfl) ((by omega)) d_X0_search_57 (by omega) (by omega) (by omega) ?_
        have hmm : pT s % (x + 1) ≤ pT s := Nat.mod_le _ _
        refine G_if_ne 80 d_X0_search_58 (by decide) (by omega) (fun c58 => ?_) (fun c58 => ?_)
        · refine G_iinc d_X0_search_80 rfl (by decide) rfl ?_
          refine G_goto 38 d_X0_search_83 (by decide) ?_
          have hTn : ¬ pT s % (x + 1) = 0 := by omega
          have h9 := ih (by omega) hch h200 hpos m1 hS hO h1 h60 (fndC_no hf hTn) hfr
          rw [Int.natCast_add] at h9
          exact h9
        · refine G_aload_n d_X0_search_61 rfl ?_
          refine G_aload_n d_X0_search_62 rfl ?_
          refine G_aload_n d_X0_search_63 rfl ?_
          refine G_aload_n d_X0_search_64 rfl ?_
          refine G_iload d_X0_search_65 rfl ?_
          refine G_iconst d_X0_search_67 ?_
          have hpick := sp_cpick0 (w := w) s hV hch h200 (x + 1) ⟨by omega, by omega⟩ hS hO
          rw [show ((x + 1 : Nat) : Int) = (x : Int) + 1 by omega] at hpick
          have hisr := isS_rng (runC s (x + 1))
          refine G_callS6 cl_X0_43 d_X0_search_68 (Nat.le_of_ble_eq_true rfl) (by decide) (hpick) ?_
          rintro _ _ ⟨rfl, m2, rfl, h2, hf2⟩
          refine G_if_eq 80 d_X0_search_71 (by decide) (by omega) (fun c71 => ?_) (fun c71 => ?_)
          · refine G_iinc d_X0_search_80 rfl (by decide) rfl ?_
            refine G_goto 38 d_X0_search_83 (by decide) ?_
            have h9 := ih (by omega) hch h200 hpos m2 (hS.at61 (by omega) hf2) (hO.keep (hf2 62 (by decide)) (hf2 63 (by decide))) ((congrFun (hf2 60 (by decide)) 1).trans h1) ((congrFun (hf2 60 (by decide)) 0).trans h60) (fndC_run hf (by omega) (isS_0 c71)) (fun a ha => (hf2 a (by omega)).trans (hfr a ha))
            rw [Int.natCast_add] at h9
            exact h9
          · refine G_aload_n d_X0_search_74 rfl ?_
            refine G_iload d_X0_search_75 rfl ?_
            refine G_putII fl_X0_15 d_X0_search_77 (wk_60 _) rfl ?_
            refine G_iinc d_X0_search_80 rfl (by decide) rfl ?_
            refine G_goto 38 d_X0_search_83 (by decide) ?_
            obtain ⟨N2, hN2⟩ := isS_1 c71
            have hfy := fndC_up (fndC_yes hf (by omega) hN2) (12 - (x + 1))
            rw [show x + 1 + (12 - (x + 1)) = 12 by omega] at hfy
            have hr : resC s = some (x + 1, N2) := by unfold resC; rw [if_pos ⟨h200, hpos⟩]; exact hfy
            have h9 := K (upm m2 60 1 ((x : Int) + 1)) (x + 1, N2) (x + 2) hr (by rw [upm_same]; rfl) (by rw [upm_ne _ _ (fun _ => by decide), hf2 60 (by decide)]; exact h60) (fun i hi => by rw [upm_off _ _ (by decide)]; exact h2 N2 hN2 i hi) (fun a ha => by rw [upm_off _ _ (by omega), hf2 a (by omega)]; exact hfr a ha) (by omega) ⟨by omega, by omega⟩
            rw [Int.natCast_add] at h9
            exact h9
  refine G_aload_n d_X0_search_0 rfl ?_
  refine G_iconst d_X0_search_1 ?_
  refine G_putZ fl_X0_9 d_X0_search_2 (wk_60 _) rfl (by omega) ?_
  refine G_aload_n d_X0_search_5 rfl ?_
  refine G_iconst d_X0_search_6 ?_
  refine G_putII fl_X0_15 d_X0_search_7 (wk_60 _) rfl ?_
  refine G_aload_n d_X0_search_10 rfl ?_
  refine G_getIe (v := b1 (posb s)) (fl_X0_29.r) d_X0_search_11 (wk_52 _) rfl ((by rw [e0 52 (by decide)]; exact hW.2.1)) ?_
  refine G_if_eq 27 d_X0_search_14 (by decide) (by omega) (fun c14 => ?_) (fun c14 => ?_)
  · refine G_vret (mc := 0) (ms := 0) (st := []) d_X0_search_27 rfl ?_
    have hpos := b1_f c14
    have hr : resC s = none := by unfold resC; rw [hpos, if_neg (fun h => absurd h.2 (by decide))]
    exact ⟨rfl, _, rfl, ⟨by rw [upm_same, hr]; rfl, fun h => absurd (by rw [hr]; rfl) h⟩, by rw [upm_ne _ _ (fun _ => by decide), upm_same], fun a ha => e0 a (by omega)⟩
  · refine G_aload_n d_X0_search_17 rfl ?_
    have hpos := b1_t c14
    have hch := posb_ch hpos
    refine G_getIe (v := (pC s : Int)) (fl_X0_34.r) d_X0_search_18 (wk_25 _) rfl ((by rw [e0 25 (by decide)]; exact hB.2.2.1.1)) ?_
    refine G_sipush d_X0_search_21 (by decide) ?_
    refine G_icmp_le 28 d_X0_search_24 (by decide) (by omega) (by omega) (fun c24 => ?_) (fun c24 => ?_)
    · refine G_aload_n d_X0_search_28 rfl ?_
      refine G_aload_n d_X0_search_29 rfl ?_
      refine G_aload_n d_X0_search_30 rfl ?_
      refine G_aload_n d_X0_search_31 rfl ?_
      have hS0 : WS s (upm (upm m 60 0 1) 60 1 (-1)) := (hW.ws hB hch).keep (by omega) (fun a h1 h2 h3 => e0 a (by omega))
      refine G_callV3 cl_X0_39 rfl d_X0_search_32 (wk_60 _) (Nat.le_of_ble_eq_true rfl) (by decide) (sp_sortOut s hV hS0 (hWk.congr (e0 28 (by decide)) (e0 29 (by decide))) (by omega)) ?_
      rintro _ _ ⟨rfl, m1, rfl, h1, hf1⟩
      refine G_iconst d_X0_search_35 ?_
      refine G_istore d_X0_search_36 (by decide) rfl ?_
      exact L 0 (by omega) hch (by omega) hpos m1 (hS0.keep (by omega) (fun a h1 h2 h3 => hf1 a (by omega) (by omega))) h1 (by rw [hf1 60 (by decide) (by decide), upm_same]) (by rw [hf1 60 (by decide) (by decide), upm_ne _ _ (fun _ => by decide), upm_same]) rfl (fun a ha => (hf1 a (by omega) (by omega)).trans (e0 a (by omega)))
    · refine G_vret (mc := 0) (ms := 0) (st := []) d_X0_search_27 rfl ?_
      have hr : resC s = none := by unfold resC; rw [if_neg (fun h => by omega)]
      exact ⟨rfl, _, rfl, ⟨by rw [upm_same, hr]; rfl, fun h => absurd (by rw [hr]; rfl) h⟩, by rw [upm_ne _ _ (fun _ => by decide), upm_same], fun a ha => e0 a (by omega)⟩
theorem sp_CfindCogs {w : List KD} {m : Nat → Nat → Int} (s : Nat → Int) (hV : VS s) (hI : CI s m) : Sp M_X9_findCogs 11 0 0 [rV 0] (WC ++ w, m) (fun r h => r = none ∧ ∃ m2, h = (WC ++ w, m2) ∧ CI s m2 ∧ FSe m m2 ∧ GN s m2) := by
  refine Sp.ofG (ls := [rV 0]) (by decide +kernel) rfl (Nat.le_of_ble_eq_true rfl) ?_
  have hC := pC_le hV
  have hN := hV.N
  have hT := hV.T
  have hSc := hV.Sc
  have hfr := hI.2.2.2.2.rng
  refine G_aload_n d_X9_findCogs_0 rfl ?_
  refine G_getR (r := 60) (fl_X9_93.r) d_X9_findCogs_1 (wk_0 _) rfl rfl ?_
  refine G_getIe (fl_X9_435.r) d_X9_findCogs_4 (wk_60 _) rfl (show _ = m 60 0 from rfl) ?_
  refine G_if_ne 43 d_X9_findCogs_7 (by decide) (by omega) (fun c7 => ?_) (fun c7 => ?_)
  · refine G_vret (mc := 0) (ms := 0) (st := []) d_X9_findCogs_43 rfl ?_
    rcases hI.2.2.2.2 with h | h
    · omega
    · exact ⟨rfl, m, rfl, hI, FSe.refl m, h.2⟩
  · refine G_aload_n d_X9_findCogs_10 rfl ?_
    refine G_callV0 cl_X9_360 rfl d_X9_findCogs_11 (wk_0 _) (Nat.le_of_ble_eq_true rfl) (by decide) (sp_CgatherWants s hV hI) ?_
    rintro _ _ ⟨rfl, m1, rfl, hI1, hF1, hW1, hk1, hw1, -, -⟩
    refine G_aload_n d_X9_findCogs_14 rfl ?_
    refine G_getR (r := 60) (fl_X9_93.r) d_X9_findCogs_15 (wk_0 _) rfl rfl ?_
    refine G_aload_n d_X9_findCogs_18 rfl ?_
    refine G_getR (r := 52) (fl_X9_79.r) d_X9_findCogs_19 (wk_0 _) rfl rfl ?_
    refine G_aload_n d_X9_findCogs_22 rfl ?_
    refine G_getR (r := 25) (fl_X9_43.r) d_X9_findCogs_23 (wk_0 _) rfl rfl ?_
    refine G_aload_n d_X9_findCogs_26 rfl ?_
    refine G_getR (r := 1) (fl_X9_12.r) d_X9_findCogs_27 (wk_0 _) rfl rfl ?_
    refine G_getR (r := 5) fl_X9_178 d_X9_findCogs_30 (wk_1 _) rfl rfl ?_
    refine G_aload_n d_X9_findCogs_33 rfl ?_
    refine G_getR (r := 6) (fl_X9_19.r) d_X9_findCogs_34 (wk_0 _) rfl rfl ?_
    refine G_getIe (v := (pT s : Int)) (fl_X9_123.r) d_X9_findCogs_37 (wk_6 _) rfl (hI1.1.2.1.1.1) ?_
    refine G_callV4 cl_X9_436 rfl d_X9_findCogs_40 (wk_60 _) (Nat.le_of_ble_eq_true rfl) (by decide) (sp_csearch s hV hI1.1 hW1 (hI1.1.wk hw1)) ?_
    rintro _ _ ⟨rfl, m2, rfl, hG2, hk2, hf2⟩
    refine G_vret (mc := 0) (ms := 0) (st := []) d_X9_findCogs_43 rfl ?_
    have hFS := FSe.of (m := m1) (m2 := m2) (fun a ha => hf2 a (by omega))
    exact ⟨rfl, m2, rfl, ⟨hI1.1.far (by omega) (fun a ha => hf2 a (by omega)), hI1.2.1.se hFS, Or.inr ⟨by rw [hf2 52 (by decide)]; exact hk1, hW1.keep (fun a h1 h2 => hf2 a (by omega)), by rw [hf2 25 (by decide)]; exact hw1⟩, hI1.2.2.2.1.keep (hf2 57 (by decide)) (hf2 58 (by decide)), Or.inr ⟨hk2, hG2⟩⟩, hF1.trans hFS, hG2⟩
