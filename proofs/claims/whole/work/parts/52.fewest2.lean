theorem posb_ch {s : Nat → Int} (h : posb s = true) : pChief s ≠ -1 := by
  unfold posb at h
  simp at h
  exact h.1
theorem b1_t {b : Bool} (h : b1 b ≠ 0) : b = true := by
  cases b
  · exact absurd rfl h
  · rfl
theorem b1_f {b : Bool} (h : b1 b = 0) : b = false := by
  cases b
  · rfl
  · exact absurd h (by decide)
theorem WN.ws {s : Nat → Int} {m : Nat → Nat → Int} (h : WN s m) (hB : CB s m) (hc : pChief s ≠ -1) : WS s m := ⟨hB, h.1, (h.2.2 hc).1, (h.2.2 hc).2.1, (h.2.2 hc).2.2.1⟩
theorem WN.back {s : Nat → Int} {m m2 : Nat → Nat → Int} (h : WN s m) {o : Nat → Nat} (hO : OT s o) (hM : OM s o m2) (k : ∀ a, 52 ≤ a → a ≤ 56 → a ≠ 55 → m2 a = m a) : WN s m2 := by
  refine ⟨by rw [k 52 (by decide) (by decide) (by decide)]; exact h.1, by rw [k 52 (by decide) (by decide) (by decide)]; exact h.2.1, fun hc => ?_⟩
  obtain ⟨h1, h2, h3, h4, -⟩ := h.2.2 hc
  exact ⟨fun i hi => by rw [k 53 (by decide) (by decide) (by decide)]; exact h1 i hi, fun i hi => by rw [k 54 (by decide) (by decide) (by decide)]; exact h2 i hi, fun i hi => by rw [k 56 (by decide) (by decide) (by decide)]; exact h3 i hi, by rw [k 52 (by decide) (by decide) (by decide)]; exact h4, hO.list hM⟩
theorem sp_fsearch {w : List KD} {m : Nat → Nat → Int} (s : Nat → Int) (hV : VS s) (hB : CB s m) (hW : WN s m) : Sp M_X2_search 9 0 0 [rV 57, rV 52, rV 25, iV (pT s : Int)] (WC ++ w, m) (fun r h => r = none ∧ ∃ m2, h = (WC ++ w, m2) ∧ WN s m2 ∧ FN s m2 ∧ m2 57 0 = 1 ∧ (∀ a, a ≠ 55 → a ≠ 57 → a ≠ 58 → a ≠ 59 → m2 a = m a)) := by
  refine Sp.ofG (ls := [rV 57, rV 52, rV 25, iV (pT s : Int)]) (by decide +kernel) rfl (Nat.le_of_ble_eq_true rfl) ?_
  have hC := pC_le hV
  have hN := hV.N
  have hT := hV.T
  have hSc := hV.Sc
  have e0 : ∀ a, a ≠ 57 → (upm (upm (upm m 57 0 1) 57 1 (-1)) 57 4 2147483647) a = m a := fun a h => by rw [upm_off _ _ h, upm_off _ _ h, upm_off _ _ h]
  have hbr := b1_rng (posb s)
  have hol := otl_le s (pC s)
  refine G_aload_n d_X2_search_0 rfl ?_
  refine G_iconst d_X2_search_1 ?_
  refine G_putZ fl_X2_9 d_X2_search_2 (wk_57 _) rfl (by omega) ?_
  refine G_aload_n d_X2_search_5 rfl ?_
  refine G_iconst d_X2_search_6 ?_
  refine G_putII fl_X2_15 d_X2_search_7 (wk_57 _) rfl ?_
  refine G_aload_n d_X2_search_10 rfl ?_
  refine G_ldc d_X2_search_11 co_X2_31 ?_
  refine G_putII fl_X2_26 d_X2_search_13 (wk_57 _) rfl ?_
  refine G_aload_n d_X2_search_16 rfl ?_
  refine G_getIe (v := b1 (posb s)) (fl_X2_32.r) d_X2_search_17 (wk_52 _) rfl ((by rw [e0 52 (by decide)]; exact hW.2.1)) ?_
  refine G_if_eq 36 d_X2_search_20 (by decide) (by omega) (fun c20 => ?_) (fun c20 => ?_)
  · refine G_vret (mc := 0) (ms := 0) (st := []) d_X2_search_36 rfl ?_
    have hpos := b1_f c20
    have hr : resF s = (-1, fun _ => 0) := by unfold resF; rw [hpos, if_neg (by decide)]
    exact ⟨rfl, _, rfl, hW.keep (fun a h1 h2 => e0 a (by omega)), ⟨by rw [hr, upm_ne _ _ (fun _ => by decide), upm_same], fun h => absurd (by rw [hr]) h⟩, by rw [upm_ne _ _ (fun _ => by decide), upm_ne _ _ (fun _ => by decide), upm_same], fun a h1 h2 h3 h4 => e0 a h2⟩
  · refine G_aload_n d_X2_search_23 rfl ?_
    refine G_aload_n d_X2_search_24 rfl ?_
    refine G_aload_n d_X2_search_25 rfl ?_
    refine G_iload_n d_X2_search_26 rfl ?_
    have hpos := b1_t c20
    have hch := posb_ch hpos
    obtain ⟨g1, g2, g3, g4, l, hl, hLM⟩ := hW.2.2 hch
    obtain ⟨o, hO, hM⟩ := otl_of hl hLM
    have hS : WS s (upm (upm (upm m 57 0 1) 57 1 (-1)) 57 4 2147483647) := (hW.ws hB hch).keep (by omega) (fun a h1 h2 h3 => e0 a (by omega))
    refine G_iconst d_X2_search_27 ?_
    refine G_aload_n d_X2_search_28 rfl ?_
    refine G_getIe (v := ((nOt s : Nat) : Int)) (fl_X2_37.r) d_X2_search_29 (wk_52 _) rfl ((by rw [e0 52 (by decide)]; exact g4)) ?_
    refine G_iconst d_X2_search_32 ?_
    have hpick := sp_pick (w := w) s hV (pN s) 0 (nOt s) (fun _ => 1) (-1, fun _ => 0) o (upm (upm (upm m 57 0 1) 57 1 (-1)) 57 4 2147483647) (by omega) hS hO (fun i hi => by rw [e0 55 (by decide)]; exact hM i hi) ⟨⟨by decide, by decide⟩, Or.inl rfl, by rw [upm_ne _ _ (fun _ => by decide), upm_same], by rw [upm_same]; rfl, fun h => absurd rfl h⟩ (fun i hi => absurd hi (by omega)) ⟨fun j hj => absurd hj (by omega), Nat.le_refl _, fun i hi => ⟨fun _ => rfl, fun _ => hi⟩, fun h => by omega⟩ (by show (1 : Int) < 2147483647; decide)
    refine G_callS7 cl_X2_40 d_X2_search_33 (Nat.le_of_ble_eq_true rfl) (by omega) (hpick) ?_
    rintro _ _ ⟨rfl, o2, m2, rfl, hO2, hM2, -, -, hFA2, -, hf2, hg2⟩
    refine G_vret (mc := 0) (ms := 0) (st := []) d_X2_search_36 rfl ?_
    have hr : resF s = run (pN s) (D1 (pT s)) (stepF s) (pN s) (fun _ => 1) (-1, fun _ => 0) := by unfold resF; rw [hpos, if_pos rfl]
    rw [← hr] at hFA2
    exact ⟨rfl, m2, rfl, hW.back hO2 hM2 (fun a h1 h2 h3 => by rw [hf2 a h3 (by omega) (by omega) (by omega)]; exact e0 a (by omega)), ⟨hFA2.2.2.1, hFA2.2.2.2.2⟩, by rw [hg2 0 (by decide) (by decide), upm_ne _ _ (fun _ => by decide), upm_ne _ _ (fun _ => by decide), upm_same], fun a h1 h2 h3 h4 => by rw [hf2 a h1 h2 h3 h4]; exact e0 a h2⟩
theorem FW.rng {s : Nat → Int} {m : Nat → Nat → Int} (h : FW s m) : 0 ≤ m 57 0 ∧ m 57 0 ≤ 1 := by rcases h with h | h <;> omega
theorem CG.rng {s : Nat → Int} {m : Nat → Nat → Int} (h : CG s m) : 0 ≤ m 60 0 ∧ m 60 0 ≤ 1 := by rcases h with h | h <;> omega
theorem sp_CfindFewest {w : List KD} {m : Nat → Nat → Int} (s : Nat → Int) (hV : VS s) (hI : CI s m) : Sp M_X9_findFewest 10 0 0 [rV 0] (WC ++ w, m) (fun r h => r = none ∧ ∃ m2, h = (WC ++ w, m2) ∧ CI s m2 ∧ FSe m m2 ∧ FN s m2) := by
  refine Sp.ofG (ls := [rV 0]) (by decide +kernel) rfl (Nat.le_of_ble_eq_true rfl) ?_
  have hC := pC_le hV
  have hN := hV.N
  have hT := hV.T
  have hSc := hV.Sc
  have hfr := hI.2.2.2.1.rng
  refine G_aload_n d_X9_findFewest_0 rfl ?_
  refine G_getR (r := 57) (fl_X9_86.r) d_X9_findFewest_1 (wk_0 _) rfl rfl ?_
  refine G_getIe (fl_X9_430.r) d_X9_findFewest_4 (wk_57 _) rfl (show _ = m 57 0 from rfl) ?_
  refine G_if_ne 36 d_X9_findFewest_7 (by decide) (by omega) (fun c7 => ?_) (fun c7 => ?_)
  · refine G_vret (mc := 0) (ms := 0) (st := []) d_X9_findFewest_36 rfl ?_
    rcases hI.2.2.2.1 with h | h
    · omega
    · exact ⟨rfl, m, rfl, hI, FSe.refl m, h.2⟩
  · refine G_aload_n d_X9_findFewest_10 rfl ?_
    refine G_callV0 cl_X9_360 rfl d_X9_findFewest_11 (wk_0 _) (Nat.le_of_ble_eq_true rfl) (by decide) (sp_CgatherWants s hV hI) ?_
    rintro _ _ ⟨rfl, m1, rfl, hI1, hF1, hW1, hk1, hw1, -, -⟩
    refine G_aload_n d_X9_findFewest_14 rfl ?_
    refine G_getR (r := 57) (fl_X9_86.r) d_X9_findFewest_15 (wk_0 _) rfl rfl ?_
    refine G_aload_n d_X9_findFewest_18 rfl ?_
    refine G_getR (r := 52) (fl_X9_79.r) d_X9_findFewest_19 (wk_0 _) rfl rfl ?_
    refine G_aload_n d_X9_findFewest_22 rfl ?_
    refine G_getR (r := 25) (fl_X9_43.r) d_X9_findFewest_23 (wk_0 _) rfl rfl ?_
    refine G_aload_n d_X9_findFewest_26 rfl ?_
    refine G_getR (r := 6) (fl_X9_19.r) d_X9_findFewest_27 (wk_0 _) rfl rfl ?_
    refine G_getIe (v := (pT s : Int)) (fl_X9_123.r) d_X9_findFewest_30 (wk_6 _) rfl (hI1.1.2.1.1.1) ?_
    refine G_callV3 cl_X9_431 rfl d_X9_findFewest_33 (wk_57 _) (Nat.le_of_ble_eq_true rfl) (by decide) (sp_fsearch s hV hI1.1 hW1) ?_
    rintro _ _ ⟨rfl, m2, rfl, hW2, hF2, hk2, hf2⟩
    refine G_vret (mc := 0) (ms := 0) (st := []) d_X9_findFewest_36 rfl ?_
    have e2 : ∀ a, (a < 52 ∨ 63 < a) → m2 a = m1 a := fun a ha => hf2 a (by omega) (by omega) (by omega) (by omega)
    have hFS := FSe.of e2
    exact ⟨rfl, m2, rfl, ⟨hI1.1.far (by omega) (fun a ha => e2 a (by omega)), hI1.2.1.se hFS, Or.inr ⟨by rw [hf2 52 (by decide) (by decide) (by decide) (by decide)]; exact hk1, hW2, by rw [e2 25 (by decide)]; exact hw1⟩, Or.inr ⟨hk2, hF2⟩, hI1.2.2.2.2.keep (hf2 60 (by decide) (by decide) (by decide) (by decide)) (hf2 61 (by decide) (by decide) (by decide) (by decide))⟩, hF1.trans hFS, hF2⟩
