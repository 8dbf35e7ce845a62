theorem AS_rows (s : Nat → Int) (L : Nat → Nat) (V : Nat → Int) : AS s (rwS s L V) :=
  have e : ∀ i, (i < 77 ∨ 227 ≤ i) → rwS s L V i = s i := fun i hi => by unfold rwS; rw [if_neg (by omega), if_neg (by omega)]
  ⟨AP_rows s L V, e 2 (by decide), fun k hk => e _ (by omega), fun k hk => e _ (by omega), fun p => e _ (by omega)⟩
theorem CFo_rows {s : Nat → Int} {m m1 : Nat → Nat → Int} (h : CFo s m) {L : Nat → Nat} {V : Nat → Int} (hS : SZ L m1) (hN : NU V m1) (hL : ∀ k, L k ≤ 24) (k : ∀ a, 6 ≤ a → a ≤ 8 → m1 a = m a) : CFo (rwS s L V) (mx2 m1 6) := by
  obtain ⟨⟨g1, g2, g3, g4, g5⟩, g6⟩ := h
  have e : ∀ i, (i < 77 ∨ 227 ≤ i) → rwS s L V i = s i := fun i hi => by unfold rwS; rw [if_neg (by omega), if_neg (by omega)]
  refine ⟨⟨?_, fun j hj => ?_, fun j hj => ?_, fun j hj => ?_, fun j hj => ?_⟩, ?_⟩
  · rw [mx2_at _ _ _ (by decide) (by decide), k 6 (by decide) (by decide)]; unfold pT; rw [e 2 (by decide)]; exact g1
  · rw [mx2_at _ _ _ (by decide) (by decide), k 7 (by decide) (by decide)]; unfold pL; rw [e _ (by omega)]; exact g2 j hj
  · rw [mx2_at _ _ _ (by decide) (by decide), k 8 (by decide) (by decide), e _ (by omega)]; exact g3 j hj
  · have e1 : mx2 m1 6 9 j = m1 23 j := by unfold mx2; rw [if_neg (by omega), if_pos ⟨rfl, hj⟩]
    rw [e1, hN j hj]
    unfold rwS
    rw [if_neg (by omega), if_pos (by omega), show 83 + j - 83 = j by omega]
  · have e1 : mx2 m1 6 10 j = max 1 (m1 24 j) := by unfold mx2; rw [if_pos ⟨rfl, hj⟩]
    rw [e1, hS j hj]
    have := hL j
    unfold pRL rwS
    rw [if_pos (by omega), show 77 + j - 77 = j by omega]
    omega
  · rw [mx2_at _ _ _ (by decide) (by decide), k 6 (by decide) (by decide), e 3 (by decide)]; exact g6
theorem FRc.ci {s : Nat → Int} {m m2 : Nat → Nat → Int} (h : FRc m m2) (hI : CI s m) (hN : pN s ≤ 5) : CI s m2 := hI.out hN (fun a _ a1 _ => h.1 a (by omega) (by omega) (by omega)) (fun j _ => by rw [h.1 0 (by decide) (by decide) (by decide)])
theorem sp_Crows {w : List KD} {m : Nat → Nat → Int} (s : Nat → Int) (hV : VS s) (hI : CI s m) (B : Nat → Int) (z : Nat) (hz : z ≤ 400) (hB : ∀ j, j < z → 0 ≤ B j ∧ B j ≤ 255) (h0 : m 21 0 = (z : Int)) (h22 : ∀ j, j < z → m 22 j = (B j).bmod 256) : Sp M_X9_rows 6 0 0 [rV 0] (WC ++ w, m) (fun r h => r = some (iV (vRows s B z)) ∧ ∃ m2, h = (WC ++ w, m2) ∧ CI (nxRows s B z) m2 ∧ (∀ a, 11 ≤ a → (a < 21 ∨ 63 < a) → m2 a = m a) ∧ m2 0 4 = m 0 4 ∧ m2 21 0 = 0 ∧ m2 21 1 = fkRows s B z ∧ m2 21 2 = fpRows s B z) := by
  refine Sp.ofG (ls := [rV 0, uV]) (by decide +kernel) rfl (Nat.le_of_ble_eq_true rfl) ?_
  have hC := pC_le hV
  have hN := hV.N
  have hT := hV.T
  have hSc := hV.Sc
  refine G_aload_n d_X9_rows_0 rfl ?_
  refine G_getR (r := 21) (fl_X9_36.r) d_X9_rows_1 (wk_0 _) rfl rfl ?_
  refine G_aload_n d_X9_rows_4 rfl ?_
  refine G_getR (r := 1) (fl_X9_12.r) d_X9_rows_5 (wk_0 _) rfl rfl ?_
  refine G_getIe (v := (pN s : Int)) (fl_X9_194.r) d_X9_rows_8 (wk_1 _) rfl (hI.1.1.1) ?_
  refine G_aload_n d_X9_rows_11 rfl ?_
  refine G_getR (r := 6) (fl_X9_19.r) d_X9_rows_12 (wk_0 _) rfl rfl ?_
  refine G_getIe (v := (pT s : Int)) (fl_X9_123.r) d_X9_rows_15 (wk_6 _) rfl (hI.1.2.1.1.1) ?_
  refine G_callV2 cl_X9_197 rfl d_X9_rows_18 (wk_21 _) (Nat.le_of_ble_eq_true rfl) (by decide) (sp_read B z hz hB (pN s) (pT s) (by omega) ⟨by omega, by omega⟩ h0 h22 (rdF s B z) rfl) ?_
  rintro _ _ ⟨rfl, m1, rfl, hPS⟩
  have hcz : -1 ≤ cZ (rdF s B z) ∧ cZ (rdF s B z) ≤ ((0 : Nat) : Int) + ((400 : Nat) : Int) := cZ_rng 400 0 0 _ _
  refine G_istore_n d_X9_rows_21 (by decide) rfl ?_
  refine G_aload_n d_X9_rows_22 rfl ?_
  refine G_getR (r := 21) (fl_X9_36.r) d_X9_rows_23 (wk_0 _) rfl rfl ?_
  refine G_iconst d_X9_rows_26 ?_
  refine G_putII fl_X9_187 d_X9_rows_27 (wk_21 _) rfl ?_
  refine G_iload_n d_X9_rows_30 rfl ?_
  refine G_iconst d_X9_rows_31 ?_
  refine G_icmp_eq 60 d_X9_rows_32 (by decide) (by omega) (by omega) (fun c32 => ?_) (fun c32 => ?_)
  · refine G_iload_n d_X9_rows_60 rfl ?_
    refine G_iret (mc := 0) (ms := 0) (st := []) d_X9_rows_61 rfl ?_
    obtain ⟨e, he⟩ := cZ_no c32
    obtain ⟨g1, g2⟩ := hPS.2.1 e he
    have hI1 : CI s (upm m1 21 0 0) := (hPS.1.ci hI (by omega)).out (by omega) (fun a a0 a1 _ => upm_off _ _ (by omega)) (fun j _ => by rw [upm_off _ _ (by decide)])
    exact ⟨by unfold vRows; rw [he]; rfl, _, rfl, by unfold nxRows; rw [he]; exact hI1, fun a a1 a2 => by rw [upm_off _ _ (by omega), hPS.1.1 a (by omega) (by omega) (by omega)], by rw [upm_off _ _ (by decide), hPS.1.1 0 (by decide) (by decide) (by decide)], upm_same _ _ _ _, by rw [upm_ne _ _ (fun _ => by decide), g1]; unfold fkRows; rw [he], by rw [upm_ne _ _ (fun _ => by decide), g2]; unfold fpRows; rw [he]⟩
  · refine G_aload_n d_X9_rows_35 rfl ?_
    refine G_getR (r := 6) (fl_X9_19.r) d_X9_rows_36 (wk_0 _) rfl rfl ?_
    refine G_aload_n d_X9_rows_39 rfl ?_
    refine G_getR (r := 21) (fl_X9_36.r) d_X9_rows_40 (wk_0 _) rfl rfl ?_
    refine G_getR (r := 23) fl_X9_200 d_X9_rows_43 (wk_21 _) rfl rfl ?_
    refine G_aload_n d_X9_rows_46 rfl ?_
    refine G_getR (r := 21) (fl_X9_36.r) d_X9_rows_47 (wk_0 _) rfl rfl ?_
    refine G_getR (r := 24) fl_X9_203 d_X9_rows_50 (wk_21 _) rfl rfl ?_
    obtain ⟨c, L, V, hZ⟩ := cZ_yes c32
    have hP := rdF_ok hV hZ
    obtain ⟨g1, g2, g3, g4⟩ := hPS.2.2 c L V hZ
    have hI1 : CI s (upm m1 21 0 0) := (hPS.1.ci hI (by omega)).out (by omega) (fun a a0 a1 _ => upm_off _ _ (by omega)) (fun j _ => by rw [upm_off _ _ (by decide)])
    have g3' : NU V (upm m1 21 0 0) := g3.at 0 0
    have g4' : SZ L (upm m1 21 0 0) := g4.at 0 0
    refine G_callV2 cl_X9_206 rfl d_X9_rows_53 (wk_6 _) (Nat.le_of_ble_eq_true rfl) (by decide) (sp_takeRows (fun k hk => by rw [g4' k hk]; have := hP.1 k; omega)) ?_
    rintro _ _ ⟨rfl, rfl⟩
    refine G_aload_n d_X9_rows_56 rfl ?_
    refine G_callV0 cl_X9_126 rfl d_X9_rows_57 (wk_0 _) (Nat.le_of_ble_eq_true rfl) (by decide) (sp_cycleTold) ?_
    rintro _ _ ⟨rfl, rfl⟩
    refine G_iload_n d_X9_rows_60 rfl ?_
    refine G_iret (mc := 0) (ms := 0) (st := []) d_X9_rows_61 rfl ?_
    have hCF := CFo_rows hI1.1.2.1 g4' g3' hP.1 (fun _ _ _ => rfl)
    obtain ⟨h2, hF2⟩ := hI1.told (m1 := mx2 (upm m1 21 0 0) 6) hV (AS_rows s L V) (fun a ha => mx2_at _ _ _ (by omega) (by omega)) hCF
    refine ⟨by unfold vRows; rw [hZ]; rfl, _, rfl, by unfold nxRows; rw [hZ]; exact h2, fun a a1 a2 => ?_, ?_, ?_, ?_, ?_⟩
    · rw [hF2.1 a a1 (by omega), upm_off _ _ (by omega), hPS.1.1 a (by omega) (by omega) (by omega)]
    · rw [hF2.2, upm_off _ _ (by decide), hPS.1.1 0 (by decide) (by decide) (by decide)]
    · rw [hF2.1 21 (by decide) (by decide), upm_same]
    · rw [hF2.1 21 (by decide) (by decide), upm_ne _ _ (fun _ => by decide), g1]; unfold fkRows; rw [hZ]
    · rw [hF2.1 21 (by decide) (by decide), upm_ne _ _ (fun _ => by decide), g2]; unfold fpRows; rw [hZ]
