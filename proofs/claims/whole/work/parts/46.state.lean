/-! the class's cells, by the row of numbers -/
def TO (s : Nat → Int) (m : Nat → Nat → Int) : Prop := m 1 0 = (pN s : Int) ∧ m 1 1 = (pM s : Int) ∧ (∀ k, k < 5 → m 2 k = s (4 + k)) ∧ (∀ k, k < 5 → m 3 k = s (9 + k)) ∧ (∀ i, i < 35 → m 4 i = s (14 + i) + 1) ∧ ∀ p, p < 2401 → m 5 p = s (227 + p)
def CFo (s : Nat → Int) (m : Nat → Nat → Int) : Prop := CY s m ∧ m 6 1 = if s 3 = 0 then 1 else 0
def WGk (s : Nat → Int) (m : Nat → Nat → Int) : Prop := ∀ p, p < pC s → m 28 p = pWt s p ∧ m 29 p = if pSp s p ≠ 0 then 1 else 0
def WGh (s : Nat → Int) (m : Nat → Nat → Int) : Prop := m 25 1 = 0 ∨ (m 25 1 = 1 ∧ WGk s m)
def SN (s : Nat → Int) (m : Nat → Nat → Int) : Prop := m 30 0 = 0 ∨ (m 30 0 = 1 ∧ SB s m)
/-- what stands when a cycle is only tried -/
def CB (s : Nat → Int) (m : Nat → Nat → Int) : Prop := TO s m ∧ CFo s m ∧ CL s m ∧ m 0 7 = pChief s ∧ WGh s m ∧ SN s m ∧ US m
def ST (s : Nat → Int) (m : Nat → Nat → Int) : Prop := m 0 11 = 0 ∨ (m 0 11 = 1 ∧ ∀ p, p < pC s → m 50 p = 3 ∨ m 50 p = pSt s p)
/-- only weights, scans, sums change -/
def FBs (m m2 : Nat → Nat → Int) : Prop := (∀ a, a ≠ 25 → a ≠ 28 → a ≠ 29 → (a < 30 ∨ 49 < a) → m2 a = m a) ∧ (∀ j, j ≠ 1 → m2 25 j = m 25 j) ∧ (m 25 1 = 1 → m2 25 1 = 1)
theorem FBs.refl (m : Nat → Nat → Int) : FBs m m := ⟨fun _ _ _ _ _ => rfl, fun _ _ => rfl, fun h => h⟩
theorem FBs.trans {m m1 m2 : Nat → Nat → Int} (h : FBs m m1) (k : FBs m1 m2) : FBs m m2 := ⟨fun a h1 h2 h3 h4 => (k.1 a h1 h2 h3 h4).trans (h.1 a h1 h2 h3 h4), fun j h1 => (k.2.1 j h1).trans (h.2.1 j h1), fun h1 => k.2.2 (h.2.2 h1)⟩
theorem TO.keep {s : Nat → Int} {m m2 : Nat → Nat → Int} (h : TO s m) (k : ∀ a, 1 ≤ a → a ≤ 5 → m2 a = m a) : TO s m2 := by
  unfold TO
  rw [k 1 (by decide) (by decide), k 2 (by decide) (by decide), k 3 (by decide) (by decide), k 4 (by decide) (by decide), k 5 (by decide) (by decide)]
  exact h
theorem CFo.keep {s : Nat → Int} {m m2 : Nat → Nat → Int} (h : CFo s m) (k : ∀ a, 6 ≤ a → a ≤ 10 → m2 a = m a) : CFo s m2 :=
  ⟨h.1.congr (by rw [k 6 (by decide) (by decide)]) (fun a h1 h2 => k a (by omega) (by omega)), by rw [k 6 (by decide) (by decide)]; exact h.2⟩
theorem US.keep {m m2 : Nat → Nat → Int} (h : US m) (h6 : m2 46 = m 46) (h7 : m2 47 = m 47) (h8 : m2 48 = m 48) : US m2 := by
  rcases h with h | ⟨T, h1, h2, h3⟩
  · exact Or.inl (by rw [h6]; exact h)
  · exact Or.inr ⟨T, h1, h2, h3.keep (by rw [h6]) (by rw [h6]) h7 h8⟩
theorem SN.keep {s : Nat → Int} {m m2 : Nat → Nat → Int} (h : SN s m) (hN : pN s ≤ 5) (k : ∀ a, 30 ≤ a → a ≤ 44 → m2 a = m a) : SN s m2 := by
  rcases h with h | ⟨h1, h2⟩
  · exact Or.inl (by rw [k 30 (by decide) (by decide)]; exact h)
  · exact Or.inr ⟨by rw [k 30 (by decide) (by decide)]; exact h1, h2.keep hN k⟩
theorem WGh.keep {s : Nat → Int} {m m2 : Nat → Nat → Int} (h : WGh s m) (h1 : m2 25 1 = m 25 1) (h8 : m2 28 = m 28) (h9 : m2 29 = m 29) : WGh s m2 := by
  unfold WGh WGk
  rw [h1, h8, h9]
  exact h
theorem cLP.keep2 {n M : Nat} {K : Nat → Int} {C : Nat} {m m2 : Nat → Nat → Int} (h : cLP n M K C m) (h25 : m2 25 0 = m 25 0) (h26 : m2 26 = m 26) (h27 : m2 27 = m 27) : cLP n M K C m2 := ⟨by rw [h25]; exact h.1, fun p hp k hk => by rw [h26]; exact h.2.1 p hp k hk, fun c hc => by rw [h27]; exact h.2.2 c hc⟩
/-- told, cycle, paths, chief stand -/
theorem CB.mk' {s : Nat → Int} {m m2 : Nat → Nat → Int} (h : CB s m) (k : FBs m m2) (hW : WGh s m2) (hS : SN s m2) (hU : US m2) : CB s m2 :=
  ⟨h.1.keep (fun a _ _ => k.1 a (by omega) (by omega) (by omega) (by omega)), h.2.1.keep (fun a _ _ => k.1 a (by omega) (by omega) (by omega) (by omega)), h.2.2.1.keep2 (k.2.1 0 (by decide)) (k.1 26 (by decide) (by decide) (by decide) (by decide)) (k.1 27 (by decide) (by decide) (by decide) (by decide)), by rw [k.1 0 (by decide) (by decide) (by decide) (by decide)]; exact h.2.2.2.1, hW, hS, hU⟩
theorem ST.keep {s : Nat → Int} {m m2 : Nat → Nat → Int} (h : ST s m) (h0 : m2 0 11 = m 0 11) (h50 : m2 50 = m 50) : ST s m2 := by
  unfold ST
  rw [h0, h50]
  exact h
theorem sp_CisPulse {w : List KD} {m : Nat → Nat → Int} (s : Nat → Int) (hV : VS s) (hB : CB s m) (x : Int) (hrx : -2147483648 ≤ x ∧ x < 2147483648) : Sp M_X9_isPulse 0 0 0 [rV 0, iV x] (WC ++ w, m) (fun r h => r = some (iV (if 0 ≤ x ∧ x < (pN s : Int) then 1 else 0)) ∧ h = (WC ++ w, m)) := by
  refine Sp.ofG (ls := [rV 0, iV x]) (by decide +kernel) rfl (Nat.le_of_ble_eq_true rfl) ?_
  have hC := pC_le hV
  have hN := hV.N
  have hT := hV.T
  have hSc := hV.Sc
  refine G_iload_n d_X9_isPulse_0 rfl ?_
  refine G_if_lt 19 d_X9_isPulse_1 (by decide) (by omega) (fun c1 => ?_) (fun c1 => ?_)
  · refine G_iconst d_X9_isPulse_19 ?_
    refine G_zret (mc := 0) (ms := 0) (st := []) d_X9_isPulse_20 rfl (by omega) ?_
    exact ⟨by first | rw [if_pos (by omega)] | rw [if_neg (by omega)], rfl⟩
  · refine G_iload_n d_X9_isPulse_4 rfl ?_
    refine G_aload_n d_X9_isPulse_5 rfl ?_
    refine G_getR (r := 1) (fl_X9_12.r) d_X9_isPulse_6 (wk_0 _) rfl rfl ?_
    refine G_getIe (v := (pN s : Int)) (fl_X9_194.r) d_X9_isPulse_9 (wk_1 _) rfl (hB.1.1) ?_
    refine G_icmp_ge 19 d_X9_isPulse_12 (by decide) (by omega) (by omega) (fun c12 => ?_) (fun c12 => ?_)
    · refine G_iconst d_X9_isPulse_19 ?_
      refine G_zret (mc := 0) (ms := 0) (st := []) d_X9_isPulse_20 rfl (by omega) ?_
      exact ⟨by first | rw [if_pos (by omega)] | rw [if_neg (by omega)], rfl⟩
    · refine G_iconst d_X9_isPulse_15 ?_
      refine G_goto 20 d_X9_isPulse_16 (by decide) ?_
      refine G_zret (mc := 0) (ms := 0) (st := []) d_X9_isPulse_20 rfl (by omega) ?_
      exact ⟨by first | rw [if_pos (by omega)] | rw [if_neg (by omega)], rfl⟩
theorem sp_CisRow {w : List KD} {m : Nat → Nat → Int} (s : Nat → Int) (hV : VS s) (hB : CB s m) (x : Int) (hrx : -2147483648 ≤ x ∧ x < 2147483648) : Sp M_X9_isRow 0 0 0 [rV 0, iV x] (WC ++ w, m) (fun r h => r = some (iV (if 0 ≤ x ∧ x ≤ (pN s : Int) then 1 else 0)) ∧ h = (WC ++ w, m)) := by
  refine Sp.ofG (ls := [rV 0, iV x]) (by decide +kernel) rfl (Nat.le_of_ble_eq_true rfl) ?_
  have hC := pC_le hV
  have hN := hV.N
  have hT := hV.T
  have hSc := hV.Sc
  refine G_iload_n d_X9_isRow_0 rfl ?_
  refine G_if_lt 19 d_X9_isRow_1 (by decide) (by omega) (fun c1 => ?_) (fun c1 => ?_)
  · refine G_iconst d_X9_isRow_19 ?_
    refine G_zret (mc := 0) (ms := 0) (st := []) d_X9_isRow_20 rfl (by omega) ?_
    exact ⟨by first | rw [if_pos (by omega)] | rw [if_neg (by omega)], rfl⟩
  · refine G_iload_n d_X9_isRow_4 rfl ?_
    refine G_aload_n d_X9_isRow_5 rfl ?_
    refine G_getR (r := 1) (fl_X9_12.r) d_X9_isRow_6 (wk_0 _) rfl rfl ?_
    refine G_getIe (v := (pN s : Int)) (fl_X9_194.r) d_X9_isRow_9 (wk_1 _) rfl (hB.1.1) ?_
    refine G_icmp_gt 19 d_X9_isRow_12 (by decide) (by omega) (by omega) (fun c12 => ?_) (fun c12 => ?_)
    · refine G_iconst d_X9_isRow_19 ?_
      refine G_zret (mc := 0) (ms := 0) (st := []) d_X9_isRow_20 rfl (by omega) ?_
      exact ⟨by first | rw [if_pos (by omega)] | rw [if_neg (by omega)], rfl⟩
    · refine G_iconst d_X9_isRow_15 ?_
      refine G_goto 20 d_X9_isRow_16 (by decide) ?_
      refine G_zret (mc := 0) (ms := 0) (st := []) d_X9_isRow_20 rfl (by omega) ?_
      exact ⟨by first | rw [if_pos (by omega)] | rw [if_neg (by omega)], rfl⟩
theorem sp_CisPath {w : List KD} {m : Nat → Nat → Int} (s : Nat → Int) (hV : VS s) (hB : CB s m) (x : Int) (hrx : -2147483648 ≤ x ∧ x < 2147483648) : Sp M_X9_isPath 0 0 0 [rV 0, iV x] (WC ++ w, m) (fun r h => r = some (iV (if 0 ≤ x ∧ x < (pC s : Int) then 1 else 0)) ∧ h = (WC ++ w, m)) := by
  refine Sp.ofG (ls := [rV 0, iV x]) (by decide +kernel) rfl (Nat.le_of_ble_eq_true rfl) ?_
  have hC := pC_le hV
  have hN := hV.N
  have hT := hV.T
  have hSc := hV.Sc
  refine G_iload_n d_X9_isPath_0 rfl ?_
  refine G_if_lt 19 d_X9_isPath_1 (by decide) (by omega) (fun c1 => ?_) (fun c1 => ?_)
  · refine G_iconst d_X9_isPath_19 ?_
    refine G_zret (mc := 0) (ms := 0) (st := []) d_X9_isPath_20 rfl (by omega) ?_
    exact ⟨by first | rw [if_pos (by omega)] | rw [if_neg (by omega)], rfl⟩
  · refine G_iload_n d_X9_isPath_4 rfl ?_
    refine G_aload_n d_X9_isPath_5 rfl ?_
    refine G_getR (r := 25) (fl_X9_43.r) d_X9_isPath_6 (wk_0 _) rfl rfl ?_
    refine G_getIe (v := (pC s : Int)) (fl_X9_110.r) d_X9_isPath_9 (wk_25 _) rfl (hB.2.2.1.1) ?_
    refine G_icmp_ge 19 d_X9_isPath_12 (by decide) (by omega) (by omega) (fun c12 => ?_) (fun c12 => ?_)
    · refine G_iconst d_X9_isPath_19 ?_
      refine G_zret (mc := 0) (ms := 0) (st := []) d_X9_isPath_20 rfl (by omega) ?_
      exact ⟨by first | rw [if_pos (by omega)] | rw [if_neg (by omega)], rfl⟩
    · refine G_iconst d_X9_isPath_15 ?_
      refine G_goto 20 d_X9_isPath_16 (by decide) ?_
      refine G_zret (mc := 0) (ms := 0) (st := []) d_X9_isPath_20 rfl (by omega) ?_
      exact ⟨by first | rw [if_pos (by omega)] | rw [if_neg (by omega)], rfl⟩
theorem sp_CisCounter {w : List KD} {m : Nat → Nat → Int} (x : Int) (hrx : -2147483648 ≤ x ∧ x < 2147483648) : Sp M_X9_isCounter 0 0 0 [iV x] (WC ++ w, m) (fun r h => r = some (iV (if 0 ≤ x ∧ x < 4 then 1 else 0)) ∧ h = (WC ++ w, m)) := by
  refine Sp.ofG (ls := [iV x]) (by decide +kernel) rfl (Nat.le_of_ble_eq_true rfl) ?_
  refine G_iload_n d_X9_isCounter_0 rfl ?_
  refine G_if_lt 13 d_X9_isCounter_1 (by decide) (by omega) (fun c1 => ?_) (fun c1 => ?_)
  · refine G_iconst d_X9_isCounter_13 ?_
    refine G_zret (mc := 0) (ms := 0) (st := []) d_X9_isCounter_14 rfl (by omega) ?_
    exact ⟨by first | rw [if_pos (by omega)] | rw [if_neg (by omega)], rfl⟩
  · refine G_iload_n d_X9_isCounter_4 rfl ?_
    refine G_iconst d_X9_isCounter_5 ?_
    refine G_icmp_ge 13 d_X9_isCounter_6 (by decide) (by omega) (by omega) (fun c6 => ?_) (fun c6 => ?_)
    · refine G_iconst d_X9_isCounter_13 ?_
      refine G_zret (mc := 0) (ms := 0) (st := []) d_X9_isCounter_14 rfl (by omega) ?_
      exact ⟨by first | rw [if_pos (by omega)] | rw [if_neg (by omega)], rfl⟩
    · refine G_iconst d_X9_isCounter_9 ?_
      refine G_goto 14 d_X9_isCounter_10 (by decide) ?_
      refine G_zret (mc := 0) (ms := 0) (st := []) d_X9_isCounter_14 rfl (by omega) ?_
      exact ⟨by first | rw [if_pos (by omega)] | rw [if_neg (by omega)], rfl⟩
theorem sp_CisScan {w : List KD} {m : Nat → Nat → Int} (s : Nat → Int) (hV : VS s) (hB : CB s m) (x : Int) (hrx : -2147483648 ≤ x ∧ x < 2147483648) : Sp M_X9_isScan 1 0 0 [rV 0, iV x] (WC ++ w, m) (fun r h => r = some (iV (if 0 ≤ x ∧ x < (pSc s : Int) then 1 else 0)) ∧ h = (WC ++ w, m)) := by
  refine Sp.ofG (ls := [rV 0, iV x]) (by decide +kernel) rfl (Nat.le_of_ble_eq_true rfl) ?_
  have hC := pC_le hV
  have hN := hV.N
  have hT := hV.T
  have hSc := hV.Sc
  refine G_iload_n d_X9_isScan_0 rfl ?_
  refine G_if_lt 19 d_X9_isScan_1 (by decide) (by omega) (fun c1 => ?_) (fun c1 => ?_)
  · refine G_iconst d_X9_isScan_19 ?_
    refine G_zret (mc := 0) (ms := 0) (st := []) d_X9_isScan_20 rfl (by omega) ?_
    exact ⟨by first | rw [if_pos (by omega)] | rw [if_neg (by omega)], rfl⟩
  · refine G_iload_n d_X9_isScan_4 rfl ?_
    refine G_aload_n d_X9_isScan_5 rfl ?_
    refine G_getR (r := 6) (fl_X9_19.r) d_X9_isScan_6 (wk_0 _) rfl rfl ?_
    refine G_callV0 cl_X9_142 rfl d_X9_isScan_9 (wk_6 _) (Nat.le_of_ble_eq_true rfl) (by decide) (sp_Csc s hB.2.1.1) ?_
    rintro _ _ ⟨rfl, rfl⟩
    refine G_icmp_ge 19 d_X9_isScan_12 (by decide) (by omega) (by omega) (fun c12 => ?_) (fun c12 => ?_)
    · refine G_iconst d_X9_isScan_19 ?_
      refine G_zret (mc := 0) (ms := 0) (st := []) d_X9_isScan_20 rfl (by omega) ?_
      exact ⟨by first | rw [if_pos (by omega)] | rw [if_neg (by omega)], rfl⟩
    · refine G_iconst d_X9_isScan_15 ?_
      refine G_goto 20 d_X9_isScan_16 (by decide) ?_
      refine G_zret (mc := 0) (ms := 0) (st := []) d_X9_isScan_20 rfl (by omega) ?_
      exact ⟨by first | rw [if_pos (by omega)] | rw [if_neg (by omega)], rfl⟩
theorem wtC_eq {s : Nat → Int} {m : Nat → Nat → Int} (hV : VS s) (hB : CB s m) {p : Nat} (hp : p < pC s) : wtC m (pN s) p = pWt s p := by
  have hN := hV.N
  unfold wtC pWt
  refine prodN_congr (fun k hk => ?_)
  have hc := pCh_rng hV p k
  rw [cChg_eq hB.2.2.1 hp hk, hB.1.2.2.2.2.1 _ (by omega)]
  unfold pW
  rw [show 14 + (7 * k + (pCh s p k).natAbs) = 14 + 7 * k + (pCh s p k).natAbs by omega]
theorem slC_eq {s : Nat → Int} {m : Nat → Nat → Int} (hV : VS s) (hB : CB s m) {p : Nat} (hp : p < pC s) : slC m (pN s) p = pSp s p := by
  have hN := hV.N
  unfold slC pSp
  refine sumN_congr (fun k hk => ?_)
  rw [cOrd_eq hB.2.2.1 hp hk, hB.1.2.2.2.1 k (by omega)]
  rfl
theorem SN.rng {s : Nat → Int} {m : Nat → Nat → Int} (h : SN s m) : 0 ≤ m 30 0 ∧ m 30 0 ≤ 1 := by rcases h with h | h <;> omega
theorem WGh.rng {s : Nat → Int} {m : Nat → Nat → Int} (h : WGh s m) : 0 ≤ m 25 1 ∧ m 25 1 ≤ 1 := by rcases h with h | h <;> omega
theorem sp_CweighPaths {w : List KD} {m : Nat → Nat → Int} (s : Nat → Int) (hV : VS s) (hB : CB s m) : Sp M_X9_weighPaths 2 0 0 [rV 0] (WC ++ w, m) (fun r h => r = none ∧ ∃ m2, h = (WC ++ w, m2) ∧ CB s m2 ∧ FBs m m2 ∧ WGk s m2 ∧ m2 30 = m 30 ∧ m2 25 1 = 1) := by
  refine Sp.ofG (ls := [rV 0]) (by decide +kernel) rfl (Nat.le_of_ble_eq_true rfl) ?_
  have hC := pC_le hV
  have hN := hV.N
  have hT := hV.T
  have hSc := hV.Sc
  have hw := hB.2.2.2.2.1.rng
  refine G_aload_n d_X9_weighPaths_0 rfl ?_
  refine G_getR (r := 25) (fl_X9_43.r) d_X9_weighPaths_1 (wk_0 _) rfl rfl ?_
  refine G_getIe (fl_X9_417.r) d_X9_weighPaths_4 (wk_25 _) rfl (show _ = m 25 1 from rfl) ?_
  refine G_if_ne 21 d_X9_weighPaths_7 (by decide) (by omega) (fun c7 => ?_) (fun c7 => ?_)
  · refine G_vret (mc := 0) (ms := 0) (st := []) d_X9_weighPaths_21 rfl ?_
    refine ⟨rfl, m, rfl, hB, FBs.refl m, ?_, rfl, by omega⟩
    rcases hB.2.2.2.2.1 with h | h
    · omega
    · exact h.2
  · refine G_aload_n d_X9_weighPaths_10 rfl ?_
    refine G_getR (r := 25) (fl_X9_43.r) d_X9_weighPaths_11 (wk_0 _) rfl rfl ?_
    refine G_aload_n d_X9_weighPaths_14 rfl ?_
    refine G_getR (r := 1) (fl_X9_12.r) d_X9_weighPaths_15 (wk_0 _) rfl rfl ?_
    refine G_callV1 cl_X9_420 rfl d_X9_weighPaths_18 (wk_25 _) (Nat.le_of_ble_eq_true rfl) (by decide) (sp_weigh (pN s) (pC s) hB.1.1 hB.2.2.1.1 ⟨by omega, by omega⟩ (by omega) (fun p k hp hk => by rw [cOrd_eq hB.2.2.1 hp hk]; exact pO_rng hV p k) (fun k hk => by rw [hB.1.2.2.2.1 k (by omega)]; exact hV.G k (by omega))) ?_
    rintro _ _ ⟨rfl, m2, rfl, h2⟩
    refine G_vret (mc := 0) (ms := 0) (st := []) d_X9_weighPaths_21 rfl ?_
    have hF : FBs m (upm m2 25 1 1) := ⟨fun a h1 h3 h4 h5 => by rw [upm_off _ _ h1]; exact h2.1 a h3 h4, fun j hj => by rw [upm_ne _ _ (fun _ => hj), h2.1 25 (by decide) (by decide)], fun _ => upm_same _ _ _ _⟩
    have hK : WGk s (upm m2 25 1 1) := fun p hp => by
      have h9 := h2.2 p hp
      rw [upm_off _ _ (by decide), upm_off _ _ (by decide), h9.1, h9.2, wtC_eq hV hB hp, slC_eq hV hB hp]
      exact ⟨rfl, rfl⟩
    have e3 : ∀ a, 30 ≤ a → upm m2 25 1 1 a = m a := fun a ha => by rw [upm_off _ _ (by omega)]; exact h2.1 a (by omega) (by omega)
    exact ⟨rfl, _, rfl, hB.mk' hF (Or.inr ⟨upm_same _ _ _ _, hK⟩) (hB.2.2.2.2.2.1.keep (by omega) (fun a h1 _ => e3 a h1)) (hB.2.2.2.2.2.2.keep (e3 46 (by decide)) (e3 47 (by decide)) (e3 48 (by decide))), hF, hK, e3 30 (by decide), upm_same _ _ _ _⟩
theorem gone_eq {s : Nat → Int} {m : Nat → Nat → Int} {p : Nat} (h : WGk s m) (hp : p < pC s) : (if m 29 p ≠ 0 ∨ m 28 p = 0 then (1 : Int) else 0) = if pGone s p = true then 1 else 0 := by
  have h9 := h p hp
  rw [h9.1, h9.2]
  unfold pGone
  by_cases c : pSp s p = 0 <;> by_cases d : pWt s p = 0 <;> simp [c, d]
theorem sp_CisGone {w : List KD} {m : Nat → Nat → Int} (s : Nat → Int) (hV : VS s) (hB : CB s m) (p : Nat) (hp : p < pC s) : Sp M_X9_isGone 3 0 0 [rV 0, iV (p : Int)] (WC ++ w, m) (fun r h => r = some (iV (if pGone s p = true then 1 else 0)) ∧ ∃ m2, h = (WC ++ w, m2) ∧ CB s m2 ∧ FBs m m2 ∧ m2 30 = m 30) := by
  refine Sp.ofG (ls := [rV 0, iV (p : Int)]) (by decide +kernel) rfl (Nat.le_of_ble_eq_true rfl) ?_
  have hC := pC_le hV
  have hN := hV.N
  have hT := hV.T
  have hSc := hV.Sc
  refine G_aload_n d_X9_isGone_0 rfl ?_
  refine G_callV0 cl_X9_276 rfl d_X9_isGone_1 (wk_0 _) (Nat.le_of_ble_eq_true rfl) (by decide) (sp_CweighPaths s hV hB) ?_
  rintro _ _ ⟨rfl, m2, rfl, h2, hF2, hK, h30, -⟩
  have hKp := hK p hp
  have hwr := pWt_rng hV p
  refine G_aload_n d_X9_isGone_4 rfl ?_
  refine G_getR (r := 25) (fl_X9_43.r) d_X9_isGone_5 (wk_0 _) rfl rfl ?_
  refine G_iload_n d_X9_isGone_8 rfl ?_
  refine G_callV1 cl_X9_404 rfl d_X9_isGone_9 (wk_25 _) (Nat.le_of_ble_eq_true rfl) (by decide) (sp_isGoneP p (by omega) (by rw [hKp.2]; split <;> omega) (by rw [hKp.1]; omega)) ?_
  rintro _ _ ⟨rfl, rfl⟩
  rw [gone_eq hK hp]
  refine G_zret (mc := 0) (ms := 0) (st := []) d_X9_isGone_12 rfl (by split <;> omega) ?_
  exact ⟨rfl, m2, rfl, h2, hF2, h30⟩
def pMat (s : Nat → Int) (p : Nat) : Bool := pMk s p == 1 || pOther s p
theorem sp_Cmatters {w : List KD} {m : Nat → Nat → Int} (s : Nat → Int) (hV : VS s) (hB : CB s m) (p : Nat) (hp : p < pC s) : Sp M_X9_matters 4 0 0 [rV 0, iV (p : Int)] (WC ++ w, m) (fun r h => r = some (iV (if pMat s p = true then 1 else 0)) ∧ ∃ m2, h = (WC ++ w, m2) ∧ CB s m2 ∧ FBs m m2 ∧ m2 30 = m 30) := by
  refine Sp.ofG (ls := [rV 0, iV (p : Int)]) (by decide +kernel) rfl (Nat.le_of_ble_eq_true rfl) ?_
  have hC := pC_le hV
  have hN := hV.N
  have hT := hV.T
  have hSc := hV.Sc
  refine G_aload_n d_X9_matters_0 rfl ?_
  refine G_getR (r := 1) (fl_X9_12.r) d_X9_matters_1 (wk_0 _) rfl rfl ?_
  refine G_getR (r := 5) fl_X9_178 d_X9_matters_4 (wk_1 _) rfl rfl ?_
  refine G_iload_n d_X9_matters_7 rfl ?_
  refine G_baldj (p) d_X9_matters_8 (wk_5 _) (by omega) (by omega) (by decide) ?_
  rw [hB.1.2.2.2.2.2 p (by omega), show s (227 + p) = pMk s p from rfl]
  have hMk := hV.Mk p (by omega)
  refine G_iconst d_X9_matters_9 ?_
  refine G_icmp_eq 33 d_X9_matters_10 (by decide) (by omega) (by omega) (fun c10 => ?_) (fun c10 => ?_)
  · refine G_iconst d_X9_matters_33 ?_
    refine G_goto 38 d_X9_matters_34 (by decide) ?_
    refine G_zret (mc := 0) (ms := 0) (st := []) d_X9_matters_38 rfl (by omega) ?_
    exact ⟨by rw [if_pos (by unfold pMat; simp [c10])], m, rfl, hB, FBs.refl m, rfl⟩
  · refine G_aload_n d_X9_matters_13 rfl ?_
    refine G_getR (r := 1) (fl_X9_12.r) d_X9_matters_14 (wk_0 _) rfl rfl ?_
    refine G_getR (r := 5) fl_X9_178 d_X9_matters_17 (wk_1 _) rfl rfl ?_
    refine G_iload_n d_X9_matters_20 rfl ?_
    refine G_baldj (p) d_X9_matters_21 (wk_5 _) (by omega) (by omega) (by decide) ?_
    rw [hB.1.2.2.2.2.2 p (by omega), show s (227 + p) = pMk s p from rfl]
    refine G_if_ne 37 d_X9_matters_22 (by decide) (by omega) (fun c22 => ?_) (fun c22 => ?_)
    · refine G_iconst d_X9_matters_37 ?_
      refine G_zret (mc := 0) (ms := 0) (st := []) d_X9_matters_38 rfl (by omega) ?_
      exact ⟨by rw [if_neg (by unfold pMat pOther; simp [c10, c22])], m, rfl, hB, FBs.refl m, rfl⟩
    · refine G_aload_n d_X9_matters_25 rfl ?_
      refine G_iload_n d_X9_matters_26 rfl ?_
      refine G_callV1 cl_X9_283 rfl d_X9_matters_27 (wk_0 _) (Nat.le_of_ble_eq_true rfl) (by decide) (sp_CisGone s hV hB p hp) ?_
      rintro _ _ ⟨rfl, m2, rfl, h2, hF2, h30⟩
      by_cases hg : pGone s p = true
      · rw [if_pos hg]
        refine G_if_ne 37 d_X9_matters_30 (by decide) (by decide) (fun _ => ?_) (fun hd => absurd hd (by decide))
        refine G_iconst d_X9_matters_37 ?_
        refine G_zret (mc := 0) (ms := 0) (st := []) d_X9_matters_38 rfl (by omega) ?_
        exact ⟨by rw [if_neg (by unfold pMat pOther; simp [c10, hg])], m2, rfl, h2, hF2, h30⟩
      · rw [if_neg hg]
        refine G_if_ne 37 d_X9_matters_30 (by decide) (by decide) (fun hd => absurd hd (by decide)) (fun _ => ?_)
        refine G_iconst d_X9_matters_33 ?_
        refine G_goto 38 d_X9_matters_34 (by decide) ?_
        refine G_zret (mc := 0) (ms := 0) (st := []) d_X9_matters_38 rfl (by omega) ?_
        exact ⟨by rw [if_pos (by unfold pMat pOther; simp [c22, hg])], m2, rfl, h2, hF2, h30⟩
theorem sp_CbuildScans {w : List KD} {m : Nat → Nat → Int} (s : Nat → Int) (hV : VS s) (hB : CB s m) : Sp M_X9_buildScans 2 0 0 [rV 0] (WC ++ w, m) (fun r h => r = none ∧ ∃ m2, h = (WC ++ w, m2) ∧ CB s m2 ∧ FBs m m2 ∧ m2 30 0 = 1 ∧ SB s m2) := by
  refine Sp.ofG (ls := [rV 0]) (by decide +kernel) rfl (Nat.le_of_ble_eq_true rfl) ?_
  have hC := pC_le hV
  have hN := hV.N
  have hT := hV.T
  have hSc := hV.Sc
  have hw := hB.2.2.2.2.2.1.rng
  have hFo := hV.F
  refine G_aload_n d_X9_buildScans_0 rfl ?_
  refine G_getR (r := 30) (fl_X9_54.r) d_X9_buildScans_1 (wk_0 _) rfl rfl ?_
  refine G_getIe (fl_X9_326.r) d_X9_buildScans_4 (wk_30 _) rfl (show _ = m 30 0 from rfl) ?_
  refine G_if_ne 60 d_X9_buildScans_7 (by decide) (by omega) (fun c7 => ?_) (fun c7 => ?_)
  · refine G_vret (mc := 0) (ms := 0) (st := []) d_X9_buildScans_60 rfl ?_
    refine ⟨rfl, m, rfl, hB, FBs.refl m, by omega, ?_⟩
    rcases hB.2.2.2.2.2.1 with h | h
    · omega
    · exact h.2
  · refine G_aload_n d_X9_buildScans_10 rfl ?_
    refine G_getR (r := 30) (fl_X9_54.r) d_X9_buildScans_11 (wk_0 _) rfl rfl ?_
    refine G_aload_n d_X9_buildScans_14 rfl ?_
    refine G_getR (r := 6) (fl_X9_19.r) d_X9_buildScans_15 (wk_0 _) rfl rfl ?_
    refine G_aload_n d_X9_buildScans_18 rfl ?_
    refine G_getR (r := 1) (fl_X9_12.r) d_X9_buildScans_19 (wk_0 _) rfl rfl ?_
    refine G_getIe (v := (pN s : Int)) (fl_X9_194.r) d_X9_buildScans_22 (wk_1 _) rfl (hB.1.1) ?_
    refine G_callV2 cl_X9_408 rfl d_X9_buildScans_25 (wk_30 _) (Nat.le_of_ble_eq_true rfl) (by decide) (sp_build s hV hB.2.1.1) ?_
    rintro _ _ ⟨rfl, m1, rfl, h1, hp1, hF1⟩
    refine G_aload_n d_X9_buildScans_28 rfl ?_
    refine G_getR (r := 6) (fl_X9_19.r) d_X9_buildScans_29 (wk_0 _) rfl rfl ?_
    refine G_getIe (v := (if s 3 = 0 then 1 else 0 : Int)) (fl_X9_164.r) d_X9_buildScans_32 (wk_6 _) rfl ((by rw [hF1.1 6 (by decide) (by decide)]; exact hB.2.1.2)) ?_
    refine G_if_eq 53 d_X9_buildScans_35 (by decide) (by first | omega | (split <;> omega)) (fun c35 => ?_) (fun c35 => ?_)
    · refine G_aload_n d_X9_buildScans_53 rfl ?_
      refine G_getR (r := 30) (fl_X9_54.r) d_X9_buildScans_54 (wk_0 _) rfl rfl ?_
      have h0 : ¬ s 3 = 0 := fun c => by rw [if_pos c] at c35; exact absurd c35 (by decide)
      have hSB : SBp s m1 := ⟨h1, fun k hk t ht => by
        rw [hp1 k hk t ht]
        unfold pPh
        by_cases e : k = pN s
        · rw [if_pos e, e]
          unfold pRcv
          rw [if_neg h0]
        · rw [if_neg e]⟩
      refine G_callV0 cl_X9_416 rfl d_X9_buildScans_57 (wk_30 _) (Nat.le_of_ble_eq_true rfl) (by decide) (sp_scbegin s hV hSB) ?_
      rintro _ _ ⟨rfl, m4, rfl, h4, hk4, hf4⟩
      refine G_vret (mc := 0) (ms := 0) (st := []) d_X9_buildScans_60 rfl ?_
      have e3 : ∀ a, a ≠ 30 → (a < 32 ∨ 37 < a) → m1 a = m a := fun a h1 h2 => hF1.1 a h1 h2
      have e4 : ∀ a, a ≠ 30 → a ≠ 39 → (a < 32 ∨ 37 < a) → m4 a = m a := fun a h1 h2 h3 => (hf4 a h1 h2).trans (e3 a h1 h3)
      have hF : FBs m m4 := ⟨fun a h1 h2 h3 h4 => e4 a (by omega) (by omega) (by omega), fun j hj => by rw [e4 25 (by decide) (by decide) (by decide)], fun h => by rw [e4 25 (by decide) (by decide) (by decide)]; exact h⟩
      exact ⟨rfl, m4, rfl, hB.mk' hF (hB.2.2.2.2.1.keep (by rw [e4 25 (by decide) (by decide) (by decide)]) (e4 28 (by decide) (by decide) (by decide)) (e4 29 (by decide) (by decide) (by decide))) (Or.inr ⟨hk4, h4⟩) (hB.2.2.2.2.2.2.keep (e4 46 (by decide) (by decide) (by decide)) (e4 47 (by decide) (by decide) (by decide)) (e4 48 (by decide) (by decide) (by decide))), hF, hk4, h4⟩
    · refine G_aload_n d_X9_buildScans_38 rfl ?_
      refine G_getR (r := 30) (fl_X9_54.r) d_X9_buildScans_39 (wk_0 _) rfl rfl ?_
      refine G_aload_n d_X9_buildScans_42 rfl ?_
      refine G_getR (r := 25) (fl_X9_43.r) d_X9_buildScans_43 (wk_0 _) rfl rfl ?_
      refine G_aload_n d_X9_buildScans_46 rfl ?_
      refine G_getIe (v := pChief s) (fl_X9_47.r) d_X9_buildScans_47 (wk_0 _) rfl ((by rw [hF1.1 0 (by decide) (by decide)]; exact hB.2.2.2.1)) ?_
      refine G_callV2 cl_X9_412 rfl d_X9_buildScans_50 (wk_30 _) (Nat.le_of_ble_eq_true rfl) (by decide) (sp_trackChief s hV (hB.2.2.1.keep2 (by rw [hF1.1 25 (by decide) (by decide)]) (hF1.1 26 (by decide) (by decide)) (hF1.1 27 (by decide) (by decide))) h1 (fun k hk => hp1 k (by omega))) ?_
      rintro _ _ ⟨rfl, m3, rfl, h3, hf3⟩
      refine G_aload_n d_X9_buildScans_53 rfl ?_
      refine G_getR (r := 30) (fl_X9_54.r) d_X9_buildScans_54 (wk_0 _) rfl rfl ?_
      have h0 : s 3 = 0 := by
        by_cases c : s 3 = 0
        · exact c
        · rw [if_neg c] at c35; exact absurd rfl c35
      have hSB : SBp s m3 := ⟨h1.keep (by rw [hf3 30 (by omega)]) (by rw [hf3 30 (by omega)]) (by rw [hf3 30 (by omega)]), fun k hk t ht => by
        unfold pPh
        by_cases e : k = pN s
        · rw [if_pos e, e, h3 t ht]
          unfold pRcv
          rw [if_pos h0]
          rfl
        · rw [if_neg e, hf3 (32 + k) (by omega), hp1 k hk t ht]⟩
      refine G_callV0 cl_X9_416 rfl d_X9_buildScans_57 (wk_30 _) (Nat.le_of_ble_eq_true rfl) (by decide) (sp_scbegin s hV hSB) ?_
      rintro _ _ ⟨rfl, m4, rfl, h4, hk4, hf4⟩
      refine G_vret (mc := 0) (ms := 0) (st := []) d_X9_buildScans_60 rfl ?_
      have e3 : ∀ a, a ≠ 30 → (a < 32 ∨ 37 < a) → m3 a = m a := fun a h1 h2 => (hf3 a (by omega)).trans (hF1.1 a h1 h2)
      have e4 : ∀ a, a ≠ 30 → a ≠ 39 → (a < 32 ∨ 37 < a) → m4 a = m a := fun a h1 h2 h3 => (hf4 a h1 h2).trans (e3 a h1 h3)
      have hF : FBs m m4 := ⟨fun a h1 h2 h3 h4 => e4 a (by omega) (by omega) (by omega), fun j hj => by rw [e4 25 (by decide) (by decide) (by decide)], fun h => by rw [e4 25 (by decide) (by decide) (by decide)]; exact h⟩
      exact ⟨rfl, m4, rfl, hB.mk' hF (hB.2.2.2.2.1.keep (by rw [e4 25 (by decide) (by decide) (by decide)]) (e4 28 (by decide) (by decide) (by decide)) (e4 29 (by decide) (by decide) (by decide))) (Or.inr ⟨hk4, h4⟩) (hB.2.2.2.2.2.2.keep (e4 46 (by decide) (by decide) (by decide)) (e4 47 (by decide) (by decide) (by decide)) (e4 48 (by decide) (by decide) (by decide))), hF, hk4, h4⟩
/-- after tally -/
theorem CB.tally {s : Nat → Int} {m m2 : Nat → Nat → Int} (h : CB s m) (h0 : m 30 0 = 1) (hB : SB s m2) (k : ∀ a, a ≠ 30 → (a < 39 ∨ 45 < a) → m2 a = m a) (k2 : ∀ j, j ≠ 4 → m2 30 j = m 30 j) : CB s m2 ∧ FBs m m2 ∧ m2 30 0 = 1 := by
  have hF : FBs m m2 := ⟨fun a h1 h2 h3 h4 => k a (by omega) (by omega), fun j hj => by rw [k 25 (by decide) (by decide)], fun h => by rw [k 25 (by decide) (by decide)]; exact h⟩
  have h1 : m2 30 0 = 1 := (k2 0 (by decide)).trans h0
  exact ⟨h.mk' hF (h.2.2.2.2.1.keep (by rw [k 25 (by decide) (by decide)]) (k 28 (by decide) (by decide)) (k 29 (by decide) (by decide))) (Or.inr ⟨h1, hB⟩) (h.2.2.2.2.2.2.keep (k 46 (by decide) (by decide)) (k 47 (by decide) (by decide)) (k 48 (by decide) (by decide))), hF, h1⟩
/-- after a sum -/
theorem CB.summed {s : Nat → Int} {m m2 : Nat → Nat → Int} (hN : pN s ≤ 5) (h : CB s m) (hU : US m2) (k : FQ m m2) : CB s m2 ∧ FBs m m2 := by
  have hF : FBs m m2 := ⟨fun a h1 h2 h3 h4 => k a (by omega) (by omega) (by omega) (by omega), fun j hj => by rw [k 25 (by decide) (by decide) (by decide) (by decide)], fun h => by rw [k 25 (by decide) (by decide) (by decide) (by decide)]; exact h⟩
  exact ⟨h.mk' hF (h.2.2.2.2.1.keep (by rw [k 25 (by decide) (by decide) (by decide) (by decide)]) (k 28 (by decide) (by decide) (by decide) (by decide)) (k 29 (by decide) (by decide) (by decide) (by decide))) (h.2.2.2.2.2.1.keep hN (fun a h1 h2 => k a (by omega) (by omega) (by omega) (by omega))) hU, hF⟩
theorem sp_CearlyState {w : List KD} {m : Nat → Nat → Int} (s : Nat → Int) (hV : VS s) (hB : CB s m) (h30 : m 30 0 = 1) (hS : SB s m) (p n : Nat) (hp : p < pC s) (hn : n ≤ pSc s) : Sp M_X9_earlyState 3 0 0 [rV 0, iV (p : Int), iV (n : Int)] (WC ++ w, m) (fun r h => r = some (iV (stB (pT s) (pCnt s p n))) ∧ ∃ m2, h = (WC ++ w, m2) ∧ CB s m2 ∧ FBs m m2 ∧ m2 30 0 = 1 ∧ SB s m2) := by
  refine Sp.ofG (ls := [rV 0, iV (p : Int), iV (n : Int)]) (by decide +kernel) rfl (Nat.le_of_ble_eq_true rfl) ?_
  have hC := pC_le hV
  have hN := hV.N
  have hT := hV.T
  have hSc := hV.Sc
  refine G_aload_n d_X9_earlyState_0 rfl ?_
  refine G_getR (r := 46) (fl_X9_61.r) d_X9_earlyState_1 (wk_0 _) rfl rfl ?_
  refine G_aload_n d_X9_earlyState_4 rfl ?_
  refine G_getR (r := 30) (fl_X9_54.r) d_X9_earlyState_5 (wk_0 _) rfl rfl ?_
  refine G_aload_n d_X9_earlyState_8 rfl ?_
  refine G_getR (r := 25) (fl_X9_43.r) d_X9_earlyState_9 (wk_0 _) rfl rfl ?_
  refine G_iload_n d_X9_earlyState_12 rfl ?_
  refine G_iload_n d_X9_earlyState_13 rfl ?_
  refine G_callV3 cl_X9_259 rfl d_X9_earlyState_14 (wk_30 _) (Nat.le_of_ble_eq_true rfl) (by decide) (sp_tally s hV hB.2.2.1 hS p n hp hn) ?_
  rintro _ _ ⟨rfl, m1, rfl, h1, hc1, hf1, hg1⟩
  obtain ⟨hB1, hF1, h301⟩ := hB.tally h30 h1 hf1 hg1
  refine G_aload_n d_X9_earlyState_17 rfl ?_
  refine G_getR (r := 6) (fl_X9_19.r) d_X9_earlyState_18 (wk_0 _) rfl rfl ?_
  refine G_getIe (v := (pT s : Int)) (fl_X9_123.r) d_X9_earlyState_21 (wk_6 _) rfl (hB1.2.1.1.1) ?_
  refine G_callV2 cl_X9_347 rfl d_X9_earlyState_24 (wk_46 _) (Nat.le_of_ble_eq_true rfl) (by decide) (sp_stateOf (pT s) (pCnt s p n) (by omega) (by omega) hB1.2.2.2.2.2.2 (fun x hx => by rw [hc1 x (by omega)]; have := pCnt_rng s p n x; omega)) ?_
  rintro _ _ ⟨rfl, m2, rfl, hU2, hF2⟩
  refine G_iret (mc := 0) (ms := 0) (st := []) d_X9_earlyState_27 rfl ?_
  obtain ⟨hB2, hF3⟩ := hB1.summed (by omega) hU2 hF2
  exact ⟨rfl, m2, rfl, hB2, hF1.trans hF3, by rw [hF2 30 (by decide) (by decide) (by decide) (by decide)]; exact h301, h1.keep (by omega) (fun a h1 h2 => hF2 a (by omega) (by omega) (by omega) (by omega))⟩
