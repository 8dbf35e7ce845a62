theorem G_ldcw {M : MD} {d mc ms pc : Nat} {ls st : List PV} {w : List KD} {m : Nat → Nat → Int} {Q : Ps} {i : Nat} {v : Int} (hd : decode M.2.1 pc = .ok (.ldc_w i, 3)) (hw : Cond.constant M.1.cls i (Int32.ofInt v) ∈ lwg) (k : G M d mc ms (pc + 3) ls (iV v :: st) (w, m) Q) : G M d mc ms pc ls st (w, m) Q := by
  intro l b0 D cA X p e R s mm args below meth c H locs cells slots ls' c1 c2
  exact lv_ldcw c1.1 c1.2.1 c1.2.2.2.2.1 (c1.2.2.2.2.2.1 _ hw) hd (k l b0 D cA X p e R s mm args below meth c H locs cells slots ls' c1 c2)
theorem sp_CisGone2 {w : List KD} {m : Nat → Nat → Int} (s : Nat → Int) (hV : VS s) (hB : CB s m) (p : Nat) (hp : p < pC s) : Sp M_X9_isGone 3 0 0 [rV 0, iV (p : Int)] (WC ++ w, m) (fun r h => r = some (iV (if pGone s p = true then 1 else 0)) ∧ ∃ m2, h = (WC ++ w, m2) ∧ CB s m2 ∧ FBs m m2 ∧ m2 25 1 = 1) := by
  refine Sp.ofG (ls := [rV 0, iV (p : Int)]) (by decide +kernel) rfl (Nat.le_of_ble_eq_true rfl) ?_
  have hC := pC_le hV
  have hN := hV.N
  have hT := hV.T
  have hSc := hV.Sc
  refine G_aload_n d_X9_isGone_0 rfl ?_
  refine G_callV0 cl_X9_276 rfl d_X9_isGone_1 (wk_0 _) (Nat.le_of_ble_eq_true rfl) (by decide) (sp_CweighPaths s hV hB) ?_
  rintro _ _ ⟨rfl, m2, rfl, h2, hF2, hK, -, h25⟩
  have hKp := hK p hp
  have hwr := pWt_rng hV p
  refine G_aload_n d_X9_isGone_4 rfl ?_
  refine G_getR (r := 25) (fl_X9_43.r) d_X9_isGone_5 (wk_0 _) rfl rfl ?_
  refine G_iload_n d_X9_isGone_8 rfl ?_
  refine G_callV1 cl_X9_404 rfl d_X9_isGone_9 (wk_25 _) (Nat.le_of_ble_eq_true rfl) (by decide) (sp_isGoneP p (by omega) (by rw [hKp.2]; split <;> omega) (by rw [hKp.1]; omega)) ?_
  rintro _ _ ⟨rfl, rfl⟩
  rw [gone_eq hK hp]
  refine G_zret (mc := 0) (ms := 0) (st := []) d_X9_isGone_12 rfl (by split <;> omega) ?_
  exact ⟨rfl, m2, rfl, h2, hF2, h25⟩
theorem sp_CisLeak {w : List KD} {m : Nat → Nat → Int} (s : Nat → Int) (hV : VS s) (hI : CI s m) (p : Nat) (hp : p < pC s) : Sp M_X9_isIn 5 0 0 [rV 0, iV 0, iV (p : Int)] (WC ++ w, m) (fun r h => r = some (iV (if pLeak s p = true then 1 else 0)) ∧ ∃ m2, h = (WC ++ w, m2) ∧ CI s m2 ∧ FPs m m2 ∧ (pLeak s p = true → m2 25 1 = 1)) := by
  refine Sp.ofG (ls := [rV 0, iV 0, iV (p : Int), uV]) (by decide +kernel) rfl (Nat.le_of_ble_eq_true rfl) ?_
  have hC := pC_le hV
  have hN := hV.N
  have hT := hV.T
  have hSc := hV.Sc
  refine G_aload_n d_X9_isIn_0 rfl ?_
  refine G_getR (r := 1) (fl_X9_12.r) d_X9_isIn_1 (wk_0 _) rfl rfl ?_
  refine G_getR (r := 5) fl_X9_178 d_X9_isIn_4 (wk_1 _) rfl rfl ?_
  refine G_iload_n d_X9_isIn_7 rfl ?_
  refine G_baldj (p) d_X9_isIn_8 (wk_5 _) (by omega) (by omega) (by decide) ?_
  rw [hI.1.1.2.2.2.2.2 p (by omega), show s (227 + p) = pMk s p from rfl]
  have hMk := hV.Mk p (by omega)
  have hpr := pSt_rng s p
  refine G_istore_n d_X9_isIn_9 (by decide) rfl ?_
  refine G_iload_n d_X9_isIn_10 rfl ?_
  refine G_tin 36 d_X9_isIn_11 (by omega) (by omega) (by omega) (by first | rfl | (simp)) (by decide) ?_
  refine G_iload_n d_X9_isIn_36 rfl ?_
  refine G_if_ne 60 d_X9_isIn_37 (by decide) (by omega) (fun c37 => ?_) (fun c37 => ?_)
  · refine G_iconst d_X9_isIn_60 ?_
    refine G_zret (mc := 0) (ms := 0) (st := []) d_X9_isIn_61 rfl (by omega) ?_
    have hl : ¬ pLeak s p = true := by unfold pLeak pOther; simp [c37]
    exact ⟨by rw [if_neg hl], m, rfl, hI, FPs.refl m, fun h => absurd h hl⟩
  · refine G_aload_n d_X9_isIn_40 rfl ?_
    refine G_iload_n d_X9_isIn_41 rfl ?_
    refine G_callV1 cl_X9_283 rfl d_X9_isIn_42 (wk_0 _) (Nat.le_of_ble_eq_true rfl) (by decide) (sp_CisGone2 s hV hI.1 p hp) ?_
    rintro _ _ ⟨rfl, m2, rfl, h2, hF2, h25⟩
    have hI2 := hI.fb h2 hF2
    by_cases hg : pGone s p = true
    · rw [if_pos hg]
      refine G_if_ne 60 d_X9_isIn_45 (by decide) (by decide) (fun _ => ?_) (fun hd => absurd hd (by decide))
      refine G_iconst d_X9_isIn_60 ?_
      refine G_zret (mc := 0) (ms := 0) (st := []) d_X9_isIn_61 rfl (by omega) ?_
      have hl : ¬ pLeak s p = true := by unfold pLeak pOther; simp [hg]
      exact ⟨by rw [if_neg hl], m2, rfl, hI2, hF2.p, fun h => absurd h hl⟩
    · rw [if_neg hg]
      refine G_if_ne 60 d_X9_isIn_45 (by decide) (by decide) (fun hd => absurd hd (by decide)) (fun _ => ?_)
      refine G_aload_n d_X9_isIn_48 rfl ?_
      refine G_iload_n d_X9_isIn_49 rfl ?_
      refine G_callV1 cl_X9_263 rfl d_X9_isIn_50 (wk_0 _) (Nat.le_of_ble_eq_true rfl) (by decide) (sp_CstateOf s hV hI2 p hp) ?_
      rintro _ _ ⟨rfl, m3, rfl, h3, hF3⟩
      refine G_if_eq 60 d_X9_isIn_53 (by decide) (by omega) (fun c53 => ?_) (fun c53 => ?_)
      · refine G_iconst d_X9_isIn_60 ?_
        refine G_zret (mc := 0) (ms := 0) (st := []) d_X9_isIn_61 rfl (by omega) ?_
        have hl : ¬ pLeak s p = true := by unfold pLeak pOther; simp [c53]
        exact ⟨by rw [if_neg hl], m3, rfl, h3, hF2.p.trans hF3, fun h => absurd h hl⟩
      · refine G_iconst d_X9_isIn_56 ?_
        refine G_goto 61 d_X9_isIn_57 (by decide) ?_
        refine G_zret (mc := 0) (ms := 0) (st := []) d_X9_isIn_61 rfl (by omega) ?_
        have hl : pLeak s p = true := by unfold pLeak pOther; simp [c37, hg, c53]
        exact ⟨by rw [if_pos hl], m3, rfl, h3, hF2.p.trans hF3, fun _ => hF3.2.2.2 h25⟩
theorem sp_gatherLeaks {w : List KD} {m : Nat → Nat → Int} (s : Nat → Int) (hV : VS s) (hI : CI s m) : Sp M_X9_gatherLeaks 6 0 0 [rV 0] (WC ++ w, m) (fun r h => r = some (iV (cntB (pLeak s) (pC s) : Nat)) ∧ ∃ m2, h = (WC ++ w, m2) ∧ CI s m2 ∧ FXo m m2 ∧ (1 ≤ cntB (pLeak s) (pC s) → m2 25 1 = 1) ∧ (∀ q, q < pC s → pLeak s q = true → m2 51 (cntB (pLeak s) q) = (q : Int))) := by
  refine Sp.ofG (ls := [rV 0, uV, uV]) (by decide +kernel) rfl (Nat.le_of_ble_eq_true rfl) ?_
  have hC := pC_le hV
  have hN := hV.N
  have hT := hV.T
  have hSc := hV.Sc
  have L : ∀ p : Nat, p ≤ pC s → ∀ m1, CI s m1 → FXo m m1 → (1 ≤ cntB (pLeak s) p → m1 25 1 = 1) → (∀ q, q < p → pLeak s q = true → m1 51 (cntB (pLeak s) q) = (q : Int)) → G M_X9_gatherLeaks 6 0 0 4 [rV 0, iV (cntB (pLeak s) p : Nat), iV (p : Int)] [] (WC ++ w, m1) (fun r h => r = some (iV (cntB (pLeak s) (pC s) : Nat)) ∧ ∃ m2, h = (WC ++ w, m2) ∧ CI s m2 ∧ FXo m m2 ∧ (1 ≤ cntB (pLeak s) (pC s) → m2 25 1 = 1) ∧ (∀ q, q < pC s → pLeak s q = true → m2 51 (cntB (pLeak s) q) = (q : Int))) := by
    refine loop_up (pC s) _ ?_
    intro p hp ih m1 hI1 hX1 hw hg
    refine G_iload_n d_X9_gatherLeaks_4 rfl ?_
    refine G_aload_n d_X9_gatherLeaks_5 rfl ?_
    refine G_getR (r := 25) (fl_X9_43.r) d_X9_gatherLeaks_6 (wk_0 _) rfl rfl ?_
    refine G_getIe (v := (pC s : Int)) (fl_X9_110.r) d_X9_gatherLeaks_9 (wk_25 _) rfl (hI1.1.2.2.1.1) ?_
    refine G_icmp_ge 40 d_X9_gatherLeaks_12 (by decide) (by omega) (by omega) (fun c12 => ?_) (fun c12 => ?_)
    · refine G_iload_n d_X9_gatherLeaks_40 rfl ?_
      refine G_iret (mc := 0) (ms := 0) (st := []) d_X9_gatherLeaks_41 rfl ?_
      have hpe : p = pC s := by omega
      subst hpe
      exact ⟨rfl, m1, rfl, hI1, hX1, hw, hg⟩
    · refine G_aload_n d_X9_gatherLeaks_15 rfl ?_
      refine G_iconst d_X9_gatherLeaks_16 ?_
      refine G_iload_n d_X9_gatherLeaks_17 rfl ?_
      have hcl := cntB_le (pLeak s) p
      refine G_callV2 cl_X9_266 rfl d_X9_gatherLeaks_18 (wk_0 _) (Nat.le_of_ble_eq_true rfl) (by decide) (sp_CisLeak s hV hI1 p (by omega)) ?_
      rintro _ _ ⟨rfl, m2, rfl, h2, hF2, hw2⟩
      have hX2 := hX1.trans hF2.x
      have e51 : m2 51 = m1 51 := hF2.1 51 (by decide) (by decide) (by decide) (by decide) (by decide)
      by_cases hl : pLeak s p = true
      · rw [if_pos hl]
        refine G_if_eq 34 d_X9_gatherLeaks_21 (by decide) (by decide) (fun hd => absurd hd (by decide)) (fun _ => ?_)
        refine G_aload_n d_X9_gatherLeaks_24 rfl ?_
        refine G_getR (r := 51) (fl_X9_72.r) d_X9_gatherLeaks_25 (wk_0 _) rfl rfl ?_
        refine G_iload_n d_X9_gatherLeaks_28 rfl ?_
        refine G_iload_n d_X9_gatherLeaks_29 rfl ?_
        refine G_iastj (cntB (pLeak s) p) d_X9_gatherLeaks_30 (wk_51 _) (by omega) (by omega) (by decide) ?_
        refine G_iinc d_X9_gatherLeaks_31 rfl (by decide) rfl ?_
        refine G_iinc d_X9_gatherLeaks_34 rfl (by decide) rfl ?_
        refine G_goto 4 d_X9_gatherLeaks_37 (by decide) ?_
        rw [cntB_t hl] at ih
        refine ih (by omega) (upm m2 51 (cntB (pLeak s) p) (p : Int)) (h2.scr (by omega) (fun a ha => upm_off _ _ ha)) (hX2.trans (FXo.scr (fun a ha => upm_off _ _ ha))) (fun _ => by rw [upm_off _ _ (by decide)]; exact hw2 hl) (fun q hq hf => ?_)
        by_cases e : q = p
        · rw [e, upm_same]
        · have h9 := cntB_mono (pLeak s) (show q + 1 ≤ p by omega)
          rw [cntB_t hf] at h9
          rw [upm_ne _ _ (fun _ => by omega), e51]
          exact hg q (by omega) hf
      · rw [if_neg hl]
        refine G_if_eq 34 d_X9_gatherLeaks_21 (by decide) (by decide) (fun _ => ?_) (fun hd => absurd hd (by decide))
        refine G_iinc d_X9_gatherLeaks_34 rfl (by decide) rfl ?_
        refine G_goto 4 d_X9_gatherLeaks_37 (by decide) ?_
        rw [cntB_f (show pLeak s p = false by simpa using hl)] at ih
        refine ih (by omega) m2 h2 hX2 (fun h => hF2.2.2.2 (hw h)) (fun q hq hf => ?_)
        by_cases e : q = p
        · rw [e] at hf; exact absurd hf hl
        · rw [e51]; exact hg q (by omega) hf
  refine G_iconst d_X9_gatherLeaks_0 ?_
  refine G_istore_n d_X9_gatherLeaks_1 (by decide) rfl ?_
  refine G_iconst d_X9_gatherLeaks_2 ?_
  refine G_istore_n d_X9_gatherLeaks_3 (by decide) rfl ?_
  exact L 0 (by omega) m hI (FXo.refl m) (fun h => absurd (show 1 ≤ 0 from h) (by decide)) (fun q hq => absurd hq (by omega))
def oF (m : Nat → Nat → Int) (k : Nat) : Nat := (m 51 k).toNat
def wF (s : Nat → Int) (m : Nat → Nat → Int) (k : Nat) : Int := pWt s (oF m k)
theorem GL_at {s : Nat → Int} {m : Nat → Nat → Int} (h : ∀ q, q < pC s → pLeak s q = true → m 51 (cntB (pLeak s) q) = (q : Int)) {k : Nat} (hk : k < cntB (pLeak s) (pC s)) : m 51 k = ((oF m k : Nat) : Int) ∧ oF m k < pC s ∧ pLeak s (oF m k) = true ∧ cntB (pLeak s) (oF m k) = k := by
  obtain ⟨q, h1, h2, h3⟩ := cnt_ex hk
  have h4 := h q h1 h2
  rw [h3] at h4
  have e : oF m k = q := by unfold oF; rw [h4]; rfl
  rw [e]
  exact ⟨h4, h1, h2, h3⟩
theorem GL_rnk {s : Nat → Int} {m : Nat → Nat → Int} (h : ∀ q, q < pC s → pLeak s q = true → m 51 (cntB (pLeak s) q) = (q : Int)) {k : Nat} (hk : k < cntB (pLeak s) (pC s)) : rnk s (oF m k) = cntB (fun j => decide (wF s m k < wF s m j)) (cntB (pLeak s) (pC s)) + cntB (fun j => wF s m j == wF s m k) k := by
  obtain ⟨-, h2, h3, h4⟩ := GL_at h hk
  have ho : ∀ q, q < pC s → pLeak s q = true → oF m (cntB (pLeak s) q) = q := fun q hq hf => by unfold oF; rw [h q hq hf]; rfl
  have e1 : rnk s (oF m k) = cntB (fun q => pLeak s q && decide (wF s m k < pWt s q)) (pC s) + cntB (fun q => (pLeak s q && (pWt s q == wF s m k)) && decide (q < oF m k)) (pC s) := by
    refine cnt_or (fun q hq => ?_)
    rw [ahd_iff]
    simp only [Bool.and_eq_true, decide_eq_true_eq, beq_iff_eq]
    unfold wF
    constructor
    · constructor
      · rintro ⟨a1, a2 | a2⟩
        · exact Or.inl ⟨a1, a2⟩
        · exact Or.inr ⟨⟨a1, a2.1⟩, a2.2⟩
      · rintro (a | a)
        · exact ⟨a.1, Or.inl a.2⟩
        · exact ⟨a.1.1, Or.inr ⟨a.1.2, a.2⟩⟩
    · rintro ⟨a, b⟩
      have := a.2
      have := b.1.2
      omega
  have e2 := cnt_tr (f := pLeak s) (g := fun q => decide (wF s m k < pWt s q)) ho (pC s) (Nat.le_refl _)
  have e3 := cnt_cut (f := fun q => pLeak s q && (pWt s q == wF s m k)) (p := oF m k) (n := pC s) (by omega)
  have e4 := cnt_tr (f := pLeak s) (g := fun q => pWt s q == wF s m k) ho (oF m k) (by omega)
  rw [e1, e2, e3, e4, h4]
  rfl
theorem sp_leakOfWeight {w : List KD} {m : Nat → Nat → Int} (s : Nat → Int) (hV : VS s) (hB : CB s m) (hG : ∀ q, q < pC s → pLeak s q = true → m 51 (cntB (pLeak s) q) = (q : Int)) (n : Nat) (hn : n = cntB (pLeak s) (pC s)) (hw : 1 ≤ n → WGk s m) (v : Int) (hv : 0 ≤ v ∧ v ≤ 100000) (i kk : Nat) (hkk : kk < n) (hkv : wF s m kk = v) (hki : cntB (fun j => wF s m j == v) kk = i) : Sp M_X9_leakOfWeight 0 0 0 [rV 0, iV v, iV (i : Int), iV (n : Int)] (WC ++ w, m) (fun r h => r = some (iV ((oF m kk : Nat) : Int)) ∧ h = (WC ++ w, m)) := by
  refine Sp.ofG (ls := [rV 0, iV v, iV (i : Int), iV (n : Int), uV, uV]) (by decide +kernel) rfl (Nat.le_of_ble_eq_true rfl) ?_
  have hC := pC_le hV
  have hN := hV.N
  have hT := hV.T
  have hSc := hV.Sc
  have hcl := cntB_le (fun j => wF s m j == v) kk
  have hcn := cntB_le (pLeak s) (pC s)
  have L : ∀ k : Nat, k ≤ kk → G M_X9_leakOfWeight 0 0 0 6 [rV 0, iV v, iV (i : Int), iV (n : Int), iV ((i : Int) - (cntB (fun j => wF s m j == v) k : Nat)), iV (k : Int)] [] (WC ++ w, m) (fun r h => r = some (iV ((oF m kk : Nat) : Int)) ∧ h = (WC ++ w, m)) := by
    refine loop_up (kk) _ ?_
    intro k hk ih
    have hcm := cntB_mono (fun j => wF s m j == v) hk
    refine G_iload d_X9_leakOfWeight_6 rfl ?_
    refine G_iload_n d_X9_leakOfWeight_8 rfl ?_
    refine G_icmp_ge 53 d_X9_leakOfWeight_9 (by decide) (by omega) (by omega) (fun c9 => ?_) (fun c9 => ?_)
    · omega
    · refine G_aload_n d_X9_leakOfWeight_12 rfl ?_
      refine G_getR (r := 25) (fl_X9_43.r) d_X9_leakOfWeight_13 (wk_0 _) rfl rfl ?_
      refine G_getR (r := 28) fl_X9_282 d_X9_leakOfWeight_16 (wk_25 _) rfl rfl ?_
      refine G_aload_n d_X9_leakOfWeight_19 rfl ?_
      refine G_getR (r := 51) (fl_X9_72.r) d_X9_leakOfWeight_20 (wk_0 _) rfl rfl ?_
      refine G_iload d_X9_leakOfWeight_23 rfl ?_
      refine G_ialdj (k) d_X9_leakOfWeight_25 (wk_51 _) (by omega) (by omega) (by decide) ?_
      have hsc := GL_at hG (k := k) (by omega)
      have hwk := ((hw (by omega)) (oF m k) hsc.2.1).1
      have hwr := pWt_rng hV (oF m k)
      rw [hsc.1]
      refine G_ialdj (oF m k) d_X9_leakOfWeight_26 (wk_28 _) (by omega) (by omega) (by decide) ?_
      rw [hwk, show pWt s (oF m k) = wF s m k from rfl]
      refine G_iload_n d_X9_leakOfWeight_27 rfl ?_
      refine G_icmp_ne 47 d_X9_leakOfWeight_28 (by decide) (by first | omega | (show -2147483648 ≤ pWt s (oF m k) ∧ pWt s (oF m k) < 2147483648; omega)) (by first | omega | (show -2147483648 ≤ pWt s (oF m k) ∧ pWt s (oF m k) < 2147483648; omega)) (fun c28 => ?_) (fun c28 => ?_)
      · refine G_iinc d_X9_leakOfWeight_47 rfl (by decide) rfl ?_
        refine G_goto 6 d_X9_leakOfWeight_50 (by decide) ?_
        rw [cntB_f (f := (fun j => wF s m j == v)) (by simpa using c28)] at ih
        by_cases e : k = kk
        · rw [e] at c28; exact absurd hkv c28
        · exact ih (by omega)
      · refine G_iload d_X9_leakOfWeight_31 rfl ?_
        refine G_if_ne 44 d_X9_leakOfWeight_33 (by decide) (by omega) (fun c33 => ?_) (fun c33 => ?_)
        · refine G_iinc d_X9_leakOfWeight_44 rfl (by decide) rfl ?_
          refine G_iinc d_X9_leakOfWeight_47 rfl (by decide) rfl ?_
          refine G_goto 6 d_X9_leakOfWeight_50 (by decide) ?_
          rw [cntB_t (f := (fun j => wF s m j == v)) (by simpa using c28)] at ih
          by_cases e : k = kk
          · rw [e] at c33; omega
          · have h9 := ih (by omega)
            rw [show (i : Int) - ((cntB (fun j => wF s m j == v) k + 1 : Nat) : Int) = (i : Int) - ((cntB (fun j => wF s m j == v) k : Nat) : Int) + -1 by omega] at h9
            exact h9
        · refine G_aload_n d_X9_leakOfWeight_36 rfl ?_
          refine G_getR (r := 51) (fl_X9_72.r) d_X9_leakOfWeight_37 (wk_0 _) rfl rfl ?_
          refine G_iload d_X9_leakOfWeight_40 rfl ?_
          refine G_ialdj (k) d_X9_leakOfWeight_42 (wk_51 _) (by omega) (by omega) (by decide) ?_
          rw [hsc.1]
          refine G_iret (mc := 0) (ms := 0) (st := []) d_X9_leakOfWeight_43 rfl ?_
          by_cases e : k = kk
          · rw [e]; exact ⟨rfl, rfl⟩
          · have h9 := cntB_mono (fun j => wF s m j == v) (show k + 1 ≤ kk by omega)
            rw [cntB_t (f := (fun j => wF s m j == v)) (by simpa using c28)] at h9
            omega
  refine G_iload_n d_X9_leakOfWeight_0 rfl ?_
  refine G_istore d_X9_leakOfWeight_1 (by decide) rfl ?_
  refine G_iconst d_X9_leakOfWeight_3 ?_
  refine G_istore d_X9_leakOfWeight_4 (by decide) rfl ?_
  have h9 := L 0 (by omega)
  rw [show (i : Int) - ((cntB (fun j => wF s m j == v) 0 : Nat) : Int) = (i : Int) from Int.sub_zero _] at h9
  exact h9
theorem sp_leakByWeight {w : List KD} {m : Nat → Nat → Int} (s : Nat → Int) (hV : VS s) (hB : CB s m) (hG : ∀ q, q < pC s → pLeak s q = true → m 51 (cntB (pLeak s) q) = (q : Int)) (n : Nat) (hn : n = cntB (pLeak s) (pC s)) (hw : 1 ≤ n → WGk s m) (i0 : Nat) (hi0 : i0 < 2147483648) : Sp M_X9_leakByWeight 1 0 0 [rV 0, iV (i0 : Int), iV (n : Int)] (WC ++ w, m) (fun r h => r = some (iV (wrstP s (i0 : Int))) ∧ h = (WC ++ w, m)) := by
  refine Sp.ofG (ls := [rV 0, iV (i0 : Int), iV (n : Int), uV, uV, uV, uV, uV, uV, uV]) (by decide +kernel) rfl (Nat.le_of_ble_eq_true rfl) ?_
  have hC := pC_le hV
  have hN := hV.N
  have hT := hV.T
  have hSc := hV.Sc
  have hcn := cntB_le (pLeak s) (pC s)
  have hW0 : ∀ j, j < n → 0 ≤ (wF s m) j := fun j hj => (pWt_rng hV (oF m j)).1
  have L : ∀ t : Nat, t ≤ n → ∀ (Lm : Int) (u6 u7 u8 u9 : PV), pcat u6 ≠ 2 → pcat u7 ≠ 2 → pcat u8 ≠ 2 → pcat u9 ≠ 2 → (-1 ≤ Lm ∧ Lm ≤ 2147483647) → (gwF (wF s m) Lm n) ≤ i0 → (t ≤ (gwF (wF s m) Lm n) ∨ (gwF (wF s m) Lm n) = n) → G M_X9_leakByWeight 1 0 0 10 [rV 0, iV (i0 : Int), iV (n : Int), iV ((i0 : Int) - ((gwF (wF s m) Lm n) : Nat)), iV Lm, iV (t : Int), u6, u7, u8, u9] [] (WC ++ w, m) (fun r h => r = some (iV (wrstP s (i0 : Int))) ∧ h = (WC ++ w, m)) := by
    refine loop_up n _ ?_
    intro t ht ih Lm u6 u7 u8 u9 hu6 hu7 hu8 hu9 hLr hgi hrd
    have hL1 : -1 ≤ Lm := hLr.1
    have hgn : (gwF (wF s m) Lm n) ≤ n := cntB_le _ n
    have LI : t < n → ∀ k : Nat, k ≤ n → ∀ u9 : PV, pcat u9 ≠ 2 → G M_X9_leakByWeight 1 0 0 25 [rV 0, iV (i0 : Int), iV (n : Int), iV ((i0 : Int) - ((gwF (wF s m) Lm n) : Nat)), iV Lm, iV (t : Int), iV (tpF (wF s m) Lm k), iV (((alF (wF s m) Lm k) : Nat) : Int), iV (k : Int), u9] [] (WC ++ w, m) (fun r h => r = some (iV (wrstP s (i0 : Int))) ∧ h = (WC ++ w, m)) := by
      intro htn
      refine loop_up n _ ?_
      intro k hk ihk u9 hu9
      have htl := tp_lt (W := (wF s m)) (L := Lm) k
      have htr : -1 ≤ (tpF (wF s m) Lm k) ∧ (tpF (wF s m) Lm k) ≤ 100000 := by
        rcases htl with h | ⟨h1, j, h2, h3⟩
        · omega
        · have := pWt_rng hV (oF m j)
          have h4 : (wF s m) j = pWt s (oF m j) := rfl
          omega
      have hac : (alF (wF s m) Lm k) ≤ k := cntB_le _ k
      refine G_iload d_X9_leakByWeight_25 rfl ?_
      refine G_iload_n d_X9_leakByWeight_27 rfl ?_
      refine G_icmp_ge 85 d_X9_leakByWeight_28 (by decide) (by omega) (by omega) (fun c28 => ?_) (fun c28 => ?_)
      · refine G_iload_n d_X9_leakByWeight_85 rfl ?_
        refine G_iload d_X9_leakByWeight_86 rfl ?_
        refine G_icmp_ge 100 d_X9_leakByWeight_88 (by decide) (by omega) (by omega) (fun c88 => ?_) (fun c88 => ?_)
        · refine G_iload_n d_X9_leakByWeight_100 rfl ?_
          refine G_iload d_X9_leakByWeight_101 rfl ?_
          refine G_isub d_X9_leakByWeight_103 ?_
          refine G_istore_n d_X9_leakByWeight_104 (by decide) rfl ?_
          refine G_iload d_X9_leakByWeight_105 rfl ?_
          refine G_istore d_X9_leakByWeight_107 (by decide) rfl ?_
          refine G_iinc d_X9_leakByWeight_109 rfl (by decide) rfl ?_
          refine G_goto 10 d_X9_leakByWeight_112 (by decide) ?_
          have hke : k = n := by omega
          rw [hke]
          have hnx := gw_next (W := (wF s m)) (L := Lm) (n := n) hW0 hL1
          have h9 := ih (by omega) (tpF (wF s m) Lm n) (iV (tpF (wF s m) Lm n)) (iV (((alF (wF s m) Lm n) : Nat) : Int)) (iV (n : Int)) u9 (by show (1 : Nat) ≠ 2; decide) (by show (1 : Nat) ≠ 2; decide) (by show (1 : Nat) ≠ 2; decide) hu9 (by rw [hke] at htr; omega) (by rw [hnx]; rw [hke] at c88; omega) (gw_go hW0 hL1 hrd)
          rw [hnx, show (i0 : Int) - ((((gwF (wF s m) Lm n)) + (alF (wF s m) Lm n) : Nat) : Int) = (i0 : Int) - (((gwF (wF s m) Lm n) : Nat) : Int) - (((alF (wF s m) Lm n) : Nat) : Int) by omega, Int.natCast_add] at h9
          exact h9
        · refine G_aload_n d_X9_leakByWeight_91 rfl ?_
          refine G_iload d_X9_leakByWeight_92 rfl ?_
          refine G_iload_n d_X9_leakByWeight_94 rfl ?_
          refine G_iload_n d_X9_leakByWeight_95 rfl ?_
          have hke : k = n := by omega
          subst hke
          have hnx := gw_next (W := (wF s m)) (L := Lm) (n := k) hW0 hL1
          have htl2 : 0 ≤ (tpF (wF s m) Lm k) := by
            rcases htl with h | ⟨h1, j, h2, h3⟩
            · have : (alF (wF s m) Lm k) = 0 := by
                refine cntB_all0.mpr (fun j hj => ?_)
                have := hW0 j hj
                rw [h]
                simp only [beq_eq_false_iff_ne, ne_eq]
                omega
              omega
            · have := hW0 j h2
              omega
          obtain ⟨kk, hk1, hk2, hk3⟩ := cnt_ex (f := fun j => (wF s m) j == (tpF (wF s m) Lm k)) (k := i0 - (gwF (wF s m) Lm k)) (n := k) (show i0 - (gwF (wF s m) Lm k) < (alF (wF s m) Lm k) by omega)
          have hkv : (wF s m) kk = (tpF (wF s m) Lm k) := by simpa using hk2
          have hkc : kk < cntB (pLeak s) (pC s) := by omega
          have hrk := GL_rnk hG hkc
          rw [show (i0 : Int) - (((gwF (wF s m) Lm k) : Nat) : Int) = ((i0 - (gwF (wF s m) Lm k) : Nat) : Int) by omega]
          refine G_callV3 cl_X9_300 rfl d_X9_leakByWeight_96 (wk_0 _) (Nat.le_of_ble_eq_true rfl) (by decide) (sp_leakOfWeight s hV hB hG k hn hw (tpF (wF s m) Lm k) (by omega) (i0 - (gwF (wF s m) Lm k)) kk hk1 hkv hk3) ?_
          rintro _ _ ⟨rfl, rfl⟩
          have hsk := GL_at hG hkc
          rw [hkv, hk3, ← hn] at hrk
          have hg9 : cntB (fun j => decide ((tpF (wF s m) Lm k) < wF s m j)) k = (gwF (wF s m) Lm k) := cntB_congr (fun j hj => by
            have g1 := fun hl => tp_ge (W := (wF s m)) (L := Lm) k j hj hl
            have g2 : (tpF (wF s m) Lm k) = -1 ∨ (tpF (wF s m) Lm k) < Lm := by rcases htl with h | h; (· exact Or.inl h); (· exact Or.inr h.1)
            exact decide_eq_decide.mpr (by show (tpF (wF s m) Lm k) < (wF s m) j ↔ Lm ≤ (wF s m) j; omega))
          have hwf := wrst_found (s := s) (i := (i0 : Int)) (p := oF m kk) hsk.2.1 hsk.2.2.1 (by omega)
          refine G_iret (mc := 0) (ms := 0) (st := []) d_X9_leakByWeight_99 rfl ?_
          exact ⟨by rw [hwf], rfl⟩
      · refine G_aload_n d_X9_leakByWeight_31 rfl ?_
        refine G_getR (r := 25) (fl_X9_43.r) d_X9_leakByWeight_32 (wk_0 _) rfl rfl ?_
        refine G_getR (r := 28) fl_X9_282 d_X9_leakByWeight_35 (wk_25 _) rfl rfl ?_
        refine G_aload_n d_X9_leakByWeight_38 rfl ?_
        refine G_getR (r := 51) (fl_X9_72.r) d_X9_leakByWeight_39 (wk_0 _) rfl rfl ?_
        refine G_iload d_X9_leakByWeight_42 rfl ?_
        refine G_ialdj (k) d_X9_leakByWeight_44 (wk_51 _) (by omega) (by omega) (by decide) ?_
        have hsc := GL_at hG (k := k) (by omega)
        have hwk := ((hw (by omega)) (oF m k) hsc.2.1).1
        have hwr := pWt_rng hV (oF m k)
        rw [hsc.1]
        refine G_ialdj (oF m k) d_X9_leakByWeight_45 (wk_28 _) (by omega) (by omega) (by decide) ?_
        rw [hwk, show pWt s (oF m k) = wF s m k from rfl]
        have hwr2 : 0 ≤ wF s m k ∧ wF s m k ≤ 59049 := hwr
        refine G_istore d_X9_leakByWeight_46 (by decide) rfl ?_
        refine G_iload d_X9_leakByWeight_48 rfl ?_
        refine G_iload d_X9_leakByWeight_50 rfl ?_
        refine G_icmp_ge 69 d_X9_leakByWeight_52 (by decide) (by omega) (by omega) (fun c52 => ?_) (fun c52 => ?_)
        · refine G_iload d_X9_leakByWeight_69 rfl ?_
          refine G_iload d_X9_leakByWeight_71 rfl ?_
          refine G_icmp_ne 79 d_X9_leakByWeight_73 (by decide) (by omega) (by omega) (fun c73 => ?_) (fun c73 => ?_)
          · refine G_iinc d_X9_leakByWeight_79 rfl (by decide) rfl ?_
            refine G_goto 25 d_X9_leakByWeight_82 (by decide) ?_
            have hold : ¬ (wF s m k < Lm ∧ (tpF (wF s m) Lm k) < wF s m k) := fun h => by omega
            have ho := al_old hold
            have h9 := ihk (by omega) (iV (wF s m k)) (by show (1 : Nat) ≠ 2; decide)
            rw [ho.1, ho.2, if_neg (show ¬ wF s m k = (tpF (wF s m) Lm k) by omega), Nat.add_zero] at h9
            exact h9
          · refine G_iinc d_X9_leakByWeight_76 rfl (by decide) rfl ?_
            refine G_iinc d_X9_leakByWeight_79 rfl (by decide) rfl ?_
            refine G_goto 25 d_X9_leakByWeight_82 (by decide) ?_
            have hold : ¬ (wF s m k < Lm ∧ (tpF (wF s m) Lm k) < wF s m k) := fun h => by omega
            have ho := al_old hold
            have h9 := ihk (by omega) (iV (wF s m k)) (by show (1 : Nat) ≠ 2; decide)
            rw [ho.1, ho.2, if_pos (show wF s m k = (tpF (wF s m) Lm k) by omega)] at h9
            exact h9
        · refine G_iload d_X9_leakByWeight_55 rfl ?_
          refine G_iload d_X9_leakByWeight_57 rfl ?_
          refine G_icmp_le 69 d_X9_leakByWeight_59 (by decide) (by omega) (by omega) (fun c59 => ?_) (fun c59 => ?_)
          · refine G_iload d_X9_leakByWeight_69 rfl ?_
            refine G_iload d_X9_leakByWeight_71 rfl ?_
            refine G_icmp_ne 79 d_X9_leakByWeight_73 (by decide) (by omega) (by omega) (fun c73 => ?_) (fun c73 => ?_)
            · refine G_iinc d_X9_leakByWeight_79 rfl (by decide) rfl ?_
              refine G_goto 25 d_X9_leakByWeight_82 (by decide) ?_
              have hold : ¬ (wF s m k < Lm ∧ (tpF (wF s m) Lm k) < wF s m k) := fun h => by omega
              have ho := al_old hold
              have h9 := ihk (by omega) (iV (wF s m k)) (by show (1 : Nat) ≠ 2; decide)
              rw [ho.1, ho.2, if_neg (show ¬ wF s m k = (tpF (wF s m) Lm k) by omega), Nat.add_zero] at h9
              exact h9
            · refine G_iinc d_X9_leakByWeight_76 rfl (by decide) rfl ?_
              refine G_iinc d_X9_leakByWeight_79 rfl (by decide) rfl ?_
              refine G_goto 25 d_X9_leakByWeight_82 (by decide) ?_
              have hold : ¬ (wF s m k < Lm ∧ (tpF (wF s m) Lm k) < wF s m k) := fun h => by omega
              have ho := al_old hold
              have h9 := ihk (by omega) (iV (wF s m k)) (by show (1 : Nat) ≠ 2; decide)
              rw [ho.1, ho.2, if_pos (show wF s m k = (tpF (wF s m) Lm k) by omega)] at h9
              exact h9
          · refine G_iload d_X9_leakByWeight_62 rfl ?_
            refine G_istore d_X9_leakByWeight_64 (by decide) rfl ?_
            refine G_iconst d_X9_leakByWeight_66 ?_
            refine G_istore d_X9_leakByWeight_67 (by decide) rfl ?_
            refine G_iload d_X9_leakByWeight_69 rfl ?_
            refine G_iload d_X9_leakByWeight_71 rfl ?_
            refine G_icmp_ne 79 d_X9_leakByWeight_73 (by decide) (by omega) (by omega) (fun c73 => ?_) (fun c73 => ?_)
            · refine G_iinc d_X9_leakByWeight_79 rfl (by decide) rfl ?_
              refine G_goto 25 d_X9_leakByWeight_82 (by decide) ?_
              exact absurd rfl c73
            · refine G_iinc d_X9_leakByWeight_76 rfl (by decide) rfl ?_
              refine G_iinc d_X9_leakByWeight_79 rfl (by decide) rfl ?_
              refine G_goto 25 d_X9_leakByWeight_82 (by decide) ?_
              have hn9 := al_new (W := wF s m) (L := Lm) (k := k) ⟨by omega, by omega⟩
              have h9 := ihk (by omega) (iV (wF s m k)) (by show (1 : Nat) ≠ 2; decide)
              rw [hn9.1, hn9.2] at h9
              exact h9
    refine G_iload d_X9_leakByWeight_10 rfl ?_
    refine G_iload_n d_X9_leakByWeight_12 rfl ?_
    refine G_icmp_ge 115 d_X9_leakByWeight_13 (by decide) (by omega) (by omega) (fun c13 => ?_) (fun c13 => ?_)
    · refine G_iconst d_X9_leakByWeight_115 ?_
      refine G_iret (mc := 0) (ms := 0) (st := []) d_X9_leakByWeight_116 rfl ?_
      exact ⟨by rw [wrst_none (by omega)], rfl⟩
    · refine G_iconst d_X9_leakByWeight_16 ?_
      refine G_istore d_X9_leakByWeight_17 (by decide) rfl ?_
      refine G_iconst d_X9_leakByWeight_19 ?_
      refine G_istore d_X9_leakByWeight_20 (by decide) rfl ?_
      refine G_iconst d_X9_leakByWeight_22 ?_
      refine G_istore d_X9_leakByWeight_23 (by decide) rfl ?_
      exact LI (by omega) 0 (by omega) u9 hu9
  refine G_iload_n d_X9_leakByWeight_0 rfl ?_
  refine G_istore_n d_X9_leakByWeight_1 (by decide) rfl ?_
  refine G_ldcw d_X9_leakByWeight_2 co_X9_299 ?_
  refine G_istore d_X9_leakByWeight_5 (by decide) rfl ?_
  refine G_iconst d_X9_leakByWeight_7 ?_
  refine G_istore d_X9_leakByWeight_8 (by decide) rfl ?_
  have h0 : gwF (wF s m) 2147483647 n = 0 := cntB_all0.mpr (fun j hj => by
    have h9 : wF s m j ≤ 59049 := (pWt_rng hV (oF m j)).2
    exact decide_eq_false (by omega))
  have h9 := L 0 (by omega) 2147483647 uV uV uV uV (by decide) (by decide) (by decide) (by decide) (by decide) (by omega) (Or.inl (by omega))
  rw [h0] at h9
  rw [show (i0 : Int) - ((0 : Nat) : Int) = (i0 : Int) from Int.sub_zero _] at h9
  exact h9
