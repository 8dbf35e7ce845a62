/-! what the searches keep -/
def cmF (s : Nat → Int) (k : Nat) : Nat → Nat
  | 0 => 0
  | p + 1 => if pMk s p = 1 then Nat.gcd (cmF s k p) (gapD s p k).natAbs else cmF s k p
def lsF9 (s : Nat → Int) (p : Nat) : Nat → Int
  | 0 => -1
  | k + 1 => if gapD s p k ≠ 0 then (k : Int) else lsF9 s p k
def otl (s : Nat → Int) (n : Nat) : List Nat := (List.range n).filter (pOther s)
def LM (l : List Nat) (m : Nat → Nat → Int) : Prop := ∀ (i q : Nat), l[i]? = some q → m 55 i = (q : Int)
def WN (s : Nat → Int) (m : Nat → Nat → Int) : Prop := m 52 2 = (pN s : Int) ∧ m 52 1 = b1 (posb s) ∧ (pChief s ≠ -1 → (∀ k, k < pN s → m 53 k = pCh s (pChief s).toNat k) ∧ (∀ k, k < pN s → m 54 k = (cmF s k (pC s) : Nat)) ∧ (∀ p, p < pC s → m 56 p = lsF9 s p (pN s)) ∧ m 52 6 = ((otl s (pC s)).length : Nat) ∧ ∃ l : List Nat, l.Perm (otl s (pC s)) ∧ LM l m)
def FN (s : Nat → Int) (m : Nat → Nat → Int) : Prop := m 57 1 = (resF s).1 ∧ ((resF s).1 ≠ -1 → ∀ k, k < pN s → m 58 k = ((resF s).2 k : Int))
def GN (s : Nat → Int) (m : Nat → Nat → Int) : Prop := m 60 1 = lC (resC s) ∧ (lC (resC s) ≠ -1 → ∀ k, k < pN s → m 61 k = (nCg (resC s) k : Int))
def WA (s : Nat → Int) (m : Nat → Nat → Int) : Prop := m 52 0 = 0 ∨ (m 52 0 = 1 ∧ WN s m ∧ m 25 1 = 1)
def FW (s : Nat → Int) (m : Nat → Nat → Int) : Prop := m 57 0 = 0 ∨ (m 57 0 = 1 ∧ FN s m)
def CG (s : Nat → Int) (m : Nat → Nat → Int) : Prop := m 60 0 = 0 ∨ (m 60 0 = 1 ∧ GN s m)
def SE (s : Nat → Int) (m : Nat → Nat → Int) : Prop := WA s m ∧ FW s m ∧ CG s m
theorem SE.keep {s : Nat → Int} {m m2 : Nat → Nat → Int} (h : SE s m) (k : ∀ a, 52 ≤ a → a ≤ 63 → m2 a = m a) (k25 : m 25 1 = 1 → m2 25 1 = 1) : SE s m2 := by
  have hx : m2 52 0 = 0 ∨ m2 25 1 = 1 := by
    rw [k 52 (by decide) (by decide)]
    rcases h.1 with h | h
    · exact Or.inl h
    · exact Or.inr (k25 h.2.2)
  refine ⟨?_, ?_⟩
  · rcases h.1 with h1 | ⟨h1, h2, -⟩
    · exact Or.inl (by rw [k 52 (by decide) (by decide)]; exact h1)
    · refine Or.inr ⟨by rw [k 52 (by decide) (by decide)]; exact h1, ?_, by
        rcases hx with hx | hx
        · rw [k 52 (by decide) (by decide)] at hx; omega
        · exact hx⟩
      unfold WN LM at *
      rw [k 52 (by decide) (by decide), k 53 (by decide) (by decide), k 54 (by decide) (by decide), k 55 (by decide) (by decide), k 56 (by decide) (by decide)]
      exact h2
  have h := h.2
  unfold FW FN CG GN at *
  rw [k 57 (by decide) (by decide), k 58 (by decide) (by decide), k 60 (by decide) (by decide), k 61 (by decide) (by decide)]
  exact h
/-- all that the class keeps -/
def CI (s : Nat → Int) (m : Nat → Nat → Int) : Prop := CB s m ∧ ST s m ∧ SE s m
/-- what asking states changes at most -/
def FPs (m m2 : Nat → Nat → Int) : Prop := (∀ a, a ≠ 0 → a ≠ 25 → a ≠ 28 → a ≠ 29 → (a < 30 ∨ 50 < a) → m2 a = m a) ∧ (∀ j, j ≠ 1 → m2 25 j = m 25 j) ∧ (∀ j, j ≠ 11 → m2 0 j = m 0 j) ∧ (m 25 1 = 1 → m2 25 1 = 1)
theorem FPs.refl (m : Nat → Nat → Int) : FPs m m := ⟨fun _ _ _ _ _ _ => rfl, fun _ _ => rfl, fun _ _ => rfl, fun h => h⟩
theorem FPs.trans {m m1 m2 : Nat → Nat → Int} (h : FPs m m1) (k : FPs m1 m2) : FPs m m2 := ⟨fun a h0 h1 h2 h3 h4 => (k.1 a h0 h1 h2 h3 h4).trans (h.1 a h0 h1 h2 h3 h4), fun j h1 => (k.2.1 j h1).trans (h.2.1 j h1), fun j h1 => (k.2.2.1 j h1).trans (h.2.2.1 j h1), fun h1 => k.2.2.2 (h.2.2.2 h1)⟩
theorem FBs.p {m m2 : Nat → Nat → Int} (h : FBs m m2) : FPs m m2 := ⟨fun a h0 h1 h2 h3 h4 => h.1 a h1 h2 h3 (by omega), h.2.1, fun j _ => by rw [h.1 0 (by decide) (by decide) (by decide) (by decide)], h.2.2⟩
theorem SE.fp {s : Nat → Int} {m m2 : Nat → Nat → Int} (h : SE s m) (k : FPs m m2) : SE s m2 := h.keep (fun a h1 h2 => k.1 a (by omega) (by omega) (by omega) (by omega) (by omega)) k.2.2.2
theorem ST.fb {s : Nat → Int} {m m2 : Nat → Nat → Int} (h : ST s m) (k : FBs m m2) : ST s m2 := h.keep (by rw [k.1 0 (by decide) (by decide) (by decide) (by decide)]) (k.1 50 (by decide) (by decide) (by decide) (by decide))
theorem CI.fb {s : Nat → Int} {m m2 : Nat → Nat → Int} (h : CI s m) (hB : CB s m2) (k : FBs m m2) : CI s m2 := ⟨hB, h.2.1.fb k, h.2.2.fp k.p⟩
/-- states put down: only cell 50 and field 11 of cell 0 differ -/
theorem CB.st {s : Nat → Int} {m m2 : Nat → Nat → Int} (h : CB s m) (hN : pN s ≤ 5) (k : ∀ a, a ≠ 0 → a ≠ 50 → m2 a = m a) (k0 : ∀ j, j ≠ 11 → m2 0 j = m 0 j) : CB s m2 :=
  ⟨h.1.keep (fun a _ _ => k a (by omega) (by omega)), h.2.1.keep (fun a _ _ => k a (by omega) (by omega)), h.2.2.1.keep2 (by rw [k 25 (by decide) (by decide)]) (k 26 (by decide) (by decide)) (k 27 (by decide) (by decide)), (k0 7 (by decide)).trans h.2.2.2.1, h.2.2.2.2.1.keep (by rw [k 25 (by decide) (by decide)]) (k 28 (by decide) (by decide)) (k 29 (by decide) (by decide)), h.2.2.2.2.2.1.keep hN (fun a _ _ => k a (by omega) (by omega)), h.2.2.2.2.2.2.keep (k 46 (by decide) (by decide)) (k 47 (by decide) (by decide)) (k 48 (by decide) (by decide))⟩
theorem ST.rng {s : Nat → Int} {m : Nat → Nat → Int} (h : ST s m) : 0 ≤ m 0 11 ∧ m 0 11 ≤ 1 := by rcases h with h | h <;> omega
theorem sp_CstateOf {w : List KD} {m : Nat → Nat → Int} (s : Nat → Int) (hV : VS s) (hI : CI s m) (p : Nat) (hp : p < pC s) : Sp M_X9_stateOf 4 0 0 [rV 0, iV (p : Int)] (WC ++ w, m) (fun r h => r = some (iV (pSt s p)) ∧ ∃ m2, h = (WC ++ w, m2) ∧ CI s m2 ∧ FPs m m2) := by
  refine Sp.ofG (ls := [rV 0, iV (p : Int)]) (by decide +kernel) rfl (Nat.le_of_ble_eq_true rfl) ?_
  have hC := pC_le hV
  have hN := hV.N
  have hT := hV.T
  have hSc := hV.Sc
  have K20 : ∀ m1, CB s m1 → m1 0 11 = 1 → (∀ p, p < pC s → m1 50 p = 3 ∨ m1 50 p = pSt s p) → SE s m1 → FPs m m1 → G M_X9_stateOf 4 0 0 20 [rV 0, iV (p : Int)] [] (WC ++ w, m1) (fun r h => r = some (iV (pSt s p)) ∧ ∃ m2, h = (WC ++ w, m2) ∧ CI s m2 ∧ FPs m m2) := by
    intro m1 hB1 h11 h50 hE1 hF1
    have hpr := pSt_rng s p
    have h5p := h50 p hp
    refine G_aload_n d_X9_stateOf_20 rfl ?_
    refine G_getR (r := 50) (fl_X9_65.r) d_X9_stateOf_21 (wk_0 _) rfl rfl ?_
    refine G_iload_n d_X9_stateOf_24 rfl ?_
    refine G_baldj (p) d_X9_stateOf_25 (wk_50 _) (by omega) (by omega) (by decide) ?_
    have h5r : 0 ≤ m1 50 p ∧ m1 50 p ≤ 3 := by omega
    refine G_iconst d_X9_stateOf_26 ?_
    refine G_icmp_ne 74 d_X9_stateOf_27 (by decide) (by omega) (by omega) (fun c27 => ?_) (fun c27 => ?_)
    · refine G_aload_n d_X9_stateOf_74 rfl ?_
      refine G_getR (r := 50) (fl_X9_65.r) d_X9_stateOf_75 (wk_0 _) rfl rfl ?_
      refine G_iload_n d_X9_stateOf_78 rfl ?_
      refine G_baldj (p) d_X9_stateOf_79 (wk_50 _) (by omega) (by omega) (by decide) ?_
      refine G_iret (mc := 0) (ms := 0) (st := []) d_X9_stateOf_80 rfl ?_
      have hv : m1 50 p = pSt s p := by omega
      exact ⟨by rw [hv], m1, rfl, ⟨hB1, Or.inr ⟨h11, h50⟩, hE1⟩, hF1⟩
    · refine G_aload_n d_X9_stateOf_30 rfl ?_
      refine G_callV0 cl_X9_247 rfl d_X9_stateOf_31 (wk_0 _) (Nat.le_of_ble_eq_true rfl) (by decide) (sp_CbuildScans s hV hB1) ?_
      rintro _ _ ⟨rfl, m2, rfl, hB2, hF2, h302, hS2⟩
      refine G_aload_n d_X9_stateOf_34 rfl ?_
      refine G_getR (r := 50) (fl_X9_65.r) d_X9_stateOf_35 (wk_0 _) rfl rfl ?_
      refine G_iload_n d_X9_stateOf_38 rfl ?_
      refine G_aload_n d_X9_stateOf_39 rfl ?_
      refine G_getR (r := 46) (fl_X9_61.r) d_X9_stateOf_40 (wk_0 _) rfl rfl ?_
      refine G_aload_n d_X9_stateOf_43 rfl ?_
      refine G_getR (r := 30) (fl_X9_54.r) d_X9_stateOf_44 (wk_0 _) rfl rfl ?_
      refine G_aload_n d_X9_stateOf_47 rfl ?_
      refine G_getR (r := 25) (fl_X9_43.r) d_X9_stateOf_48 (wk_0 _) rfl rfl ?_
      refine G_iload_n d_X9_stateOf_51 rfl ?_
      refine G_aload_n d_X9_stateOf_52 rfl ?_
      refine G_getR (r := 30) (fl_X9_54.r) d_X9_stateOf_53 (wk_0 _) rfl rfl ?_
      refine G_getIe (v := (pSc s : Int)) (fl_X9_258.r) d_X9_stateOf_56 (wk_30 _) rfl (hS2.1.1.1) ?_
      refine G_callV3 cl_X9_259 rfl d_X9_stateOf_59 (wk_30 _) (Nat.le_of_ble_eq_true rfl) (by decide) (sp_tally s hV hB2.2.2.1 hS2 p (pSc s) hp (Nat.le_refl _)) ?_
      rintro _ _ ⟨rfl, m3, rfl, h3, hc3, hf3, hg3⟩
      obtain ⟨hB3, hF3, h303⟩ := hB2.tally h302 h3 hf3 hg3
      refine G_aload_n d_X9_stateOf_62 rfl ?_
      refine G_getR (r := 6) (fl_X9_19.r) d_X9_stateOf_63 (wk_0 _) rfl rfl ?_
      refine G_getIe (v := (pT s : Int)) (fl_X9_123.r) d_X9_stateOf_66 (wk_6 _) rfl (hB3.2.1.1.1) ?_
      refine G_callV2 cl_X9_347 rfl d_X9_stateOf_69 (wk_46 _) (Nat.le_of_ble_eq_true rfl) (by decide) (sp_stateOf (pT s) (pCnt s p (pSc s)) (by omega) (by omega) hB3.2.2.2.2.2.2 (fun x hx => by rw [hc3 x (by omega)]; have := pCnt_rng s p (pSc s) x; omega)) ?_
      rintro _ _ ⟨rfl, m4, rfl, hU4, hF4⟩
      obtain ⟨hB4, hF4b⟩ := hB3.summed (by omega) hU4 hF4
      rw [show stB (pT s) (pCnt s p (pSc s)) = pSt s p from rfl]
      refine G_i2bS d_X9_stateOf_72 (by omega) ?_
      refine G_bastj (p) d_X9_stateOf_73 (wk_50 _) (by omega) (by omega) (by decide) (by omega) ?_
      refine G_aload_n d_X9_stateOf_74 rfl ?_
      refine G_getR (r := 50) (fl_X9_65.r) d_X9_stateOf_75 (wk_0 _) rfl rfl ?_
      refine G_iload_n d_X9_stateOf_78 rfl ?_
      refine G_baldj (p) d_X9_stateOf_79 (wk_50 _) (by omega) (by omega) (by decide) ?_
      refine G_iret (mc := 0) (ms := 0) (st := []) d_X9_stateOf_80 rfl ?_
      have hFa : FBs m1 m4 := (hF2.trans hF3).trans hF4b
      have e50 : m4 50 = m1 50 := hFa.1 50 (by decide) (by decide) (by decide) (by decide)
      have e0 : m4 0 = m1 0 := hFa.1 0 (by decide) (by decide) (by decide) (by decide)
      have hFz : FPs m4 (upm m4 50 p (pSt s p)) := ⟨fun a h0 h1 h2 h3 h4 => upm_off _ _ (by omega), fun j hj => by rw [upm_off _ _ (by decide)], fun j hj => by rw [upm_off _ _ (by decide)], fun h => by rw [upm_off _ _ (by decide)]; exact h⟩
      refine ⟨by rw [upm_same], _, rfl, ⟨hB4.st (by omega) (fun a h0 h1 => upm_off _ _ h1) (fun j _ => by rw [upm_off _ _ (by decide)]), Or.inr ⟨by rw [upm_off _ _ (by decide), e0]; exact h11, fun q hq => ?_⟩, (hE1.fp hFa.p).fp hFz⟩, (hF1.trans hFa.p).trans hFz⟩
      by_cases e : q = p
      · rw [e, upm_same]; exact Or.inr rfl
      · rw [upm_ne _ _ (fun _ => e), e50]; exact h50 q hq
  have hs := hI.2.1.rng
  refine G_aload_n d_X9_stateOf_0 rfl ?_
  refine G_getIe (fl_X9_69.r) d_X9_stateOf_1 (wk_0 _) rfl (show _ = m 0 11 from rfl) ?_
  refine G_if_ne 20 d_X9_stateOf_4 (by decide) (by omega) (fun c4 => ?_) (fun c4 => ?_)
  · rcases hI.2.1 with h | h
    · omega
    · exact K20 m hI.1 h.1 h.2 hI.2.2 (FPs.refl m)
  · refine G_aload_n d_X9_stateOf_7 rfl ?_
    refine G_getR (r := 50) (fl_X9_65.r) d_X9_stateOf_8 (wk_0 _) rfl rfl ?_
    refine G_iconst d_X9_stateOf_11 ?_
    refine G_callS2 cl_X9_405 d_X9_stateOf_12 (Nat.le_of_ble_eq_true rfl) (by decide) (sp_fillB (wk_50 _) (by decide) (by decide)) ?_
    rintro _ _ ⟨rfl, rfl⟩
    refine G_aload_n d_X9_stateOf_15 rfl ?_
    refine G_iconst d_X9_stateOf_16 ?_
    refine G_putZ fl_X9_69 d_X9_stateOf_17 (wk_0 _) rfl (by omega) ?_
    have hFz : FPs m (upm (flm m 50 0 2401 3) 0 11 1) := ⟨fun a h0 h1 h2 h3 h4 => by rw [upm_off _ _ h0, flm_off _ _ _ _ (by omega)], fun j hj => by rw [upm_off _ _ (by decide), flm_off _ _ _ _ (by decide)], fun j hj => by rw [upm_ne _ _ (fun _ => hj), flm_off _ _ _ _ (by decide)], fun h => by rw [upm_off _ _ (by decide), flm_off _ _ _ _ (by decide)]; exact h⟩
    exact K20 _ (hI.1.st (by omega) (fun a h0 h1 => by rw [upm_off _ _ h0, flm_off _ _ _ _ h1]) (fun j hj => by rw [upm_ne _ _ (fun _ => hj), flm_off _ _ _ _ (by decide)])) (upm_same _ _ _ _) (fun q hq => Or.inl (by rw [upm_off _ _ (by decide), flm_in _ _ (by omega) (by omega)])) (hI.2.2.fp hFz) hFz
def grp (s : Nat → Int) (g p : Nat) : Bool := if g = 0 then pLeak s p else if g = 1 then pLost s p else if g = 2 then pKept s p else pSt s p != 0
theorem sp_CisIn0 {w : List KD} {m : Nat → Nat → Int} (s : Nat → Int) (hV : VS s) (hI : CI s m) (p : Nat) (hp : p < pC s) : Sp M_X9_isIn 5 0 0 [rV 0, iV 0, iV (p : Int)] (WC ++ w, m) (fun r h => r = some (iV (if grp s 0 p = true then 1 else 0)) ∧ ∃ m2, h = (WC ++ w, m2) ∧ CI s m2 ∧ FPs m m2) := by
  refine Sp.ofG (ls := [rV 0, iV 0, iV (p : Int), uV]) (by decide +kernel) rfl (Nat.le_of_ble_eq_true rfl) ?_
  have hC := pC_le hV
  have hN := hV.N
  have hT := hV.T
  have hSc := hV.Sc
  refine G_aload_n d_X9_isIn_0 rfl ?_
  refine G_getR (r := 1) (fl_X9_12.r) d_X9_isIn_1 (wk_0 _) rfl rfl ?_
  refine G_getR (r := 5) fl_X9_178 d_X9_isIn_4 (wk_1 _) rfl rfl ?_
  refine G_iload_n d_X9_isIn_7 rfl ?_
  refine G_baldj (p) d_X9_isIn_8 (wk_5 _) (by omega) (by omega) (by decide) ?_
  rw [hI.1.1.2.2.2.2.2 p (by omega), show s (227 + p) = pMk s p from rfl]
  have hMk := hV.Mk p (by omega)
  have hpr := pSt_rng s p
  refine G_istore_n d_X9_isIn_9 (by decide) rfl ?_
  refine G_iload_n d_X9_isIn_10 rfl ?_
  refine G_tin 36 d_X9_isIn_11 (by omega) (by omega) (by omega) (by first | rfl | (simp)) (by decide) ?_
  refine G_iload_n d_X9_isIn_36 rfl ?_
  refine G_if_ne 60 d_X9_isIn_37 (by decide) (by omega) (fun c37 => ?_) (fun c37 => ?_)
  · refine G_iconst d_X9_isIn_60 ?_
    refine G_zret (mc := 0) (ms := 0) (st := []) d_X9_isIn_61 rfl (by omega) ?_
    exact ⟨by rw [if_neg (by unfold grp pLeak pLost pKept pOther pLost; simp [c37])], m, rfl, hI, FPs.refl m⟩
  · refine G_aload_n d_X9_isIn_40 rfl ?_
    refine G_iload_n d_X9_isIn_41 rfl ?_
    refine G_callV1 cl_X9_283 rfl d_X9_isIn_42 (wk_0 _) (Nat.le_of_ble_eq_true rfl) (by decide) (sp_CisGone s hV hI.1 p hp) ?_
    rintro _ _ ⟨rfl, m2, rfl, h2, hF2, -⟩
    have hI2 := hI.fb h2 hF2
    by_cases hg : pGone s p = true
    · rw [if_pos hg]
      refine G_if_ne 60 d_X9_isIn_45 (by decide) (by decide) (fun _ => ?_) (fun hd => absurd hd (by decide))
      refine G_iconst d_X9_isIn_60 ?_
      refine G_zret (mc := 0) (ms := 0) (st := []) d_X9_isIn_61 rfl (by omega) ?_
      exact ⟨by rw [if_neg (by unfold grp pLeak pLost pKept pOther pLost; simp [hg])], m2, rfl, hI2, hF2.p⟩
    · rw [if_neg hg]
      refine G_if_ne 60 d_X9_isIn_45 (by decide) (by decide) (fun hd => absurd hd (by decide)) (fun _ => ?_)
      refine G_aload_n d_X9_isIn_48 rfl ?_
      refine G_iload_n d_X9_isIn_49 rfl ?_
      refine G_callV1 cl_X9_263 rfl d_X9_isIn_50 (wk_0 _) (Nat.le_of_ble_eq_true rfl) (by decide) (sp_CstateOf s hV hI2 p hp) ?_
      rintro _ _ ⟨rfl, m3, rfl, h3, hF3⟩
      refine G_if_eq 60 d_X9_isIn_53 (by decide) (by omega) (fun c53 => ?_) (fun c53 => ?_)
      · refine G_iconst d_X9_isIn_60 ?_
        refine G_zret (mc := 0) (ms := 0) (st := []) d_X9_isIn_61 rfl (by omega) ?_
        exact ⟨by rw [if_neg (by unfold grp pLeak pLost pKept pOther pLost; simp [c53])], m3, rfl, h3, (hF2.p.trans hF3)⟩
      · refine G_iconst d_X9_isIn_56 ?_
        refine G_goto 61 d_X9_isIn_57 (by decide) ?_
        refine G_zret (mc := 0) (ms := 0) (st := []) d_X9_isIn_61 rfl (by omega) ?_
        exact ⟨by rw [if_pos (by unfold grp pLeak pLost pKept pOther pLost; simp [c37, hg, c53])], m3, rfl, h3, (hF2.p.trans hF3)⟩
theorem sp_CisIn1 {w : List KD} {m : Nat → Nat → Int} (s : Nat → Int) (hV : VS s) (hI : CI s m) (p : Nat) (hp : p < pC s) : Sp M_X9_isIn 5 0 0 [rV 0, iV 1, iV (p : Int)] (WC ++ w, m) (fun r h => r = some (iV (if grp s 1 p = true then 1 else 0)) ∧ ∃ m2, h = (WC ++ w, m2) ∧ CI s m2 ∧ FPs m m2) := by
  refine Sp.ofG (ls := [rV 0, iV 1, iV (p : Int), uV]) (by decide +kernel) rfl (Nat.le_of_ble_eq_true rfl) ?_
  have hC := pC_le hV
  have hN := hV.N
  have hT := hV.T
  have hSc := hV.Sc
  refine G_aload_n d_X9_isIn_0 rfl ?_
  refine G_getR (r := 1) (fl_X9_12.r) d_X9_isIn_1 (wk_0 _) rfl rfl ?_
  refine G_getR (r := 5) fl_X9_178 d_X9_isIn_4 (wk_1 _) rfl rfl ?_
  refine G_iload_n d_X9_isIn_7 rfl ?_
  refine G_baldj (p) d_X9_isIn_8 (wk_5 _) (by omega) (by omega) (by decide) ?_
  rw [hI.1.1.2.2.2.2.2 p (by omega), show s (227 + p) = pMk s p from rfl]
  have hMk := hV.Mk p (by omega)
  have hpr := pSt_rng s p
  refine G_istore_n d_X9_isIn_9 (by decide) rfl ?_
  refine G_iload_n d_X9_isIn_10 rfl ?_
  refine G_tin 62 d_X9_isIn_11 (by omega) (by omega) (by omega) (by first | rfl | (simp)) (by decide) ?_
  refine G_iload_n d_X9_isIn_62 rfl ?_
  refine G_iconst d_X9_isIn_63 ?_
  refine G_icmp_ne 87 d_X9_isIn_64 (by decide) (by omega) (by omega) (fun c64 => ?_) (fun c64 => ?_)
  · refine G_iconst d_X9_isIn_87 ?_
    refine G_zret (mc := 0) (ms := 0) (st := []) d_X9_isIn_88 rfl (by omega) ?_
    exact ⟨by rw [if_neg (by unfold grp pLeak pLost pKept pOther pLost; simp [c64])], m, rfl, hI, FPs.refl m⟩
  · refine G_aload_n d_X9_isIn_67 rfl ?_
    refine G_iload_n d_X9_isIn_68 rfl ?_
    refine G_callV1 cl_X9_283 rfl d_X9_isIn_69 (wk_0 _) (Nat.le_of_ble_eq_true rfl) (by decide) (sp_CisGone s hV hI.1 p hp) ?_
    rintro _ _ ⟨rfl, m2, rfl, h2, hF2, -⟩
    have hI2 := hI.fb h2 hF2
    by_cases hg : pGone s p = true
    · rw [if_pos hg]
      refine G_if_ne 83 d_X9_isIn_72 (by decide) (by decide) (fun _ => ?_) (fun hd => absurd hd (by decide))
      refine G_iconst d_X9_isIn_83 ?_
      refine G_goto 88 d_X9_isIn_84 (by decide) ?_
      refine G_zret (mc := 0) (ms := 0) (st := []) d_X9_isIn_88 rfl (by omega) ?_
      exact ⟨by rw [if_pos (by unfold grp pLeak pLost pKept pOther pLost; simp [hg, c64])], m2, rfl, hI2, hF2.p⟩
    · rw [if_neg hg]
      refine G_if_ne 83 d_X9_isIn_72 (by decide) (by decide) (fun hd => absurd hd (by decide)) (fun _ => ?_)
      refine G_aload_n d_X9_isIn_75 rfl ?_
      refine G_iload_n d_X9_isIn_76 rfl ?_
      refine G_callV1 cl_X9_263 rfl d_X9_isIn_77 (wk_0 _) (Nat.le_of_ble_eq_true rfl) (by decide) (sp_CstateOf s hV hI2 p hp) ?_
      rintro _ _ ⟨rfl, m3, rfl, h3, hF3⟩
      refine G_if_ne 87 d_X9_isIn_80 (by decide) (by omega) (fun c80 => ?_) (fun c80 => ?_)
      · refine G_iconst d_X9_isIn_87 ?_
        refine G_zret (mc := 0) (ms := 0) (st := []) d_X9_isIn_88 rfl (by omega) ?_
        exact ⟨by rw [if_neg (by unfold grp pLeak pLost pKept pOther pLost; simp [hg, c80])], m3, rfl, h3, (hF2.p.trans hF3)⟩
      · refine G_iconst d_X9_isIn_83 ?_
        refine G_goto 88 d_X9_isIn_84 (by decide) ?_
        refine G_zret (mc := 0) (ms := 0) (st := []) d_X9_isIn_88 rfl (by omega) ?_
        exact ⟨by rw [if_pos (by unfold grp pLeak pLost pKept pOther pLost; simp [c64, c80])], m3, rfl, h3, (hF2.p.trans hF3)⟩
theorem sp_CisIn2 {w : List KD} {m : Nat → Nat → Int} (s : Nat → Int) (hV : VS s) (hI : CI s m) (p : Nat) (hp : p < pC s) : Sp M_X9_isIn 5 0 0 [rV 0, iV 2, iV (p : Int)] (WC ++ w, m) (fun r h => r = some (iV (if grp s 2 p = true then 1 else 0)) ∧ ∃ m2, h = (WC ++ w, m2) ∧ CI s m2 ∧ FPs m m2) := by
  refine Sp.ofG (ls := [rV 0, iV 2, iV (p : Int), uV]) (by decide +kernel) rfl (Nat.le_of_ble_eq_true rfl) ?_
  have hC := pC_le hV
  have hN := hV.N
  have hT := hV.T
  have hSc := hV.Sc
  refine G_aload_n d_X9_isIn_0 rfl ?_
  refine G_getR (r := 1) (fl_X9_12.r) d_X9_isIn_1 (wk_0 _) rfl rfl ?_
  refine G_getR (r := 5) fl_X9_178 d_X9_isIn_4 (wk_1 _) rfl rfl ?_
  refine G_iload_n d_X9_isIn_7 rfl ?_
  refine G_baldj (p) d_X9_isIn_8 (wk_5 _) (by omega) (by omega) (by decide) ?_
  rw [hI.1.1.2.2.2.2.2 p (by omega), show s (227 + p) = pMk s p from rfl]
  have hMk := hV.Mk p (by omega)
  have hpr := pSt_rng s p
  refine G_istore_n d_X9_isIn_9 (by decide) rfl ?_
  refine G_iload_n d_X9_isIn_10 rfl ?_
  refine G_tin 89 d_X9_isIn_11 (by omega) (by omega) (by omega) (by first | rfl | (simp)) (by decide) ?_
  refine G_iload_n d_X9_isIn_89 rfl ?_
  refine G_iconst d_X9_isIn_90 ?_
  refine G_icmp_ne 114 d_X9_isIn_91 (by decide) (by omega) (by omega) (fun c91 => ?_) (fun c91 => ?_)
  · refine G_iconst d_X9_isIn_114 ?_
    refine G_zret (mc := 0) (ms := 0) (st := []) d_X9_isIn_115 rfl (by omega) ?_
    exact ⟨by rw [if_neg (by unfold grp pLeak pLost pKept pOther pLost; simp [c91])], m, rfl, hI, FPs.refl m⟩
  · refine G_aload_n d_X9_isIn_94 rfl ?_
    refine G_iload_n d_X9_isIn_95 rfl ?_
    refine G_callV1 cl_X9_283 rfl d_X9_isIn_96 (wk_0 _) (Nat.le_of_ble_eq_true rfl) (by decide) (sp_CisGone s hV hI.1 p hp) ?_
    rintro _ _ ⟨rfl, m2, rfl, h2, hF2, -⟩
    have hI2 := hI.fb h2 hF2
    by_cases hg : pGone s p = true
    · rw [if_pos hg]
      refine G_if_ne 114 d_X9_isIn_99 (by decide) (by decide) (fun _ => ?_) (fun hd => absurd hd (by decide))
      refine G_iconst d_X9_isIn_114 ?_
      refine G_zret (mc := 0) (ms := 0) (st := []) d_X9_isIn_115 rfl (by omega) ?_
      exact ⟨by rw [if_neg (by unfold grp pLeak pLost pKept pOther pLost; simp [hg])], m2, rfl, hI2, hF2.p⟩
    · rw [if_neg hg]
      refine G_if_ne 114 d_X9_isIn_99 (by decide) (by decide) (fun hd => absurd hd (by decide)) (fun _ => ?_)
      refine G_aload_n d_X9_isIn_102 rfl ?_
      refine G_iload_n d_X9_isIn_103 rfl ?_
      refine G_callV1 cl_X9_263 rfl d_X9_isIn_104 (wk_0 _) (Nat.le_of_ble_eq_true rfl) (by decide) (sp_CstateOf s hV hI2 p hp) ?_
      rintro _ _ ⟨rfl, m3, rfl, h3, hF3⟩
      refine G_if_eq 114 d_X9_isIn_107 (by decide) (by omega) (fun c107 => ?_) (fun c107 => ?_)
      · refine G_iconst d_X9_isIn_114 ?_
        refine G_zret (mc := 0) (ms := 0) (st := []) d_X9_isIn_115 rfl (by omega) ?_
        exact ⟨by rw [if_neg (by unfold grp pLeak pLost pKept pOther pLost; simp [c107])], m3, rfl, h3, (hF2.p.trans hF3)⟩
      · refine G_iconst d_X9_isIn_110 ?_
        refine G_goto 115 d_X9_isIn_111 (by decide) ?_
        refine G_zret (mc := 0) (ms := 0) (st := []) d_X9_isIn_115 rfl (by omega) ?_
        exact ⟨by rw [if_pos (by unfold grp pLeak pLost pKept pOther pLost; simp [c91, hg, c107])], m3, rfl, h3, (hF2.p.trans hF3)⟩
theorem sp_CisIn3 {w : List KD} {m : Nat → Nat → Int} (s : Nat → Int) (hV : VS s) (hI : CI s m) (p : Nat) (hp : p < pC s) : Sp M_X9_isIn 5 0 0 [rV 0, iV 3, iV (p : Int)] (WC ++ w, m) (fun r h => r = some (iV (if grp s 3 p = true then 1 else 0)) ∧ ∃ m2, h = (WC ++ w, m2) ∧ CI s m2 ∧ FPs m m2) := by
  refine Sp.ofG (ls := [rV 0, iV 3, iV (p : Int), uV]) (by decide +kernel) rfl (Nat.le_of_ble_eq_true rfl) ?_
  have hC := pC_le hV
  have hN := hV.N
  have hT := hV.T
  have hSc := hV.Sc
  refine G_aload_n d_X9_isIn_0 rfl ?_
  refine G_getR (r := 1) (fl_X9_12.r) d_X9_isIn_1 (wk_0 _) rfl rfl ?_
  refine G_getR (r := 5) fl_X9_178 d_X9_isIn_4 (wk_1 _) rfl rfl ?_
  refine G_iload_n d_X9_isIn_7 rfl ?_
  refine G_baldj (p) d_X9_isIn_8 (wk_5 _) (by omega) (by omega) (by decide) ?_
  rw [hI.1.1.2.2.2.2.2 p (by omega), show s (227 + p) = pMk s p from rfl]
  have hMk := hV.Mk p (by omega)
  have hpr := pSt_rng s p
  refine G_istore_n d_X9_isIn_9 (by decide) rfl ?_
  refine G_iload_n d_X9_isIn_10 rfl ?_
  refine G_tout 116 d_X9_isIn_11 (by omega) (by omega) (by decide) ?_
  refine G_aload_n d_X9_isIn_116 rfl ?_
  refine G_iload_n d_X9_isIn_117 rfl ?_
  refine G_callV1 cl_X9_263 rfl d_X9_isIn_118 (wk_0 _) (Nat.le_of_ble_eq_true rfl) (by decide) (sp_CstateOf s hV hI p hp) ?_
  rintro _ _ ⟨rfl, m3, rfl, h3, hF3⟩
  refine G_if_eq 128 d_X9_isIn_121 (by decide) (by omega) (fun c121 => ?_) (fun c121 => ?_)
  · refine G_iconst d_X9_isIn_128 ?_
    refine G_zret (mc := 0) (ms := 0) (st := []) d_X9_isIn_129 rfl (by omega) ?_
    exact ⟨by rw [if_neg (by unfold grp pLeak pLost pKept pOther pLost; simp [c121])], m3, rfl, h3, hF3⟩
  · refine G_iconst d_X9_isIn_124 ?_
    refine G_goto 129 d_X9_isIn_125 (by decide) ?_
    refine G_zret (mc := 0) (ms := 0) (st := []) d_X9_isIn_129 rfl (by omega) ?_
    exact ⟨by rw [if_pos (by unfold grp pLeak pLost pKept pOther pLost; simp [c121])], m3, rfl, h3, hF3⟩
theorem sp_CisIn {w : List KD} {m : Nat → Nat → Int} (s : Nat → Int) (hV : VS s) (hI : CI s m) (g p : Nat) (hg : g ≤ 3) (hp : p < pC s) : Sp M_X9_isIn 5 0 0 [rV 0, iV (g : Int), iV (p : Int)] (WC ++ w, m) (fun r h => r = some (iV (if grp s g p = true then 1 else 0)) ∧ ∃ m2, h = (WC ++ w, m2) ∧ CI s m2 ∧ FPs m m2) := by
  rcases (show g = 0 ∨ g = 1 ∨ g = 2 ∨ g = 3 by omega) with rfl | rfl | rfl | rfl
  · exact sp_CisIn0 s hV hI p hp
  · exact sp_CisIn1 s hV hI p hp
  · exact sp_CisIn2 s hV hI p hp
  · exact sp_CisIn3 s hV hI p hp
theorem sp_Ccount {w : List KD} {m : Nat → Nat → Int} (s : Nat → Int) (hV : VS s) (hI : CI s m) (g : Nat) (hg : g ≤ 3) : Sp M_X9_count 6 0 0 [rV 0, iV (g : Int)] (WC ++ w, m) (fun r h => r = some (iV (cntB (grp s g) (pC s) : Nat)) ∧ ∃ m2, h = (WC ++ w, m2) ∧ CI s m2 ∧ FPs m m2) := by
  refine Sp.ofG (ls := [rV 0, iV (g : Int), uV, uV]) (by decide +kernel) rfl (Nat.le_of_ble_eq_true rfl) ?_
  have hC := pC_le hV
  have hN := hV.N
  have hT := hV.T
  have hSc := hV.Sc
  have L : ∀ p : Nat, p ≤ pC s → ∀ m1, CI s m1 → FPs m m1 → G M_X9_count 6 0 0 4 [rV 0, iV (g : Int), iV (cntB (grp s g) p : Nat), iV (p : Int)] [] (WC ++ w, m1) (fun r h => r = some (iV (cntB (grp s g) (pC s) : Nat)) ∧ ∃ m2, h = (WC ++ w, m2) ∧ CI s m2 ∧ FPs m m2) := by
    refine loop_up (pC s) _ ?_
    intro p hp ih m1 h1 hF1
    refine G_iload_n d_X9_count_4 rfl ?_
    refine G_aload_n d_X9_count_5 rfl ?_
    refine G_getR (r := 25) (fl_X9_43.r) d_X9_count_6 (wk_0 _) rfl rfl ?_
    refine G_getIe (v := (pC s : Int)) (fl_X9_110.r) d_X9_count_9 (wk_25 _) rfl (h1.1.2.2.1.1) ?_
    refine G_icmp_ge 33 d_X9_count_12 (by decide) (by omega) (by omega) (fun c12 => ?_) (fun c12 => ?_)
    · refine G_iload_n d_X9_count_33 rfl ?_
      refine G_iret (mc := 0) (ms := 0) (st := []) d_X9_count_34 rfl ?_
      exact ⟨by rw [show p = pC s by omega], m1, rfl, h1, hF1⟩
    · refine G_aload_n d_X9_count_15 rfl ?_
      refine G_iload_n d_X9_count_16 rfl ?_
      refine G_iload_n d_X9_count_17 rfl ?_
      refine G_callV2 cl_X9_266 rfl d_X9_count_18 (wk_0 _) (Nat.le_of_ble_eq_true rfl) (by decide) (sp_CisIn s hV h1 g p hg (by omega)) ?_
      rintro _ _ ⟨rfl, m2, rfl, h2, hF2⟩
      have hF2 := hF1.trans hF2
      by_cases hi : grp s g p = true
      · rw [if_pos hi]
        refine G_if_eq 27 d_X9_count_21 (by decide) (by decide) (fun hd => absurd hd (by decide)) (fun _ => ?_)
        refine G_iinc d_X9_count_24 rfl (by decide) rfl ?_
        refine G_iinc d_X9_count_27 rfl (by decide) rfl ?_
        refine G_goto 4 d_X9_count_30 (by decide) ?_
        rw [cntB_t hi] at ih
        exact ih (by omega) m2 h2 hF2
      · rw [if_neg hi]
        refine G_if_eq 27 d_X9_count_21 (by decide) (by decide) (fun _ => ?_) (fun hd => absurd hd (by decide))
        refine G_iinc d_X9_count_27 rfl (by decide) rfl ?_
        refine G_goto 4 d_X9_count_30 (by decide) ?_
        rw [cntB_f (by simpa using hi)] at ih
        exact ih (by omega) m2 h2 hF2
  refine G_iconst d_X9_count_0 ?_
  refine G_istore_n d_X9_count_1 (by decide) rfl ?_
  refine G_iconst d_X9_count_2 ?_
  refine G_istore_n d_X9_count_3 (by decide) rfl ?_
  exact L 0 (by omega) m hI (FPs.refl m)
theorem CB.wk {s : Nat → Int} {m : Nat → Nat → Int} (h : CB s m) (h1 : m 25 1 = 1) : WGk s m := by
  rcases h.2.2.2.2.1 with h | h
  · omega
  · exact h.2
theorem wsum_rng {s : Nat → Int} (hV : VS s) (f : Nat → Bool) : ∀ n : Nat, 0 ≤ sumN (fun p => if f p = true then pWt s p else 0) n ∧ sumN (fun p => if f p = true then pWt s p else 0) n ≤ 59049 * n
  | 0 => ⟨Int.le_refl 0, Int.le_refl 0⟩
  | n + 1 => by
    have h1 := wsum_rng hV f n
    have h2 := pWt_rng hV n
    unfold sumN
    by_cases c : f n = true
    · rw [if_pos c]; omega
    · rw [if_neg c]; omega
theorem sp_CcountWeights {w : List KD} {m : Nat → Nat → Int} (s : Nat → Int) (hV : VS s) (hI : CI s m) (g : Nat) (hg : g ≤ 3) : Sp M_X9_countWeights 6 0 0 [rV 0, iV (g : Int)] (WC ++ w, m) (fun r h => r = some (iV (sumN (fun p => if grp s g p = true then pWt s p else 0) (pC s))) ∧ ∃ m2, h = (WC ++ w, m2) ∧ CI s m2 ∧ FPs m m2) := by
  refine Sp.ofG (ls := [rV 0, iV (g : Int), uV, uV]) (by decide +kernel) rfl (Nat.le_of_ble_eq_true rfl) ?_
  have hC := pC_le hV
  have hN := hV.N
  have hT := hV.T
  have hSc := hV.Sc
  have L : ∀ p : Nat, p ≤ pC s → ∀ m1, CI s m1 → FPs m m1 → m1 25 1 = 1 → G M_X9_countWeights 6 0 0 8 [rV 0, iV (g : Int), iV (sumN (fun p => if grp s g p = true then pWt s p else 0) p), iV (p : Int)] [] (WC ++ w, m1) (fun r h => r = some (iV (sumN (fun p => if grp s g p = true then pWt s p else 0) (pC s))) ∧ ∃ m2, h = (WC ++ w, m2) ∧ CI s m2 ∧ FPs m m2) := by
    refine loop_up (pC s) _ ?_
    intro p hp ih m1 h1 hF1 hw1
    refine G_iload_n d_X9_countWeights_8 rfl ?_
    refine G_aload_n d_X9_countWeights_9 rfl ?_
    refine G_getR (r := 25) (fl_X9_43.r) d_X9_countWeights_10 (wk_0 _) rfl rfl ?_
    refine G_getIe (v := (pC s : Int)) (fl_X9_110.r) d_X9_countWeights_13 (wk_25 _) rfl (h1.1.2.2.1.1) ?_
    refine G_icmp_ge 46 d_X9_countWeights_16 (by decide) (by omega) (by omega) (fun c16 => ?_) (fun c16 => ?_)
    · refine G_iload_n d_X9_countWeights_46 rfl ?_
      refine G_iret (mc := 0) (ms := 0) (st := []) d_X9_countWeights_47 rfl ?_
      exact ⟨by rw [show p = pC s by omega], m1, rfl, h1, hF1⟩
    · refine G_aload_n d_X9_countWeights_19 rfl ?_
      refine G_iload_n d_X9_countWeights_20 rfl ?_
      refine G_iload_n d_X9_countWeights_21 rfl ?_
      refine G_callV2 cl_X9_266 rfl d_X9_countWeights_22 (wk_0 _) (Nat.le_of_ble_eq_true rfl) (by decide) (sp_CisIn s hV h1 g p hg (by omega)) ?_
      rintro _ _ ⟨rfl, m2, rfl, h2, hF2⟩
      have hw2 := hF2.2.2.2 hw1
      have hF2 := hF1.trans hF2
      by_cases hi : grp s g p = true
      · rw [if_pos hi]
        refine G_if_eq 40 d_X9_countWeights_25 (by decide) (by decide) (fun hd => absurd hd (by decide)) (fun _ => ?_)
        refine G_iload_n d_X9_countWeights_28 rfl ?_
        refine G_aload_n d_X9_countWeights_29 rfl ?_
        refine G_getR (r := 25) (fl_X9_43.r) d_X9_countWeights_30 (wk_0 _) rfl rfl ?_
        refine G_getR (r := 28) fl_X9_282 d_X9_countWeights_33 (wk_25 _) rfl rfl ?_
        refine G_iload_n d_X9_countWeights_36 rfl ?_
        refine G_ialdj (p) d_X9_countWeights_37 (wk_28 _) (by omega) (by omega) (by decide) ?_
        rw [(h2.1.wk hw2 p (by omega)).1]
        refine G_iadd d_X9_countWeights_38 ?_
        refine G_istore_n d_X9_countWeights_39 (by decide) rfl ?_
        refine G_iinc d_X9_countWeights_40 rfl (by decide) rfl ?_
        refine G_goto 8 d_X9_countWeights_43 (by decide) ?_
        have e1 : sumN (fun p => if grp s g p = true then pWt s p else 0) (p + 1) = sumN (fun p => if grp s g p = true then pWt s p else 0) p + pWt s p := by show sumN (fun p => if grp s g p = true then pWt s p else 0) p + (if grp s g p = true then pWt s p else 0) = _; rw [if_pos hi]
        rw [e1] at ih
        exact ih (by omega) m2 h2 hF2 hw2
      · rw [if_neg hi]
        refine G_if_eq 40 d_X9_countWeights_25 (by decide) (by decide) (fun _ => ?_) (fun hd => absurd hd (by decide))
        refine G_iinc d_X9_countWeights_40 rfl (by decide) rfl ?_
        refine G_goto 8 d_X9_countWeights_43 (by decide) ?_
        have e1 : sumN (fun p => if grp s g p = true then pWt s p else 0) (p + 1) = sumN (fun p => if grp s g p = true then pWt s p else 0) p := by show sumN (fun p => if grp s g p = true then pWt s p else 0) p + (if grp s g p = true then pWt s p else 0) = _; rw [if_neg hi, Int.add_zero]
        rw [e1] at ih
        exact ih (by omega) m2 h2 hF2 hw2
  refine G_aload_n d_X9_countWeights_0 rfl ?_
  refine G_callV0 cl_X9_276 rfl d_X9_countWeights_1 (wk_0 _) (Nat.le_of_ble_eq_true rfl) (by decide) (sp_CweighPaths s hV hI.1) ?_
  rintro _ _ ⟨rfl, m1, rfl, hB1, hF1, hK1, -, hk1⟩
  refine G_iconst d_X9_countWeights_4 ?_
  refine G_istore_n d_X9_countWeights_5 (by decide) rfl ?_
  refine G_iconst d_X9_countWeights_6 ?_
  refine G_istore_n d_X9_countWeights_7 (by decide) rfl ?_
  exact L 0 (by omega) m1 (hI.fb hB1 hF1) hF1.p hk1
theorem sp_Cmember {w : List KD} {m : Nat → Nat → Int} (s : Nat → Int) (hV : VS s) (hI : CI s m) (g : Nat) (hg : g ≤ 3) (i : Int) (hri : -2147483648 ≤ i ∧ i < 2147483648) : Sp M_X9_member 6 0 0 [rV 0, iV (g : Int), iV i] (WC ++ w, m) (fun r h => r = some (iV (if i < 0 then -1 else nthB (grp s g) (pC s) i)) ∧ ∃ m2, h = (WC ++ w, m2) ∧ CI s m2 ∧ FPs m m2) := by
  refine Sp.ofG (ls := [rV 0, iV (g : Int), iV i, uV, uV]) (by decide +kernel) rfl (Nat.le_of_ble_eq_true rfl) ?_
  have hC := pC_le hV
  have hN := hV.N
  have hT := hV.T
  have hSc := hV.Sc
  have L : ∀ p : Nat, p ≤ pC s → ∀ m1, CI s m1 → FPs m m1 → ((i < 0 ∧ p = 0) ∨ ((cntB (grp s g) p : Nat) : Int) ≤ i) → (∀ q, q < p → grp s g q = true → ((cntB (grp s g) q : Nat) : Int) ≠ i) → G M_X9_member 6 0 0 5 [rV 0, iV (g : Int), iV i, iV (i - (cntB (grp s g) p : Nat)), iV (p : Int)] [] (WC ++ w, m1) (fun r h => r = some (iV (if i < 0 then -1 else nthB (grp s g) (pC s) i)) ∧ ∃ m2, h = (WC ++ w, m2) ∧ CI s m2 ∧ FPs m m2) := by
    refine loop_up (pC s) _ ?_
    intro p hp ih m1 h1 hF1 hle hno
    refine G_iload d_X9_member_5 rfl ?_
    have hcl := cntB_le (grp s g) p
    refine G_aload_n d_X9_member_7 rfl ?_
    refine G_getR (r := 25) (fl_X9_43.r) d_X9_member_8 (wk_0 _) rfl rfl ?_
    refine G_getIe (v := (pC s : Int)) (fl_X9_110.r) d_X9_member_11 (wk_25 _) rfl (h1.1.2.2.1.1) ?_
    refine G_icmp_ge 47 d_X9_member_14 (by decide) (by omega) (by omega) (fun c14 => ?_) (fun c14 => ?_)
    · refine G_iconst d_X9_member_47 ?_
      refine G_iret (mc := 0) (ms := 0) (st := []) d_X9_member_48 rfl ?_
      have hpe : p = pC s := by omega
      by_cases hi0 : i < 0
      · exact ⟨by rw [if_pos hi0], m1, rfl, h1, hF1⟩
      · refine ⟨?_, m1, rfl, h1, hF1⟩
        rw [if_neg hi0, nthB_none (fun q hq hf => hno q (by omega) hf)]
    · refine G_iload_n d_X9_member_17 rfl ?_
      refine G_if_lt 47 d_X9_member_18 (by decide) (by omega) (fun c18 => ?_) (fun c18 => ?_)
      · refine G_iconst d_X9_member_47 ?_
        refine G_iret (mc := 0) (ms := 0) (st := []) d_X9_member_48 rfl ?_
        exact ⟨by rw [if_pos (by omega)], m1, rfl, h1, hF1⟩
      · refine G_aload_n d_X9_member_21 rfl ?_
        refine G_iload_n d_X9_member_22 rfl ?_
        refine G_iload d_X9_member_23 rfl ?_
        refine G_callV2 cl_X9_266 rfl d_X9_member_25 (wk_0 _) (Nat.le_of_ble_eq_true rfl) (by decide) (sp_CisIn s hV h1 g p hg (by omega)) ?_
        rintro _ _ ⟨rfl, m2, rfl, h2, hF2⟩
        have hF2 := hF1.trans hF2
        by_cases hi : grp s g p = true
        · rw [if_pos hi]
          refine G_if_eq 41 d_X9_member_28 (by decide) (by decide) (fun hd => absurd hd (by decide)) (fun _ => ?_)
          refine G_iload_n d_X9_member_31 rfl ?_
          refine G_if_ne 38 d_X9_member_32 (by decide) (by omega) (fun c32 => ?_) (fun c32 => ?_)
          · refine G_iinc d_X9_member_38 rfl (by decide) rfl ?_
            refine G_iinc d_X9_member_41 rfl (by decide) rfl ?_
            refine G_goto 5 d_X9_member_44 (by decide) ?_
            have e9 : i - ((cntB (grp s g) (p + 1) : Nat) : Int) = i - ((cntB (grp s g) p : Nat) : Int) + -1 := by rw [cntB_t hi]; omega
            rw [e9] at ih
            exact ih (by omega) m2 h2 hF2 (by rw [cntB_t hi]; omega) (fun q hq hf => by
              by_cases e : q = p
              · rw [e]; omega
              · exact hno q (by omega) hf)
          · refine G_iload d_X9_member_35 rfl ?_
            refine G_iret (mc := 0) (ms := 0) (st := []) d_X9_member_37 rfl ?_
            exact ⟨by rw [if_neg (by omega), firstB_nthT (show p < pC s by omega) hi (by omega)], m2, rfl, h2, hF2⟩
        · rw [if_neg hi]
          refine G_if_eq 41 d_X9_member_28 (by decide) (by decide) (fun _ => ?_) (fun hd => absurd hd (by decide))
          refine G_iinc d_X9_member_41 rfl (by decide) rfl ?_
          refine G_goto 5 d_X9_member_44 (by decide) ?_
          rw [cntB_f (by simpa using hi)] at ih
          exact ih (by omega) m2 h2 hF2 (by omega) (fun q hq hf => by
            by_cases e : q = p
            · rw [e] at hf; exact absurd hf hi
            · exact hno q (by omega) hf)
  refine G_iload_n d_X9_member_0 rfl ?_
  refine G_istore_n d_X9_member_1 (by decide) rfl ?_
  refine G_iconst d_X9_member_2 ?_
  refine G_istore d_X9_member_3 (by decide) rfl ?_
  have h9 := L 0 (by omega) m hI (FPs.refl m) (by show (i < 0 ∧ 0 = 0) ∨ (0 : Int) ≤ i; omega) (fun q hq => absurd hq (by omega))
  rw [show i - ((cntB (grp s g) 0 : Nat) : Int) = i from Int.sub_zero i] at h9
  exact h9
