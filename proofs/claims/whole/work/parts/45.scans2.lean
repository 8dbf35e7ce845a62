theorem emod_rng {x : Int} {T : Nat} (hT : 0 < T) : 0 ≤ x % (T : Int) ∧ x % (T : Int) < (T : Int) := ⟨Int.emod_nonneg _ (by omega), Int.emod_lt_of_pos _ (by omega)⟩
theorem ledS {s : Nat → Int} (p t k : Nat) : (pLed s p t k % (pT s : Int) + pCh s p k * pOwn s k t) % (pT s : Int) = pLed s p t (k + 1) % (pT s : Int) := by
  rw [Int.emod_add_emod]
  rfl
theorem cLP.keep {n M : Nat} {K : Nat → Int} {C : Nat} {m m2 : Nat → Nat → Int} (h : cLP n M K C m) (h25 : m2 25 = m 25) (h26 : m2 26 = m 26) (h27 : m2 27 = m 27) : cLP n M K C m2 := ⟨by rw [h25]; exact h.1, fun p hp k hk => by rw [h26]; exact h.2.1 p hp k hk, fun c hc => by rw [h27]; exact h.2.2 c hc⟩
theorem sp_trackChief {w : List KD} {m : Nat → Nat → Int} (s : Nat → Int) (hV : VS s) (hL : CL s m) (hSC : SC s m) (hph : ∀ k, k < pN s → ∀ t, t < pSc s → m (32 + k) t = pOwn s k t) : Sp M_X5_trackChief 1 0 0 [rV 30, rV 25, iV (pChief s)] (WC ++ w, m) (fun r h => r = none ∧ ∃ m2, h = (WC ++ w, m2) ∧ (∀ t, t < pSc s → m2 (32 + pN s) t = (if pChief s = -1 then 0 else pLed s (pChief s).toNat t (pN s) % (pT s : Int))) ∧ (∀ a, a ≠ 32 + pN s → m2 a = m a)) := by
  refine Sp.ofG (ls := [rV 30, rV 25, iV (pChief s), uV]) (by decide +kernel) rfl (Nat.le_of_ble_eq_true rfl) ?_
  have hC := pC_le hV
  have hN := hV.N
  have hT := hV.T
  have hSc := hV.Sc
  have L : ∀ i : Nat, i ≤ pN s → ∀ m1, (∀ t, t < pSc s → m1 (32 + pN s) t = (if pChief s = -1 then 0 else pLed s (pChief s).toNat t i % (pT s : Int))) → (∀ a, a ≠ 32 + pN s → m1 a = m a) → G M_X5_trackChief 1 0 0 15 [rV 30, rV 25, iV (pChief s), iV (i : Int)] [] (WC ++ w, m1) (fun r h => r = none ∧ ∃ m2, h = (WC ++ w, m2) ∧ (∀ t, t < pSc s → m2 (32 + pN s) t = (if pChief s = -1 then 0 else pLed s (pChief s).toNat t (pN s) % (pT s : Int))) ∧ (∀ a, a ≠ 32 + pN s → m2 a = m a)) := by
    refine loop_up (pN s) _ ?_
    intro i hi ih m1 hz hfr
    refine G_iload_n d_X5_trackChief_15 rfl ?_
    refine G_aload_n d_X5_trackChief_16 rfl ?_
    refine G_getIe (v := (pN s : Int)) (fl_X5_22.r) d_X5_trackChief_17 (wk_30 _) rfl ((by rw [hfr 30 (by omega)]; exact hSC.2.2)) ?_
    refine G_icmp_ge 63 d_X5_trackChief_20 (by decide) (by omega) (by omega) (fun c20 => ?_) (fun c20 => ?_)
    · refine G_vret (mc := 0) (ms := 0) (st := []) d_X5_trackChief_63 rfl ?_
      have hie : i = pN s := by omega
      rw [hie] at hz
      exact ⟨rfl, m1, rfl, hz, hfr⟩
    · refine G_iload_n d_X5_trackChief_23 rfl ?_
      refine G_iconst d_X5_trackChief_24 ?_
      have hcr := pChief_rng s
      refine G_icmp_eq 63 d_X5_trackChief_25 (by decide) (by omega) (by omega) (fun c25 => ?_) (fun c25 => ?_)
      · refine G_vret (mc := 0) (ms := 0) (st := []) d_X5_trackChief_63 rfl ?_
        exact ⟨rfl, m1, rfl, fun t ht => by rw [hz t ht, if_pos c25, if_pos c25], hfr⟩
      · refine G_aload_n d_X5_trackChief_28 rfl ?_
        refine G_iload_n d_X5_trackChief_29 rfl ?_
        refine G_aload_n d_X5_trackChief_30 rfl ?_
        refine G_iload_n d_X5_trackChief_31 rfl ?_
        refine G_iload_n d_X5_trackChief_32 rfl ?_
        have h9 := sp_Cch (w := w) (m := m1) s hV (hL.keep (hfr 25 (by omega)) (hfr 26 (by omega)) (hfr 27 (by omega))) (pChief s).toNat i (by omega) (by omega)
        rw [show (((pChief s).toNat : Nat) : Int) = pChief s by omega] at h9
        refine G_callV2 cl_X5_57 rfl d_X5_trackChief_33 (wk_25 _) (Nat.le_of_ble_eq_true rfl) (by decide) (h9) ?_
        rintro _ _ ⟨rfl, rfl⟩
        have hch := pCh_rng hV (pChief s).toNat i
        refine G_aload_n d_X5_trackChief_36 rfl ?_
        refine G_getR (r := 31) (fl_X5_30.r) d_X5_trackChief_37 (wk_30 _) rfl rfl ?_
        refine G_aload_n d_X5_trackChief_40 rfl ?_
        refine G_getIe (v := (pN s : Int)) (fl_X5_22.r) d_X5_trackChief_41 (wk_30 _) rfl ((by rw [hfr 30 (by omega)]; exact hSC.2.2)) ?_
        refine G_aald (r := 32 + pN s) d_X5_trackChief_44 (wk_31 _) (by omega) (by decide) (ph_at (by omega)) ?_
        refine G_aload_n d_X5_trackChief_45 rfl ?_
        refine G_getR (r := 31) (fl_X5_30.r) d_X5_trackChief_46 (wk_30 _) rfl rfl ?_
        refine G_aload_n d_X5_trackChief_49 rfl ?_
        refine G_getIe (v := (pN s : Int)) (fl_X5_22.r) d_X5_trackChief_50 (wk_30 _) rfl ((by rw [hfr 30 (by omega)]; exact hSC.2.2)) ?_
        refine G_aald (r := 32 + pN s) d_X5_trackChief_53 (wk_31 _) (by omega) (by decide) (ph_at (by omega)) ?_
        refine G_callV4 cl_X5_62 rfl d_X5_trackChief_54 (wk_30 _) (Nat.le_of_ble_eq_true rfl) (by decide) (sp_addPulse s hV i (32 + pN s) (32 + pN s) (pCh s (pChief s).toNat i) (fun t => if pChief s = -1 then 0 else pLed s (pChief s).toNat t i % (pT s : Int)) ⟨by rw [hfr 30 (by omega)]; exact hSC.1, by rw [hfr 30 (by omega)]; exact hSC.2.1, by rw [hfr 30 (by omega)]; exact hSC.2.2⟩ (by omega) (wk_ph _ (by omega)) (wk_ph _ (by omega)) (by omega) (by omega) (by omega) (fun t ht => by rw [hfr (32 + i) (by omega)]; exact hph i (by omega) t ht) (fun t ht => ⟨hz t ht, by rw [if_neg c25]; exact emod_rng (by omega)⟩)) ?_
        rintro _ _ ⟨rfl, m2, rfl, h2, hf2, -⟩
        refine G_iinc d_X5_trackChief_57 rfl (by decide) rfl ?_
        refine G_goto 15 d_X5_trackChief_60 (by decide) ?_
        exact ih (by omega) m2 (fun t ht => by rw [h2 t ht, if_neg c25, if_neg c25, ledS]) (fun a ha => (hf2 a ha).trans (hfr a ha))
  refine G_aload_n d_X5_trackChief_0 rfl ?_
  refine G_getR (r := 31) (fl_X5_30.r) d_X5_trackChief_1 (wk_30 _) rfl rfl ?_
  refine G_aload_n d_X5_trackChief_4 rfl ?_
  refine G_getIe (fl_X5_22.r) d_X5_trackChief_5 (wk_30 _) rfl (hSC.2.2) ?_
  refine G_aald (r := 32 + pN s) d_X5_trackChief_8 (wk_31 _) (by omega) (by decide) (ph_at (by omega)) ?_
  refine G_iconst d_X5_trackChief_9 ?_
  refine G_callS2 cl_X5_51 d_X5_trackChief_10 (Nat.le_of_ble_eq_true rfl) (by decide) (sp_fillI (wk_ph _ (by omega)) (by decide)) ?_
  rintro _ _ ⟨rfl, rfl⟩
  refine G_iconst d_X5_trackChief_13 ?_
  refine G_istore_n d_X5_trackChief_14 (by decide) rfl ?_
  exact L 0 (by omega) _ (fun t ht => by
    rw [flm_in _ _ (by omega) (by omega)]
    by_cases c : pChief s = -1
    · rw [if_pos c]
    · rw [if_neg c]; exact (Int.zero_emod _).symm) (fun a ha => flm_off _ _ _ _ ha)
def SBp (s : Nat → Int) (m : Nat → Nat → Int) : Prop := SC s m ∧ (∀ k, k ≤ pN s → ∀ t, t < pSc s → m (32 + k) t = pPh s k t)
def SB (s : Nat → Int) (m : Nat → Nat → Int) : Prop := SBp s m ∧ (∀ t, t < pSc s → m 39 t = pTu s 0 0 t) ∧ (m 30 4 = -1 ∨ ∃ p0, p0 < pC s ∧ m 30 4 = (p0 : Int) ∧ ∀ k, k ≤ pN s → ∀ t, t < pSc s → m (39 + k) t = pTu s p0 k t)
/-- all but the rows of residues and where they stand -/
def FT (m m2 : Nat → Nat → Int) : Prop := (∀ a, a ≠ 30 → (a < 39 ∨ 44 < a) → m2 a = m a) ∧ ∀ j, j ≠ 4 → m2 30 j = m 30 j
theorem FT.refl (m : Nat → Nat → Int) : FT m m := ⟨fun _ _ _ => rfl, fun _ _ => rfl⟩
theorem FT.trans {m m1 m2 : Nat → Nat → Int} (h : FT m m1) (k : FT m1 m2) : FT m m2 := ⟨fun a h1 h2 => (k.1 a h1 h2).trans (h.1 a h1 h2), fun j h1 => (k.2 j h1).trans (h.2 j h1)⟩
theorem SC.keep {s : Nat → Int} {m m2 : Nat → Nat → Int} (h : SC s m) (h1 : m2 30 1 = m 30 1) (h2 : m2 30 2 = m 30 2) (h3 : m2 30 3 = m 30 3) : SC s m2 := ⟨by rw [h1]; exact h.1, by rw [h2]; exact h.2.1, by rw [h3]; exact h.2.2⟩
theorem SBp.ft {s : Nat → Int} {m m2 : Nat → Nat → Int} (h : SBp s m) (hN : pN s ≤ 5) (k : FT m m2) : SBp s m2 := ⟨h.1.keep (k.2 1 (by decide)) (k.2 2 (by decide)) (k.2 3 (by decide)), fun i hi t ht => by rw [k.1 (32 + i) (by omega) (by omega)]; exact h.2 i hi t ht⟩
theorem pTu_0 (s : Nat → Int) (p q t : Nat) : pTu s p 0 t = pTu s q 0 t := rfl
theorem pTu_S {s : Nat → Int} (p t k : Nat) : (pTu s p k t + pCh s p k * pOwn s k t) % (pT s : Int) = pTu s p (k + 1) t := by
  unfold pTu
  rw [Int.emod_add_emod]
  congr 1
  show pLed s p t k - pRcv s t + pCh s p k * pOwn s k t = pLed s p t k + pCh s p k * pOwn s k t - pRcv s t
  omega
theorem pTu_N {s : Nat → Int} (hV : VS s) (p t : Nat) : pTu s p (pN s) t = ((pRes s p t : Nat) : Int) := (pRes_eq hV p t).symm
theorem pTu_alike {s : Nat → Int} {p q : Nat} (t : Nat) : ∀ k, (∀ i, i < k → pCh s p i = pCh s q i) → pTu s p k t = pTu s q k t
  | 0, _ => rfl
  | k + 1, h => by rw [← pTu_S, ← pTu_S, pTu_alike t k (fun i hi => h i (by omega)), h k (by omega)]
theorem negT {x : Int} {T : Nat} (h : x ≤ (T : Int)) : ((((T : Int) - x).toNat % T : Nat) : Int) = (0 - x) % (T : Int) := by
  rw [Int.natCast_emod, Int.toNat_of_nonneg (by omega), show (T : Int) - x = (0 - x) + 1 * (T : Int) by omega]
  exact Int.add_mul_emod_self_right _ _ _
theorem sp_scbegin {w : List KD} {m : Nat → Nat → Int} (s : Nat → Int) (hV : VS s) (hB : SBp s m) : Sp M_X5_begin 0 0 0 [rV 30] (WC ++ w, m) (fun r h => r = none ∧ ∃ m2, h = (WC ++ w, m2) ∧ SB s m2 ∧ m2 30 0 = 1 ∧ (∀ a, a ≠ 30 → a ≠ 39 → m2 a = m a)) := by
  refine Sp.ofG (ls := [rV 30, uV]) (by decide +kernel) rfl (Nat.le_of_ble_eq_true rfl) ?_
  have hC := pC_le hV
  have hN := hV.N
  have hT := hV.T
  have hSc := hV.Sc
  have L : ∀ t : Nat, t ≤ pSc s → ∀ m1, (∀ t2, t2 < t → m1 39 t2 = pTu s 0 0 t2) → (∀ a, a ≠ 39 → m1 a = m a) → G M_X5_begin 0 0 0 2 [rV 30, iV (t : Int)] [] (WC ++ w, m1) (fun r h => r = none ∧ ∃ m2, h = (WC ++ w, m2) ∧ SB s m2 ∧ m2 30 0 = 1 ∧ (∀ a, a ≠ 30 → a ≠ 39 → m2 a = m a)) := by
    refine loop_up (pSc s) _ ?_
    intro t ht ih m1 hz hfr
    refine G_iload_n d_X5_begin_2 rfl ?_
    refine G_aload_n d_X5_begin_3 rfl ?_
    refine G_getIe (v := (pSc s : Int)) (fl_X5_15.r) d_X5_begin_4 (wk_30 _) rfl ((by rw [hfr 30 (by decide)]; exact hB.1.1)) ?_
    refine G_icmp_ge 45 d_X5_begin_7 (by decide) (by omega) (by omega) (fun c7 => ?_) (fun c7 => ?_)
    · refine G_aload_n d_X5_begin_45 rfl ?_
      refine G_iconst d_X5_begin_46 ?_
      refine G_putII fl_X5_25 d_X5_begin_47 (wk_30 _) rfl ?_
      refine G_aload_n d_X5_begin_50 rfl ?_
      refine G_iconst d_X5_begin_51 ?_
      refine G_putZ fl_X5_9 d_X5_begin_52 (wk_30 _) rfl (by omega) ?_
      refine G_vret (mc := 0) (ms := 0) (st := []) d_X5_begin_55 rfl ?_
      have hte : t = pSc s := by omega
      rw [hte] at hz
      exact ⟨rfl, _, rfl, ⟨⟨hB.1.keep (by rw [upm_ne _ _ (fun _ => by decide), upm_ne _ _ (fun _ => by decide), hfr 30 (by decide)]) (by rw [upm_ne _ _ (fun _ => by decide), upm_ne _ _ (fun _ => by decide), hfr 30 (by decide)]) (by rw [upm_ne _ _ (fun _ => by decide), upm_ne _ _ (fun _ => by decide), hfr 30 (by decide)]), fun k hk t2 ht2 => by rw [upm_off _ _ (by omega), upm_off _ _ (by omega), hfr (32 + k) (by omega)]; exact hB.2 k hk t2 ht2⟩, fun t2 ht2 => by rw [upm_off _ _ (by decide), upm_off _ _ (by decide)]; exact hz t2 ht2, Or.inl (by rw [upm_ne _ _ (fun _ => by decide), upm_same])⟩, upm_same _ _ _ _, fun a h1 h2 => by rw [upm_off _ _ h1, upm_off _ _ h1, hfr a h2]⟩
    · refine G_aload_n d_X5_begin_10 rfl ?_
      refine G_getR (r := 38) (fl_X5_33.r) d_X5_begin_11 (wk_30 _) rfl rfl ?_
      refine G_iconst d_X5_begin_14 ?_
      refine G_aald (r := 39 + 0) d_X5_begin_15 (wk_38 _) (by omega) (by decide) (rfl) ?_
      refine G_iload_n d_X5_begin_16 rfl ?_
      refine G_aload_n d_X5_begin_17 rfl ?_
      refine G_getIe (v := (pT s : Int)) (fl_X5_19.r) d_X5_begin_18 (wk_30 _) rfl ((by rw [hfr 30 (by decide)]; exact hB.1.2.1)) ?_
      refine G_aload_n d_X5_begin_21 rfl ?_
      refine G_getR (r := 31) (fl_X5_30.r) d_X5_begin_22 (wk_30 _) rfl rfl ?_
      refine G_aload_n d_X5_begin_25 rfl ?_
      refine G_getIe (v := (pN s : Int)) (fl_X5_22.r) d_X5_begin_26 (wk_30 _) rfl ((by rw [hfr 30 (by decide)]; exact hB.1.2.2)) ?_
      refine G_aald (r := 32 + pN s) d_X5_begin_29 (wk_31 _) (by omega) (by decide) (ph_at (by omega)) ?_
      refine G_iload_n d_X5_begin_30 rfl ?_
      refine G_ialdj (t) d_X5_begin_31 (wk_ph _ (show pN s < 6 by omega)) (by omega) (by omega) (by first | decide | assumption | omega) ?_
      rw [hfr (32 + pN s) (by omega), hB.2 (pN s) (Nat.le_refl _) t (by omega), show pPh s (pN s) t = pRcv s t from if_pos rfl]
      have hrc := pRcv_rng hV t
      refine G_isub d_X5_begin_32 ?_
      refine G_aload_n d_X5_begin_33 rfl ?_
      refine G_getIe (v := (pT s : Int)) (fl_X5_19.r) d_X5_begin_34 (wk_30 _) rfl ((by rw [hfr 30 (by decide)]; exact hB.1.2.1)) ?_
      refine G_iremN (((pT s : Int) - pRcv s t).toNat) (pT s) ((by omega)) (rfl) d_X5_begin_37 (by omega) (by omega) (by omega) ?_
      refine G_iastj (t) d_X5_begin_38 (wk_tu _ (show 0 < 6 by omega)) (by omega) (by omega) (by first | decide | assumption | omega) ?_
      refine G_iinc d_X5_begin_39 rfl (by decide) rfl ?_
      refine G_goto 2 d_X5_begin_42 (by decide) ?_
      refine ih (by omega) _ (fun t2 ht2 => ?_) (fun a ha => by rw [upm_off _ _ ha]; exact hfr a ha)
      by_cases e : t2 = t
      · rw [e, upm_same, negT (by omega)]; rfl
      · rw [upm_ne _ _ (fun _ => e)]; exact hz t2 (by omega)
  refine G_iconst d_X5_begin_0 ?_
  refine G_istore_n d_X5_begin_1 (by decide) rfl ?_
  exact L 0 (by omega) m (fun t2 ht2 => absurd ht2 (by omega)) (fun _ _ => rfl)
theorem sp_residues {w : List KD} {m : Nat → Nat → Int} (s : Nat → Int) (hV : VS s) (hL : CL s m) (hB : SB s m) (p : Nat) (hp : p < pC s) : Sp M_X5_residues 1 0 0 [rV 30, rV 25, iV (p : Int)] (WC ++ w, m) (fun r h => r = some (rV (39 + pN s)) ∧ ∃ m2, h = (WC ++ w, m2) ∧ SB s m2 ∧ (∀ t, t < pSc s → m2 (39 + pN s) t = ((pRes s p t : Nat) : Int)) ∧ FT m m2) := by
  refine Sp.ofG (ls := [rV 30, rV 25, iV (p : Int), uV]) (by decide +kernel) rfl (Nat.le_of_ble_eq_true rfl) ?_
  have hC := pC_le hV
  have hN := hV.N
  have hT := hV.T
  have hSc := hV.Sc
  have L2 : ∀ i : Nat, i ≤ pN s → ∀ m1, (∀ k, k ≤ i → ∀ t, t < pSc s → m1 (39 + k) t = pTu s p k t) → FT m m1 → G M_X5_residues 1 0 0 42 [rV 30, rV 25, iV (p : Int), iV (i : Int)] [] (WC ++ w, m1) (fun r h => r = some (rV (39 + pN s)) ∧ ∃ m2, h = (WC ++ w, m2) ∧ SB s m2 ∧ (∀ t, t < pSc s → m2 (39 + pN s) t = ((pRes s p t : Nat) : Int)) ∧ FT m m2) := by
    refine loop_up (pN s) _ ?_
    intro i hi ih m1 hz hF1
    refine G_iload_n d_X5_residues_42 rfl ?_
    refine G_aload_n d_X5_residues_43 rfl ?_
    refine G_getIe (v := (pN s : Int)) (fl_X5_22.r) d_X5_residues_44 (wk_30 _) rfl (((hF1.2 3 (by decide)).trans hB.1.1.2.2)) ?_
    refine G_icmp_ge 81 d_X5_residues_47 (by decide) (by omega) (by omega) (fun c47 => ?_) (fun c47 => ?_)
    · refine G_aload_n d_X5_residues_81 rfl ?_
      refine G_iload_n d_X5_residues_82 rfl ?_
      refine G_putII fl_X5_25 d_X5_residues_83 (wk_30 _) rfl ?_
      refine G_aload_n d_X5_residues_86 rfl ?_
      refine G_getR (r := 38) (fl_X5_33.r) d_X5_residues_87 (wk_30 _) rfl rfl ?_
      refine G_aload_n d_X5_residues_90 rfl ?_
      refine G_getIe (v := (pN s : Int)) (fl_X5_22.r) d_X5_residues_91 (wk_30 _) rfl ((by rw [upm_ne _ _ (fun _ => by decide)]; exact (hF1.2 3 (by decide)).trans hB.1.1.2.2)) ?_
      refine G_aald (r := 39 + pN s) d_X5_residues_94 (wk_38 _) (by omega) (by decide) (tu_at (by omega)) ?_
      refine G_aret (mc := 0) (ms := 0) (st := []) d_X5_residues_95 rfl ?_
      have hie : i = pN s := by omega
      rw [hie] at hz
      have hF2 : FT m (upm m1 30 4 (p : Int)) := ⟨fun a h7 h8 => by rw [upm_off _ _ h7]; exact hF1.1 a h7 h8, fun j hj => by rw [upm_ne _ _ (fun _ => hj)]; exact hF1.2 j hj⟩
      exact ⟨rfl, _, rfl, ⟨hB.1.ft (by omega) hF2, fun t ht => by rw [upm_off _ _ (by decide)]; exact hz 0 (by omega) t ht, Or.inr ⟨p, hp, upm_same _ _ _ _, fun k hk t ht => by rw [upm_off _ _ (by omega)]; exact hz k hk t ht⟩⟩, fun t ht => by rw [upm_off _ _ (by omega), hz (pN s) (Nat.le_refl _) t ht, pTu_N hV], hF2⟩
    · refine G_aload_n d_X5_residues_50 rfl ?_
      refine G_iload_n d_X5_residues_51 rfl ?_
      refine G_aload_n d_X5_residues_52 rfl ?_
      refine G_iload_n d_X5_residues_53 rfl ?_
      refine G_iload_n d_X5_residues_54 rfl ?_
      refine G_callV2 cl_X5_57 rfl d_X5_residues_55 (wk_25 _) (Nat.le_of_ble_eq_true rfl) (by decide) (sp_Cch s hV (hL.keep (hF1.1 25 (by decide) (by decide)) (hF1.1 26 (by decide) (by decide)) (hF1.1 27 (by decide) (by decide))) p i hp (by omega)) ?_
      rintro _ _ ⟨rfl, rfl⟩
      have hch := pCh_rng hV p i
      refine G_aload_n d_X5_residues_58 rfl ?_
      refine G_getR (r := 38) (fl_X5_33.r) d_X5_residues_59 (wk_30 _) rfl rfl ?_
      refine G_iload_n d_X5_residues_62 rfl ?_
      refine G_aald (r := 39 + i) d_X5_residues_63 (wk_38 _) (by omega) (by decide) (tu_at (by omega)) ?_
      refine G_aload_n d_X5_residues_64 rfl ?_
      refine G_getR (r := 38) (fl_X5_33.r) d_X5_residues_65 (wk_30 _) rfl rfl ?_
      refine G_iload_n d_X5_residues_68 rfl ?_
      refine G_iconst d_X5_residues_69 ?_
      refine G_iadd d_X5_residues_70 ?_
      refine G_aald (r := 39 + (i + 1)) d_X5_residues_71 (wk_38 _) (by omega) (by decide) (tu_at (k := i + 1) (by omega)) ?_
      refine G_callV4 cl_X5_62 rfl d_X5_residues_72 (wk_30 _) (Nat.le_of_ble_eq_true rfl) (by decide) (sp_addPulse s hV i (39 + i) (39 + (i + 1)) (pCh s p i) (fun t => pTu s p i t) (hB.1.1.keep (hF1.2 1 (by decide)) (hF1.2 2 (by decide)) (hF1.2 3 (by decide))) (by omega) (wk_tu _ (by omega)) (wk_tu _ (by omega)) (by omega) (by omega) (by omega) (fun t ht => by rw [hF1.1 (32 + i) (by omega) (by omega), hB.1.2 i (by omega) t ht]; exact if_neg (by omega)) (fun t ht => ⟨hz i (Nat.le_refl _) t ht, emod_rng (by omega)⟩)) ?_
      rintro _ _ ⟨rfl, m2, rfl, h2, hf2, -⟩
      refine G_iinc d_X5_residues_75 rfl (by decide) rfl ?_
      refine G_goto 42 d_X5_residues_78 (by decide) ?_
      refine ih (by omega) m2 (fun k hk t ht => ?_) ⟨fun a h7 h8 => (hf2 a (by omega)).trans (hF1.1 a h7 h8), fun j hj => by rw [hf2 30 (by omega)]; exact hF1.2 j hj⟩
      by_cases e : k = i + 1
      · rw [e, h2 t ht, pTu_S]
      · rw [hf2 (39 + k) (by omega)]; exact hz k (by omega) t ht
  have L1 : ∀ i : Nat, i ≤ pN s → ∀ p0, p0 < pC s → m 30 4 = (p0 : Int) → (∀ k, k ≤ pN s → ∀ t, t < pSc s → m (39 + k) t = pTu s p0 k t) → (∀ j, j < i → pCh s p j = pCh s p0 j) → G M_X5_residues 1 0 0 10 [rV 30, rV 25, iV (p : Int), iV (i : Int)] [] (WC ++ w, m) (fun r h => r = some (rV (39 + pN s)) ∧ ∃ m2, h = (WC ++ w, m2) ∧ SB s m2 ∧ (∀ t, t < pSc s → m2 (39 + pN s) t = ((pRes s p t : Nat) : Int)) ∧ FT m m2) := by
    refine loop_up (pN s) _ ?_
    intro i hi ih p0 hp0 h4 hz hy
    refine G_iload_n d_X5_residues_10 rfl ?_
    refine G_aload_n d_X5_residues_11 rfl ?_
    refine G_getIe (fl_X5_22.r) d_X5_residues_12 (wk_30 _) rfl (hB.1.1.2.2) ?_
    refine G_icmp_ge 42 d_X5_residues_15 (by decide) (by omega) (by omega) (fun c15 => ?_) (fun c15 => ?_)
    · exact L2 i (by omega) m (fun k hk t ht => by rw [hz k (by omega) t ht]; exact (pTu_alike t k (fun j hj => hy j (by omega))).symm) (FT.refl m)
    · refine G_aload_n d_X5_residues_18 rfl ?_
      refine G_iload_n d_X5_residues_19 rfl ?_
      refine G_iload_n d_X5_residues_20 rfl ?_
      refine G_callV2 cl_X5_57 rfl d_X5_residues_21 (wk_25 _) (Nat.le_of_ble_eq_true rfl) (by decide) (sp_Cch s hV hL p i hp (by omega)) ?_
      rintro _ _ ⟨rfl, rfl⟩
      refine G_aload_n d_X5_residues_24 rfl ?_
      refine G_aload_n d_X5_residues_25 rfl ?_
      refine G_getIe (fl_X5_25.r) d_X5_residues_26 (wk_30 _) rfl (h4) ?_
      refine G_iload_n d_X5_residues_29 rfl ?_
      refine G_callV2 cl_X5_57 rfl d_X5_residues_30 (wk_25 _) (Nat.le_of_ble_eq_true rfl) (by decide) (sp_Cch s hV hL p0 i hp0 (by omega)) ?_
      rintro _ _ ⟨rfl, rfl⟩
      have hch := pCh_rng hV p i
      have hch0 := pCh_rng hV p0 i
      refine G_icmp_ne 42 d_X5_residues_33 (by decide) (by omega) (by omega) (fun c33 => ?_) (fun c33 => ?_)
      · exact L2 i (by omega) m (fun k hk t ht => by rw [hz k (by omega) t ht]; exact (pTu_alike t k (fun j hj => hy j (by omega))).symm) (FT.refl m)
      · refine G_iinc d_X5_residues_36 rfl (by decide) rfl ?_
        refine G_goto 10 d_X5_residues_39 (by decide) ?_
        exact ih (by omega) p0 hp0 h4 hz (fun j hj => by
          by_cases e : j = i
          · rw [e]; exact c33
          · exact hy j (by omega))
  have h40 : -1 ≤ m 30 4 ∧ m 30 4 < 2401 := by
    rcases hB.2.2 with h | ⟨p0, h1, h2, -⟩
    · omega
    · omega
  refine G_iconst d_X5_residues_0 ?_
  refine G_istore_n d_X5_residues_1 (by decide) rfl ?_
  refine G_aload_n d_X5_residues_2 rfl ?_
  refine G_getIe (fl_X5_25.r) d_X5_residues_3 (wk_30 _) rfl (show _ = m 30 4 from rfl) ?_
  refine G_iconst d_X5_residues_6 ?_
  refine G_icmp_eq 42 d_X5_residues_7 (by decide) (by omega) (by omega) (fun c7 => ?_) (fun c7 => ?_)
  · exact L2 0 (by omega) m (fun k hk t ht => by
      obtain rfl : k = 0 := by omega
      exact hB.2.1 t ht) (FT.refl m)
  · rcases hB.2.2 with h | ⟨p0, h1, h2, h3⟩
    · exact absurd h c7
    · exact L1 0 (by omega) p0 h1 h2 h3 (fun j hj => absurd hj (by omega))
theorem pCnt_S (s : Nat → Int) (p n r : Nat) : pCnt s p (n + 1) r = if r = pRes s p n then pCnt s p n r + 1 else pCnt s p n r := by
  unfold pCnt
  by_cases e : r = pRes s p n
  · rw [if_pos e, cntB_t (by simp [e]), Int.natCast_add]
    rfl
  · rw [if_neg e, cntB_f (by simpa using fun h => e h.symm)]
theorem SB.keep {s : Nat → Int} {m m2 : Nat → Nat → Int} (h : SB s m) (hN : pN s ≤ 5) (k : ∀ a, 30 ≤ a → a ≤ 44 → m2 a = m a) : SB s m2 :=
  ⟨⟨h.1.1.keep (by rw [k 30 (by decide) (by decide)]) (by rw [k 30 (by decide) (by decide)]) (by rw [k 30 (by decide) (by decide)]), fun i hi t ht => by rw [k (32 + i) (by omega) (by omega)]; exact h.1.2 i hi t ht⟩, fun t ht => by rw [k 39 (by decide) (by decide)]; exact h.2.1 t ht, by
    rw [k 30 (by decide) (by decide)]
    rcases h.2.2 with h0 | ⟨p0, h1, h2, h3⟩
    · exact Or.inl h0
    · exact Or.inr ⟨p0, h1, h2, fun i hi t ht => by rw [k (39 + i) (by omega) (by omega)]; exact h3 i hi t ht⟩⟩
theorem sp_tally {w : List KD} {m : Nat → Nat → Int} (s : Nat → Int) (hV : VS s) (hL : CL s m) (hB : SB s m) (p n : Nat) (hp : p < pC s) (hn : n ≤ pSc s) : Sp M_X5_tally 2 0 0 [rV 30, rV 25, iV (p : Int), iV (n : Int)] (WC ++ w, m) (fun r h => r = some (rV 45) ∧ ∃ m2, h = (WC ++ w, m2) ∧ SB s m2 ∧ (∀ x, x < 48 → m2 45 x = pCnt s p n x) ∧ (∀ a, a ≠ 30 → (a < 39 ∨ 45 < a) → m2 a = m a) ∧ ∀ j, j ≠ 4 → m2 30 j = m 30 j) := by
  refine Sp.ofG (ls := [rV 30, rV 25, iV (p : Int), iV (n : Int), uV, uV]) (by decide +kernel) rfl (Nat.le_of_ble_eq_true rfl) ?_
  have hC := pC_le hV
  have hN := hV.N
  have hT := hV.T
  have hSc := hV.Sc
  have L : ∀ t : Nat, t ≤ n → ∀ mr m1, SB s mr → (∀ t, t < pSc s → mr (39 + pN s) t = ((pRes s p t : Nat) : Int)) → FT m mr → (∀ x, x < 48 → m1 45 x = pCnt s p t x) → (∀ a, a ≠ 45 → m1 a = mr a) → G M_X5_tally 2 0 0 19 [rV 30, rV 25, iV (p : Int), iV (n : Int), rV (39 + pN s), iV (t : Int)] [] (WC ++ w, m1) (fun r h => r = some (rV 45) ∧ ∃ m2, h = (WC ++ w, m2) ∧ SB s m2 ∧ (∀ x, x < 48 → m2 45 x = pCnt s p n x) ∧ (∀ a, a ≠ 30 → (a < 39 ∨ 45 < a) → m2 a = m a) ∧ ∀ j, j ≠ 4 → m2 30 j = m 30 j) := by
    refine loop_up (n) _ ?_
    intro t ht ih mr m1 hBr hres hFr hz hfr
    refine G_iload d_X5_tally_19 rfl ?_
    refine G_iload_n d_X5_tally_21 rfl ?_
    refine G_icmp_ge 45 d_X5_tally_22 (by decide) (by omega) (by omega) (fun c22 => ?_) (fun c22 => ?_)
    · refine G_aload_n d_X5_tally_45 rfl ?_
      refine G_getR (r := 45) (fl_X5_36.r) d_X5_tally_46 (wk_30 _) rfl rfl ?_
      refine G_aret (mc := 0) (ms := 0) (st := []) d_X5_tally_49 rfl ?_
      have hte : t = n := by omega
      rw [hte] at hz
      exact ⟨rfl, m1, rfl, hBr.keep (by omega) (fun a h1 h2 => hfr a (by omega)), hz, fun a h1 h2 => by rw [hfr a (by omega)]; exact hFr.1 a h1 (by omega), fun j hj => by rw [hfr 30 (by decide)]; exact hFr.2 j hj⟩
    · refine G_aload_n d_X5_tally_25 rfl ?_
      refine G_getR (r := 45) (fl_X5_36.r) d_X5_tally_26 (wk_30 _) rfl rfl ?_
      refine G_aload d_X5_tally_29 rfl ?_
      refine G_iload d_X5_tally_31 rfl ?_
      refine G_ialdj (t) d_X5_tally_33 (wk_tu _ (show pN s < 6 by omega)) (by omega) (by omega) (by first | decide | assumption | omega) ?_
      rw [hfr (39 + pN s) (by omega), hres t (by omega)]
      have hrl := pRes_lt hV p t
      refine G_dup2 d_X5_tally_34 rfl rfl ?_
      refine G_ialdj (pRes s p t) d_X5_tally_35 (wk_45 _) (by omega) (by omega) (by decide) ?_
      refine G_iconst d_X5_tally_36 ?_
      refine G_iadd d_X5_tally_37 ?_
      refine G_iastj (pRes s p t) d_X5_tally_38 (wk_45 _) (by omega) (by omega) (by decide) ?_
      refine G_iinc d_X5_tally_39 rfl (by decide) rfl ?_
      refine G_goto 19 d_X5_tally_42 (by decide) ?_
      refine ih (by omega) mr _ hBr hres hFr (fun x hx => ?_) (fun a ha => by rw [upm_off _ _ ha]; exact hfr a ha)
      rw [pCnt_S]
      by_cases e : x = pRes s p t
      · rw [if_pos e, e, upm_same, hz _ (by omega)]
      · rw [if_neg e, upm_ne _ _ (fun _ => e)]; exact hz x hx
  refine G_aload_n d_X5_tally_0 rfl ?_
  refine G_aload_n d_X5_tally_1 rfl ?_
  refine G_iload_n d_X5_tally_2 rfl ?_
  refine G_callV2 cl_X5_66 rfl d_X5_tally_3 (wk_30 _) (Nat.le_of_ble_eq_true rfl) (by decide) (sp_residues s hV hL hB p hp) ?_
  rintro _ _ ⟨rfl, m1, rfl, h1, hres, hF1⟩
  refine G_astore d_X5_tally_6 (by decide) rfl ?_
  refine G_aload_n d_X5_tally_8 rfl ?_
  refine G_getR (r := 45) (fl_X5_36.r) d_X5_tally_9 (wk_30 _) rfl rfl ?_
  refine G_iconst d_X5_tally_12 ?_
  refine G_callS2 cl_X5_51 d_X5_tally_13 (Nat.le_of_ble_eq_true rfl) (by decide) (sp_fillI (wk_45 _) (by decide)) ?_
  rintro _ _ ⟨rfl, rfl⟩
  refine G_iconst d_X5_tally_16 ?_
  refine G_istore d_X5_tally_17 (by decide) rfl ?_
  exact L 0 (by omega) m1 _ h1 hres hF1 (fun x hx => by rw [flm_in _ _ (by omega) (by omega)]; rfl) (fun a ha => flm_off _ _ _ _ ha)
