theorem CI.out {s : Nat → Int} {m m2 : Nat → Nat → Int} (h : CI s m) (hN : pN s ≤ 5) (k : ∀ a, a ≠ 0 → (a < 11 ∨ 24 < a) → a < 64 → m2 a = m a) (k0 : ∀ j, j ≠ 4 → m2 0 j = m 0 j) : CI s m2 :=
  have e : ∀ a, (1 ≤ a ∧ a ≤ 10) ∨ (25 ≤ a ∧ a ≤ 63) → m2 a = m a := fun a ha => k a (by omega) (by omega) (by omega)
  ⟨⟨h.1.1.keep (fun a h1 h2 => e a (by omega)), h.1.2.1.keep (fun a h1 h2 => e a (by omega)), h.1.2.2.1.keep2 (by rw [e 25 (by decide)]) (e 26 (by decide)) (e 27 (by decide)), (k0 7 (by decide)).trans h.1.2.2.2.1, h.1.2.2.2.2.1.keep (by rw [e 25 (by decide)]) (e 28 (by decide)) (e 29 (by decide)), h.1.2.2.2.2.2.1.keep hN (fun a h1 h2 => e a (by omega)), h.1.2.2.2.2.2.2.keep (e 46 (by decide)) (e 47 (by decide)) (e 48 (by decide))⟩, h.2.1.keep (k0 11 (by decide)) (e 50 (by decide)), h.2.2.keep (fun a h1 h2 => e a (by omega)) (fun g => by rw [e 25 (by decide)]; exact g)⟩
def shf (m : Nat → Nat → Int) : Nat → Nat → Int := fun a => m (a + 10)
/-- what is kept -/
def KC (u : Nat → Int) (m : Nat → Nat → Int) : Prop := TO u (shf m) ∧ CFo u (shf m)
theorem KC.keep {u : Nat → Int} {m m2 : Nat → Nat → Int} (h : KC u m) (k : ∀ a, 11 ≤ a → a ≤ 20 → m2 a = m a) : KC u m2 :=
  ⟨h.1.keep (fun a h1 h2 => k (a + 10) (by omega) (by omega)), h.2.keep (fun a h1 h2 => k (a + 10) (by omega) (by omega))⟩
theorem sp_Cfault {w : List KD} {m : Nat → Nat → Int} (a : Int) (hra : -2147483648 ≤ a ∧ a < 2147483648) : Sp M_X9_fault 0 0 0 [rV 0, iV a] (WC ++ w, m) (fun r h => r = some (iV (if a = 0 then m 21 1 else if a = 1 then m 21 2 else -1)) ∧ h = (WC ++ w, m)) := by
  refine Sp.ofG (ls := [rV 0, iV a]) (by decide +kernel) rfl (Nat.le_of_ble_eq_true rfl) ?_
  refine G_iload_n d_X9_fault_0 rfl ?_
  refine G_if_ne 12 d_X9_fault_1 (by decide) (by omega) (fun c1 => ?_) (fun c1 => ?_)
  · refine G_iload_n d_X9_fault_12 rfl ?_
    refine G_iconst d_X9_fault_13 ?_
    refine G_icmp_ne 27 d_X9_fault_14 (by decide) (by omega) (by omega) (fun c14 => ?_) (fun c14 => ?_)
    · refine G_iconst d_X9_fault_27 ?_
      refine G_iret (mc := 0) (ms := 0) (st := []) d_X9_fault_28 rfl ?_
      exact ⟨by rw [if_neg c1, if_neg c14], rfl⟩
    · refine G_aload_n d_X9_fault_17 rfl ?_
      refine G_getR (r := 21) (fl_X9_36.r) d_X9_fault_18 (wk_0 _) rfl rfl ?_
      refine G_getI (fl_X9_213.r) d_X9_fault_21 (wk_21 _) rfl ?_
      refine G_goto 28 d_X9_fault_24 (by decide) ?_
      refine G_iret (mc := 0) (ms := 0) (st := []) d_X9_fault_28 rfl ?_
      exact ⟨by rw [if_neg c1, if_pos c14], rfl⟩
  · refine G_aload_n d_X9_fault_4 rfl ?_
    refine G_getR (r := 21) (fl_X9_36.r) d_X9_fault_5 (wk_0 _) rfl rfl ?_
    refine G_getI (fl_X9_210.r) d_X9_fault_8 (wk_21 _) rfl ?_
    refine G_iret (mc := 0) (ms := 0) (st := []) d_X9_fault_11 rfl ?_
    exact ⟨by rw [if_pos c1], rfl⟩
theorem sp_Cend {w : List KD} {m : Nat → Nat → Int} (a : Int) (hra : -2147483648 ≤ a ∧ a < 2147483648) (hz : 0 ≤ m 21 0 ∧ m 21 0 ≤ 400) : Sp M_X9_end 0 0 0 [rV 0, iV a] (WC ++ w, m) (fun r h => r = some (iV (if 0 ≤ a ∧ a ≤ m 21 0 then 1 else 0)) ∧ h = (WC ++ w, if 0 ≤ a ∧ a ≤ m 21 0 then upm m 21 0 a else m)) := by
  refine Sp.ofG (ls := [rV 0, iV a]) (by decide +kernel) rfl (Nat.le_of_ble_eq_true rfl) ?_
  refine G_iload_n d_X9_end_0 rfl ?_
  refine G_if_lt 15 d_X9_end_1 (by decide) (by omega) (fun c1 => ?_) (fun c1 => ?_)
  · refine G_iconst d_X9_end_15 ?_
    refine G_zret (mc := 0) (ms := 0) (st := []) d_X9_end_16 rfl (by omega) ?_
    exact ⟨by rw [if_neg (by omega)], by rw [if_neg (by omega)]⟩
  · refine G_iload_n d_X9_end_4 rfl ?_
    refine G_aload_n d_X9_end_5 rfl ?_
    refine G_getR (r := 21) (fl_X9_36.r) d_X9_end_6 (wk_0 _) rfl rfl ?_
    refine G_getI (fl_X9_187.r) d_X9_end_9 (wk_21 _) rfl ?_
    refine G_icmp_le 17 d_X9_end_12 (by decide) (by omega) (by omega) (fun c12 => ?_) (fun c12 => ?_)
    · refine G_aload_n d_X9_end_17 rfl ?_
      refine G_getR (r := 21) (fl_X9_36.r) d_X9_end_18 (wk_0 _) rfl rfl ?_
      refine G_iload_n d_X9_end_21 rfl ?_
      refine G_putII fl_X9_187 d_X9_end_22 (wk_21 _) rfl ?_
      refine G_iconst d_X9_end_25 ?_
      refine G_zret (mc := 0) (ms := 0) (st := []) d_X9_end_26 rfl (by omega) ?_
      exact ⟨by rw [if_pos (by omega)], by rw [if_pos (by omega)]⟩
    · refine G_iconst d_X9_end_15 ?_
      refine G_zret (mc := 0) (ms := 0) (st := []) d_X9_end_16 rfl (by omega) ?_
      exact ⟨by rw [if_neg (by omega)], by rw [if_neg (by omega)]⟩
def pkM (m : Nat → Nat → Int) : Nat → Nat → Int := cpm (cpm (cpm (cpm (upm (upm m 11 0 (m 1 0)) 11 1 (m 1 1)) 2 12 5) 3 13 5) 4 14 35) 5 15 2401
def ckM (m : Nat → Nat → Int) : Nat → Nat → Int := cpm (cpm (cpm (cpm (upm (upm m 16 0 (m 6 0)) 16 1 (m 6 1)) 7 17 4) 8 18 24) 9 19 144) 10 20 6
def pqM (m : Nat → Nat → Int) : Nat → Nat → Int := cpm (cpm (cpm (cpm (upm (upm m 1 0 (m 11 0)) 1 1 (m 11 1)) 12 2 5) 13 3 5) 14 4 35) 15 5 2401
def cqM (m : Nat → Nat → Int) : Nat → Nat → Int := cpm (cpm (cpm (cpm (upm (upm m 6 0 (m 16 0)) 6 1 (m 16 1)) 17 7 4) 18 8 24) 19 9 144) 20 10 6
theorem cpm_in {m : Nat → Nat → Int} {a0 a n j : Nat} (h : j < n) : cpm m a0 a n a j = m a0 j := by unfold cpm; rw [if_pos ⟨rfl, h⟩]
theorem pkM_off (m : Nat → Nat → Int) {a : Nat} (h : a < 11 ∨ 15 < a) : pkM m a = m a := by
  unfold pkM
  rw [cpm_off _ (by omega), cpm_off _ (by omega), cpm_off _ (by omega), cpm_off _ (by omega), upm_off _ _ (by omega), upm_off _ _ (by omega)]
theorem ckM_off (m : Nat → Nat → Int) {a : Nat} (h : a < 16 ∨ 20 < a) : ckM m a = m a := by
  unfold ckM
  rw [cpm_off _ (by omega), cpm_off _ (by omega), cpm_off _ (by omega), cpm_off _ (by omega), upm_off _ _ (by omega), upm_off _ _ (by omega)]
theorem pqM_off (m : Nat → Nat → Int) {a : Nat} (h : a < 1 ∨ 5 < a) : pqM m a = m a := by
  unfold pqM
  rw [cpm_off _ (by omega), cpm_off _ (by omega), cpm_off _ (by omega), cpm_off _ (by omega), upm_off _ _ (by omega), upm_off _ _ (by omega)]
theorem cqM_off (m : Nat → Nat → Int) {a : Nat} (h : a < 6 ∨ 10 < a) : cqM m a = m a := by
  unfold cqM
  rw [cpm_off _ (by omega), cpm_off _ (by omega), cpm_off _ (by omega), cpm_off _ (by omega), upm_off _ _ (by omega), upm_off _ _ (by omega)]
theorem TO_pk {s : Nat → Int} {m : Nat → Nat → Int} (h : TO s m) : TO s (shf (pkM m)) := by
  obtain ⟨g1, g2, g3, g4, g5, g6⟩ := h
  have e1 : ∀ j, pkM m 11 j = upm (upm m 11 0 (m 1 0)) 11 1 (m 1 1) 11 j := fun j => by unfold pkM; rw [cpm_off _ (by decide), cpm_off _ (by decide), cpm_off _ (by decide), cpm_off _ (by decide)]
  refine ⟨?_, ?_, fun j hj => ?_, fun j hj => ?_, fun j hj => ?_, fun j hj => ?_⟩
  · show pkM m 11 0 = _; rw [e1, upm_ne _ _ (fun _ => by decide), upm_same]; exact g1
  · show pkM m 11 1 = _; rw [e1, upm_same]; exact g2
  · show pkM m 12 j = _; unfold pkM; rw [cpm_off _ (by decide), cpm_off _ (by decide), cpm_off _ (by decide), cpm_in hj, upm_off _ _ (by decide), upm_off _ _ (by decide)]; exact g3 j hj
  · show pkM m 13 j = _; unfold pkM; rw [cpm_off _ (by decide), cpm_off _ (by decide), cpm_in hj, cpm_off _ (by decide), upm_off _ _ (by decide), upm_off _ _ (by decide)]; exact g4 j hj
  · show pkM m 14 j = _; unfold pkM; rw [cpm_off _ (by decide), cpm_in hj, cpm_off _ (by decide), cpm_off _ (by decide), upm_off _ _ (by decide), upm_off _ _ (by decide)]; exact g5 j hj
  · show pkM m 15 j = _; unfold pkM; rw [cpm_in hj, cpm_off _ (by decide), cpm_off _ (by decide), cpm_off _ (by decide), upm_off _ _ (by decide), upm_off _ _ (by decide)]; exact g6 j hj
theorem TO_pq {s : Nat → Int} {m : Nat → Nat → Int} (h : TO s (shf m)) : TO s (pqM m) := by
  obtain ⟨g1, g2, g3, g4, g5, g6⟩ := h
  have e1 : ∀ j, pqM m 1 j = upm (upm m 1 0 (m 11 0)) 1 1 (m 11 1) 1 j := fun j => by unfold pqM; rw [cpm_off _ (by decide), cpm_off _ (by decide), cpm_off _ (by decide), cpm_off _ (by decide)]
  refine ⟨?_, ?_, fun j hj => ?_, fun j hj => ?_, fun j hj => ?_, fun j hj => ?_⟩
  · rw [e1, upm_ne _ _ (fun _ => by decide), upm_same]; exact g1
  · rw [e1, upm_same]; exact g2
  · unfold pqM; rw [cpm_off _ (by decide), cpm_off _ (by decide), cpm_off _ (by decide), cpm_in hj, upm_off _ _ (by decide), upm_off _ _ (by decide)]; exact g3 j hj
  · unfold pqM; rw [cpm_off _ (by decide), cpm_off _ (by decide), cpm_in hj, cpm_off _ (by decide), upm_off _ _ (by decide), upm_off _ _ (by decide)]; exact g4 j hj
  · unfold pqM; rw [cpm_off _ (by decide), cpm_in hj, cpm_off _ (by decide), cpm_off _ (by decide), upm_off _ _ (by decide), upm_off _ _ (by decide)]; exact g5 j hj
  · unfold pqM; rw [cpm_in hj, cpm_off _ (by decide), cpm_off _ (by decide), cpm_off _ (by decide), upm_off _ _ (by decide), upm_off _ _ (by decide)]; exact g6 j hj
theorem CF_ck {s : Nat → Int} {m : Nat → Nat → Int} (h : CFo s m) : CFo s (shf (ckM m)) := by
  obtain ⟨⟨g1, g3, g4, g5, g6⟩, g2⟩ := h
  have e1 : ∀ j, ckM m 16 j = upm (upm m 16 0 (m 6 0)) 16 1 (m 6 1) 16 j := fun j => by unfold ckM; rw [cpm_off _ (by decide), cpm_off _ (by decide), cpm_off _ (by decide), cpm_off _ (by decide)]
  refine ⟨⟨?_, fun j hj => ?_, fun j hj => ?_, fun j hj => ?_, fun j hj => ?_⟩, ?_⟩
  · show ckM m 16 0 = _; rw [e1, upm_ne _ _ (fun _ => by decide), upm_same]; exact g1
  · show ckM m 17 j = _; unfold ckM; rw [cpm_off _ (by decide), cpm_off _ (by decide), cpm_off _ (by decide), cpm_in hj, upm_off _ _ (by decide), upm_off _ _ (by decide)]; exact g3 j hj
  · show ckM m 18 j = _; unfold ckM; rw [cpm_off _ (by decide), cpm_off _ (by decide), cpm_in hj, cpm_off _ (by decide), upm_off _ _ (by decide), upm_off _ _ (by decide)]; exact g4 j hj
  · show ckM m 19 j = _; unfold ckM; rw [cpm_off _ (by decide), cpm_in hj, cpm_off _ (by decide), cpm_off _ (by decide), upm_off _ _ (by decide), upm_off _ _ (by decide)]; exact g5 j hj
  · show ckM m 20 j = _; unfold ckM; rw [cpm_in hj, cpm_off _ (by decide), cpm_off _ (by decide), cpm_off _ (by decide), upm_off _ _ (by decide), upm_off _ _ (by decide)]; exact g6 j hj
  · show ckM m 16 1 = _; rw [e1, upm_same]; exact g2
theorem CF_cq {s : Nat → Int} {m : Nat → Nat → Int} (h : CFo s (shf m)) : CFo s (cqM m) := by
  obtain ⟨⟨g1, g3, g4, g5, g6⟩, g2⟩ := h
  have e1 : ∀ j, cqM m 6 j = upm (upm m 6 0 (m 16 0)) 6 1 (m 16 1) 6 j := fun j => by unfold cqM; rw [cpm_off _ (by decide), cpm_off _ (by decide), cpm_off _ (by decide), cpm_off _ (by decide)]
  refine ⟨⟨?_, fun j hj => ?_, fun j hj => ?_, fun j hj => ?_, fun j hj => ?_⟩, ?_⟩
  · rw [e1, upm_ne _ _ (fun _ => by decide), upm_same]; exact g1
  · unfold cqM; rw [cpm_off _ (by decide), cpm_off _ (by decide), cpm_off _ (by decide), cpm_in hj, upm_off _ _ (by decide), upm_off _ _ (by decide)]; exact g3 j hj
  · unfold cqM; rw [cpm_off _ (by decide), cpm_off _ (by decide), cpm_in hj, cpm_off _ (by decide), upm_off _ _ (by decide), upm_off _ _ (by decide)]; exact g4 j hj
  · unfold cqM; rw [cpm_off _ (by decide), cpm_in hj, cpm_off _ (by decide), cpm_off _ (by decide), upm_off _ _ (by decide), upm_off _ _ (by decide)]; exact g5 j hj
  · unfold cqM; rw [cpm_in hj, cpm_off _ (by decide), cpm_off _ (by decide), cpm_off _ (by decide), upm_off _ _ (by decide), upm_off _ _ (by decide)]; exact g6 j hj
  · rw [e1, upm_same]; exact g2
theorem sp_CimageT {w : List KD} {m : Nat → Nat → Int} (s : Nat → Int) (hV : VS s) (hI : CI s m) : Sp M_X9_image 2 0 0 [rV 0, iV 1] (WC ++ w, m) (fun r h => r = some (iV 1) ∧ ∃ m2, h = (WC ++ w, m2) ∧ CI s m2 ∧ KC s m2 ∧ m2 0 4 = 1 ∧ (∀ a, 21 ≤ a → (a < 25 ∨ 63 < a) → m2 a = m a)) := by
  refine Sp.ofG (ls := [rV 0, iV 1]) (by decide +kernel) rfl (Nat.le_of_ble_eq_true rfl) ?_
  have hC := pC_le hV
  have hN := hV.N
  have hT := hV.T
  have hSc := hV.Sc
  refine G_iload_n d_X9_image_0 rfl ?_
  refine G_if_eq 33 d_X9_image_1 (by decide) (by decide) (fun hd => absurd hd (by decide)) (fun _ => ?_)
  refine G_aload_n d_X9_image_4 rfl ?_
  refine G_getR (r := 11) (fl_X9_23.r) d_X9_image_5 (wk_0 _) rfl rfl ?_
  refine G_aload_n d_X9_image_8 rfl ?_
  refine G_getR (r := 1) (fl_X9_12.r) d_X9_image_9 (wk_0 _) rfl rfl ?_
  refine G_callV1 cl_X9_388 rfl d_X9_image_12 (wk_11 _) (Nat.le_of_ble_eq_true rfl) (by decide) (sp_pkeep (fun j hj => by rw [hI.1.1.2.2.2.2.2 j hj]; have := hV.Mk j hj; unfold pMk at this; omega)) ?_
  rintro _ _ ⟨rfl, rfl⟩
  refine G_aload_n d_X9_image_15 rfl ?_
  refine G_getR (r := 16) (fl_X9_26.r) d_X9_image_16 (wk_0 _) rfl rfl ?_
  refine G_aload_n d_X9_image_19 rfl ?_
  refine G_getR (r := 6) (fl_X9_19.r) d_X9_image_20 (wk_0 _) rfl rfl ?_
  have h61 : pkM m 6 1 = if s 3 = 0 then 1 else 0 := by rw [pkM_off _ (by decide)]; exact hI.1.2.1.2
  refine G_callV1 cl_X9_391 rfl d_X9_image_23 (wk_16 _) (Nat.le_of_ble_eq_true rfl) (by decide) (sp_ckeep (m := pkM m) (by rw [h61]; split <;> omega)) ?_
  rintro _ _ ⟨rfl, rfl⟩
  refine G_aload_n d_X9_image_26 rfl ?_
  refine G_iconst d_X9_image_27 ?_
  refine G_putZ fl_X9_29 d_X9_image_28 (wk_0 _) rfl (by omega) ?_
  refine G_iconst d_X9_image_31 ?_
  refine G_zret (mc := 0) (ms := 0) (st := []) d_X9_image_32 rfl (by omega) ?_
  have e : ∀ a, a ≠ 0 → (a < 11 ∨ 20 < a) → upm (ckM (pkM m)) 0 4 1 a = m a := fun a a0 a1 => by rw [upm_off _ _ a0, ckM_off _ (by omega), pkM_off _ (by omega)]
  refine ⟨rfl, upm (ckM (pkM m)) 0 4 1, rfl, hI.out (by omega) (fun a a0 a1 a2 => e a a0 (by omega)) (fun j hj => by rw [upm_ne _ _ (fun _ => hj), ckM_off _ (by decide), pkM_off _ (by decide)]), ⟨?_, ?_⟩, upm_same _ _ _ _, fun a a0 a1 => e a (by omega) (by omega)⟩
  · exact (TO_pk hI.1.1).keep (fun a h1 h2 => by show upm (ckM (pkM m)) 0 4 1 (a + 10) = pkM m (a + 10); rw [upm_off _ _ (by omega), ckM_off _ (by omega)])
  · have h0 : CFo s (pkM m) := hI.1.2.1.keep (fun a h1 h2 => pkM_off _ (by omega))
    exact (CF_ck h0).keep (fun a h1 h2 => by show upm (ckM (pkM m)) 0 4 1 (a + 10) = ckM (pkM m) (a + 10); rw [upm_off _ _ (by omega)])
theorem sp_CimageN {w : List KD} {m : Nat → Nat → Int} (h04 : m 0 4 = 0) : Sp M_X9_image 2 0 0 [rV 0, iV 0] (WC ++ w, m) (fun r h => r = some (iV 0) ∧ h = (WC ++ w, m)) := by
  refine Sp.ofG (ls := [rV 0, iV 0]) (by decide +kernel) rfl (Nat.le_of_ble_eq_true rfl) ?_
  refine G_iload_n d_X9_image_0 rfl ?_
  refine G_if_eq 33 d_X9_image_1 (by decide) (by decide) (fun _ => ?_) (fun hd => absurd hd (by decide))
  refine G_aload_n d_X9_image_33 rfl ?_
  refine G_getIe (v := (0 : Int)) (fl_X9_29.r) d_X9_image_34 (wk_0 _) rfl (h04) ?_
  refine G_if_ne 42 d_X9_image_37 (by decide) (by omega) (fun c37 => ?_) (fun c37 => ?_)
  · exact absurd rfl c37
  · refine G_iconst d_X9_image_40 ?_
    refine G_zret (mc := 0) (ms := 0) (st := []) d_X9_image_41 rfl (by omega) ?_
    exact ⟨rfl, rfl⟩
theorem sp_CimageB {w : List KD} {m : Nat → Nat → Int} (s : Nat → Int) (hV : VS s) (hI : CI s m) (u : Nat → Int) (hU : VS u) (hK : KC u m) (h04 : m 0 4 = 1) : Sp M_X9_image 4 0 0 [rV 0, iV 0] (WC ++ w, m) (fun r h => r = some (iV 1) ∧ ∃ m2, h = (WC ++ w, m2) ∧ CI u m2 ∧ FXo m m2) := by
  refine Sp.ofG (ls := [rV 0, iV 0]) (by decide +kernel) rfl (Nat.le_of_ble_eq_true rfl) ?_
  have hC := pC_le hV
  have hN := hV.N
  have hT := hV.T
  have hSc := hV.Sc
  refine G_iload_n d_X9_image_0 rfl ?_
  refine G_if_eq 33 d_X9_image_1 (by decide) (by decide) (fun _ => ?_) (fun hd => absurd hd (by decide))
  refine G_aload_n d_X9_image_33 rfl ?_
  refine G_getIe (v := (1 : Int)) (fl_X9_29.r) d_X9_image_34 (wk_0 _) rfl (h04) ?_
  refine G_if_ne 42 d_X9_image_37 (by decide) (by omega) (fun c37 => ?_) (fun c37 => ?_)
  · refine G_aload_n d_X9_image_42 rfl ?_
    refine G_getR (r := 1) (fl_X9_12.r) d_X9_image_43 (wk_0 _) rfl rfl ?_
    refine G_aload_n d_X9_image_46 rfl ?_
    refine G_getR (r := 11) (fl_X9_23.r) d_X9_image_47 (wk_0 _) rfl rfl ?_
    refine G_callV1 cl_X9_388 rfl d_X9_image_50 (wk_1 _) (Nat.le_of_ble_eq_true rfl) (by decide) (sp_pback (fun j hj => by have h9 : m 15 j = u (227 + j) := hK.1.2.2.2.2.2 j hj; rw [h9]; have := hU.Mk j hj; unfold pMk at this; omega)) ?_
    rintro _ _ ⟨rfl, rfl⟩
    refine G_aload_n d_X9_image_53 rfl ?_
    refine G_getR (r := 6) (fl_X9_19.r) d_X9_image_54 (wk_0 _) rfl rfl ?_
    refine G_aload_n d_X9_image_57 rfl ?_
    refine G_getR (r := 16) (fl_X9_26.r) d_X9_image_58 (wk_0 _) rfl rfl ?_
    have h61 : pqM m 16 1 = if u 3 = 0 then 1 else 0 := by rw [pqM_off _ (by decide)]; exact hK.2.2
    refine G_callV1 cl_X9_391 rfl d_X9_image_61 (wk_6 _) (Nat.le_of_ble_eq_true rfl) (by decide) (sp_cback (m := pqM m) (by rw [h61]; split <;> omega)) ?_
    rintro _ _ ⟨rfl, rfl⟩
    refine G_aload_n d_X9_image_64 rfl ?_
    have e : ∀ a, (a = 0 ∨ 10 < a) → cqM (pqM m) a = m a := fun a ha => by rw [cqM_off _ (by omega), pqM_off _ (by omega)]
    have hTO : TO u (cqM (pqM m)) := (TO_pq hK.1).keep (fun a h1 h2 => cqM_off _ (by omega))
    have hCF : CFo u (cqM (pqM m)) := CF_cq (hK.2.keep (fun a h1 h2 => by show pqM m (a + 10) = m (a + 10); rw [pqM_off _ (by omega)]))
    refine G_callV0 cl_X9_107 rfl d_X9_image_65 (wk_0 _) (Nat.le_of_ble_eq_true rfl) (by decide) (sp_CpathsTold (m := cqM (pqM m)) u hU hTO hCF (hI.1.2.2.2.2.2.2.keep (e 46 (by decide)) (e 47 (by decide)) (e 48 (by decide)))) ?_
    rintro _ _ ⟨rfl, m2, rfl, h2, hF2⟩
    refine G_iconst d_X9_image_68 ?_
    refine G_zret (mc := 0) (ms := 0) (st := []) d_X9_image_69 rfl (by omega) ?_
    exact ⟨rfl, m2, rfl, h2, FXo.trans ⟨fun a h1 h3 => e a (by omega), by rw [e 0 (by decide)]⟩ hF2⟩
  · exact absurd c37 (by decide)
