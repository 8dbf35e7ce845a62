/-- the reference's row of numbers -/
def MO (s : Nat → Int) (m : Nat → Nat → Int) : Prop := ∀ j, j < 2628 → m 65 j = s j
/-- the reference's paths -/
def MP (s : Nat → Int) (m : Nat → Nat → Int) : Prop := m 64 3 = (pC s : Int) ∧ ∀ p, p < pC s → ∀ k, k < pN s → m 66 (5 * p + k) = pO s p k
theorem pO_rng {s : Nat → Int} (h : VS s) (p k : Nat) : -3 ≤ pO s p k ∧ pO s p k ≤ 3 := by
  have h1 := h.M
  have := dg_rng (pN s) (pM s) ((pths s).getD p 0) k h1.1
  unfold pO
  omega
theorem pCh_rng {s : Nat → Int} (h : VS s) (p k : Nat) : -6 ≤ pCh s p k ∧ pCh s p k ≤ 6 := by
  have h1 := pO_rng h p k
  have h2 := pO_rng h p (k - 1)
  have h3 := pO_rng h p 0
  unfold pCh
  by_cases e : k = 0
  · rw [if_pos e]; omega
  · rw [if_neg e]; omega
theorem pC_le {s : Nat → Int} (h : VS s) : pC s ≤ 2401 := by
  have h1 := h.M
  have h2 := h.N
  have h3 := nC_le (n := pN s) (M := pM s) ⟨h2.1, h2.2.1⟩ ⟨h1.1, h1.2.1⟩
  have := kl_len_le (pN s) (pM s) (pK s) (nC (pN s) (pM s))
  unfold pC pths
  omega
theorem VS.K {s : Nat → Int} (h : VS s) (k : Nat) (hk : k < 5) : 0 ≤ pK s k ∧ pK s k ≤ 2 := by
  obtain ⟨-, -, -, -, h, -⟩ := h
  exact h k hk
theorem VS.G {s : Nat → Int} (h : VS s) (k : Nat) (hk : k < 5) : -9 ≤ pG s k ∧ pG s k ≤ 9 := by
  obtain ⟨-, -, -, -, -, h, -⟩ := h
  exact h k hk
theorem VS.Mk {s : Nat → Int} (h : VS s) (p : Nat) (hp : p < 2401) : 0 ≤ pMk s p ∧ pMk s p ≤ 2 := by
  obtain ⟨-, -, -, -, -, -, -, -, -, -, -, -, h⟩ := h
  exact h p hp
theorem VS.F {s : Nat → Int} (h : VS s) : 0 ≤ s 3 ∧ s 3 ≤ 1 := by
  obtain ⟨-, -, -, h, -⟩ := h
  exact h
theorem VS.W {s : Nat → Int} (h : VS s) (k c : Nat) (hk : k < 5) (hc : c < 7) : 0 ≤ pW s k c ∧ pW s k c ≤ 9 := by
  obtain ⟨-, -, -, -, -, -, h, -⟩ := h
  have := h (7 * k + c) (by omega)
  unfold pW
  rw [show 14 + 7 * k + c = 14 + (7 * k + c) by omega]
  omega
theorem sp_Mn {w : List KD} {m : Nat → Nat → Int} (s : Nat → Int) (hV : VS s) (hO : MO s m) : Sp M_X10_n 0 0 0 [rV 64] (WC ++ (WM ++ w), m) (fun r h => r = some (iV (pN s : Int)) ∧ h = (WC ++ (WM ++ w), m)) := by
  refine Sp.ofG (ls := [rV 64]) (by decide +kernel) rfl (Nat.le_of_ble_eq_true rfl) ?_
  have h0 := hO (0) (by omega)
  have h1 := hV.N
  refine G_aload_n d_X10_n_0 rfl ?_
  refine G_getR (r := 65) (fl_X10_7.r) d_X10_n_1 (wk_64 _) rfl rfl ?_
  refine G_iconst d_X10_n_4 ?_
  refine G_ialdj (0) d_X10_n_5 (wk_65 _) (by omega) (by omega) (by decide) ?_
  refine G_iconst d_X10_n_6 ?_
  refine G_iadd d_X10_n_7 ?_
  refine G_iret (mc := 0) (ms := 0) (st := []) d_X10_n_8 rfl ?_
  exact ⟨by congr 2; omega, rfl⟩
theorem sp_Mm {w : List KD} {m : Nat → Nat → Int} (s : Nat → Int) (hV : VS s) (hO : MO s m) : Sp M_X10_m 0 0 0 [rV 64] (WC ++ (WM ++ w), m) (fun r h => r = some (iV (pM s : Int)) ∧ h = (WC ++ (WM ++ w), m)) := by
  refine Sp.ofG (ls := [rV 64]) (by decide +kernel) rfl (Nat.le_of_ble_eq_true rfl) ?_
  have h0 := hO (1) (by omega)
  have h1 := hV.M
  refine G_aload_n d_X10_m_0 rfl ?_
  refine G_getR (r := 65) (fl_X10_7.r) d_X10_m_1 (wk_64 _) rfl rfl ?_
  refine G_iconst d_X10_m_4 ?_
  refine G_ialdj (1) d_X10_m_5 (wk_65 _) (by omega) (by omega) (by decide) ?_
  refine G_iconst d_X10_m_6 ?_
  refine G_iadd d_X10_m_7 ?_
  refine G_iret (mc := 0) (ms := 0) (st := []) d_X10_m_8 rfl ?_
  exact ⟨by congr 2; omega, rfl⟩
theorem sp_Mt {w : List KD} {m : Nat → Nat → Int} (s : Nat → Int) (hV : VS s) (hO : MO s m) : Sp M_X10_turnOf 0 0 0 [rV 64] (WC ++ (WM ++ w), m) (fun r h => r = some (iV (pT s : Int)) ∧ h = (WC ++ (WM ++ w), m)) := by
  refine Sp.ofG (ls := [rV 64]) (by decide +kernel) rfl (Nat.le_of_ble_eq_true rfl) ?_
  have h0 := hO (2) (by omega)
  have h1 := hV.T
  refine G_aload_n d_X10_turnOf_0 rfl ?_
  refine G_getR (r := 65) (fl_X10_7.r) d_X10_turnOf_1 (wk_64 _) rfl rfl ?_
  refine G_iconst d_X10_turnOf_4 ?_
  refine G_ialdj (2) d_X10_turnOf_5 (wk_65 _) (by omega) (by omega) (by decide) ?_
  refine G_bipush d_X10_turnOf_6 (by decide) ?_
  refine G_iadd d_X10_turnOf_8 ?_
  refine G_iret (mc := 0) (ms := 0) (st := []) d_X10_turnOf_9 rfl ?_
  exact ⟨by congr 2; omega, rfl⟩
theorem sp_Mfollows {w : List KD} {m : Nat → Nat → Int} (s : Nat → Int) (hV : VS s) (hO : MO s m) : Sp M_X10_follows 0 0 0 [rV 64] (WC ++ (WM ++ w), m) (fun r h => r = some (iV (if s 3 = 0 then 1 else 0)) ∧ h = (WC ++ (WM ++ w), m)) := by
  refine Sp.ofG (ls := [rV 64]) (by decide +kernel) rfl (Nat.le_of_ble_eq_true rfl) ?_
  have h0 := hO (3) (by omega)
  have h1 := hV.F
  refine G_aload_n d_X10_follows_0 rfl ?_
  refine G_getR (r := 65) (fl_X10_7.r) d_X10_follows_1 (wk_64 _) rfl rfl ?_
  refine G_iconst d_X10_follows_4 ?_
  refine G_ialdj (3) d_X10_follows_5 (wk_65 _) (by omega) (by omega) (by decide) ?_
  refine G_if_ne 13 d_X10_follows_6 (by decide) (by omega) (fun c6 => ?_) (fun c6 => ?_)
  · refine G_iconst d_X10_follows_13 ?_
    refine G_zret (mc := 0) (ms := 0) (st := []) d_X10_follows_14 rfl (by omega) ?_
    exact ⟨by first | rw [if_pos (by omega)] | rw [if_neg (by omega)], rfl⟩
  · refine G_iconst d_X10_follows_9 ?_
    refine G_goto 14 d_X10_follows_10 (by decide) ?_
    refine G_zret (mc := 0) (ms := 0) (st := []) d_X10_follows_14 rfl (by omega) ?_
    exact ⟨by first | rw [if_pos (by omega)] | rw [if_neg (by omega)], rfl⟩
theorem sp_MweightOf {w : List KD} {m : Nat → Nat → Int} (s : Nat → Int) (hV : VS s) (hO : MO s m) (k c : Nat) (hk : k < 5) (hc : c < 7) : Sp M_X10_weightOf 0 0 0 [rV 64, iV (k : Int), iV (c : Int)] (WC ++ (WM ++ w), m) (fun r h => r = some (iV (pW s k c)) ∧ h = (WC ++ (WM ++ w), m)) := by
  refine Sp.ofG (ls := [rV 64, iV (k : Int), iV (c : Int)]) (by decide +kernel) rfl (Nat.le_of_ble_eq_true rfl) ?_
  have h0 := hO (14 + 7 * k + c) (by omega)
  refine G_aload_n d_X10_weightOf_0 rfl ?_
  refine G_getR (r := 65) (fl_X10_7.r) d_X10_weightOf_1 (wk_64 _) rfl rfl ?_
  refine G_bipush d_X10_weightOf_4 (by decide) ?_
  refine G_bipush d_X10_weightOf_6 (by decide) ?_
  refine G_iload_n d_X10_weightOf_8 rfl ?_
  refine G_imul d_X10_weightOf_9 ?_
  refine G_iadd d_X10_weightOf_10 ?_
  refine G_iload_n d_X10_weightOf_11 rfl ?_
  refine G_iadd d_X10_weightOf_12 ?_
  refine G_ialdj (14 + 7 * k + c) d_X10_weightOf_13 (wk_65 _) (by omega) (by omega) (by decide) ?_
  refine G_iconst d_X10_weightOf_14 ?_
  refine G_iadd d_X10_weightOf_15 ?_
  refine G_iret (mc := 0) (ms := 0) (st := []) d_X10_weightOf_16 rfl ?_
  exact ⟨by rw [h0]; rfl, rfl⟩
theorem sp_MlengthOf {w : List KD} {m : Nat → Nat → Int} (s : Nat → Int) (hV : VS s) (hO : MO s m) (j : Nat) (hj : j < 4) : Sp M_X10_lengthOf 0 0 0 [rV 64, iV (j : Int)] (WC ++ (WM ++ w), m) (fun r h => r = some (iV (pL s j : Int)) ∧ h = (WC ++ (WM ++ w), m)) := by
  refine Sp.ofG (ls := [rV 64, iV (j : Int)]) (by decide +kernel) rfl (Nat.le_of_ble_eq_true rfl) ?_
  have h0 := hO (49 + j) (by omega)
  have h1 := hV.L j hj
  refine G_aload_n d_X10_lengthOf_0 rfl ?_
  refine G_getR (r := 65) (fl_X10_7.r) d_X10_lengthOf_1 (wk_64 _) rfl rfl ?_
  refine G_bipush d_X10_lengthOf_4 (by decide) ?_
  refine G_iload_n d_X10_lengthOf_6 rfl ?_
  refine G_iadd d_X10_lengthOf_7 ?_
  refine G_ialdj (49 + j) d_X10_lengthOf_8 (wk_65 _) (by omega) (by omega) (by decide) ?_
  refine G_iconst d_X10_lengthOf_9 ?_
  refine G_iadd d_X10_lengthOf_10 ?_
  refine G_iret (mc := 0) (ms := 0) (st := []) d_X10_lengthOf_11 rfl ?_
  exact ⟨by congr 2; omega, rfl⟩
theorem sp_MstepOf {w : List KD} {m : Nat → Nat → Int} (s : Nat → Int) (hV : VS s) (hO : MO s m) (k j : Nat) (hk : k < 6) (hj : j < 4) : Sp M_X10_stepOf 0 0 0 [rV 64, iV (k : Int), iV (j : Int)] (WC ++ (WM ++ w), m) (fun r h => r = some (iV (pS s k j)) ∧ h = (WC ++ (WM ++ w), m)) := by
  refine Sp.ofG (ls := [rV 64, iV (k : Int), iV (j : Int)]) (by decide +kernel) rfl (Nat.le_of_ble_eq_true rfl) ?_
  have h0 := hO (53 + 4 * k + j) (by omega)
  refine G_aload_n d_X10_stepOf_0 rfl ?_
  refine G_getR (r := 65) (fl_X10_7.r) d_X10_stepOf_1 (wk_64 _) rfl rfl ?_
  refine G_bipush d_X10_stepOf_4 (by decide) ?_
  refine G_iconst d_X10_stepOf_6 ?_
  refine G_iload_n d_X10_stepOf_7 rfl ?_
  refine G_imul d_X10_stepOf_8 ?_
  refine G_iadd d_X10_stepOf_9 ?_
  refine G_iload_n d_X10_stepOf_10 rfl ?_
  refine G_iadd d_X10_stepOf_11 ?_
  refine G_ialdj (53 + 4 * k + j) d_X10_stepOf_12 (wk_65 _) (by omega) (by omega) (by decide) ?_
  refine G_iret (mc := 0) (ms := 0) (st := []) d_X10_stepOf_13 rfl ?_
  exact ⟨by rw [h0]; rfl, rfl⟩
theorem sp_MrowLong {w : List KD} {m : Nat → Nat → Int} (s : Nat → Int) (hV : VS s) (hO : MO s m) (k : Nat) (hk : k < 6) : Sp M_X10_rowLong 0 0 0 [rV 64, iV (k : Int)] (WC ++ (WM ++ w), m) (fun r h => r = some (iV (pRL s k : Int)) ∧ h = (WC ++ (WM ++ w), m)) := by
  refine Sp.ofG (ls := [rV 64, iV (k : Int)]) (by decide +kernel) rfl (Nat.le_of_ble_eq_true rfl) ?_
  have h0 := hO (77 + k) (by omega)
  have h1 := hV.RL k hk
  refine G_aload_n d_X10_rowLong_0 rfl ?_
  refine G_getR (r := 65) (fl_X10_7.r) d_X10_rowLong_1 (wk_64 _) rfl rfl ?_
  refine G_bipush d_X10_rowLong_4 (by decide) ?_
  refine G_iload_n d_X10_rowLong_6 rfl ?_
  refine G_iadd d_X10_rowLong_7 ?_
  refine G_ialdj (77 + k) d_X10_rowLong_8 (wk_65 _) (by omega) (by omega) (by decide) ?_
  refine G_iconst d_X10_rowLong_9 ?_
  refine G_iadd d_X10_rowLong_10 ?_
  refine G_iret (mc := 0) (ms := 0) (st := []) d_X10_rowLong_11 rfl ?_
  exact ⟨by congr 2; omega, rfl⟩
theorem sp_MrowOf {w : List KD} {m : Nat → Nat → Int} (s : Nat → Int) (hV : VS s) (hO : MO s m) (k i : Nat) (hk : k < 6) (hi : i < 24) : Sp M_X10_rowOf 0 0 0 [rV 64, iV (k : Int), iV (i : Int)] (WC ++ (WM ++ w), m) (fun r h => r = some (iV (pR s k i)) ∧ h = (WC ++ (WM ++ w), m)) := by
  refine Sp.ofG (ls := [rV 64, iV (k : Int), iV (i : Int)]) (by decide +kernel) rfl (Nat.le_of_ble_eq_true rfl) ?_
  have h0 := hO (83 + 24 * k + i) (by omega)
  refine G_aload_n d_X10_rowOf_0 rfl ?_
  refine G_getR (r := 65) (fl_X10_7.r) d_X10_rowOf_1 (wk_64 _) rfl rfl ?_
  refine G_bipush d_X10_rowOf_4 (by decide) ?_
  refine G_bipush d_X10_rowOf_6 (by decide) ?_
  refine G_iload_n d_X10_rowOf_8 rfl ?_
  refine G_imul d_X10_rowOf_9 ?_
  refine G_iadd d_X10_rowOf_10 ?_
  refine G_iload_n d_X10_rowOf_11 rfl ?_
  refine G_iadd d_X10_rowOf_12 ?_
  refine G_ialdj (83 + 24 * k + i) d_X10_rowOf_13 (wk_65 _) (by omega) (by omega) (by decide) ?_
  refine G_iret (mc := 0) (ms := 0) (st := []) d_X10_rowOf_14 rfl ?_
  exact ⟨by rw [h0]; rfl, rfl⟩
theorem sp_MisPulse {w : List KD} {m : Nat → Nat → Int} (s : Nat → Int) (hV : VS s) (hO : MO s m) (p : Int) (hrp : -2147483648 ≤ p ∧ p < 2147483648) : Sp M_X10_isPulse 1 0 0 [rV 64, iV p] (WC ++ (WM ++ w), m) (fun r h => r = some (iV (if 0 ≤ p ∧ p < pN s then 1 else 0)) ∧ h = (WC ++ (WM ++ w), m)) := by
  refine Sp.ofG (ls := [rV 64, iV p]) (by decide +kernel) rfl (Nat.le_of_ble_eq_true rfl) ?_
  have h1 := hV.N
  refine G_iload_n d_X10_isPulse_0 rfl ?_
  refine G_if_lt 16 d_X10_isPulse_1 (by decide) (by omega) (fun c1 => ?_) (fun c1 => ?_)
  · refine G_iconst d_X10_isPulse_16 ?_
    refine G_zret (mc := 0) (ms := 0) (st := []) d_X10_isPulse_17 rfl (by omega) ?_
    exact ⟨by first | rw [if_pos (by omega)] | rw [if_neg (by omega)], rfl⟩
  · refine G_iload_n d_X10_isPulse_4 rfl ?_
    refine G_aload_n d_X10_isPulse_5 rfl ?_
    refine G_callV0 cl_X10_11 rfl d_X10_isPulse_6 (wk_64 _) (Nat.le_of_ble_eq_true rfl) (by decide) (sp_Mn s hV hO) ?_
    rintro _ _ ⟨rfl, rfl⟩
    refine G_icmp_ge 16 d_X10_isPulse_9 (by decide) (by omega) (by omega) (fun c9 => ?_) (fun c9 => ?_)
    · refine G_iconst d_X10_isPulse_16 ?_
      refine G_zret (mc := 0) (ms := 0) (st := []) d_X10_isPulse_17 rfl (by omega) ?_
      exact ⟨by first | rw [if_pos (by omega)] | rw [if_neg (by omega)], rfl⟩
    · refine G_iconst d_X10_isPulse_12 ?_
      refine G_goto 17 d_X10_isPulse_13 (by decide) ?_
      refine G_zret (mc := 0) (ms := 0) (st := []) d_X10_isPulse_17 rfl (by omega) ?_
      exact ⟨by first | rw [if_pos (by omega)] | rw [if_neg (by omega)], rfl⟩
theorem sp_MisSource {w : List KD} {m : Nat → Nat → Int} (s : Nat → Int) (hV : VS s) (hO : MO s m) (p : Int) (hrp : -2147483648 ≤ p ∧ p < 2147483648) : Sp M_X10_isSource 1 0 0 [rV 64, iV p] (WC ++ (WM ++ w), m) (fun r h => r = some (iV (if 0 ≤ p ∧ p ≤ pN s then 1 else 0)) ∧ h = (WC ++ (WM ++ w), m)) := by
  refine Sp.ofG (ls := [rV 64, iV p]) (by decide +kernel) rfl (Nat.le_of_ble_eq_true rfl) ?_
  have h1 := hV.N
  refine G_iload_n d_X10_isSource_0 rfl ?_
  refine G_if_lt 16 d_X10_isSource_1 (by decide) (by omega) (fun c1 => ?_) (fun c1 => ?_)
  · refine G_iconst d_X10_isSource_16 ?_
    refine G_zret (mc := 0) (ms := 0) (st := []) d_X10_isSource_17 rfl (by omega) ?_
    exact ⟨by first | rw [if_pos (by omega)] | rw [if_neg (by omega)], rfl⟩
  · refine G_iload_n d_X10_isSource_4 rfl ?_
    refine G_aload_n d_X10_isSource_5 rfl ?_
    refine G_callV0 cl_X10_11 rfl d_X10_isSource_6 (wk_64 _) (Nat.le_of_ble_eq_true rfl) (by decide) (sp_Mn s hV hO) ?_
    rintro _ _ ⟨rfl, rfl⟩
    refine G_icmp_gt 16 d_X10_isSource_9 (by decide) (by omega) (by omega) (fun c9 => ?_) (fun c9 => ?_)
    · refine G_iconst d_X10_isSource_16 ?_
      refine G_zret (mc := 0) (ms := 0) (st := []) d_X10_isSource_17 rfl (by omega) ?_
      exact ⟨by first | rw [if_pos (by omega)] | rw [if_neg (by omega)], rfl⟩
    · refine G_iconst d_X10_isSource_12 ?_
      refine G_goto 17 d_X10_isSource_13 (by decide) ?_
      refine G_zret (mc := 0) (ms := 0) (st := []) d_X10_isSource_17 rfl (by omega) ?_
      exact ⟨by first | rw [if_pos (by omega)] | rw [if_neg (by omega)], rfl⟩
theorem sp_MisCounter {w : List KD} {m : Nat → Nat → Int} (p : Int) (hrp : -2147483648 ≤ p ∧ p < 2147483648) : Sp M_X10_isCounter 0 0 0 [rV 64, iV p] (WC ++ (WM ++ w), m) (fun r h => r = some (iV (if 0 ≤ p ∧ p < 4 then 1 else 0)) ∧ h = (WC ++ (WM ++ w), m)) := by
  refine Sp.ofG (ls := [rV 64, iV p]) (by decide +kernel) rfl (Nat.le_of_ble_eq_true rfl) ?_
  refine G_iload_n d_X10_isCounter_0 rfl ?_
  refine G_if_lt 13 d_X10_isCounter_1 (by decide) (by omega) (fun c1 => ?_) (fun c1 => ?_)
  · refine G_iconst d_X10_isCounter_13 ?_
    refine G_zret (mc := 0) (ms := 0) (st := []) d_X10_isCounter_14 rfl (by omega) ?_
    exact ⟨by first | rw [if_pos (by omega)] | rw [if_neg (by omega)], rfl⟩
  · refine G_iload_n d_X10_isCounter_4 rfl ?_
    refine G_iconst d_X10_isCounter_5 ?_
    refine G_icmp_ge 13 d_X10_isCounter_6 (by decide) (by omega) (by omega) (fun c6 => ?_) (fun c6 => ?_)
    · refine G_iconst d_X10_isCounter_13 ?_
      refine G_zret (mc := 0) (ms := 0) (st := []) d_X10_isCounter_14 rfl (by omega) ?_
      exact ⟨by first | rw [if_pos (by omega)] | rw [if_neg (by omega)], rfl⟩
    · refine G_iconst d_X10_isCounter_9 ?_
      refine G_goto 14 d_X10_isCounter_10 (by decide) ?_
      refine G_zret (mc := 0) (ms := 0) (st := []) d_X10_isCounter_14 rfl (by omega) ?_
      exact ⟨by first | rw [if_pos (by omega)] | rw [if_neg (by omega)], rfl⟩
theorem sp_MisIn {w : List KD} {m : Nat → Nat → Int} (v : Int) (hrv : -2147483648 ≤ v ∧ v < 2147483648) (a : Int) (hra : -2147483648 ≤ a ∧ a < 2147483648) (b : Int) (hrb : -2147483648 ≤ b ∧ b < 2147483648) : Sp M_X10_isIn 0 0 0 [rV 64, iV v, iV a, iV b] (WC ++ (WM ++ w), m) (fun r h => r = some (iV (if a ≤ v ∧ v ≤ b then 1 else 0)) ∧ h = (WC ++ (WM ++ w), m)) := by
  refine Sp.ofG (ls := [rV 64, iV v, iV a, iV b]) (by decide +kernel) rfl (Nat.le_of_ble_eq_true rfl) ?_
  refine G_iload_n d_X10_isIn_0 rfl ?_
  refine G_iload_n d_X10_isIn_1 rfl ?_
  refine G_icmp_lt 14 d_X10_isIn_2 (by decide) (by omega) (by omega) (fun c2 => ?_) (fun c2 => ?_)
  · refine G_iconst d_X10_isIn_14 ?_
    refine G_zret (mc := 0) (ms := 0) (st := []) d_X10_isIn_15 rfl (by omega) ?_
    exact ⟨by first | rw [if_pos (by omega)] | rw [if_neg (by omega)], rfl⟩
  · refine G_iload_n d_X10_isIn_5 rfl ?_
    refine G_iload_n d_X10_isIn_6 rfl ?_
    refine G_icmp_gt 14 d_X10_isIn_7 (by decide) (by omega) (by omega) (fun c7 => ?_) (fun c7 => ?_)
    · refine G_iconst d_X10_isIn_14 ?_
      refine G_zret (mc := 0) (ms := 0) (st := []) d_X10_isIn_15 rfl (by omega) ?_
      exact ⟨by first | rw [if_pos (by omega)] | rw [if_neg (by omega)], rfl⟩
    · refine G_iconst d_X10_isIn_10 ?_
      refine G_goto 15 d_X10_isIn_11 (by decide) ?_
      refine G_zret (mc := 0) (ms := 0) (st := []) d_X10_isIn_15 rfl (by omega) ?_
      exact ⟨by first | rw [if_pos (by omega)] | rw [if_neg (by omega)], rfl⟩
theorem sp_Msize {w : List KD} {m : Nat → Nat → Int} {x : Int} (hx : -2147483648 < x ∧ x < 2147483648) : Sp M_X10_size 0 0 0 [rV 64, iV x] (WC ++ (WM ++ w), m) (fun r h => r = some (iV (x.natAbs : Int)) ∧ h = (WC ++ (WM ++ w), m)) := by
  refine Sp.ofG (ls := [rV 64, iV x]) (by decide +kernel) rfl (Nat.le_of_ble_eq_true rfl) ?_
  refine G_iload_n d_X10_size_0 rfl ?_
  refine G_if_ge 9 d_X10_size_1 (by decide) (by omega) (fun c1 => ?_) (fun c1 => ?_)
  · refine G_iload_n d_X10_size_9 rfl ?_
    refine G_iret (mc := 0) (ms := 0) (st := []) d_X10_size_10 rfl ?_
    exact ⟨by congr 2; omega, rfl⟩
  · refine G_iload_n d_X10_size_4 rfl ?_
    refine G_ineg d_X10_size_5 ?_
    refine G_goto 10 d_X10_size_6 (by decide) ?_
    refine G_iret (mc := 0) (ms := 0) (st := []) d_X10_size_10 rfl ?_
    exact ⟨by congr 2; omega, rfl⟩
theorem sp_Mone {w : List KD} {m : Nat → Nat → Int} {x : Int} (hx : x = 0 ∨ x = 1) : Sp M_X10_one 0 0 0 [rV 64, iV x] (WC ++ (WM ++ w), m) (fun r h => r = some (iV x) ∧ h = (WC ++ (WM ++ w), m)) := by
  refine Sp.ofG (ls := [rV 64, iV x]) (by decide +kernel) rfl (Nat.le_of_ble_eq_true rfl) ?_
  refine G_iload_n d_X10_one_0 rfl ?_
  refine G_if_eq 8 d_X10_one_1 (by decide) (by omega) (fun c1 => ?_) (fun c1 => ?_)
  · refine G_iconst d_X10_one_8 ?_
    refine G_iret (mc := 0) (ms := 0) (st := []) d_X10_one_9 rfl ?_
    exact ⟨by congr 2; omega, rfl⟩
  · refine G_iconst d_X10_one_4 ?_
    refine G_goto 9 d_X10_one_5 (by decide) ?_
    refine G_iret (mc := 0) (ms := 0) (st := []) d_X10_one_9 rfl ?_
    exact ⟨by congr 2; omega, rfl⟩
theorem sp_MmayFollow {w : List KD} {m : Nat → Nat → Int} (s : Nat → Int) (hV : VS s) (hO : MO s m) (k : Nat) (hk : k < 5) (a b : Int) (ha : -9 ≤ a ∧ a ≤ 9) (hb : -9 ≤ b ∧ b ≤ 9) : Sp M_X10_mayFollow 0 0 0 [rV 64, iV (k : Int), iV a, iV b] (WC ++ (WM ++ w), m) (fun r h => r = some (iV (if okk (pK s k) a b = true then 1 else 0)) ∧ h = (WC ++ (WM ++ w), m)) := by
  refine Sp.ofG (ls := [rV 64, iV (k : Int), iV a, iV b, uV]) (by decide +kernel) rfl (Nat.le_of_ble_eq_true rfl) ?_
  have h0 : m 65 (4 + k) = pK s k := hO (4 + k) (by omega)
  have h1 := hV.K k hk
  refine G_aload_n d_X10_mayFollow_0 rfl ?_
  refine G_getR (r := 65) (fl_X10_7.r) d_X10_mayFollow_1 (wk_64 _) rfl rfl ?_
  refine G_iconst d_X10_mayFollow_4 ?_
  refine G_iload_n d_X10_mayFollow_5 rfl ?_
  refine G_iadd d_X10_mayFollow_6 ?_
  refine G_ialdj (4 + k) d_X10_mayFollow_7 (wk_65 _) (by omega) (by omega) (by decide) ?_
  rw [h0]
  refine G_istore d_X10_mayFollow_8 (by decide) rfl ?_
  refine G_iload d_X10_mayFollow_10 rfl ?_
  refine G_iconst d_X10_mayFollow_12 ?_
  refine G_icmp_ne 28 d_X10_mayFollow_13 (by decide) (by omega) (by omega) (fun c13 => ?_) (fun c13 => ?_)
  · refine G_iload d_X10_mayFollow_28 rfl ?_
    refine G_if_eq 47 d_X10_mayFollow_30 (by decide) (by omega) (fun c30 => ?_) (fun c30 => ?_)
    · refine G_iconst d_X10_mayFollow_47 ?_
      refine G_goto 52 d_X10_mayFollow_48 (by decide) ?_
      refine G_zret (mc := 0) (ms := 0) (st := []) d_X10_mayFollow_52 rfl (by omega) ?_
      exact ⟨by first | rw [if_pos (by unfold okk; simp only [Bool.and_eq_true, Bool.not_eq_true', Bool.and_eq_false_iff, beq_eq_false_iff_ne, beq_iff_eq, decide_eq_true_eq, decide_eq_false_iff_not, ne_eq, Bool.not_eq_false', Bool.not_eq_eq_eq_not, Bool.not_false, Bool.not_true, Bool.decide_and, Bool.and_eq_true]; omega)] | rw [if_neg (by unfold okk; simp only [Bool.and_eq_true, Bool.not_eq_true', Bool.and_eq_false_iff, beq_eq_false_iff_ne, beq_iff_eq, decide_eq_true_eq, decide_eq_false_iff_not, ne_eq, Bool.not_eq_false', Bool.not_eq_eq_eq_not, Bool.not_false, Bool.not_true, Bool.decide_and, Bool.and_eq_true]; omega)], rfl⟩
    · refine G_iload_n d_X10_mayFollow_33 rfl ?_
      refine G_iload_n d_X10_mayFollow_34 rfl ?_
      refine G_isub d_X10_mayFollow_35 ?_
      refine G_iconst d_X10_mayFollow_36 ?_
      refine G_icmp_gt 51 d_X10_mayFollow_37 (by decide) (by omega) (by omega) (fun c37 => ?_) (fun c37 => ?_)
      · refine G_iconst d_X10_mayFollow_51 ?_
        refine G_zret (mc := 0) (ms := 0) (st := []) d_X10_mayFollow_52 rfl (by omega) ?_
        exact ⟨by first | rw [if_pos (by unfold okk; simp only [Bool.and_eq_true, Bool.not_eq_true', Bool.and_eq_false_iff, beq_eq_false_iff_ne, beq_iff_eq, decide_eq_true_eq, decide_eq_false_iff_not, ne_eq, Bool.not_eq_false', Bool.not_eq_eq_eq_not, Bool.not_false, Bool.not_true, Bool.decide_and, Bool.and_eq_true]; omega)] | rw [if_neg (by unfold okk; simp only [Bool.and_eq_true, Bool.not_eq_true', Bool.and_eq_false_iff, beq_eq_false_iff_ne, beq_iff_eq, decide_eq_true_eq, decide_eq_false_iff_not, ne_eq, Bool.not_eq_false', Bool.not_eq_eq_eq_not, Bool.not_false, Bool.not_true, Bool.decide_and, Bool.and_eq_true]; omega)], rfl⟩
      · refine G_iload_n d_X10_mayFollow_40 rfl ?_
        refine G_iload_n d_X10_mayFollow_41 rfl ?_
        refine G_isub d_X10_mayFollow_42 ?_
        refine G_iconst d_X10_mayFollow_43 ?_
        refine G_icmp_gt 51 d_X10_mayFollow_44 (by decide) (by omega) (by omega) (fun c44 => ?_) (fun c44 => ?_)
        · refine G_iconst d_X10_mayFollow_51 ?_
          refine G_zret (mc := 0) (ms := 0) (st := []) d_X10_mayFollow_52 rfl (by omega) ?_
          exact ⟨by first | rw [if_pos (by unfold okk; simp only [Bool.and_eq_true, Bool.not_eq_true', Bool.and_eq_false_iff, beq_eq_false_iff_ne, beq_iff_eq, decide_eq_true_eq, decide_eq_false_iff_not, ne_eq, Bool.not_eq_false', Bool.not_eq_eq_eq_not, Bool.not_false, Bool.not_true, Bool.decide_and, Bool.and_eq_true]; omega)] | rw [if_neg (by unfold okk; simp only [Bool.and_eq_true, Bool.not_eq_true', Bool.and_eq_false_iff, beq_eq_false_iff_ne, beq_iff_eq, decide_eq_true_eq, decide_eq_false_iff_not, ne_eq, Bool.not_eq_false', Bool.not_eq_eq_eq_not, Bool.not_false, Bool.not_true, Bool.decide_and, Bool.and_eq_true]; omega)], rfl⟩
        · refine G_iconst d_X10_mayFollow_47 ?_
          refine G_goto 52 d_X10_mayFollow_48 (by decide) ?_
          refine G_zret (mc := 0) (ms := 0) (st := []) d_X10_mayFollow_52 rfl (by omega) ?_
          exact ⟨by first | rw [if_pos (by unfold okk; simp only [Bool.and_eq_true, Bool.not_eq_true', Bool.and_eq_false_iff, beq_eq_false_iff_ne, beq_iff_eq, decide_eq_true_eq, decide_eq_false_iff_not, ne_eq, Bool.not_eq_false', Bool.not_eq_eq_eq_not, Bool.not_false, Bool.not_true, Bool.decide_and, Bool.and_eq_true]; omega)] | rw [if_neg (by unfold okk; simp only [Bool.and_eq_true, Bool.not_eq_true', Bool.and_eq_false_iff, beq_eq_false_iff_ne, beq_iff_eq, decide_eq_true_eq, decide_eq_false_iff_not, ne_eq, Bool.not_eq_false', Bool.not_eq_eq_eq_not, Bool.not_false, Bool.not_true, Bool.decide_and, Bool.and_eq_true]; omega)], rfl⟩
  · refine G_iload_n d_X10_mayFollow_16 rfl ?_
    refine G_iload_n d_X10_mayFollow_17 rfl ?_
    refine G_ineg d_X10_mayFollow_18 ?_
    refine G_icmp_ne 26 d_X10_mayFollow_19 (by decide) (by omega) (by omega) (fun c19 => ?_) (fun c19 => ?_)
    · refine G_iconst d_X10_mayFollow_26 ?_
      refine G_zret (mc := 0) (ms := 0) (st := []) d_X10_mayFollow_27 rfl (by omega) ?_
      exact ⟨by first | rw [if_pos (by unfold okk; simp only [Bool.and_eq_true, Bool.not_eq_true', Bool.and_eq_false_iff, beq_eq_false_iff_ne, beq_iff_eq, decide_eq_true_eq, decide_eq_false_iff_not, ne_eq, Bool.not_eq_false', Bool.not_eq_eq_eq_not, Bool.not_false, Bool.not_true, Bool.decide_and, Bool.and_eq_true]; omega)] | rw [if_neg (by unfold okk; simp only [Bool.and_eq_true, Bool.not_eq_true', Bool.and_eq_false_iff, beq_eq_false_iff_ne, beq_iff_eq, decide_eq_true_eq, decide_eq_false_iff_not, ne_eq, Bool.not_eq_false', Bool.not_eq_eq_eq_not, Bool.not_false, Bool.not_true, Bool.decide_and, Bool.and_eq_true]; omega)], rfl⟩
    · refine G_iconst d_X10_mayFollow_22 ?_
      refine G_goto 27 d_X10_mayFollow_23 (by decide) ?_
      refine G_zret (mc := 0) (ms := 0) (st := []) d_X10_mayFollow_27 rfl (by omega) ?_
      exact ⟨by first | rw [if_pos (by unfold okk; simp only [Bool.and_eq_true, Bool.not_eq_true', Bool.and_eq_false_iff, beq_eq_false_iff_ne, beq_iff_eq, decide_eq_true_eq, decide_eq_false_iff_not, ne_eq, Bool.not_eq_false', Bool.not_eq_eq_eq_not, Bool.not_false, Bool.not_true, Bool.decide_and, Bool.and_eq_true]; omega)] | rw [if_neg (by unfold okk; simp only [Bool.and_eq_true, Bool.not_eq_true', Bool.and_eq_false_iff, beq_eq_false_iff_ne, beq_iff_eq, decide_eq_true_eq, decide_eq_false_iff_not, ne_eq, Bool.not_eq_false', Bool.not_eq_eq_eq_not, Bool.not_false, Bool.not_true, Bool.decide_and, Bool.and_eq_true]; omega)], rfl⟩
theorem sp_Mord0 {w : List KD} {m : Nat → Nat → Int} (p k : Nat) (hp : p < 2401) (hk : k < 5) : Sp M_X10_orderOf 0 0 0 [rV 64, iV (p : Int), iV (k : Int)] (WC ++ (WM ++ w), m) (fun r h => r = some (iV (m 66 (5 * p + k))) ∧ h = (WC ++ (WM ++ w), m)) := by
  refine Sp.ofG (ls := [rV 64, iV (p : Int), iV (k : Int)]) (by decide +kernel) rfl (Nat.le_of_ble_eq_true rfl) ?_
  refine G_iload_n d_X10_orderOf_0 rfl ?_
  refine G_if_ge 8 d_X10_orderOf_1 (by decide) (by omega) (fun c1 => ?_) (fun c1 => ?_)
  · refine G_aload_n d_X10_orderOf_8 rfl ?_
    refine G_getR (r := 66) (fl_X10_15.r) d_X10_orderOf_9 (wk_64 _) rfl rfl ?_
    refine G_iconst d_X10_orderOf_12 ?_
    refine G_iload_n d_X10_orderOf_13 rfl ?_
    refine G_imul d_X10_orderOf_14 ?_
    refine G_iload_n d_X10_orderOf_15 rfl ?_
    refine G_iadd d_X10_orderOf_16 ?_
    refine G_ialdj (5 * p + k) d_X10_orderOf_17 (wk_66 _) (by omega) (by omega) (by decide) ?_
    refine G_iret (mc := 0) (ms := 0) (st := []) d_X10_orderOf_18 rfl ?_
    exact ⟨rfl, rfl⟩
  · exact absurd c1 (by omega)
theorem sp_Mordm {w : List KD} {m : Nat → Nat → Int} (p : Nat) (k : Int) (hk : k = -1) : Sp M_X10_orderOf 0 0 0 [rV 64, iV (p : Int), iV k] (WC ++ (WM ++ w), m) (fun r h => r = some (iV 0) ∧ h = (WC ++ (WM ++ w), m)) := by
  refine Sp.ofG (ls := [rV 64, iV (p : Int), iV k]) (by decide +kernel) rfl (Nat.le_of_ble_eq_true rfl) ?_
  refine G_iload_n d_X10_orderOf_0 rfl ?_
  refine G_if_ge 8 d_X10_orderOf_1 (by decide) (by omega) (fun c1 => ?_) (fun c1 => ?_)
  · exact absurd c1 (by omega)
  · refine G_iconst d_X10_orderOf_4 ?_
    refine G_goto 18 d_X10_orderOf_5 (by decide) ?_
    refine G_iret (mc := 0) (ms := 0) (st := []) d_X10_orderOf_18 rfl ?_
    exact ⟨rfl, rfl⟩
theorem sp_Mord {w : List KD} {m : Nat → Nat → Int} (s : Nat → Int) (hV : VS s) (hO : MO s m) (hP : MP s m) (p k : Nat) (hp : p < pC s) (hk : k < pN s) : Sp M_X10_orderOf 0 0 0 [rV 64, iV (p : Int), iV (k : Int)] (WC ++ (WM ++ w), m) (fun r h => r = some (iV (pO s p k)) ∧ h = (WC ++ (WM ++ w), m)) := by
  refine Sp.ofG (ls := [rV 64, iV (p : Int), iV (k : Int)]) (by decide +kernel) rfl (Nat.le_of_ble_eq_true rfl) ?_
  have hC := pC_le hV
  have hN := hV.N
  refine G_iload_n d_X10_orderOf_0 rfl ?_
  refine G_if_ge 8 d_X10_orderOf_1 (by decide) (by omega) (fun c1 => ?_) (fun c1 => ?_)
  · refine G_aload_n d_X10_orderOf_8 rfl ?_
    refine G_getR (r := 66) (fl_X10_15.r) d_X10_orderOf_9 (wk_64 _) rfl rfl ?_
    refine G_iconst d_X10_orderOf_12 ?_
    refine G_iload_n d_X10_orderOf_13 rfl ?_
    refine G_imul d_X10_orderOf_14 ?_
    refine G_iload_n d_X10_orderOf_15 rfl ?_
    refine G_iadd d_X10_orderOf_16 ?_
    refine G_ialdj (5 * p + k) d_X10_orderOf_17 (wk_66 _) (by omega) (by omega) (by decide) ?_
    refine G_iret (mc := 0) (ms := 0) (st := []) d_X10_orderOf_18 rfl ?_
    exact ⟨by rw [hP.2 p hp k hk], rfl⟩
  · exact absurd c1 (by omega)
theorem sp_Mchg {w : List KD} {m : Nat → Nat → Int} (s : Nat → Int) (hV : VS s) (hO : MO s m) (hP : MP s m) (p k : Nat) (hp : p < pC s) (hk : k < pN s) : Sp M_X10_changeOf 1 0 0 [rV 64, iV (p : Int), iV (k : Int)] (WC ++ (WM ++ w), m) (fun r h => r = some (iV (pCh s p k)) ∧ h = (WC ++ (WM ++ w), m)) := by
  refine Sp.ofG (ls := [rV 64, iV (p : Int), iV (k : Int)]) (by decide +kernel) rfl (Nat.le_of_ble_eq_true rfl) ?_
  have hC := pC_le hV
  by_cases hk0 : k = 0
  · subst hk0
    refine G_aload_n d_X10_changeOf_0 rfl ?_
    refine G_iload_n d_X10_changeOf_1 rfl ?_
    refine G_iload_n d_X10_changeOf_2 rfl ?_
    refine G_callV2 cl_X10_18 rfl d_X10_changeOf_3 (wk_64 _) (Nat.le_of_ble_eq_true rfl) (by decide) (sp_Mord s hV hO hP p 0 hp hk) ?_
    rintro _ _ ⟨rfl, rfl⟩
    refine G_aload_n d_X10_changeOf_6 rfl ?_
    refine G_iload_n d_X10_changeOf_7 rfl ?_
    refine G_iload_n d_X10_changeOf_8 rfl ?_
    refine G_iconst d_X10_changeOf_9 ?_
    refine G_isub d_X10_changeOf_10 ?_
    refine G_callV2 cl_X10_18 rfl d_X10_changeOf_11 (wk_64 _) (Nat.le_of_ble_eq_true rfl) (by decide) (sp_Mordm p (((0 : Nat) : Int) - 1) (by omega)) ?_
    rintro _ _ ⟨rfl, rfl⟩
    refine G_isub d_X10_changeOf_14 ?_
    refine G_iret (mc := 0) (ms := 0) (st := []) d_X10_changeOf_15 rfl ?_
    exact ⟨by unfold pCh; rw [if_pos rfl, Int.sub_zero], rfl⟩
  · obtain ⟨k2, rfl⟩ : ∃ k2, k = k2 + 1 := ⟨k - 1, by omega⟩
    refine G_aload_n d_X10_changeOf_0 rfl ?_
    refine G_iload_n d_X10_changeOf_1 rfl ?_
    refine G_iload_n d_X10_changeOf_2 rfl ?_
    refine G_callV2 cl_X10_18 rfl d_X10_changeOf_3 (wk_64 _) (Nat.le_of_ble_eq_true rfl) (by decide) (sp_Mord s hV hO hP p (k2 + 1) hp hk) ?_
    rintro _ _ ⟨rfl, rfl⟩
    refine G_aload_n d_X10_changeOf_6 rfl ?_
    refine G_iload_n d_X10_changeOf_7 rfl ?_
    refine G_iload_n d_X10_changeOf_8 rfl ?_
    refine G_iconst d_X10_changeOf_9 ?_
    refine G_isub d_X10_changeOf_10 ?_
    rw [show (((k2 + 1 : Nat) : Int) - 1) = (k2 : Int) by omega]
    refine G_callV2 cl_X10_18 rfl d_X10_changeOf_11 (wk_64 _) (Nat.le_of_ble_eq_true rfl) (by decide) (sp_Mord s hV hO hP p k2 hp (by omega)) ?_
    rintro _ _ ⟨rfl, rfl⟩
    refine G_isub d_X10_changeOf_14 ?_
    refine G_iret (mc := 0) (ms := 0) (st := []) d_X10_changeOf_15 rfl ?_
    exact ⟨rfl, rfl⟩
theorem sp_MisWished {w : List KD} {m : Nat → Nat → Int} (s : Nat → Int) (hV : VS s) (hO : MO s m) (hP : MP s m) (p : Nat) (hp : p < pC s) : Sp M_X10_isWished 0 0 0 [rV 64, iV (p : Int)] (WC ++ (WM ++ w), m) (fun r h => r = some (iV (if pMk s p = 1 then 1 else 0)) ∧ h = (WC ++ (WM ++ w), m)) := by
  refine Sp.ofG (ls := [rV 64, iV (p : Int)]) (by decide +kernel) rfl (Nat.le_of_ble_eq_true rfl) ?_
  have hC := pC_le hV
  have hN := hV.N
  have h1 := hV.Mk p (by omega)
  have h2 : m 65 (227 + p) = pMk s p := hO (227 + p) (by omega)
  refine G_aload_n d_X10_isWished_0 rfl ?_
  refine G_getR (r := 65) (fl_X10_7.r) d_X10_isWished_1 (wk_64 _) rfl rfl ?_
  refine G_sipush d_X10_isWished_4 (by decide) ?_
  refine G_iload_n d_X10_isWished_7 rfl ?_
  refine G_iadd d_X10_isWished_8 ?_
  refine G_ialdj (227 + p) d_X10_isWished_9 (wk_65 _) (by omega) (by omega) (by decide) ?_
  rw [h2]
  refine G_iconst d_X10_isWished_10 ?_
  refine G_icmp_ne 18 d_X10_isWished_11 (by decide) (by omega) (by omega) (fun c11 => ?_) (fun c11 => ?_)
  · refine G_iconst d_X10_isWished_18 ?_
    refine G_zret (mc := 0) (ms := 0) (st := []) d_X10_isWished_19 rfl (by omega) ?_
    exact ⟨by first | rw [if_pos (by omega)] | rw [if_neg (by omega)], rfl⟩
  · refine G_iconst d_X10_isWished_14 ?_
    refine G_goto 19 d_X10_isWished_15 (by decide) ?_
    refine G_zret (mc := 0) (ms := 0) (st := []) d_X10_isWished_19 rfl (by omega) ?_
    exact ⟨by first | rw [if_pos (by omega)] | rw [if_neg (by omega)], rfl⟩
theorem sp_MisFree {w : List KD} {m : Nat → Nat → Int} (s : Nat → Int) (hV : VS s) (hO : MO s m) (hP : MP s m) (p : Nat) (hp : p < pC s) : Sp M_X10_isFree 0 0 0 [rV 64, iV (p : Int)] (WC ++ (WM ++ w), m) (fun r h => r = some (iV (if pMk s p = 2 then 1 else 0)) ∧ h = (WC ++ (WM ++ w), m)) := by
  refine Sp.ofG (ls := [rV 64, iV (p : Int)]) (by decide +kernel) rfl (Nat.le_of_ble_eq_true rfl) ?_
  have hC := pC_le hV
  have hN := hV.N
  have h1 := hV.Mk p (by omega)
  have h2 : m 65 (227 + p) = pMk s p := hO (227 + p) (by omega)
  refine G_aload_n d_X10_isFree_0 rfl ?_
  refine G_getR (r := 65) (fl_X10_7.r) d_X10_isFree_1 (wk_64 _) rfl rfl ?_
  refine G_sipush d_X10_isFree_4 (by decide) ?_
  refine G_iload_n d_X10_isFree_7 rfl ?_
  refine G_iadd d_X10_isFree_8 ?_
  refine G_ialdj (227 + p) d_X10_isFree_9 (wk_65 _) (by omega) (by omega) (by decide) ?_
  rw [h2]
  refine G_iconst d_X10_isFree_10 ?_
  refine G_icmp_ne 18 d_X10_isFree_11 (by decide) (by omega) (by omega) (fun c11 => ?_) (fun c11 => ?_)
  · refine G_iconst d_X10_isFree_18 ?_
    refine G_zret (mc := 0) (ms := 0) (st := []) d_X10_isFree_19 rfl (by omega) ?_
    exact ⟨by first | rw [if_pos (by omega)] | rw [if_neg (by omega)], rfl⟩
  · refine G_iconst d_X10_isFree_14 ?_
    refine G_goto 19 d_X10_isFree_15 (by decide) ?_
    refine G_zret (mc := 0) (ms := 0) (st := []) d_X10_isFree_19 rfl (by omega) ?_
    exact ⟨by first | rw [if_pos (by omega)] | rw [if_neg (by omega)], rfl⟩
theorem sp_MisPath {w : List KD} {m : Nat → Nat → Int} (s : Nat → Int) (hV : VS s) (hO : MO s m) (hP : MP s m) (p : Int) (hrp : -2147483648 ≤ p ∧ p < 2147483648) : Sp M_X10_isPath 0 0 0 [rV 64, iV p] (WC ++ (WM ++ w), m) (fun r h => r = some (iV (if 0 ≤ p ∧ p < pC s then 1 else 0)) ∧ h = (WC ++ (WM ++ w), m)) := by
  refine Sp.ofG (ls := [rV 64, iV p]) (by decide +kernel) rfl (Nat.le_of_ble_eq_true rfl) ?_
  have hC := pC_le hV
  have hN := hV.N
  refine G_iload_n d_X10_isPath_0 rfl ?_
  refine G_if_lt 16 d_X10_isPath_1 (by decide) (by omega) (fun c1 => ?_) (fun c1 => ?_)
  · refine G_iconst d_X10_isPath_16 ?_
    refine G_zret (mc := 0) (ms := 0) (st := []) d_X10_isPath_17 rfl (by omega) ?_
    exact ⟨by first | rw [if_pos (by omega)] | rw [if_neg (by omega)], rfl⟩
  · refine G_iload_n d_X10_isPath_4 rfl ?_
    refine G_aload_n d_X10_isPath_5 rfl ?_
    refine G_getIe (fl_X10_25.r) d_X10_isPath_6 (wk_64 _) rfl (hP.1) ?_
    refine G_icmp_ge 16 d_X10_isPath_9 (by decide) (by omega) (by omega) (fun c9 => ?_) (fun c9 => ?_)
    · refine G_iconst d_X10_isPath_16 ?_
      refine G_zret (mc := 0) (ms := 0) (st := []) d_X10_isPath_17 rfl (by omega) ?_
      exact ⟨by first | rw [if_pos (by omega)] | rw [if_neg (by omega)], rfl⟩
    · refine G_iconst d_X10_isPath_12 ?_
      refine G_goto 17 d_X10_isPath_13 (by decide) ?_
      refine G_zret (mc := 0) (ms := 0) (st := []) d_X10_isPath_17 rfl (by omega) ?_
      exact ⟨by first | rw [if_pos (by omega)] | rw [if_neg (by omega)], rfl⟩
theorem sp_MisSpoiled {w : List KD} {m : Nat → Nat → Int} (s : Nat → Int) (hV : VS s) (hO : MO s m) (hP : MP s m) (p : Nat) (hp : p < pC s) : Sp M_X10_isSpoiled 1 0 0 [rV 64, iV (p : Int)] (WC ++ (WM ++ w), m) (fun r h => r = some (iV (if pSp s p ≠ 0 then 1 else 0)) ∧ h = (WC ++ (WM ++ w), m)) := by
  refine Sp.ofG (ls := [rV 64, iV (p : Int), uV, uV]) (by decide +kernel) rfl (Nat.le_of_ble_eq_true rfl) ?_
  have hC := pC_le hV
  have hN := hV.N
  have hb : -(((pN s : Nat) : Int) * 27) ≤ pSp s p ∧ pSp s p ≤ ((pN s : Nat) : Int) * 27 := sumN_bnd (fun i hi => by
    have h1 := pO_rng hV p i
    have h2 := hV.G i (by omega)
    have e1 : pO s p i = -3 ∨ pO s p i = -2 ∨ pO s p i = -1 ∨ pO s p i = 0 ∨ pO s p i = 1 ∨ pO s p i = 2 ∨ pO s p i = 3 := by omega
    rcases e1 with e | e | e | e | e | e | e <;> rw [e] <;> omega)
  have L : ∀ k : Nat, k ≤ pN s → G M_X10_isSpoiled 1 0 0 4 [rV 64, iV (p : Int), iV (sumN (fun k => pO s p k * pG s k) k), iV (k : Int)] [] (WC ++ (WM ++ w), m) (fun r h => r = some (iV (if pSp s p ≠ 0 then 1 else 0)) ∧ h = (WC ++ (WM ++ w), m)) := by
    refine loop_up (pN s) _ ?_
    intro k hk ih
    refine G_iload_n d_X10_isSpoiled_4 rfl ?_
    refine G_aload_n d_X10_isSpoiled_5 rfl ?_
    refine G_callV0 cl_X10_11 rfl d_X10_isSpoiled_6 (wk_64 _) (Nat.le_of_ble_eq_true rfl) (by decide) (sp_Mn s hV hO) ?_
    rintro _ _ ⟨rfl, rfl⟩
    refine G_icmp_ge 37 d_X10_isSpoiled_9 (by decide) (by omega) (by omega) (fun c9 => ?_) (fun c9 => ?_)
    · have hke : k = pN s := by omega
      subst hke
      refine G_iload_n d_X10_isSpoiled_37 rfl ?_
      refine G_if_eq 45 d_X10_isSpoiled_38 (by decide) (by unfold pSp at hb; omega) (fun c38 => ?_) (fun c38 => ?_)
      · refine G_iconst d_X10_isSpoiled_45 ?_
        refine G_zret (mc := 0) (ms := 0) (st := []) d_X10_isSpoiled_46 rfl (by omega) ?_
        exact ⟨by first | rw [if_pos (show pSp s p ≠ 0 from c38)] | rw [if_neg (fun h => h (show pSp s p = 0 from c38))], rfl⟩
      · refine G_iconst d_X10_isSpoiled_41 ?_
        refine G_goto 46 d_X10_isSpoiled_42 (by decide) ?_
        refine G_zret (mc := 0) (ms := 0) (st := []) d_X10_isSpoiled_46 rfl (by omega) ?_
        exact ⟨by first | rw [if_pos (show pSp s p ≠ 0 from c38)] | rw [if_neg (fun h => h (show pSp s p = 0 from c38))], rfl⟩
    · refine G_iload_n d_X10_isSpoiled_12 rfl ?_
      refine G_aload_n d_X10_isSpoiled_13 rfl ?_
      refine G_iload_n d_X10_isSpoiled_14 rfl ?_
      refine G_iload_n d_X10_isSpoiled_15 rfl ?_
      refine G_callV2 cl_X10_18 rfl d_X10_isSpoiled_16 (wk_64 _) (Nat.le_of_ble_eq_true rfl) (by decide) (sp_Mord s hV hO hP p k hp (by omega)) ?_
      rintro _ _ ⟨rfl, rfl⟩
      refine G_aload_n d_X10_isSpoiled_19 rfl ?_
      refine G_getR (r := 65) (fl_X10_7.r) d_X10_isSpoiled_20 (wk_64 _) rfl rfl ?_
      refine G_bipush d_X10_isSpoiled_23 (by decide) ?_
      refine G_iload_n d_X10_isSpoiled_25 rfl ?_
      refine G_iadd d_X10_isSpoiled_26 ?_
      refine G_ialdj (9 + k) d_X10_isSpoiled_27 (wk_65 _) (by omega) (by omega) (by decide) ?_
      rw [show m 65 (9 + k) = pG s k from hO (9 + k) (by omega)]
      refine G_imul d_X10_isSpoiled_28 ?_
      refine G_iadd d_X10_isSpoiled_29 ?_
      refine G_istore_n d_X10_isSpoiled_30 (by decide) rfl ?_
      refine G_iinc d_X10_isSpoiled_31 rfl (by decide) rfl ?_
      refine G_goto 4 d_X10_isSpoiled_34 (by decide) ?_
      exact ih (by omega)
  refine G_iconst d_X10_isSpoiled_0 ?_
  refine G_istore_n d_X10_isSpoiled_1 (by decide) rfl ?_
  refine G_iconst d_X10_isSpoiled_2 ?_
  refine G_istore_n d_X10_isSpoiled_3 (by decide) rfl ?_
  exact L 0 (by omega)
theorem sp_Mweighs {w : List KD} {m : Nat → Nat → Int} (s : Nat → Int) (hV : VS s) (hO : MO s m) (hP : MP s m) (p : Nat) (hp : p < pC s) : Sp M_X10_weighs 2 0 0 [rV 64, iV (p : Int)] (WC ++ (WM ++ w), m) (fun r h => r = some (iV (pWt s p)) ∧ h = (WC ++ (WM ++ w), m)) := by
  refine Sp.ofG (ls := [rV 64, iV (p : Int), uV, uV]) (by decide +kernel) rfl (Nat.le_of_ble_eq_true rfl) ?_
  have hC := pC_le hV
  have hN := hV.N
  have L : ∀ k : Nat, k ≤ pN s → G M_X10_weighs 2 0 0 4 [rV 64, iV (p : Int), iV (prodN (fun k => pW s k (pCh s p k).natAbs) k), iV (k : Int)] [] (WC ++ (WM ++ w), m) (fun r h => r = some (iV (pWt s p)) ∧ h = (WC ++ (WM ++ w), m)) := by
    refine loop_up (pN s) _ ?_
    intro k hk ih
    refine G_iload_n d_X10_weighs_4 rfl ?_
    refine G_aload_n d_X10_weighs_5 rfl ?_
    refine G_callV0 cl_X10_11 rfl d_X10_weighs_6 (wk_64 _) (Nat.le_of_ble_eq_true rfl) (by decide) (sp_Mn s hV hO) ?_
    rintro _ _ ⟨rfl, rfl⟩
    refine G_icmp_ge 36 d_X10_weighs_9 (by decide) (by omega) (by omega) (fun c9 => ?_) (fun c9 => ?_)
    · refine G_iload_n d_X10_weighs_36 rfl ?_
      refine G_iret (mc := 0) (ms := 0) (st := []) d_X10_weighs_37 rfl ?_
      exact ⟨by rw [show k = pN s by omega]; rfl, rfl⟩
    · refine G_iload_n d_X10_weighs_12 rfl ?_
      refine G_aload_n d_X10_weighs_13 rfl ?_
      refine G_iload_n d_X10_weighs_14 rfl ?_
      refine G_aload_n d_X10_weighs_15 rfl ?_
      refine G_aload_n d_X10_weighs_16 rfl ?_
      refine G_iload_n d_X10_weighs_17 rfl ?_
      refine G_iload_n d_X10_weighs_18 rfl ?_
      refine G_callV2 cl_X10_108 rfl d_X10_weighs_19 (wk_64 _) (Nat.le_of_ble_eq_true rfl) (by decide) (sp_Mchg s hV hO hP p k hp (by omega)) ?_
      rintro _ _ ⟨rfl, rfl⟩
      have hcr := pCh_rng hV p k
      refine G_callV1 cl_X10_111 rfl d_X10_weighs_22 (wk_64 _) (Nat.le_of_ble_eq_true rfl) (by decide) (sp_Msize (by omega)) ?_
      rintro _ _ ⟨rfl, rfl⟩
      refine G_callV2 cl_X10_115 rfl d_X10_weighs_25 (wk_64 _) (Nat.le_of_ble_eq_true rfl) (by decide) (sp_MweightOf s hV hO k (pCh s p k).natAbs (by omega) (by omega)) ?_
      rintro _ _ ⟨rfl, rfl⟩
      refine G_imul d_X10_weighs_28 ?_
      refine G_istore_n d_X10_weighs_29 (by decide) rfl ?_
      refine G_iinc d_X10_weighs_30 rfl (by decide) rfl ?_
      refine G_goto 4 d_X10_weighs_33 (by decide) ?_
      exact ih (by omega)
  refine G_iconst d_X10_weighs_0 ?_
  refine G_istore_n d_X10_weighs_1 (by decide) rfl ?_
  refine G_iconst d_X10_weighs_2 ?_
  refine G_istore_n d_X10_weighs_3 (by decide) rfl ?_
  exact L 0 (by omega)
theorem prodN_rng {f : Nat → Int} {n : Nat} (h : ∀ i, i < n → 0 ≤ f i ∧ f i ≤ 9) (hn : n ≤ 5) : 0 ≤ prodN f n ∧ prodN f n ≤ 59049 := by
  have key : ∀ k, k ≤ n → 0 ≤ prodN f k ∧ prodN f k ≤ 9 ^ k := by
    intro k
    induction k with
    | zero => intro _; exact ⟨by show (0 : Int) ≤ 1; decide, by show (1 : Int) ≤ 9 ^ 0; decide⟩
    | succ k ih =>
      intro hk
      have h1 := ih (by omega)
      have h2 := mulb h1 (h k (by omega))
      refine ⟨h2.1, ?_⟩
      have : (9 : Int) ^ (k + 1) = 9 ^ k * 9 := by rw [Int.pow_succ]
      rw [this]
      exact h2.2
  have h1 := key n (Nat.le_refl _)
  refine ⟨h1.1, Int.le_trans h1.2 ?_⟩
  rcases (show n = 0 ∨ n = 1 ∨ n = 2 ∨ n = 3 ∨ n = 4 ∨ n = 5 by omega) with rfl | rfl | rfl | rfl | rfl | rfl <;> decide
theorem pWt_rng {s : Nat → Int} (h : VS s) (p : Nat) : 0 ≤ pWt s p ∧ pWt s p ≤ 59049 := by
  have hN := h.N
  refine prodN_rng (fun k hk => ?_) hN.2.1
  have hc := pCh_rng h p k
  exact h.W k _ (by omega) (by omega)
theorem sp_MisGone {w : List KD} {m : Nat → Nat → Int} (s : Nat → Int) (hV : VS s) (hO : MO s m) (hP : MP s m) (p : Nat) (hp : p < pC s) : Sp M_X10_isGone 3 0 0 [rV 64, iV (p : Int)] (WC ++ (WM ++ w), m) (fun r h => r = some (iV (if pGone s p = true then 1 else 0)) ∧ h = (WC ++ (WM ++ w), m)) := by
  refine Sp.ofG (ls := [rV 64, iV (p : Int)]) (by decide +kernel) rfl (Nat.le_of_ble_eq_true rfl) ?_
  have hC := pC_le hV
  have hN := hV.N
  have hw := pWt_rng hV p
  refine G_aload_n d_X10_isGone_0 rfl ?_
  refine G_iload_n d_X10_isGone_1 rfl ?_
  refine G_callV1 cl_X10_118 rfl d_X10_isGone_2 (wk_64 _) (Nat.le_of_ble_eq_true rfl) (by decide) (sp_MisSpoiled s hV hO hP p hp) ?_
  rintro _ _ ⟨rfl, rfl⟩
  by_cases hsp : pSp s p ≠ 0
  · rw [if_pos hsp]
    refine G_if_ne 16 d_X10_isGone_5 (by decide) (by decide) (fun _ => ?_) (fun hd => absurd hd (by decide))
    refine G_iconst d_X10_isGone_16 ?_
    refine G_goto 21 d_X10_isGone_17 (by decide) ?_
    refine G_zret (mc := 0) (ms := 0) (st := []) d_X10_isGone_21 rfl (by omega) ?_
    exact ⟨by first | rw [if_pos (by unfold pGone; simp; omega)] | rw [if_neg (by unfold pGone; simp; omega)], rfl⟩
  · rw [if_neg hsp]
    refine G_if_ne 16 d_X10_isGone_5 (by decide) (by decide) (fun hd => absurd hd (by decide)) (fun _ => ?_)
    refine G_aload_n d_X10_isGone_8 rfl ?_
    refine G_iload_n d_X10_isGone_9 rfl ?_
    refine G_callV1 cl_X10_121 rfl d_X10_isGone_10 (wk_64 _) (Nat.le_of_ble_eq_true rfl) (by decide) (sp_Mweighs s hV hO hP p hp) ?_
    rintro _ _ ⟨rfl, rfl⟩
    refine G_if_ne 20 d_X10_isGone_13 (by decide) (by omega) (fun c13 => ?_) (fun c13 => ?_)
    · refine G_iconst d_X10_isGone_20 ?_
      refine G_zret (mc := 0) (ms := 0) (st := []) d_X10_isGone_21 rfl (by omega) ?_
      exact ⟨by first | rw [if_pos (by unfold pGone; simp; omega)] | rw [if_neg (by unfold pGone; simp; omega)], rfl⟩
    · refine G_iconst d_X10_isGone_16 ?_
      refine G_goto 21 d_X10_isGone_17 (by decide) ?_
      refine G_zret (mc := 0) (ms := 0) (st := []) d_X10_isGone_21 rfl (by omega) ?_
      exact ⟨by first | rw [if_pos (by unfold pGone; simp; omega)] | rw [if_neg (by unfold pGone; simp; omega)], rfl⟩
