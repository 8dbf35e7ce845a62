theorem rest_eq {v T : Int} (hT : 0 < T) : (if v.tmod T < 0 then v.tmod T + T else v.tmod T) = v % T := by
  have h1 := Int.mul_tdiv_add_tmod v T
  have h2 := Int.tmod_lt_of_pos v hT
  have h3 := Int.lt_tmod_of_pos v hT
  generalize v.tmod T = r at *
  have e : v % T = r % T := by rw [← h1, Int.add_comm, Int.add_mul_emod_self_left]
  rw [e]
  by_cases hr : r < 0
  · rw [if_pos hr, ← Int.add_emod_right, Int.emod_eq_of_lt (by omega) (by omega)]
  · rw [if_neg hr, Int.emod_eq_of_lt (by omega) (by omega)]
theorem chb {a b : Int} (h1 : -6 ≤ a ∧ a ≤ 6) (h2 : 0 ≤ b ∧ b ≤ 48) : -288 ≤ a * b ∧ a * b ≤ 288 := by
  rcases (show a = -6 ∨ a = -5 ∨ a = -4 ∨ a = -3 ∨ a = -2 ∨ a = -1 ∨ a = 0 ∨ a = 1 ∨ a = 2 ∨ a = 3 ∨ a = 4 ∨ a = 5 ∨ a = 6 by omega) with rfl | rfl | rfl | rfl | rfl | rfl | rfl | rfl | rfl | rfl | rfl | rfl | rfl <;> omega
theorem pOwn_rng {s : Nat → Int} (h : VS s) (k t : Nat) : 0 ≤ pOwn s k t ∧ pOwn s k t < pT s ∧ pOwn s k t ≤ 48 := by
  have hT := h.T
  have h1 := Int.emod_nonneg (pOwS s k t 4) (show ((pT s : Nat) : Int) ≠ 0 by omega)
  have h2 := Int.emod_lt_of_pos (pOwS s k t 4) (show (0 : Int) < (pT s : Nat) by omega)
  unfold pOwn
  omega
/-- changes times phases -/
def pLed (s : Nat → Int) (p t k : Nat) : Int := sumN (fun k => pCh s p k * pOwn s k t) k
theorem pLed_rng {s : Nat → Int} (h : VS s) (p t k : Nat) (hk : k ≤ 5) : -1440 ≤ pLed s p t k ∧ pLed s p t k ≤ 1440 := by
  have h1 := sumN_bnd (f := fun k => pCh s p k * pOwn s k t) (B := 288) (n := k) (fun i _ => by
    have h2 := pOwn_rng h i t
    exact chb (pCh_rng h p i) ⟨h2.1, h2.2.2⟩)
  unfold pLed
  omega
theorem pRcv_rng {s : Nat → Int} (h : VS s) (t : Nat) : 0 ≤ pRcv s t ∧ pRcv s t < pT s := by
  have hT := h.T
  unfold pRcv
  by_cases h3 : s 3 = 0
  · rw [if_pos h3]
    by_cases hc : pChief s = -1
    · rw [if_pos hc]; omega
    · rw [if_neg hc]
      exact ⟨Int.emod_nonneg _ (by omega), Int.emod_lt_of_pos _ (by omega)⟩
  · rw [if_neg h3]
    have := pOwn_rng h (pN s) t
    omega
theorem pRes_lt {s : Nat → Int} (h : VS s) (p t : Nat) : pRes s p t < pT s := by
  have hT := h.T
  have h1 := Int.emod_nonneg (sumN (fun k => pCh s p k * pOwn s k t) (pN s) - pRcv s t) (show ((pT s : Nat) : Int) ≠ 0 by omega)
  have h2 := Int.emod_lt_of_pos (sumN (fun k => pCh s p k * pOwn s k t) (pN s) - pRcv s t) (show (0 : Int) < (pT s : Nat) by omega)
  unfold pRes
  omega
theorem pRes_eq {s : Nat → Int} (h : VS s) (p t : Nat) : ((pRes s p t : Nat) : Int) = (pLed s p t (pN s) - pRcv s t) % (pT s : Int) := by
  have hT := h.T
  have h1 := Int.emod_nonneg (sumN (fun k => pCh s p k * pOwn s k t) (pN s) - pRcv s t) (show ((pT s : Nat) : Int) ≠ 0 by omega)
  unfold pRes pLed
  omega
theorem pChief_rng (s : Nat → Int) : -1 ≤ pChief s ∧ pChief s < (pC s : Int) := by
  have key : ∀ (f : Nat → Bool) n, -1 ≤ firstB f n ∧ firstB f n < (n : Int) ∨ (n = 0 ∧ firstB f n = -1) := by
    intro f n
    induction n with
    | zero => exact Or.inr ⟨rfl, rfl⟩
    | succ n ih =>
      left
      unfold firstB
      by_cases h : 0 ≤ firstB f n
      · rw [if_pos h]; omega
      · rw [if_neg h]
        by_cases h2 : f n = true
        · rw [if_pos h2]; omega
        · rw [if_neg h2]; omega
  rcases key (fun p => pMk s p == 1) (pC s) with h | ⟨h1, h2⟩
  · exact h
  · unfold pChief
    rw [h2]
    omega
/-- the reference's phases of the first S scans -/
def PH (s : Nat → Int) (S : Nat) (m : Nat → Nat → Int) : Prop := ∀ t, t < S → ∀ k, k ≤ pN s → m 70 (6 * t + k) = pPh s k t
def CN (f : Nat → Int) (m : Nat → Nat → Int) : Prop := ∀ r, r < 48 → m 71 r = f r
theorem sp_Mrest {w : List KD} {m : Nat → Nat → Int} (s : Nat → Int) (hV : VS s) (hO : MO s m) {v : Int} (hv : -2147483648 < v ∧ v < 2147483648) : Sp M_X10_rest 1 0 0 [rV 64, iV v] (WC ++ (WM ++ w), m) (fun r h => r = some (iV (v % (pT s : Int))) ∧ h = (WC ++ (WM ++ w), m)) := by
  refine Sp.ofG (ls := [rV 64, iV v, uV]) (by decide +kernel) rfl (Nat.le_of_ble_eq_true rfl) ?_
  have hT := hV.T
  have h2 := Int.tmod_lt_of_pos v (show (0 : Int) < (pT s : Nat) by omega)
  have h3 := Int.lt_tmod_of_pos v (show (0 : Int) < (pT s : Nat) by omega)
  have h4 := rest_eq (v := v) (T := (pT s : Int)) (by omega)
  refine G_iload_n d_X10_rest_0 rfl ?_
  refine G_aload_n d_X10_rest_1 rfl ?_
  refine G_callV0 cl_X10_148 rfl d_X10_rest_2 (wk_64 _) (Nat.le_of_ble_eq_true rfl) (by decide) (sp_Mt s hV hO) ?_
  rintro _ _ ⟨rfl, rfl⟩
  refine G_irem d_X10_rest_5 (by omega) (by omega) (by omega) ?_
  refine G_istore_n d_X10_rest_6 (by decide) rfl ?_
  refine G_iload_n d_X10_rest_7 rfl ?_
  refine G_if_ge 20 d_X10_rest_8 (by decide) (by omega) (fun c8 => ?_) (fun c8 => ?_)
  · refine G_iload_n d_X10_rest_20 rfl ?_
    refine G_iret (mc := 0) (ms := 0) (st := []) d_X10_rest_21 rfl ?_
    exact ⟨by rw [← h4, if_neg (by omega)], rfl⟩
  · refine G_iload_n d_X10_rest_11 rfl ?_
    refine G_aload_n d_X10_rest_12 rfl ?_
    refine G_callV0 cl_X10_148 rfl d_X10_rest_13 (wk_64 _) (Nat.le_of_ble_eq_true rfl) (by decide) (sp_Mt s hV hO) ?_
    rintro _ _ ⟨rfl, rfl⟩
    refine G_iadd d_X10_rest_16 ?_
    refine G_goto 21 d_X10_rest_17 (by decide) ?_
    refine G_iret (mc := 0) (ms := 0) (st := []) d_X10_rest_21 rfl ?_
    exact ⟨by rw [← h4, if_pos (by omega)], rfl⟩
theorem pRs_div (s : Nat → Int) (t : Nat) : ∀ j, t / pLp s j = pRs s t j
  | 0 => Nat.div_one t
  | j + 1 => by
    show t / (pLp s j * pL s j) = pRs s t j / pL s j
    rw [← pRs_div s t j, Nat.div_div_eq_div_mul]
theorem pLp_pos {s : Nat → Int} (h : VS s) : ∀ j, j ≤ 4 → 0 < pLp s j ∧ pLp s j ≤ 12 ^ j
  | 0, _ => ⟨Nat.one_pos, Nat.le_refl _⟩
  | j + 1, hj => by
    have h1 := pLp_pos h j (by omega)
    have h2 := h.L j (by omega)
    exact ⟨Nat.mul_pos h1.1 (by omega), by rw [Nat.pow_succ]; exact Nat.mul_le_mul h1.2 h2.2.1⟩
theorem pLp_le {s : Nat → Int} (h : VS s) (j : Nat) (hj : j ≤ 4) : 0 < pLp s j ∧ pLp s j ≤ 20736 := by
  have h1 := pLp_pos h j hj
  refine ⟨h1.1, Nat.le_trans h1.2 ?_⟩
  rcases (show j = 0 ∨ j = 1 ∨ j = 2 ∨ j = 3 ∨ j = 4 by omega) with rfl | rfl | rfl | rfl | rfl <;> decide
theorem sp_MownPhase {w : List KD} {m : Nat → Nat → Int} (s : Nat → Int) (hV : VS s) (hO : MO s m) (k t : Nat) (hk : k ≤ 5) (ht : t < 512) : Sp M_X10_ownPhase 2 0 0 [rV 64, iV (k : Int), iV (t : Int)] (WC ++ (WM ++ w), m) (fun r h => r = some (iV (pOwn s k t)) ∧ h = (WC ++ (WM ++ w), m)) := by
  refine Sp.ofG (ls := [rV 64, iV (k : Int), iV (t : Int), uV, uV, uV]) (by decide +kernel) rfl (Nat.le_of_ble_eq_true rfl) ?_
  have hT := hV.T
  have hrng := pOwS_rng hV hk (t := t)
  have L : ∀ j : Nat, j ≤ 4 → G M_X10_ownPhase 2 0 0 19 [rV 64, iV (k : Int), iV (t : Int), iV (pOwS s k t j), iV ((pLp s j : Nat) : Int), iV (j : Int)] [] (WC ++ (WM ++ w), m) (fun r h => r = some (iV (pOwn s k t)) ∧ h = (WC ++ (WM ++ w), m)) := by
    refine loop_up (4) _ ?_
    intro j hj ih
    refine G_iload d_X10_ownPhase_19 rfl ?_
    refine G_iconst d_X10_ownPhase_21 ?_
    refine G_icmp_ge 64 d_X10_ownPhase_22 (by decide) (by omega) (by omega) (fun c22 => ?_) (fun c22 => ?_)
    · have hj4 : j = 4 := by omega
      subst hj4
      refine G_aload_n d_X10_ownPhase_64 rfl ?_
      refine G_iload_n d_X10_ownPhase_65 rfl ?_
      refine G_callV1 cl_X10_210 rfl d_X10_ownPhase_66 (wk_64 _) (Nat.le_of_ble_eq_true rfl) (by decide) (sp_Mrest s hV hO (by omega)) ?_
      rintro _ _ ⟨rfl, rfl⟩
      refine G_iret (mc := 0) (ms := 0) (st := []) d_X10_ownPhase_69 rfl ?_
      exact ⟨rfl, rfl⟩
    · have hp1 := pLp_le hV j (by omega)
      have hle := pRs_le s t j
      have hL := hV.L j (by omega)
      refine G_iload_n d_X10_ownPhase_25 rfl ?_
      refine G_iload_n d_X10_ownPhase_26 rfl ?_
      refine G_iload d_X10_ownPhase_27 rfl ?_
      refine G_idivN (t) (pLp s j) (rfl) (rfl) d_X10_ownPhase_29 (by omega) (by omega) (by omega) ?_
      rw [pRs_div]
      refine G_aload_n d_X10_ownPhase_30 rfl ?_
      refine G_iload d_X10_ownPhase_31 rfl ?_
      refine G_callV1 cl_X10_136 rfl d_X10_ownPhase_33 (wk_64 _) (Nat.le_of_ble_eq_true rfl) (by decide) (sp_MlengthOf s hV hO j (by omega)) ?_
      rintro _ _ ⟨rfl, rfl⟩
      refine G_iremN (pRs s t j) (pL s j) (rfl) (rfl) d_X10_ownPhase_36 (by omega) (by omega) (by omega) ?_
      refine G_aload_n d_X10_ownPhase_37 rfl ?_
      refine G_iload_n d_X10_ownPhase_38 rfl ?_
      refine G_iload d_X10_ownPhase_39 rfl ?_
      refine G_callV2 cl_X10_207 rfl d_X10_ownPhase_41 (wk_64 _) (Nat.le_of_ble_eq_true rfl) (by decide) (sp_MstepOf s hV hO k j (by omega) (by omega)) ?_
      rintro _ _ ⟨rfl, rfl⟩
      refine G_imul d_X10_ownPhase_44 ?_
      refine G_iadd d_X10_ownPhase_45 ?_
      rw [show pOwS s k t j + ((pRs s t j % pL s j : Nat) : Int) * pS s k j = pOwS s k t (j + 1) from Int.add_assoc _ _ _]
      refine G_istore_n d_X10_ownPhase_46 (by decide) rfl ?_
      refine G_iload d_X10_ownPhase_47 rfl ?_
      refine G_aload_n d_X10_ownPhase_49 rfl ?_
      refine G_iload d_X10_ownPhase_50 rfl ?_
      refine G_callV1 cl_X10_136 rfl d_X10_ownPhase_52 (wk_64 _) (Nat.le_of_ble_eq_true rfl) (by decide) (sp_MlengthOf s hV hO j (by omega)) ?_
      rintro _ _ ⟨rfl, rfl⟩
      refine G_imul d_X10_ownPhase_55 ?_
      rw [← Int.natCast_mul]
      refine G_istore d_X10_ownPhase_56 (by decide) rfl ?_
      refine G_iinc d_X10_ownPhase_58 rfl (by decide) rfl ?_
      refine G_goto 19 d_X10_ownPhase_61 (by decide) ?_
      exact ih (by omega)
  have hRL := hV.RL k (by omega)
  have hx0 : t % pRL s k < pRL s k := Nat.mod_lt _ (by omega)
  refine G_aload_n d_X10_ownPhase_0 rfl ?_
  refine G_iload_n d_X10_ownPhase_1 rfl ?_
  refine G_iload_n d_X10_ownPhase_2 rfl ?_
  refine G_aload_n d_X10_ownPhase_3 rfl ?_
  refine G_iload_n d_X10_ownPhase_4 rfl ?_
  refine G_callV1 cl_X10_201 rfl d_X10_ownPhase_5 (wk_64 _) (Nat.le_of_ble_eq_true rfl) (by decide) (sp_MrowLong s hV hO k (by omega)) ?_
  rintro _ _ ⟨rfl, rfl⟩
  refine G_iremN (t) (pRL s k) (rfl) (rfl) d_X10_ownPhase_8 (by omega) (by omega) (by omega) ?_
  refine G_callV2 cl_X10_204 rfl d_X10_ownPhase_9 (wk_64 _) (Nat.le_of_ble_eq_true rfl) (by decide) (sp_MrowOf s hV hO k (t % pRL s k) (by omega) (by omega)) ?_
  rintro _ _ ⟨rfl, rfl⟩
  rw [show pR s k (t % pRL s k) = pOwS s k t 0 from (Int.add_zero _).symm]
  refine G_istore_n d_X10_ownPhase_12 (by decide) rfl ?_
  refine G_iconst d_X10_ownPhase_13 ?_
  refine G_istore d_X10_ownPhase_14 (by decide) rfl ?_
  refine G_iconst d_X10_ownPhase_16 ?_
  refine G_istore d_X10_ownPhase_17 (by decide) rfl ?_
  exact L 0 (by omega)
theorem sp_Mres {w : List KD} {m : Nat → Nat → Int} (s : Nat → Int) (hV : VS s) (hO : MO s m) (hP : MP s m) (S p t : Nat) (hH : PH s S m) (hp : p < pC s) (ht : t < S) (ht2 : t < 512) : Sp M_X10_residueOf 2 0 0 [rV 64, iV (p : Int), iV (t : Int)] (WC ++ (WM ++ w), m) (fun r h => r = some (iV ((pRes s p t : Nat) : Int)) ∧ h = (WC ++ (WM ++ w), m)) := by
  refine Sp.ofG (ls := [rV 64, iV (p : Int), iV (t : Int), uV, uV]) (by decide +kernel) rfl (Nat.le_of_ble_eq_true rfl) ?_
  have hC := pC_le hV
  have hN := hV.N
  have hT := hV.T
  have hrc := pRcv_rng hV t
  have L : ∀ k : Nat, k ≤ pN s → G M_X10_residueOf 2 0 0 19 [rV 64, iV (p : Int), iV (t : Int), iV (-(pRcv s t) + pLed s p t k), iV (k : Int)] [] (WC ++ (WM ++ w), m) (fun r h => r = some (iV ((pRes s p t : Nat) : Int)) ∧ h = (WC ++ (WM ++ w), m)) := by
    refine loop_up (pN s) _ ?_
    intro k hk ih
    refine G_iload d_X10_residueOf_19 rfl ?_
    refine G_aload_n d_X10_residueOf_21 rfl ?_
    refine G_callV0 cl_X10_11 rfl d_X10_residueOf_22 (wk_64 _) (Nat.le_of_ble_eq_true rfl) (by decide) (sp_Mn s hV hO) ?_
    rintro _ _ ⟨rfl, rfl⟩
    refine G_icmp_ge 57 d_X10_residueOf_25 (by decide) (by omega) (by omega) (fun c25 => ?_) (fun c25 => ?_)
    · refine G_aload_n d_X10_residueOf_57 rfl ?_
      refine G_iload_n d_X10_residueOf_58 rfl ?_
      have hke : k = pN s := by omega
      subst hke
      refine G_callV1 cl_X10_210 rfl d_X10_residueOf_59 (wk_64 _) (Nat.le_of_ble_eq_true rfl) (by decide) (sp_Mrest s hV hO (v := -(pRcv s t) + pLed s p t (pN s)) (by have := pLed_rng hV p t (pN s) (by omega); omega)) ?_
      rintro _ _ ⟨rfl, rfl⟩
      refine G_iret (mc := 0) (ms := 0) (st := []) d_X10_residueOf_62 rfl ?_
      exact ⟨by rw [pRes_eq hV, show -(pRcv s t) + pLed s p t (pN s) = pLed s p t (pN s) - pRcv s t by omega], rfl⟩
    · refine G_iload_n d_X10_residueOf_28 rfl ?_
      refine G_aload_n d_X10_residueOf_29 rfl ?_
      refine G_iload_n d_X10_residueOf_30 rfl ?_
      refine G_iload d_X10_residueOf_31 rfl ?_
      refine G_callV2 cl_X10_108 rfl d_X10_residueOf_33 (wk_64 _) (Nat.le_of_ble_eq_true rfl) (by decide) (sp_Mchg s hV hO hP p k hp (by omega)) ?_
      rintro _ _ ⟨rfl, rfl⟩
      refine G_aload_n d_X10_residueOf_36 rfl ?_
      refine G_getR (r := 70) (fl_X10_54.r) d_X10_residueOf_37 (wk_64 _) rfl rfl ?_
      refine G_bipush d_X10_residueOf_40 (by decide) ?_
      refine G_iload_n d_X10_residueOf_42 rfl ?_
      refine G_imul d_X10_residueOf_43 ?_
      refine G_iload d_X10_residueOf_44 rfl ?_
      refine G_iadd d_X10_residueOf_46 ?_
      refine G_ialdj (6 * t + k) d_X10_residueOf_47 (wk_70 _) (by omega) (by omega) (by decide) ?_
      rw [show m 70 (6 * t + k) = pOwn s k t by rw [hH t ht k (by omega)]; unfold pPh; rw [if_neg (by omega)]]
      refine G_imul d_X10_residueOf_48 ?_
      refine G_iadd d_X10_residueOf_49 ?_
      rw [show -(pRcv s t) + pLed s p t k + pCh s p k * pOwn s k t = -(pRcv s t) + pLed s p t (k + 1) from Int.add_assoc _ _ _]
      refine G_istore_n d_X10_residueOf_50 (by decide) rfl ?_
      refine G_iinc d_X10_residueOf_51 rfl (by decide) rfl ?_
      refine G_goto 19 d_X10_residueOf_54 (by decide) ?_
      exact ih (by omega)
  refine G_aload_n d_X10_residueOf_0 rfl ?_
  refine G_getR (r := 70) (fl_X10_54.r) d_X10_residueOf_1 (wk_64 _) rfl rfl ?_
  refine G_bipush d_X10_residueOf_4 (by decide) ?_
  refine G_iload_n d_X10_residueOf_6 rfl ?_
  refine G_imul d_X10_residueOf_7 ?_
  refine G_aload_n d_X10_residueOf_8 rfl ?_
  refine G_callV0 cl_X10_11 rfl d_X10_residueOf_9 (wk_64 _) (Nat.le_of_ble_eq_true rfl) (by decide) (sp_Mn s hV hO) ?_
  rintro _ _ ⟨rfl, rfl⟩
  refine G_iadd d_X10_residueOf_12 ?_
  refine G_ialdj (6 * t + pN s) d_X10_residueOf_13 (wk_70 _) (by omega) (by omega) (by decide) ?_
  rw [show m 70 (6 * t + pN s) = pRcv s t by rw [hH t ht _ (Nat.le_refl _)]; unfold pPh; rw [if_pos rfl]]
  refine G_ineg d_X10_residueOf_14 ?_
  rw [show -(pRcv s t) = -(pRcv s t) + pLed s p t 0 from (Int.add_zero _).symm]
  refine G_istore_n d_X10_residueOf_15 (by decide) rfl ?_
  refine G_iconst d_X10_residueOf_16 ?_
  refine G_istore d_X10_residueOf_17 (by decide) rfl ?_
  exact L 0 (by omega)
theorem PH.step {s : Nat → Int} {t : Nat} {m : Nat → Nat → Int} (h : PH s t m) (hN : pN s ≤ 5) (h2 : ∀ k, k ≤ pN s → m 70 (6 * t + k) = pPh s k t) : PH s (t + 1) m := fun t' ht k hk => by
  by_cases e : t' = t
  · subst e; exact h2 k hk
  · exact h t' (by omega) k hk
theorem PH.keep {s : Nat → Int} {t : Nat} {m : Nat → Nat → Int} (h : PH s t m) {j : Nat} (x : Int) (hN : pN s ≤ 5) (hj : 6 * t ≤ j) : PH s t (upm m 70 j x) := fun t' ht k hk => by
  rw [upm_ne _ _ (fun _ => by omega)]
  exact h t' ht k hk
theorem sp_MlaysPhases {w : List KD} {m : Nat → Nat → Int} (s : Nat → Int) (hV : VS s) (hO : MO s m) (hP : MP s m) : Sp M_X10_laysPhases 3 0 0 [rV 64] (WC ++ (WM ++ w), m) (fun r h => r = none ∧ ∃ m2, h = (WC ++ (WM ++ w), m2) ∧ (∀ a, a ≠ 70 → m2 a = m a) ∧ PH s (pSc s) m2) := by
  refine Sp.ofG (ls := [rV 64, uV, uV, uV, uV]) (by decide +kernel) rfl (Nat.le_of_ble_eq_true rfl) ?_
  have hC := pC_le hV
  have hN := hV.N
  have hSc := hV.Sc
  have L : ∀ t : Nat, t ≤ pSc s → ∀ m1, (∀ a, a ≠ 70 → m1 a = m a) → PH s t m1 → G M_X10_laysPhases 3 0 0 7 [rV 64, iV (pChief s), iV (t : Int), uV, uV] [] (WC ++ (WM ++ w), m1) (fun r h => r = none ∧ ∃ m2, h = (WC ++ (WM ++ w), m2) ∧ (∀ a, a ≠ 70 → m2 a = m a) ∧ PH s (pSc s) m2) := by
    refine loop_up (pSc s) _ ?_
    intro t ht ih m1 hf hp
    have hO1 : MO s m1 := fun j hj => by rw [hf 65 (by decide)]; exact hO j hj
    have L2 : t < pSc s → ∀ k : Nat, k ≤ pN s → ∀ m2, (∀ a, a ≠ 70 → m2 a = m a) → PH s t m2 → (∀ k', k' < k → m2 70 (6 * t + k') = pOwn s k' t) → G M_X10_laysPhases 3 0 0 20 [rV 64, iV (pChief s), iV (t : Int), iV (if pChief s = -1 then 0 else pLed s (pChief s).toNat t k), iV (k : Int)] [] (WC ++ (WM ++ w), m2) (fun r h => r = none ∧ ∃ m2, h = (WC ++ (WM ++ w), m2) ∧ (∀ a, a ≠ 70 → m2 a = m a) ∧ PH s (pSc s) m2) := by
      intro htl
      refine loop_up (pN s) _ ?_
      intro k hk ih2 m2 hf2 hp2 hk2
      have hO2 : MO s m2 := fun j hj => by rw [hf2 65 (by decide)]; exact hO j hj
      have hP2 : MP s m2 := ⟨by rw [hf2 64 (by decide)]; exact hP.1, fun p hp k hk => by rw [hf2 66 (by decide)]; exact hP.2 p hp k hk⟩
      have hnew : ∀ x, (∀ a, a ≠ 70 → upm m2 70 (6 * t + k) x a = m a) := fun x a ha => by rw [upm_off _ _ ha]; exact hf2 a ha
      have hO3 : MO s (upm m2 70 (6 * t + k) (pOwn s k t)) := fun j hj => by rw [hnew _ 65 (by decide)]; exact hO j hj
      have hP3 : MP s (upm m2 70 (6 * t + k) (pOwn s k t)) := ⟨by rw [hnew _ 64 (by decide)]; exact hP.1, fun p hp k hk => by rw [hnew _ 66 (by decide)]; exact hP.2 p hp k hk⟩
      have hkn : k < pN s → ∀ k', k' < k + 1 → upm m2 70 (6 * t + k) (pOwn s k t) 70 (6 * t + k') = pOwn s k' t := fun hkl k' hk' => by
        by_cases e : k' = k
        · rw [e, upm_same]
        · rw [upm_ne _ _ (fun _ => by omega)]; exact hk2 k' (by omega)
      have hchr := pChief_rng s
      refine G_iload d_X10_laysPhases_20 rfl ?_
      refine G_aload_n d_X10_laysPhases_22 rfl ?_
      refine G_callV0 cl_X10_11 rfl d_X10_laysPhases_23 (wk_64 _) (Nat.le_of_ble_eq_true rfl) (by decide) (sp_Mn s hV hO2) ?_
      rintro _ _ ⟨rfl, rfl⟩
      refine G_icmp_ge 82 d_X10_laysPhases_26 (by decide) (by omega) (by omega) (fun c26 => ?_) (fun c26 => ?_)
      · refine G_aload_n d_X10_laysPhases_82 rfl ?_
        refine G_getR (r := 70) (fl_X10_54.r) d_X10_laysPhases_83 (wk_64 _) rfl rfl ?_
        refine G_bipush d_X10_laysPhases_86 (by decide) ?_
        refine G_iload_n d_X10_laysPhases_88 rfl ?_
        refine G_imul d_X10_laysPhases_89 ?_
        refine G_aload_n d_X10_laysPhases_90 rfl ?_
        refine G_callV0 cl_X10_11 rfl d_X10_laysPhases_91 (wk_64 _) (Nat.le_of_ble_eq_true rfl) (by decide) (sp_Mn s hV hO2) ?_
        rintro _ _ ⟨rfl, rfl⟩
        refine G_iadd d_X10_laysPhases_94 ?_
        refine G_aload_n d_X10_laysPhases_95 rfl ?_
        have hke : k = pN s := by omega
        subst hke
        refine G_callV0 cl_X10_155 rfl d_X10_laysPhases_96 (wk_64 _) (Nat.le_of_ble_eq_true rfl) (by decide) (sp_Mfollows s hV hO2) ?_
        rintro _ _ ⟨rfl, rfl⟩
        by_cases hf : s 3 = 0
        · rw [if_pos hf]
          refine G_if_eq 110 d_X10_laysPhases_99 (by decide) (by decide) (fun hd => absurd hd (by decide)) (fun _ => ?_)
          refine G_aload_n d_X10_laysPhases_102 rfl ?_
          refine G_iload_n d_X10_laysPhases_103 rfl ?_
          refine G_callV1 cl_X10_210 rfl d_X10_laysPhases_104 (wk_64 _) (Nat.le_of_ble_eq_true rfl) (by decide) (sp_Mrest s hV hO2 (v := if pChief s = -1 then 0 else pLed s (pChief s).toNat t (pN s)) (by have := pLed_rng hV (pChief s).toNat t (pN s) (by omega); by_cases hcc : pChief s = -1 <;> simp only [hcc, if_true, if_false] <;> omega)) ?_
          rintro _ _ ⟨rfl, rfl⟩
          refine G_goto 119 d_X10_laysPhases_107 (by decide) ?_
          refine G_iastj (6 * t + pN s) d_X10_laysPhases_119 (wk_70 _) (by omega) (by omega) (by decide) ?_
          refine G_iinc d_X10_laysPhases_120 rfl (by decide) rfl ?_
          refine G_goto 7 d_X10_laysPhases_123 (by decide) ?_
          refine G.fg (ih htl _ (fun a ha => by rw [upm_off _ _ ha]; exact hf2 a ha) ((hp2.keep _ hN.2.1 (by omega)).step hN.2.1 (fun k hk => by
            unfold pPh
            by_cases e : k = pN s
            · subst e
              rw [upm_same, if_pos rfl]
              unfold pRcv
              rw [if_pos hf]
              by_cases hcc : pChief s = -1
              · rw [if_pos hcc, if_pos hcc]; exact Int.zero_emod _
              · rw [if_neg hcc, if_neg hcc]; rfl
            · rw [upm_ne _ _ (fun _ => by omega), if_neg e]
              exact hk2 k (by omega)))) ?_
          repeat (first | exact trivial | refine wkL_cons (Or.inl rfl) ?_ | refine wkL_cons (Or.inr rfl) ?_)
        · rw [if_neg hf]
          refine G_if_eq 110 d_X10_laysPhases_99 (by decide) (by decide) (fun _ => ?_) (fun hd => absurd hd (by decide))
          refine G_aload_n d_X10_laysPhases_110 rfl ?_
          refine G_aload_n d_X10_laysPhases_111 rfl ?_
          refine G_callV0 cl_X10_11 rfl d_X10_laysPhases_112 (wk_64 _) (Nat.le_of_ble_eq_true rfl) (by decide) (sp_Mn s hV hO2) ?_
          rintro _ _ ⟨rfl, rfl⟩
          refine G_iload_n d_X10_laysPhases_115 rfl ?_
          refine G_callV2 cl_X10_216 rfl d_X10_laysPhases_116 (wk_64 _) (Nat.le_of_ble_eq_true rfl) (by decide) (sp_MownPhase s hV hO2 (pN s) t (by omega) (by omega)) ?_
          rintro _ _ ⟨rfl, rfl⟩
          refine G_iastj (6 * t + pN s) d_X10_laysPhases_119 (wk_70 _) (by omega) (by omega) (by decide) ?_
          refine G_iinc d_X10_laysPhases_120 rfl (by decide) rfl ?_
          refine G_goto 7 d_X10_laysPhases_123 (by decide) ?_
          refine G.fg (ih htl _ (fun a ha => by rw [upm_off _ _ ha]; exact hf2 a ha) ((hp2.keep _ hN.2.1 (by omega)).step hN.2.1 (fun k hk => by
            unfold pPh
            by_cases e : k = pN s
            · subst e
              rw [upm_same, if_pos rfl]
              unfold pRcv
              rw [if_neg hf]
            · rw [upm_ne _ _ (fun _ => by omega), if_neg e]
              exact hk2 k (by omega)))) ?_
          repeat (first | exact trivial | refine wkL_cons (Or.inl rfl) ?_ | refine wkL_cons (Or.inr rfl) ?_)
      · refine G_aload_n d_X10_laysPhases_29 rfl ?_
        refine G_getR (r := 70) (fl_X10_54.r) d_X10_laysPhases_30 (wk_64 _) rfl rfl ?_
        refine G_bipush d_X10_laysPhases_33 (by decide) ?_
        refine G_iload_n d_X10_laysPhases_35 rfl ?_
        refine G_imul d_X10_laysPhases_36 ?_
        refine G_iload d_X10_laysPhases_37 rfl ?_
        refine G_iadd d_X10_laysPhases_39 ?_
        refine G_aload_n d_X10_laysPhases_40 rfl ?_
        refine G_iload d_X10_laysPhases_41 rfl ?_
        refine G_iload_n d_X10_laysPhases_43 rfl ?_
        refine G_callV2 cl_X10_216 rfl d_X10_laysPhases_44 (wk_64 _) (Nat.le_of_ble_eq_true rfl) (by decide) (sp_MownPhase s hV hO2 k t (by omega) (by omega)) ?_
        rintro _ _ ⟨rfl, rfl⟩
        refine G_iastj (6 * t + k) d_X10_laysPhases_47 (wk_70 _) (by omega) (by omega) (by decide) ?_
        refine G_iload_n d_X10_laysPhases_48 rfl ?_
        refine G_iconst d_X10_laysPhases_49 ?_
        refine G_icmp_eq 76 d_X10_laysPhases_50 (by decide) (by omega) (by omega) (fun c50 => ?_) (fun c50 => ?_)
        · refine G_iinc d_X10_laysPhases_76 rfl (by decide) rfl ?_
          refine G_goto 20 d_X10_laysPhases_79 (by decide) ?_
          have e2 := ih2 (by omega) _ (hnew _) (hp2.keep _ hN.2.1 (by omega)) (hkn (by omega))
          rw [if_pos c50] at e2 ⊢
          exact e2
        · rw [if_neg c50]
          refine G_iload_n d_X10_laysPhases_53 rfl ?_
          refine G_aload_n d_X10_laysPhases_54 rfl ?_
          refine G_iload_n d_X10_laysPhases_55 rfl ?_
          refine G_iload d_X10_laysPhases_56 rfl ?_
          rw [show iV (pChief s) = iV (((pChief s).toNat : Nat) : Int) from by congr 1; omega]
          refine G_callV2 cl_X10_108 rfl d_X10_laysPhases_58 (wk_64 _) (Nat.le_of_ble_eq_true rfl) (by decide) (sp_Mchg s hV hO3 hP3 (pChief s).toNat k (by omega) (by omega)) ?_
          rintro _ _ ⟨rfl, rfl⟩
          refine G_aload_n d_X10_laysPhases_61 rfl ?_
          refine G_getR (r := 70) (fl_X10_54.r) d_X10_laysPhases_62 (wk_64 _) rfl rfl ?_
          refine G_bipush d_X10_laysPhases_65 (by decide) ?_
          refine G_iload_n d_X10_laysPhases_67 rfl ?_
          refine G_imul d_X10_laysPhases_68 ?_
          refine G_iload d_X10_laysPhases_69 rfl ?_
          refine G_iadd d_X10_laysPhases_71 ?_
          refine G_ialdj (6 * t + k) d_X10_laysPhases_72 (wk_70 _) (by omega) (by omega) (by decide) ?_
          rw [upm_same]
          refine G_imul d_X10_laysPhases_73 ?_
          refine G_iadd d_X10_laysPhases_74 ?_
          refine G_istore_n d_X10_laysPhases_75 (by decide) rfl ?_
          refine G_iinc d_X10_laysPhases_76 rfl (by decide) rfl ?_
          refine G_goto 20 d_X10_laysPhases_79 (by decide) ?_
          have e2 := ih2 (by omega) _ (hnew _) (hp2.keep _ hN.2.1 (by omega)) (hkn (by omega))
          rw [if_neg c50] at e2
          rw [show iV (((pChief s).toNat : Nat) : Int) = iV (pChief s) from by congr 1; omega]
          exact e2
    refine G_iload_n d_X10_laysPhases_7 rfl ?_
    refine G_aload_n d_X10_laysPhases_8 rfl ?_
    refine G_callV0 cl_X10_142 rfl d_X10_laysPhases_9 (wk_64 _) (Nat.le_of_ble_eq_true rfl) (by decide) (sp_Mscans s hV hO1) ?_
    rintro _ _ ⟨rfl, rfl⟩
    refine G_icmp_ge 126 d_X10_laysPhases_12 (by decide) (by omega) (by omega) (fun c12 => ?_) (fun c12 => ?_)
    · refine G_vret (mc := 0) (ms := 0) (st := []) d_X10_laysPhases_126 rfl ?_
      exact ⟨rfl, m1, rfl, hf, by rw [show pSc s = t by omega]; exact hp⟩
    · refine G_iconst d_X10_laysPhases_15 ?_
      refine G_istore_n d_X10_laysPhases_16 (by decide) rfl ?_
      refine G_iconst d_X10_laysPhases_17 ?_
      refine G_istore d_X10_laysPhases_18 (by decide) rfl ?_
      have e2 := L2 (by omega) 0 (by omega) m1 hf hp (fun k hk => absurd hk (by omega))
      by_cases hcc : pChief s = -1
      · rw [if_pos hcc] at e2
        exact e2
      · rw [if_neg hcc] at e2
        exact e2
  refine G_aload_n d_X10_laysPhases_0 rfl ?_
  refine G_callV0 cl_X10_213 rfl d_X10_laysPhases_1 (wk_64 _) (Nat.le_of_ble_eq_true rfl) (by decide) (sp_Mchief s hV hO hP) ?_
  rintro _ _ ⟨rfl, rfl⟩
  refine G_istore_n d_X10_laysPhases_4 (by decide) rfl ?_
  refine G_iconst d_X10_laysPhases_5 ?_
  refine G_istore_n d_X10_laysPhases_6 (by decide) rfl ?_
  exact L 0 (by omega) m (fun _ _ => rfl) (fun t ht => absurd ht (by omega))
theorem CN.step {s : Nat → Int} (hV : VS s) {p t : Nat} {m : Nat → Nat → Int} (h : CN (pCnt s p t) m) : CN (pCnt s p (t + 1)) (upm m 71 (pRes s p t) (m 71 (pRes s p t) + 1)) := fun r hr => by
  have hT := hV.T
  have hl := pRes_lt hV p t
  by_cases e : r = pRes s p t
  · subst e
    rw [upm_same, h _ (by omega)]
    unfold pCnt
    rw [cntB_t (by simp)]
    omega
  · rw [upm_ne _ _ (fun _ => e), h _ hr]
    unfold pCnt
    rw [cntB_f (by simpa using fun h => e h.symm)]
theorem sp_McountsFirst {w : List KD} {m : Nat → Nat → Int} (s : Nat → Int) (hV : VS s) (hO : MO s m) (hP : MP s m) (S p n : Nat) (hH : PH s S m) (hp : p < pC s) (hn : n ≤ S) (hn2 : n ≤ 512) : Sp M_X10_countsFirst 3 0 0 [rV 64, iV (p : Int), iV (n : Int)] (WC ++ (WM ++ w), m) (fun r h => r = none ∧ ∃ m2, h = (WC ++ (WM ++ w), m2) ∧ (∀ a, a ≠ 71 → m2 a = m a) ∧ CN (pCnt s p n) m2) := by
  refine Sp.ofG (ls := [rV 64, iV (p : Int), iV (n : Int), uV, uV]) (by decide +kernel) rfl (Nat.le_of_ble_eq_true rfl) ?_
  have hC := pC_le hV
  have hN := hV.N
  have hT := hV.T
  have L : ∀ t : Nat, t ≤ n → ∀ m1, (∀ a, a ≠ 71 → m1 a = m a) → CN (pCnt s p t) m1 → G M_X10_countsFirst 3 0 0 23 [rV 64, iV (p : Int), iV (n : Int), iV (t : Int), uV] [] (WC ++ (WM ++ w), m1) (fun r h => r = none ∧ ∃ m2, h = (WC ++ (WM ++ w), m2) ∧ (∀ a, a ≠ 71 → m2 a = m a) ∧ CN (pCnt s p n) m2) := by
    refine loop_up (n) _ ?_
    intro t ht ih m1 hf hc
    have hO1 : MO s m1 := fun j hj => by rw [hf 65 (by decide)]; exact hO j hj
    have hP1 : MP s m1 := ⟨by rw [hf 64 (by decide)]; exact hP.1, fun p hp k hk => by rw [hf 66 (by decide)]; exact hP.2 p hp k hk⟩
    have hH1 : PH s S m1 := fun t ht k hk => by rw [hf 70 (by decide)]; exact hH t ht k hk
    refine G_iload_n d_X10_countsFirst_23 rfl ?_
    refine G_iload_n d_X10_countsFirst_24 rfl ?_
    refine G_icmp_ge 58 d_X10_countsFirst_25 (by decide) (by omega) (by omega) (fun c25 => ?_) (fun c25 => ?_)
    · refine G_vret (mc := 0) (ms := 0) (st := []) d_X10_countsFirst_58 rfl ?_
      exact ⟨rfl, m1, rfl, hf, by rw [show n = t by omega]; exact hc⟩
    · refine G_aload_n d_X10_countsFirst_28 rfl ?_
      refine G_iload_n d_X10_countsFirst_29 rfl ?_
      refine G_iload_n d_X10_countsFirst_30 rfl ?_
      refine G_callV2 cl_X10_233 rfl d_X10_countsFirst_31 (wk_64 _) (Nat.le_of_ble_eq_true rfl) (by decide) (sp_Mres s hV hO1 hP1 S p t hH1 hp (by omega) (by omega)) ?_
      rintro _ _ ⟨rfl, rfl⟩
      have hl := pRes_lt hV p t
      refine G_istore d_X10_countsFirst_34 (by decide) rfl ?_
      refine G_aload_n d_X10_countsFirst_36 rfl ?_
      refine G_getR (r := 71) (fl_X10_57.r) d_X10_countsFirst_37 (wk_64 _) rfl rfl ?_
      refine G_iload d_X10_countsFirst_40 rfl ?_
      refine G_aload_n d_X10_countsFirst_42 rfl ?_
      refine G_getR (r := 71) (fl_X10_57.r) d_X10_countsFirst_43 (wk_64 _) rfl rfl ?_
      refine G_iload d_X10_countsFirst_46 rfl ?_
      refine G_ialdj (pRes s p t) d_X10_countsFirst_48 (wk_71 _) (by omega) (by omega) (by decide) ?_
      refine G_iconst d_X10_countsFirst_49 ?_
      refine G_iadd d_X10_countsFirst_50 ?_
      refine G_iastj (pRes s p t) d_X10_countsFirst_51 (wk_71 _) (by omega) (by omega) (by decide) ?_
      refine G_iinc d_X10_countsFirst_52 rfl (by decide) rfl ?_
      refine G_goto 23 d_X10_countsFirst_55 (by decide) ?_
      refine G.fg (ih (by omega) _ (fun a ha => by rw [upm_off _ _ ha]; exact hf a ha) (hc.step hV)) ?_
      repeat (first | exact trivial | refine wkL_cons (Or.inl rfl) ?_ | refine wkL_cons (Or.inr rfl) ?_)
  have L0 : ∀ i : Nat, i ≤ 48 → G M_X10_countsFirst 3 0 0 2 [rV 64, iV (p : Int), iV (n : Int), iV (i : Int), uV] [] (WC ++ (WM ++ w), flm m 71 0 i 0) (fun r h => r = none ∧ ∃ m2, h = (WC ++ (WM ++ w), m2) ∧ (∀ a, a ≠ 71 → m2 a = m a) ∧ CN (pCnt s p n) m2) := by
    refine loop_up (48) _ ?_
    intro i hi ih
    refine G_iload_n d_X10_countsFirst_2 rfl ?_
    refine G_bipush d_X10_countsFirst_3 (by decide) ?_
    refine G_icmp_ge 21 d_X10_countsFirst_5 (by decide) (by omega) (by omega) (fun c5 => ?_) (fun c5 => ?_)
    · refine G_iconst d_X10_countsFirst_21 ?_
      refine G_istore_n d_X10_countsFirst_22 (by decide) rfl ?_
      have hi48 : i = 48 := by omega
      subst hi48
      exact L 0 (by omega) _ (fun a ha => flm_off _ _ _ _ ha) (fun r hr => by rw [flm_in _ _ (by omega) hr]; rfl)
    · refine G_aload_n d_X10_countsFirst_8 rfl ?_
      refine G_getR (r := 71) (fl_X10_57.r) d_X10_countsFirst_9 (wk_64 _) rfl rfl ?_
      refine G_iload_n d_X10_countsFirst_12 rfl ?_
      refine G_iconst d_X10_countsFirst_13 ?_
      refine G_iastj (i) d_X10_countsFirst_14 (wk_71 _) (by omega) (by omega) (by decide) ?_
      refine G_iinc d_X10_countsFirst_15 rfl (by decide) rfl ?_
      refine G_goto 2 d_X10_countsFirst_18 (by decide) ?_
      rw [flm_step m 71 0 i 0 (by omega)]
      exact ih (by omega)
  refine G_iconst d_X10_countsFirst_0 ?_
  refine G_istore_n d_X10_countsFirst_1 (by decide) rfl ?_
  have h0 := L0 0 (by omega)
  rw [flm_nil] at h0
  exact h0
