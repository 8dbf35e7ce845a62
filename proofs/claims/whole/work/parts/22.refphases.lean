theorem rest_eq {v T : Int} (hT : 0 < T) : (if v.tmod T < 0 then v.tmod T + T else v.tmod T) = v % T := by
  have h1 := Int.mul_tdiv_add_tmod v T
  have h2 := Int.tmod_lt_of_pos v hT
  have h3 := Int.lt_tmod_of_pos v hT
  generalize v.tmod T = r at *
  have e : v % T = r % T := by rw [← h1, Int.add_comm, Int.add_mul_emod_self_left]
  rw [e]
  by_cases hr : r < 0
  · rw [if_pos hr, ← Int.add_emod_right, Int.emod_eq_of_lt (by omega) (by omega)]
  · rw [if_neg hr, Int.emod_eq_of_lt (by omega) (by omega)]
theorem chb {a b : Int} (h1 : -6 ≤ a ∧ a ≤ 6) (h2 : 0 ≤ b ∧ b ≤ 48) : -288 ≤ a * b ∧ a * b ≤ 288 := by
  rcases (show a = -6 ∨ a = -5 ∨ a = -4 ∨ a = -3 ∨ a = -2 ∨ a = -1 ∨ a = 0 ∨ a = 1 ∨ a = 2 ∨ a = 3 ∨ a = 4 ∨ a = 5 ∨ a = 6 by omega) with rfl | rfl | rfl | rfl | rfl | rfl | rfl | rfl | rfl | rfl | rfl | rfl | rfl <;> omega
theorem pOwn_rng {s : Nat → Int} (h : VS s) (k t : Nat) : 0 ≤ pOwn s k t ∧ pOwn s k t < pT s ∧ pOwn s k t ≤ 48 := by
  have hT := h.T
  have h1 := Int.emod_nonneg (pOwS s k t 4) (show ((pT s : Nat) : Int) ≠ 0 by omega)
  have h2 := Int.emod_lt_of_pos (pOwS s k t 4) (show (0 : Int) < (pT s : Nat) by omega)
  unfold pOwn
  omega
/-- changes times phases -/
def pLed (s : Nat → Int) (p t k : Nat) : Int := sumN (fun k => pCh s p k * pOwn s k t) k
theorem pLed_rng {s : Nat → Int} (h : VS s) (p t k : Nat) (hk : k ≤ 5) : -1440 ≤ pLed s p t k ∧ pLed s p t k ≤ 1440 := by
  have h1 := sumN_bnd (f := fun k => pCh s p k * pOwn s k t) (B := 288) (n := k) (fun i _ => by
    have h2 := pOwn_rng h i t
    exact chb (pCh_rng h p i) ⟨h2.1, h2.2.2⟩)
  unfold pLed
  omega
theorem pRcv_rng {s : Nat → Int} (h : VS s) (t : Nat) : 0 ≤ pRcv s t ∧ pRcv s t < pT s := by
  have hT := h.T
  unfold pRcv
  by_cases h3 : s 3 = 0
  · rw [if_pos h3]
    by_cases hc : pChief s = -1
    · rw [if_pos hc]; omega
    · rw [if_neg hc]
      exact ⟨Int.emod_nonneg _ (by omega), Int.emod_lt_of_pos _ (by omega)⟩
  · rw [if_neg h3]
    have := pOwn_rng h (pN s) t
    omega
theorem pRes_lt {s : Nat → Int} (h : VS s) (p t : Nat) : pRes s p t < pT s := by
  have hT := h.T
  have h1 := Int.emod_nonneg (sumN (fun k => pCh s p k * pOwn s k t) (pN s) - pRcv s t) (show ((pT s : Nat) : Int) ≠ 0 by omega)
  have h2 := Int.emod_lt_of_pos (sumN (fun k => pCh s p k * pOwn s k t) (pN s) - pRcv s t) (show (0 : Int) < (pT s : Nat) by omega)
  unfold pRes
  omega
theorem pRes_eq {s : Nat → Int} (h : VS s) (p t : Nat) : ((pRes s p t : Nat) : Int) = (pLed s p t (pN s) - pRcv s t) % (pT s : Int) := by
  have hT := h.T
  have h1 := Int.emod_nonneg (sumN (fun k => pCh s p k * pOwn s k t) (pN s) - pRcv s t) (show ((pT s : Nat) : Int) ≠ 0 by omega)
  unfold pRes pLed
  omega
theorem pChief_rng (s : Nat → Int) : -1 ≤ pChief s ∧ pChief s < (pC s : Int) := by
  have key : ∀ (f : Nat → Bool) n, -1 ≤ firstB f n ∧ firstB f n < (n : Int) ∨ (n = 0 ∧ firstB f n = -1) := by
    intro f n
    induction n with
    | zero => exact Or.inr ⟨rfl, rfl⟩
    | succ n ih =>
      left
      unfold firstB
      by_cases h : 0 ≤ firstB f n
      · rw [if_pos h]; omega
      · rw [if_neg h]
        by_cases h2 : f n = true
        · rw [if_pos h2]; omega
        · rw [if_neg h2]; omega
  rcases key (fun p => pMk s p == 1) (pC s) with h | ⟨h1, h2⟩
  · exact h
  · unfold pChief
    rw [h2]
    omega
/-- the reference's phases of the first S scans -/
def PH (s : Nat → Int) (S : Nat) (m : Nat → Nat → Int) : Prop := ∀ t, t < S → ∀ k, k ≤ pN s → m 70 (6 * t + k) = pPh s k t
def CN (f : Nat → Int) (m : Nat → Nat → Int) : Prop := ∀ r, r < 48 → m 71 r = f r
theorem sp_Mrest {w : List KD} {m : Nat → Nat → Int} (s : Nat → Int) (hV : VS s) (hO : MO s m) {v : Int} (hv : -2147483648 < v ∧ v < 2147483648) : Sp M_X10_rest 1 0 0 [rV 64, iV v] (WC ++ (WM ++ w), m) (fun r h => r = some (iV (v % (pT s : Int))) ∧ h = (WC ++ (WM ++ w), m)) := by
  refine Sp.ofG (ls := [rV 64, iV v, uV]) (by decide +kernel) rfl (Nat.le_of_ble_eq_true rfl) ?_
  have hT := hV.T
  have h2 := Int.tmod_lt_of_pos v (show (0 : Int) < (pT s : Nat) by omega)
  have h3 := Int.lt_tmod_of_pos v (show (0 : Int) < (pT s : Nat) by omega)
  have h4 := rest_eq (v := v) (T := (pT s : Int)) (by omega)
  refine G_iload_n d_X10_rest_0 rfl ?_
  refine G_aload_n d_X10_rest_1 rfl ?_
  refine G_callV0 cl_X10_148 rfl d_X10_rest_2 (wk_64 _) (Nat.le_of_ble_eq_true rfl) (by decide) (sp_Mt s hV hO) ?_
  rintro _ _ ⟨rfl, rfl⟩
  refine G_irem d_X10_rest_5 (by omega) (by omega) (by omega) ?_
  refine G_istore_n d_X10_rest_6 (by decide) rfl ?_
  refine G_iload_n d_X10_rest_7 rfl ?_
  refine G_if_ge 20 d_X10_rest_8 (by decide) (by omega) (fun c8 => ?_) (fun c8 => ?_)
  · refine G_iload_n d_X10_rest_20 rfl ?_
    refine G_iret (mc := 0) (ms := 0) (st := []) d_X10_rest_21 rfl ?_
    exact ⟨by rw [← h4, if_neg (by omega)], rfl⟩
  · refine G_iload_n d_X10_rest_11 rfl ?_
    refine G_aload_n d_X10_rest_12 rfl ?_
    refine G_callV0 cl_X10_148 rfl d_X10_rest_13 (wk_64 _) (Nat.le_of_ble_eq_true rfl) (by decide) (sp_Mt s hV hO) ?_
    rintro _ _ ⟨rfl, rfl⟩
    refine G_iadd d_X10_rest_16 ?_
    refine G_goto 21 d_X10_rest_17 (by decide) ?_
    refine G_iret (mc := 0) (ms := 0) (st := []) d_X10_rest_21 rfl ?_
    exact ⟨by rw [← h4, if_pos (by omega)], rfl⟩
theorem pRs_div (s : Nat → Int) (t : Nat) : ∀ j, t / pLp s j = pRs s t j
  | 0 => Nat.div_one t
  | j + 1 => by
    show t / (pLp s j * pL s j) = pRs s t j / pL s j
    rw [← pRs_div s t j, Nat.div_div_eq_div_mul]
theorem pLp_pos {s : Nat → Int} (h : VS s) : ∀ j, j ≤ 4 → 0 < pLp s j ∧ pLp s j ≤ 12 ^ j
  | 0, _ => ⟨Nat.one_pos, Nat.le_refl _⟩
  | j + 1, hj => by
    have h1 := pLp_pos h j (by omega)
    have h2 := h.L j (by omega)
    exact ⟨Nat.mul_pos h1.1 (by omega), by rw [Nat.pow_succ]; exact Nat.mul_le_mul h1.2 h2.2.1⟩
theorem pLp_le {s : Nat → Int} (h : VS s) (j : Nat) (hj : j ≤ 4) : 0 < pLp s j ∧ pLp s j ≤ 20736 := by
  have h1 := pLp_pos h j hj
  refine ⟨h1.1, Nat.le_trans h1.2 ?_⟩
  rcases (show j = 0 ∨ j = 1 ∨ j = 2 ∨ j = 3 ∨ j = 4 by omega) with rfl | rfl | rfl | rfl | rfl <;> decide
theorem sp_MownPhase {w : List KD} {m : Nat → Nat → Int} (s : Nat → Int) (hV : VS s) (hO : MO s m) (k t : Nat) (hk : k ≤ 5) (ht : t < 512) : Sp M_X10_ownPhase 2 0 0 [rV 64, iV (k : Int), iV (t : Int)] (WC ++ (WM ++ w), m) (fun r h => r = some (iV (pOwn s k t)) ∧ h = (WC ++ (WM ++ w), m)) := by
  refine Sp.ofG (ls := [rV 64, iV (k : Int), iV (t : Int), uV, uV, uV]) (by decide +kernel) rfl (Nat.le_of_ble_eq_true rfl) ?_
  have hT := hV.T
  have hrng := pOwS_rng hV hk (t := t)
  have L : ∀ j : Nat, j ≤ 4 → G M_X10_ownPhase 2 0 0 19 [rV 64, iV (k : Int), iV (t : Int), iV (pOwS s k t j), iV ((pLp s j : Nat) : Int), iV (j : Int)] [] (WC ++ (WM ++ w), m) (fun r h => r = some (iV (pOwn s k t)) ∧ h = (WC ++ (WM ++ w), m)) := by
    refine loop_up (4) _ ?_
    intro j hj ih
    refine G_iload d_X10_ownPhase_19 rfl ?_
    refine G_iconst d_X10_ownPhase_21 ?_
    refine G_icmp_ge 64 d_X10_ownPhase_22 (by decide) (by omega) (by omega) (fun c22 => ?_) (fun c22 => ?_)
    · have hj4 : j = 4 := by omega
      subst hj4
      refine G_aload_n d_X10_ownPhase_64 rfl ?_
      refine G_iload_n d_X10_ownPhase_65 rfl ?_
      refine G_callV1 cl_X10_210 rfl d_X10_ownPhase_66 (wk_64 _) (Nat.le_of_ble_eq_true rfl) (by decide) (sp_Mrest s hV hO (by omega)) ?_
      rintro _ _ ⟨rfl, rfl⟩
      refine G_iret (mc := 0) (ms := 0) (st := []) d_X10_ownPhase_69 rfl ?_
      exact ⟨rfl, rfl⟩
    · have hp1 := pLp_le hV j (by omega)
      have hle := pRs_le s t j
      have hL := hV.L j (by omega)
      refine G_iload_n d_X10_ownPhase_25 rfl ?_
      refine G_iload_n d_X10_ownPhase_26 rfl ?_
      refine G_iload d_X10_ownPhase_27 rfl ?_
      refine G_idivN (t) (pLp s j) (rfl) (rfl) d_X10_ownPhase_29 (by omega) (by omega) (by omega) ?_
      rw [pRs_div]
      refine G_aload_n d_X10_ownPhase_30 rfl ?_
      refine G_iload d_X10_ownPhase_31 rfl ?_
      refine G_callV1 cl_X10_136 rfl d_X10_ownPhase_33 (wk_64 _) (Nat.le_of_ble_eq_true rfl) (by decide) (sp_MlengthOf s hV hO j (by omega)) ?_
      rintro _ _ ⟨rfl, rfl⟩
      refine G_iremN (pRs s t j) (pL s j) (rfl) (rfl) d_X10_ownPhase_36 (by omega) (by omega) (by omega) ?_
      refine G_aload_n d_X10_ownPhase_37 rfl ?_
      refine G_iload_n d_X10_ownPhase_38 rfl ?_
      refine G_iload d_X10_ownPhase_39 rfl ?_
      refine G_callV2 cl_X10_207 rfl d_X10_ownPhase_41 (wk_64 _) (Nat.le_of_ble_eq_true rfl) (by decide) (sp_MstepOf s hV hO k j (by omega) (by omega)) ?_
      rintro _ _ ⟨rfl, rfl⟩
      refine G_imul d_X10_ownPhase_44 ?_
      refine G_iadd d_X10_ownPhase_45 ?_
      rw [show pOwS s k t j + ((pRs s t j % pL s j : Nat) : Int) * pS s k j = pOwS s k t (j + 1) from Int.add_assoc _ _ _]
      refine G_istore_n d_X10_ownPhase_46 (by decide) rfl ?_
      refine G_iload d_X10_ownPhase_47 rfl ?_
      refine G_aload_n d_X10_ownPhase_49 rfl ?_
      refine G_iload d_X10_ownPhase_50 rfl ?_
      refine G_callV1 cl_X10_136 rfl d_X10_ownPhase_52 (wk_64 _) (Nat.le_of_ble_eq_true rfl) (by decide) (sp_MlengthOf s hV hO j (by omega)) ?_
      rintro _ _ ⟨rfl, rfl⟩
      refine G_imul d_X10_ownPhase_55 ?_
      rw [← Int.natCast_mul]
      refine G_istore d_X10_ownPhase_56 (by decide) rfl ?_
      refine G_iinc d_X10_ownPhase_58 rfl (by decide) rfl ?_
      refine G_goto 19 d_X10_ownPhase_61 (by decide) ?_
      exact ih (by omega)
  have hRL := hV.RL k (by omega)
  have hx0 : t % pRL s k < pRL s k := Nat.mod_lt _ (by omega)
  refine G_aload_n d_X10_ownPhase_0 rfl ?_
  refine G_iload_n d_X10_ownPhase_1 rfl ?_
  refine G_iload_n d_X10_ownPhase_2 rfl ?_
  refine G_aload_n d_X10_ownPhase_3 rfl ?_
  refine G_iload_n d_X10_ownPhase_4 rfl ?_
  refine G_callV1 cl_X10_201 rfl d_X10_ownPhase_5 (wk_64 _) (Nat.le_of_ble_eq_true rfl) (by decide) (sp_MrowLong s hV hO k (by omega)) ?_
  rintro _ _ ⟨rfl, rfl⟩
  refine G_iremN (t) (pRL s k) (rfl) (rfl) d_X10_ownPhase_8 (by omega) (by omega) (by omega) ?_
  refine G_callV2 cl_X10_204 rfl d_X10_ownPhase_9 (wk_64 _) (Nat.le_of_ble_eq_true rfl) (by decide) (sp_MrowOf s hV hO k (t % pRL s k) (by omega) (by omega)) ?_
  rintro _ _ ⟨rfl, rfl⟩
  rw [show pR s k (t % pRL s k) = pOwS s k t 0 from (Int.add_zero _).symm]
  refine G_istore_n d_X10_ownPhase_12 (by decide) rfl ?_
  refine G_iconst d_X10_ownPhase_13 ?_
  refine G_istore d_X10_ownPhase_14 (by decide) rfl ?_
  refine G_iconst d_X10_ownPhase_16 ?_
  refine G_istore d_X10_ownPhase_17 (by decide) rfl ?_
  exact L 0 (by omega)
theorem sp_Mres {w : List KD} {m : Nat → Nat → Int} (s : Nat → Int) (hV : VS s) (hO : MO s m) (hP : MP s m) (S p t : Nat) (hH : PH s S m) (hp : p < pC s) (ht : t < S) (ht2 : t < 512) : Sp M_X10_residueOf 2 0 0 [rV 64, iV (p : Int), iV (t : Int)] (WC ++ (WM ++ w), m) (fun r h => r = some (iV ((pRes s p t : Nat) : Int)) ∧ h = (WC ++ (WM ++ w), m)) := by
  refine Sp.ofG (ls := [rV 64, iV (p : Int), iV (t : Int), uV, uV]) (by decide +kernel) rfl (Nat.le_of_ble_eq_true rfl) ?_
  have hC := pC_le hV
  have hN := hV.N
  have hT := hV.T
  have hrc := pRcv_rng hV t
  have L : ∀ k : Nat, k ≤ pN s → G M_X10_residueOf 2 0 0 19 [rV 64, iV (p : Int), iV (t : Int), iV (-(pRcv s t) + pLed s p t k), iV (k : Int)] [] (WC ++ (WM ++ w), m) (fun r h => r = some (iV ((pRes s p t : Nat) : Int)) ∧ h = (WC ++ (WM ++ w), m)) := by
    refine loop_up (pN s) _ ?_
    intro k hk ih
    refine G_iload d_X10_residueOf_19 rfl ?_
    refine G_aload_n d_X10_residueOf_21 rfl ?_
    refine G_callV0 cl_X10_11 rfl d_X10_residueOf_22 (wk_64 _) (Nat.le_of_ble_eq_true rfl) (by decide) (sp_Mn s hV hO) ?_
    rintro _ _ ⟨rfl, rfl⟩
    refine G_icmp_ge 57 d_X10_residueOf_25 (by decide) (by omega) (by omega) (fun c25 => ?_) (fun c25 => ?_)
    · refine G_aload_n d_X10_residueOf_57 rfl ?_
      refine G_iload_n d_X10_residueOf_58 rfl ?_
      have hke : k = pN s := by omega
      subst hke
      refine G_callV1 cl_X10_210 rfl d_X10_residueOf_59 (wk_64 _) (Nat.le_of_ble_eq_true rfl) (by decide) (sp_Mrest s hV hO (v := -(pRcv s t) + pLed s p t (pN s)) (by have := pLed_rng hV p t (pN s) (by omega); omega)) ?_
      rintro _ _ ⟨rfl, rfl⟩
      refine G_iret (mc := 0) (ms := 0) (st := []) d_X10_residueOf_62 rfl ?_
      exact ⟨by rw [pRes_eq hV, show -(pRcv s t) + pLed s p t (pN s) = pLed s p t (pN s) - pRcv s t by omega], rfl⟩
    · refine G_iload_n d_X10_residueOf_28 rfl ?_
      refine G_aload_n d_X10_residueOf_29 rfl ?_
      refine G_iload_n d_X10_residueOf_30 rfl ?_
      refine G_iload d_X10_residueOf_31 rfl ?_
      refine G_callV2 cl_X10_108 rfl d_X10_residueOf_33 (wk_64 _) (Nat.le_of_ble_eq_true rfl) (by decide) (sp_Mchg s hV hO hP p k hp (by omega)) ?_
      rintro _ _ ⟨rfl, rfl⟩
      refine G_aload_n d_X10_residueOf_36 rfl ?_
      refine G_getR (r := 70) (fl_X10_54.r) d_X10_residueOf_37 (wk_64 _) rfl rfl ?_
      refine G_bipush d_X10_residueOf_40 (by decide) ?_
      refine G_iload_n d_X10_residueOf_42 rfl ?_
      refine G_imul d_X10_residueOf_43 ?_
      refine G_iload d_X10_residueOf_44 rfl ?_
      refine G_iadd d_X10_residueOf_46 ?_
      refine G_ialdj (6 * t + k) d_X10_residueOf_47 (wk_70 _) (by omega) (by omega) (by decide) ?_
      rw [show m 70 (6 * t + k) = pOwn s k t by rw [hH t ht k (by omega)]; unfold pPh; rw [if_neg (by omega)]]
      refine G_imul d_X10_residueOf_48 ?_
      refine G_iadd d_X10_residueOf_49 ?_
      rw [show -(pRcv s t) + pLed s p t k + pCh s p k * pOwn s k t = -(pRcv s t) + pLed s p t (k + 1) from Int.add_assoc _ _ _]
      refine G_istore_n d_X10_residueOf_50 (by decide) rfl ?_
      refine G_iinc d_X10_residueOf_51 rfl (by decide) rfl ?_
      refine G_goto 19 d_X10_residueOf_54 (by decide) ?_
      exact ih (by omega)
  refine G_aload_n d_X10_residueOf_0 rfl ?_
  refine G_getR (r := 70) (fl_X10_54.r) d_X10_residueOf_1 (wk_64 _) rfl rfl ?_
  refine G_bipush d_X10_residueOf_4 (by decide) ?_
  refine G_iload_n d_X10_residueOf_6 rfl ?_
  refine G_imul d_X10_residueOf_7 ?_
  refine G_aload_n d_X10_residueOf_8 rfl ?_
  refine G_callV0 cl_X10_11 rfl d_X10_residueOf_9 (wk_64 _) (Nat.le_of_ble_eq_true rfl) (by decide) (sp_Mn s hV hO) ?_
  rintro _ _ ⟨rfl, rfl⟩
  refine G_iadd d_X10_residueOf_12 ?_
  refine G_ialdj (6 * t + pN s) d_X10_residueOf_13 (wk_70 _) (by omega) (by omega) (by decide) ?_
  rw [show m 70 (6 * t + pN s) = pRcv s t by rw [hH t ht _ (Nat.le_refl _)]; unfold pPh; rw [if_pos rfl]]
  refine G_ineg d_X10_residueOf_14 ?_
  rw [show -(pRcv s t) = -(pRcv s t) + pLed s p t 0 from (Int.add_zero _).symm]
  refine G_istore_n d_X10_residueOf_15 (by decide) rfl ?_
  refine G_iconst d_X10_residueOf_16 ?_
  refine G_istore d_X10_residueOf_17 (by decide) rfl ?_
  exact L 0 (by omega)
