theorem sp_Mbelow {w : List KD} {m : Nat → Nat → Int} (s : Nat → Int) (hV : VS s) (hI : MI s m) (a : Int) (hra : 0 ≤ a ∧ a ≤ 4) : Sp M_X10_below 7 0 0 [rV 64, iV a] (WC ++ (WM ++ w), m) (fun r h => r = some (iV (if dvS s a ≤ 0 then -1 else dvS s a)) ∧ ∃ m2, h = (WC ++ (WM ++ w), m2) ∧ KQ s m m2) := by
  refine Sp.ofG (ls := [rV 64, iV a]) (by decide +kernel) rfl (Nat.le_of_ble_eq_true rfl) ?_
  have hC := pC_le hV
  have hN := hV.N
  have hT := hV.T
  have hSc := hV.Sc
  refine G_iload_n d_X10_below_0 rfl ?_
  refine G_iconst d_X10_below_1 ?_
  refine G_icmp_ge 21 d_X10_below_2 (by decide) (by omega) (by omega) (fun c2 => ?_) (fun c2 => ?_)
  · refine G_iload_n d_X10_below_21 rfl ?_
    refine G_iconst d_X10_below_22 ?_
    refine G_icmp_ne 31 d_X10_below_23 (by decide) (by omega) (by omega) (fun c23 => ?_) (fun c23 => ?_)
    · refine G_iload_n d_X10_below_31 rfl ?_
      refine G_iconst d_X10_below_32 ?_
      refine G_icmp_ne 43 d_X10_below_33 (by decide) (by omega) (by omega) (fun c33 => ?_) (fun c33 => ?_)
      · refine G_aload_n d_X10_below_43 rfl ?_
        refine G_callV0 cl_X10_295 rfl d_X10_below_44 (wk_64 _) (Nat.le_of_ble_eq_true rfl) (by decide) (sp_MlaysCogs s hV hI) ?_
        rintro _ _ ⟨rfl, m2, rfl, h2, -⟩
        have hrr := lC_rng s
        refine G_iret (mc := 0) (ms := 0) (st := []) d_X10_below_47 rfl ?_
        have hd : dvS s a = lC (resC s) := by unfold dvS; rw [if_neg (by omega), if_neg (by omega), if_neg (by omega), if_pos (by omega)]
        exact ⟨by rw [hd]; congr 2; split <;> omega, m2, rfl, h2⟩
      · refine G_aload_n d_X10_below_36 rfl ?_
        refine G_callV0 cl_X10_292 rfl d_X10_below_37 (wk_64 _) (Nat.le_of_ble_eq_true rfl) (by decide) (sp_MlaysFewest s hV hI) ?_
        rintro _ _ ⟨rfl, m2, rfl, h2, -⟩
        have hrr := resF_rng hV
        refine G_goto 47 d_X10_below_40 (by decide) ?_
        refine G_iret (mc := 0) (ms := 0) (st := []) d_X10_below_47 rfl ?_
        have hd : dvS s a = (resF s).1 := by unfold dvS; rw [if_neg (by omega), if_neg (by omega), if_pos c33]
        exact ⟨by rw [hd]; congr 2; split <;> omega, m2, rfl, h2⟩
    · refine G_aload_n d_X10_below_26 rfl ?_
      refine G_callV0 cl_X10_142 rfl d_X10_below_27 (wk_64 _) (Nat.le_of_ble_eq_true rfl) (by decide) (sp_Mscans s hV hI.1) ?_
      rintro _ _ ⟨rfl, rfl⟩
      refine G_iret (mc := 0) (ms := 0) (st := []) d_X10_below_30 rfl ?_
      have hd : dvS s a = (pSc s : Int) := by unfold dvS; rw [if_neg (by omega), if_neg (by omega), if_neg (by omega), if_neg (by omega), if_pos c23]
      exact ⟨by rw [hd, if_neg (by omega)], m, rfl, KQ.refl hI⟩
  · refine G_aload_n d_X10_below_5 rfl ?_
    refine G_getIe (v := (pC s : Int)) (fl_X10_25.r) d_X10_below_6 (wk_64 _) rfl (hI.2.1.1) ?_
    refine G_if_ne 16 d_X10_below_9 (by decide) (by omega) (fun c9 => ?_) (fun c9 => ?_)
    · refine G_aload_n d_X10_below_16 rfl ?_
      refine G_getIe (v := (pC s : Int)) (fl_X10_25.r) d_X10_below_17 (wk_64 _) rfl (hI.2.1.1) ?_
      refine G_iret (mc := 0) (ms := 0) (st := []) d_X10_below_20 rfl ?_
      have hd : dvS s a = (pC s : Int) := by unfold dvS; by_cases e : a = 0; (· rw [if_pos e]); (· rw [if_neg e, if_pos (by omega)])
      exact ⟨by rw [hd, if_neg (by omega)], m, rfl, KQ.refl hI⟩
    · refine G_iconst d_X10_below_12 ?_
      refine G_goto 20 d_X10_below_13 (by decide) ?_
      refine G_iret (mc := 0) (ms := 0) (st := []) d_X10_below_20 rfl ?_
      have hd : dvS s a = (pC s : Int) := by unfold dvS; by_cases e : a = 0; (· rw [if_pos e]); (· rw [if_neg e, if_pos (by omega)])
      exact ⟨by rw [hd, if_pos (by omega)], m, rfl, KQ.refl hI⟩
theorem sp_Mabove {w : List KD} {m : Nat → Nat → Int} (s : Nat → Int) (hV : VS s) (hI : MI s m) (a : Int) (hra : 0 ≤ a ∧ a ≤ 4) : Sp M_X10_above 7 0 0 [rV 64, iV a] (WC ++ (WM ++ w), m) (fun r h => r = some (iV (abS s a)) ∧ ∃ m2, h = (WC ++ (WM ++ w), m2) ∧ KQ s m m2) := by
  refine Sp.ofG (ls := [rV 64, iV a, uV, uV]) (by decide +kernel) rfl (Nat.le_of_ble_eq_true rfl) ?_
  have hC := pC_le hV
  have hN := hV.N
  have hT := hV.T
  have hSc := hV.Sc
  have L : ∀ p : Nat, p ≤ pC s → a = 1 → ∀ m1, KQ s m m1 → G M_X10_above 7 0 0 18 [rV 64, iV a, iV (cntB (fun p => pSt s p != 0) p : Nat), iV (p : Int)] [] (WC ++ (WM ++ w), m1) (fun r h => r = some (iV (abS s a)) ∧ ∃ m2, h = (WC ++ (WM ++ w), m2) ∧ KQ s m m2) := by
    refine loop_up (pC s) _ ?_
    intro p hp ih ha m1 h1
    refine G_iload_n d_X10_above_18 rfl ?_
    refine G_aload_n d_X10_above_19 rfl ?_
    refine G_getIe (v := (pC s : Int)) (fl_X10_25.r) d_X10_above_20 (wk_64 _) rfl (h1.2.2.1.1) ?_
    refine G_icmp_ge 44 d_X10_above_23 (by decide) (by omega) (by omega) (fun c23 => ?_) (fun c23 => ?_)
    · refine G_iload_n d_X10_above_44 rfl ?_
      refine G_iret (mc := 0) (ms := 0) (st := []) d_X10_above_45 rfl ?_
      exact ⟨by unfold abS; rw [if_neg (by omega), if_pos ha, show p = pC s by omega], m1, rfl, h1⟩
    · refine G_aload_n d_X10_above_26 rfl ?_
      refine G_iload_n d_X10_above_27 rfl ?_
      refine G_callV1 cl_X10_251 rfl d_X10_above_28 (wk_64 _) (Nat.le_of_ble_eq_true rfl) (by decide) (sp_MstateOf s hV h1.2 p (by omega)) ?_
      rintro _ _ ⟨rfl, m2, rfl, h2⟩
      have hsr := pSt_rng s p
      refine G_if_eq 38 d_X10_above_31 (by decide) (by omega) (fun c31 => ?_) (fun c31 => ?_)
      · refine G_iinc d_X10_above_38 rfl (by decide) rfl ?_
        refine G_goto 18 d_X10_above_41 (by decide) ?_
        rw [cntB_f (f := (fun p => pSt s p != 0)) (by simpa using c31)] at ih
        exact ih (by omega) ha m2 (h1.trans h2)
      · refine G_iload_n d_X10_above_34 rfl ?_
        refine G_iconst d_X10_above_35 ?_
        refine G_iadd d_X10_above_36 ?_
        refine G_istore_n d_X10_above_37 (by decide) rfl ?_
        refine G_iinc d_X10_above_38 rfl (by decide) rfl ?_
        refine G_goto 18 d_X10_above_41 (by decide) ?_
        rw [cntB_t (f := (fun p => pSt s p != 0)) (by simpa using c31)] at ih
        exact ih (by omega) ha m2 (h1.trans h2)
  refine G_iload_n d_X10_above_0 rfl ?_
  refine G_if_ne 9 d_X10_above_1 (by decide) (by omega) (fun c1 => ?_) (fun c1 => ?_)
  · refine G_iload_n d_X10_above_9 rfl ?_
    refine G_iconst d_X10_above_10 ?_
    refine G_icmp_ne 46 d_X10_above_11 (by decide) (by omega) (by omega) (fun c11 => ?_) (fun c11 => ?_)
    · refine G_iload_n d_X10_above_46 rfl ?_
      refine G_iconst d_X10_above_47 ?_
      refine G_icmp_ne 58 d_X10_above_48 (by decide) (by omega) (by omega) (fun c48 => ?_) (fun c48 => ?_)
      · refine G_aload_n d_X10_above_58 rfl ?_
        refine G_callV0 cl_X10_142 rfl d_X10_above_59 (wk_64 _) (Nat.le_of_ble_eq_true rfl) (by decide) (sp_Mscans s hV hI.1) ?_
        rintro _ _ ⟨rfl, rfl⟩
        refine G_iret (mc := 0) (ms := 0) (st := []) d_X10_above_62 rfl ?_
        exact ⟨by unfold abS; rw [if_neg c1, if_neg c11, if_neg c48], m, rfl, KQ.refl hI⟩
      · refine G_aload_n d_X10_above_51 rfl ?_
        refine G_callV0 cl_X10_148 rfl d_X10_above_52 (wk_64 _) (Nat.le_of_ble_eq_true rfl) (by decide) (sp_Mt s hV hI.1) ?_
        rintro _ _ ⟨rfl, rfl⟩
        refine G_goto 62 d_X10_above_55 (by decide) ?_
        refine G_iret (mc := 0) (ms := 0) (st := []) d_X10_above_62 rfl ?_
        exact ⟨by unfold abS; rw [if_neg c1, if_neg c11, if_pos c48], m, rfl, KQ.refl hI⟩
    · refine G_iconst d_X10_above_14 ?_
      refine G_istore_n d_X10_above_15 (by decide) rfl ?_
      refine G_iconst d_X10_above_16 ?_
      refine G_istore_n d_X10_above_17 (by decide) rfl ?_
      exact L 0 (by omega) c11 m (KQ.refl hI)
  · refine G_aload_n d_X10_above_4 rfl ?_
    refine G_callV0 cl_X10_323 rfl d_X10_above_5 (wk_64 _) (Nat.le_of_ble_eq_true rfl) (by decide) (sp_Mleaks s hV hI) ?_
    rintro _ _ ⟨rfl, m2, rfl, h2⟩
    refine G_iret (mc := 0) (ms := 0) (st := []) d_X10_above_8 rfl ?_
    exact ⟨by unfold abS; rw [if_pos c1], m2, rfl, h2⟩
