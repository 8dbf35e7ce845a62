theorem sp_CisScan1 {w : List KD} {m : Nat → Nat → Int} (s : Nat → Int) (hV : VS s) (hB : CB s m) (x : Int) (hrx : -2147483648 ≤ x ∧ x < 2147483648) : Sp M_X9_isScan 1 0 0 [rV 0, iV (x - 1)] (WC ++ w, m) (fun r h => r = some (iV (if 1 ≤ x ∧ x ≤ (pSc s : Int) then 1 else 0)) ∧ h = (WC ++ w, m)) := by
  have hSc := hV.Sc
  by_cases e : x = -2147483648
  · subst e
    have h9 := sp_CisScan s hV hB 2147483647 (by decide) (w := w)
    rw [if_neg (by omega)] at h9
    rw [if_neg (by omega)]
    exact h9
  · have h9 := sp_CisScan s hV hB (x - 1) (by omega) (w := w)
    by_cases c : 1 ≤ x ∧ x ≤ (pSc s : Int)
    · rw [if_pos (by omega)] at h9
      rw [if_pos c]
      exact h9
    · rw [if_neg (by omega)] at h9
      rw [if_neg c]
      exact h9
theorem CI.scr {s : Nat → Int} {m m2 : Nat → Nat → Int} (h : CI s m) (hN : pN s ≤ 5) (k : ∀ a, a ≠ 51 → m2 a = m a) : CI s m2 :=
  ⟨h.1.far hN (fun a ha => k a (by omega)), h.2.1.keep (by rw [k 0 (by decide)]) (k 50 (by decide)), h.2.2.keep (fun a h1 h2 => k a (by omega)) (fun e => by rw [k 25 (by decide)]; exact e)⟩
theorem FXo.scr {m m2 : Nat → Nat → Int} (k : ∀ a, a ≠ 51 → m2 a = m a) : FXo m m2 := ⟨fun a h1 h2 => k a (by omega), by rw [k 0 (by decide)]⟩
/-- the sum of the first residues -/
theorem SM.next {s : Nat → Int} {p t : Nat} {m : Nat → Nat → Int} (h : SM (pT s) (addL (pCnt s p t) (pRes s p t) 1) (t + (1 : Int).toNat) m) : SM (pT s) (pCnt s p (t + 1)) (t + 1) m := by
  refine SM.congr h (funext (fun x => ?_))
  rw [pCnt_S]
  rfl
theorem sp_Cearly {w : List KD} {m : Nat → Nat → Int} (s : Nat → Int) (hV : VS s) (hI : CI s m) (a : Int) (hra : -2147483648 ≤ a ∧ a < 2147483648) (b : Int) (hrb : -2147483648 ≤ b ∧ b < 2147483648) : Sp M_X9_early 4 0 0 [rV 0, iV a, iV b] (WC ++ w, m) (fun r h => r = some (iV (vEarly s a b)) ∧ ∃ m2, h = (WC ++ w, m2) ∧ CI s m2 ∧ FXo m m2) := by
  refine Sp.ofG (ls := [rV 0, iV a, iV b]) (by decide +kernel) rfl (Nat.le_of_ble_eq_true rfl) ?_
  have hC := pC_le hV
  have hN := hV.N
  have hT := hV.T
  have hSc := hV.Sc
  refine G_aload_n d_X9_early_0 rfl ?_
  refine G_iload_n d_X9_early_1 rfl ?_
  refine G_callV1 cl_X9_181 rfl d_X9_early_2 (wk_0 _) (Nat.le_of_ble_eq_true rfl) (by decide) (sp_CisPath s hV hI.1 a hra) ?_
  rintro _ _ ⟨rfl, rfl⟩
  by_cases hp : 0 ≤ a ∧ a < (pC s : Int)
  · rw [if_pos hp]
    obtain ⟨p, rfl⟩ : ∃ n : Nat, a = (n : Int) := ⟨a.toNat, by omega⟩
    refine G_if_eq 18 d_X9_early_5 (by decide) (by decide) (fun hd => absurd hd (by decide)) (fun _ => ?_)
    refine G_aload_n d_X9_early_8 rfl ?_
    refine G_iload_n d_X9_early_9 rfl ?_
    refine G_iconst d_X9_early_10 ?_
    refine G_isub d_X9_early_11 ?_
    refine G_callV1 cl_X9_244 rfl d_X9_early_12 (wk_0 _) (Nat.le_of_ble_eq_true rfl) (by decide) (sp_CisScan1 s hV hI.1 b hrb) ?_
    rintro _ _ ⟨rfl, rfl⟩
    by_cases ht : 1 ≤ b ∧ b ≤ (pSc s : Int)
    · rw [if_pos ht]
      obtain ⟨n, rfl⟩ : ∃ n : Nat, b = (n : Int) := ⟨b.toNat, by omega⟩
      refine G_if_ne 20 d_X9_early_15 (by decide) (by decide) (fun _ => ?_) (fun hd => absurd hd (by decide))
      refine G_aload_n d_X9_early_20 rfl ?_
      refine G_callV0 cl_X9_247 rfl d_X9_early_21 (wk_0 _) (Nat.le_of_ble_eq_true rfl) (by decide) (sp_CbuildScans s hV hI.1) ?_
      rintro _ _ ⟨rfl, m2, rfl, hB2, hF2, h302, hS2⟩
      refine G_aload_n d_X9_early_24 rfl ?_
      refine G_iload_n d_X9_early_25 rfl ?_
      refine G_iload_n d_X9_early_26 rfl ?_
      refine G_callV2 cl_X9_335 rfl d_X9_early_27 (wk_0 _) (Nat.le_of_ble_eq_true rfl) (by decide) (sp_CearlyState s hV hB2 h302 hS2 p n (by omega) (by omega)) ?_
      rintro _ _ ⟨rfl, m3, rfl, hB3, hF3, -, -⟩
      have hsr := stB_rng (pT s) (pCnt s p n)
      refine G_iret (mc := 0) (ms := 0) (st := []) d_X9_early_30 rfl ?_
      exact ⟨by unfold vEarly; rw [if_pos ⟨hp, ht⟩]; rfl, m3, rfl, hI.fb hB3 (hF2.trans hF3), (hF2.trans hF3).x⟩
    · rw [if_neg ht]
      refine G_if_ne 20 d_X9_early_15 (by decide) (by decide) (fun hd => absurd hd (by decide)) (fun _ => ?_)
      refine G_iconst d_X9_early_18 ?_
      refine G_iret (mc := 0) (ms := 0) (st := []) d_X9_early_19 rfl ?_
      exact ⟨by unfold vEarly; rw [if_neg (fun h => ht h.2)], m, rfl, hI, FXo.refl m⟩
  · rw [if_neg hp]
    refine G_if_eq 18 d_X9_early_5 (by decide) (by decide) (fun _ => ?_) (fun hd => absurd hd (by decide))
    refine G_iconst d_X9_early_18 ?_
    refine G_iret (mc := 0) (ms := 0) (st := []) d_X9_early_19 rfl ?_
    exact ⟨by unfold vEarly; rw [if_neg (fun h => hp h.1)], m, rfl, hI, FXo.refl m⟩
theorem sp_Cuntil {w : List KD} {m : Nat → Nat → Int} (s : Nat → Int) (hV : VS s) (hI : CI s m) (a : Int) (hra : -2147483648 ≤ a ∧ a < 2147483648) (b : Int) (hrb : -2147483648 ≤ b ∧ b < 2147483648) : Sp M_X9_until 3 0 0 [rV 0, iV a, iV b] (WC ++ w, m) (fun r h => r = some (iV (vUntil s a b)) ∧ ∃ m2, h = (WC ++ w, m2) ∧ CI s m2 ∧ FXo m m2) := by
  refine Sp.ofG (ls := [rV 0, iV a, iV b, uV, uV]) (by decide +kernel) rfl (Nat.le_of_ble_eq_true rfl) ?_
  have hC := pC_le hV
  have hN := hV.N
  have hT := hV.T
  have hSc := hV.Sc
  have L : ∀ p n : Nat, p < pC s → 1 ≤ n → n ≤ pSc s → ∀ m3, CB s m3 → FBs m m3 → m3 30 1 = (pSc s : Int) → (∀ t, t < pSc s → m3 (39 + pN s) t = ((pRes s p t : Nat) : Int)) → ∀ t : Nat, t ≤ pSc s → ∀ m1, SM (pT s) (pCnt s p t) t m1 → FQ m3 m1 → (∀ j, j < t → untB s p n j = false) → G M_X9_until 3 0 0 54 [rV 0, iV (p : Int), iV (n : Int), rV (39 + pN s), iV (t : Int)] [] (WC ++ w, m1) (fun r h => r = some (iV (vUntil s (p : Int) (n : Int))) ∧ ∃ m2, h = (WC ++ w, m2) ∧ CI s m2 ∧ FXo m m2) := by
    intro p n hp hn1 hn2 m3 hB3 hF3 hc3 hr3
    refine loop_up (pSc s) _ ?_
    intro t ht ih m1 hM1 hQ1 hno
    obtain ⟨hB1, hF1⟩ := hB3.summed (by omega) (hM1.us (by omega) (by omega)) hQ1
    have hok : isPth s (p : Int) ∧ (1 ≤ (n : Int) ∧ (n : Int) ≤ (pSc s : Int)) := ⟨⟨by omega, by omega⟩, by omega, by omega⟩
    have hno2 : stB (pT s) (pCnt s p (t + 1)) = 0 → n ≤ t + 1 → untB s p n t = true := fun h0 h1 => by unfold untB; simp [h0, h1]
    have hne : (¬ n ≤ t + 1) ∨ stB (pT s) (pCnt s p (t + 1)) ≠ 0 → ∀ j, j < t + 1 → untB s p n j = false := fun h j hj => by
      by_cases e : j = t
      · subst e
        unfold untB
        rcases h with h | h <;> simp [h]
      · exact hno j (by omega)
    refine G_iload d_X9_until_54 rfl ?_
    refine G_aload_n d_X9_until_56 rfl ?_
    refine G_getR (r := 30) (fl_X9_54.r) d_X9_until_57 (wk_0 _) rfl rfl ?_
    refine G_getIe (v := (pSc s : Int)) (fl_X9_258.r) d_X9_until_60 (wk_30 _) rfl ((by rw [hQ1 30 (by decide) (by decide) (by decide) (by decide)]; exact hc3)) ?_
    refine G_icmp_ge 107 d_X9_until_63 (by decide) (by omega) (by omega) (fun c63 => ?_) (fun c63 => ?_)
    · refine G_iconst d_X9_until_107 ?_
      refine G_iret (mc := 0) (ms := 0) (st := []) d_X9_until_108 rfl ?_
      exact ⟨by unfold vUntil; rw [if_pos hok, show firstB (untB s ((p : Int)).toNat ((n : Int)).toNat) (pSc s) = -1 from firstB_none (fun j hj => hno j (by omega))]; rfl, m1, rfl, hI.fb hB1 (hF3.trans hF1), (hF3.trans hF1).x⟩
    · refine G_aload_n d_X9_until_66 rfl ?_
      refine G_getR (r := 46) (fl_X9_61.r) d_X9_until_67 (wk_0 _) rfl rfl ?_
      refine G_aload_n d_X9_until_70 rfl ?_
      refine G_iload d_X9_until_71 rfl ?_
      refine G_ialdj (t) d_X9_until_73 (wk_tu _ (show pN s < 6 by omega)) (by omega) (by omega) (by first | decide | assumption | omega) ?_
      rw [hQ1 (39 + pN s) (by omega) (by omega) (by omega) (by omega), hr3 t (by omega)]
      have hrl := pRes_lt hV p t
      refine G_iconst d_X9_until_74 ?_
      refine G_callV2 cl_X9_317 rfl d_X9_until_75 (wk_46 _) (Nat.le_of_ble_eq_true rfl) (by decide) (sp_sadd (pT s) (pRes s p t) t 1 (pCnt s p t) (by omega) (by omega) hrl (by decide) (by omega) hM1) ?_
      rintro _ _ ⟨rfl, m4, rfl, hM4, hf4⟩
      have hM5 := hM4.next
      refine G_iload d_X9_until_78 rfl ?_
      refine G_iconst d_X9_until_80 ?_
      refine G_iadd d_X9_until_81 ?_
      refine G_iload_n d_X9_until_82 rfl ?_
      refine G_icmp_lt 101 d_X9_until_83 (by decide) (by omega) (by omega) (fun c83 => ?_) (fun c83 => ?_)
      · refine G_iinc d_X9_until_101 rfl (by decide) rfl ?_
        refine G_goto 54 d_X9_until_104 (by decide) ?_
        have h9 := ih (by omega) m4 hM5 (fun a a1 a2 a3 a4 => (hf4 a a1 a4).trans (hQ1 a a1 a2 a3 a4)) (hne (Or.inl (by omega)))
        rw [Int.natCast_add] at h9
        exact h9
      · refine G_aload_n d_X9_until_86 rfl ?_
        refine G_getR (r := 46) (fl_X9_61.r) d_X9_until_87 (wk_0 _) rfl rfl ?_
        refine G_callV0 cl_X9_320 rfl d_X9_until_90 (wk_46 _) (Nat.le_of_ble_eq_true rfl) (by decide) (sp_sstate (pT s) (t + 1) (pCnt s p (t + 1)) (by omega) hM5) ?_
        rintro _ _ ⟨rfl, rfl⟩
        have hsr := stB_rng (pT s) (pCnt s p (t + 1))
        refine G_if_ne 101 d_X9_until_93 (by decide) (by omega) (fun c93 => ?_) (fun c93 => ?_)
        · refine G_iinc d_X9_until_101 rfl (by decide) rfl ?_
          refine G_goto 54 d_X9_until_104 (by decide) ?_
          have h9 := ih (by omega) m4 hM5 (fun a a1 a2 a3 a4 => (hf4 a a1 a4).trans (hQ1 a a1 a2 a3 a4)) (hne (Or.inr c93))
          rw [Int.natCast_add] at h9
          exact h9
        · refine G_iload d_X9_until_96 rfl ?_
          refine G_iconst d_X9_until_98 ?_
          refine G_iadd d_X9_until_99 ?_
          refine G_iret (mc := 0) (ms := 0) (st := []) d_X9_until_100 rfl ?_
          have hF4 : FQ m3 m4 := fun a a1 a2 a3 a4 => (hf4 a a1 a4).trans (hQ1 a a1 a2 a3 a4)
          obtain ⟨hB4, hF5⟩ := hB3.summed (by omega) (hM5.us (by omega) (by omega)) hF4
          exact ⟨by unfold vUntil; rw [if_pos hok, show firstB (untB s ((p : Int)).toNat ((n : Int)).toNat) (pSc s) = (t : Int) from firstB_found t (by omega) hno (hno2 c93 (by omega))]; unfold fst1; rw [if_neg (by omega)], m4, rfl, hI.fb hB4 (hF3.trans hF5), (hF3.trans hF5).x⟩
  refine G_aload_n d_X9_until_0 rfl ?_
  refine G_iload_n d_X9_until_1 rfl ?_
  refine G_callV1 cl_X9_181 rfl d_X9_until_2 (wk_0 _) (Nat.le_of_ble_eq_true rfl) (by decide) (sp_CisPath s hV hI.1 a hra) ?_
  rintro _ _ ⟨rfl, rfl⟩
  by_cases hp : 0 ≤ a ∧ a < (pC s : Int)
  · rw [if_pos hp]
    obtain ⟨p, rfl⟩ : ∃ n : Nat, a = (n : Int) := ⟨a.toNat, by omega⟩
    refine G_if_eq 18 d_X9_until_5 (by decide) (by decide) (fun hd => absurd hd (by decide)) (fun _ => ?_)
    refine G_aload_n d_X9_until_8 rfl ?_
    refine G_iload_n d_X9_until_9 rfl ?_
    refine G_iconst d_X9_until_10 ?_
    refine G_isub d_X9_until_11 ?_
    refine G_callV1 cl_X9_244 rfl d_X9_until_12 (wk_0 _) (Nat.le_of_ble_eq_true rfl) (by decide) (sp_CisScan1 s hV hI.1 b hrb) ?_
    rintro _ _ ⟨rfl, rfl⟩
    by_cases ht : 1 ≤ b ∧ b ≤ (pSc s : Int)
    · rw [if_pos ht]
      obtain ⟨n, rfl⟩ : ∃ n : Nat, b = (n : Int) := ⟨b.toNat, by omega⟩
      refine G_if_ne 20 d_X9_until_15 (by decide) (by decide) (fun _ => ?_) (fun hd => absurd hd (by decide))
      refine G_aload_n d_X9_until_20 rfl ?_
      refine G_callV0 cl_X9_247 rfl d_X9_until_21 (wk_0 _) (Nat.le_of_ble_eq_true rfl) (by decide) (sp_CbuildScans s hV hI.1) ?_
      rintro _ _ ⟨rfl, m2, rfl, hB2, hF2, h302, hS2⟩
      refine G_aload_n d_X9_until_24 rfl ?_
      refine G_getR (r := 30) (fl_X9_54.r) d_X9_until_25 (wk_0 _) rfl rfl ?_
      refine G_aload_n d_X9_until_28 rfl ?_
      refine G_getR (r := 25) (fl_X9_43.r) d_X9_until_29 (wk_0 _) rfl rfl ?_
      refine G_iload_n d_X9_until_32 rfl ?_
      refine G_callV2 cl_X9_254 rfl d_X9_until_33 (wk_30 _) (Nat.le_of_ble_eq_true rfl) (by decide) (sp_residues s hV hB2.2.2.1 hS2 p (by omega)) ?_
      rintro _ _ ⟨rfl, m3, rfl, hS3, hr3, hF3⟩
      obtain ⟨hB3, hF3b, h303⟩ := hB2.tally h302 hS3 (fun a h1 h2 => hF3.1 a h1 (by omega)) hF3.2
      refine G_astore_n d_X9_until_36 (by decide) rfl ?_
      refine G_aload_n d_X9_until_37 rfl ?_
      refine G_getR (r := 46) (fl_X9_61.r) d_X9_until_38 (wk_0 _) rfl rfl ?_
      refine G_aload_n d_X9_until_41 rfl ?_
      refine G_getR (r := 6) (fl_X9_19.r) d_X9_until_42 (wk_0 _) rfl rfl ?_
      refine G_getIe (v := (pT s : Int)) (fl_X9_123.r) d_X9_until_45 (wk_6 _) rfl (hB3.2.1.1.1) ?_
      refine G_callV1 cl_X9_315 rfl d_X9_until_48 (wk_46 _) (Nat.le_of_ble_eq_true rfl) (by decide) (sp_sbegin (pT s) (by omega) (by omega) hB3.2.2.2.2.2.2) ?_
      rintro _ _ ⟨rfl, m4, rfl, hM4, hQ4⟩
      refine G_iconst d_X9_until_51 ?_
      refine G_istore d_X9_until_52 (by decide) rfl ?_
      exact L p n (by omega) (by omega) (by omega) m3 hB3 (hF2.trans hF3b) hS3.1.1.1 hr3 0 (by omega) m4 hM4 hQ4 (fun j hj => absurd hj (by omega))
    · rw [if_neg ht]
      refine G_if_ne 20 d_X9_until_15 (by decide) (by decide) (fun hd => absurd hd (by decide)) (fun _ => ?_)
      refine G_iconst d_X9_until_18 ?_
      refine G_iret (mc := 0) (ms := 0) (st := []) d_X9_until_19 rfl ?_
      exact ⟨by unfold vUntil; rw [if_neg (fun h => ht h.2)], m, rfl, hI, FXo.refl m⟩
  · rw [if_neg hp]
    refine G_if_eq 18 d_X9_until_5 (by decide) (by decide) (fun _ => ?_) (fun hd => absurd hd (by decide))
    refine G_iconst d_X9_until_18 ?_
    refine G_iret (mc := 0) (ms := 0) (st := []) d_X9_until_19 rfl ?_
    exact ⟨by unfold vUntil; rw [if_neg (fun h => hp h.1)], m, rfl, hI, FXo.refl m⟩
theorem sp_Cfewest {w : List KD} {m : Nat → Nat → Int} (s : Nat → Int) (hV : VS s) (hI : CI s m) (a : Int) (hra : -2147483648 ≤ a ∧ a < 2147483648) : Sp M_X9_fewest 11 0 0 [rV 0, iV a] (WC ++ w, m) (fun r h => r = some (iV (vFewest s a)) ∧ ∃ m2, h = (WC ++ w, m2) ∧ CI s m2 ∧ FXo m m2) := by
  refine Sp.ofG (ls := [rV 0, iV a]) (by decide +kernel) rfl (Nat.le_of_ble_eq_true rfl) ?_
  have hC := pC_le hV
  have hN := hV.N
  have hT := hV.T
  have hSc := hV.Sc
  refine G_aload_n d_X9_fewest_0 rfl ?_
  refine G_callV0 cl_X9_216 rfl d_X9_fewest_1 (wk_0 _) (Nat.le_of_ble_eq_true rfl) (by decide) (sp_CfindFewest s hV hI) ?_
  rintro _ _ ⟨rfl, m2, rfl, hI2, hF2, hG2⟩
  have hrr := resF_rng hV
  refine G_aload_n d_X9_fewest_4 rfl ?_
  refine G_getR (r := 57) (fl_X9_86.r) d_X9_fewest_5 (wk_0 _) rfl rfl ?_
  refine G_getIe (v := (resF s).1) (fl_X9_219.r) d_X9_fewest_8 (wk_57 _) rfl (hG2.1) ?_
  refine G_iconst d_X9_fewest_11 ?_
  refine G_icmp_ne 17 d_X9_fewest_12 (by decide) (by omega) (by omega) (fun c12 => ?_) (fun c12 => ?_)
  · refine G_aload_n d_X9_fewest_17 rfl ?_
    refine G_iload_n d_X9_fewest_18 rfl ?_
    refine G_callV1 cl_X9_113 rfl d_X9_fewest_19 (wk_0 _) (Nat.le_of_ble_eq_true rfl) (by decide) (sp_CisPulse s hV hI2.1 a hra) ?_
    rintro _ _ ⟨rfl, rfl⟩
    by_cases hk : 0 ≤ a ∧ a < (pN s : Int)
    · rw [if_pos hk]
      obtain ⟨k, rfl⟩ : ∃ n : Nat, a = (n : Int) := ⟨a.toNat, by omega⟩
      refine G_if_eq 35 d_X9_fewest_22 (by decide) (by decide) (fun hd => absurd hd (by decide)) (fun _ => ?_)
      refine G_aload_n d_X9_fewest_25 rfl ?_
      refine G_getR (r := 57) (fl_X9_86.r) d_X9_fewest_26 (wk_0 _) rfl rfl ?_
      refine G_getR (r := 58) fl_X9_235 d_X9_fewest_29 (wk_57 _) rfl rfl ?_
      refine G_iload_n d_X9_fewest_32 rfl ?_
      refine G_ialdj (k) d_X9_fewest_33 (wk_58 _) (by omega) (by omega) (by decide) ?_
      rw [hG2.2 c12 k (by omega)]
      refine G_iret (mc := 0) (ms := 0) (st := []) d_X9_fewest_34 rfl ?_
      exact ⟨by unfold vFewest atF; rw [if_neg c12, if_neg (show ¬ (k : Int) = 10 by omega), if_pos hk]; rfl, m2, rfl, hI2, hF2.x⟩
    · rw [if_neg hk]
      refine G_if_eq 35 d_X9_fewest_22 (by decide) (by decide) (fun _ => ?_) (fun hd => absurd hd (by decide))
      refine G_iload_n d_X9_fewest_35 rfl ?_
      refine G_bipush d_X9_fewest_36 (by decide) ?_
      refine G_icmp_ne 51 d_X9_fewest_38 (by decide) (by omega) (by omega) (fun c38 => ?_) (fun c38 => ?_)
      · refine G_iconst d_X9_fewest_51 ?_
        refine G_iret (mc := 0) (ms := 0) (st := []) d_X9_fewest_52 rfl ?_
        exact ⟨by unfold vFewest atF; rw [if_neg c12, if_neg c38, if_neg hk], m2, rfl, hI2, hF2.x⟩
      · refine G_aload_n d_X9_fewest_41 rfl ?_
        refine G_getR (r := 57) (fl_X9_86.r) d_X9_fewest_42 (wk_0 _) rfl rfl ?_
        refine G_getIe (v := (resF s).1) (fl_X9_219.r) d_X9_fewest_45 (wk_57 _) rfl (hG2.1) ?_
        refine G_goto 52 d_X9_fewest_48 (by decide) ?_
        refine G_iret (mc := 0) (ms := 0) (st := []) d_X9_fewest_52 rfl ?_
        exact ⟨by unfold vFewest atF; rw [if_neg c12, if_pos c38], m2, rfl, hI2, hF2.x⟩
  · refine G_iconst d_X9_fewest_15 ?_
    refine G_iret (mc := 0) (ms := 0) (st := []) d_X9_fewest_16 rfl ?_
    exact ⟨by unfold vFewest atF; rw [if_pos c12], m2, rfl, hI2, hF2.x⟩
theorem sp_Ccogs {w : List KD} {m : Nat → Nat → Int} (s : Nat → Int) (hV : VS s) (hI : CI s m) (a : Int) (hra : -2147483648 ≤ a ∧ a < 2147483648) : Sp M_X9_cogs 12 0 0 [rV 0, iV a] (WC ++ w, m) (fun r h => r = some (iV (vCogs s a)) ∧ ∃ m2, h = (WC ++ w, m2) ∧ CI s m2 ∧ FXo m m2) := by
  refine Sp.ofG (ls := [rV 0, iV a]) (by decide +kernel) rfl (Nat.le_of_ble_eq_true rfl) ?_
  have hC := pC_le hV
  have hN := hV.N
  have hT := hV.T
  have hSc := hV.Sc
  refine G_aload_n d_X9_cogs_0 rfl ?_
  refine G_callV0 cl_X9_226 rfl d_X9_cogs_1 (wk_0 _) (Nat.le_of_ble_eq_true rfl) (by decide) (sp_CfindCogs s hV hI) ?_
  rintro _ _ ⟨rfl, m2, rfl, hI2, hF2, hG2⟩
  have hrr := lC_rng s
  refine G_aload_n d_X9_cogs_4 rfl ?_
  refine G_getR (r := 60) (fl_X9_93.r) d_X9_cogs_5 (wk_0 _) rfl rfl ?_
  refine G_getIe (v := lC (resC s)) (fl_X9_229.r) d_X9_cogs_8 (wk_60 _) rfl (hG2.1) ?_
  refine G_iconst d_X9_cogs_11 ?_
  refine G_icmp_ne 17 d_X9_cogs_12 (by decide) (by omega) (by omega) (fun c12 => ?_) (fun c12 => ?_)
  · refine G_aload_n d_X9_cogs_17 rfl ?_
    refine G_iload_n d_X9_cogs_18 rfl ?_
    refine G_callV1 cl_X9_113 rfl d_X9_cogs_19 (wk_0 _) (Nat.le_of_ble_eq_true rfl) (by decide) (sp_CisPulse s hV hI2.1 a hra) ?_
    rintro _ _ ⟨rfl, rfl⟩
    by_cases hk : 0 ≤ a ∧ a < (pN s : Int)
    · rw [if_pos hk]
      obtain ⟨k, rfl⟩ : ∃ n : Nat, a = (n : Int) := ⟨a.toNat, by omega⟩
      refine G_if_eq 35 d_X9_cogs_22 (by decide) (by decide) (fun hd => absurd hd (by decide)) (fun _ => ?_)
      refine G_aload_n d_X9_cogs_25 rfl ?_
      refine G_getR (r := 60) (fl_X9_93.r) d_X9_cogs_26 (wk_0 _) rfl rfl ?_
      refine G_getR (r := 61) fl_X9_238 d_X9_cogs_29 (wk_60 _) rfl rfl ?_
      refine G_iload_n d_X9_cogs_32 rfl ?_
      refine G_ialdj (k) d_X9_cogs_33 (wk_61 _) (by omega) (by omega) (by decide) ?_
      rw [hG2.2 c12 k (by omega)]
      refine G_iret (mc := 0) (ms := 0) (st := []) d_X9_cogs_34 rfl ?_
      exact ⟨by unfold vCogs atF; rw [if_neg c12, if_neg (show ¬ (k : Int) = 10 by omega), if_pos hk]; rfl, m2, rfl, hI2, hF2.x⟩
    · rw [if_neg hk]
      refine G_if_eq 35 d_X9_cogs_22 (by decide) (by decide) (fun _ => ?_) (fun hd => absurd hd (by decide))
      refine G_iload_n d_X9_cogs_35 rfl ?_
      refine G_bipush d_X9_cogs_36 (by decide) ?_
      refine G_icmp_ne 51 d_X9_cogs_38 (by decide) (by omega) (by omega) (fun c38 => ?_) (fun c38 => ?_)
      · refine G_iconst d_X9_cogs_51 ?_
        refine G_iret (mc := 0) (ms := 0) (st := []) d_X9_cogs_52 rfl ?_
        exact ⟨by unfold vCogs atF; rw [if_neg c12, if_neg c38, if_neg hk], m2, rfl, hI2, hF2.x⟩
      · refine G_aload_n d_X9_cogs_41 rfl ?_
        refine G_getR (r := 60) (fl_X9_93.r) d_X9_cogs_42 (wk_0 _) rfl rfl ?_
        refine G_getIe (v := lC (resC s)) (fl_X9_229.r) d_X9_cogs_45 (wk_60 _) rfl (hG2.1) ?_
        refine G_goto 52 d_X9_cogs_48 (by decide) ?_
        refine G_iret (mc := 0) (ms := 0) (st := []) d_X9_cogs_52 rfl ?_
        exact ⟨by unfold vCogs atF; rw [if_neg c12, if_pos c38], m2, rfl, hI2, hF2.x⟩
  · refine G_iconst d_X9_cogs_15 ?_
    refine G_iret (mc := 0) (ms := 0) (st := []) d_X9_cogs_16 rfl ?_
    exact ⟨by unfold vCogs atF; rw [if_pos c12], m2, rfl, hI2, hF2.x⟩
