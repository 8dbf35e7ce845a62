theorem CB.sb {s : Nat → Int} {m : Nat → Nat → Int} (h : CB s m) (h0 : m 30 0 = 1) : SB s m := by
  rcases h.2.2.2.2.2.1 with g | g
  · omega
  · exact g.2
def gdP (s : Nat → Int) (p : Nat) : Bool := !pLeak s p && !pLost s p
theorem gd_no {s : Nat → Int} {p : Nat} (h : ¬ pMat s p = true) : gdP s p = true := by
  unfold pMat at h
  unfold gdP pLeak pLost
  cases h1 : (pMk s p == 1) <;> cases h2 : pOther s p <;> simp_all
theorem gd_eq {s : Nat → Int} {p : Nat} (h : pMat s p = true) : gdP s p = !((pGone s p || pSt s p == 0) == (pMk s p == 1)) := by
  have hx : (pMk s p == 1) = true → (pMk s p == 0) = true → False := fun a b => by
    have a1 : pMk s p = 1 := by simpa using a
    have b1 : pMk s p = 0 := by simpa using b
    omega
  unfold pMat pOther at h
  unfold gdP pLeak pLost pOther bne
  revert h hx
  generalize (pMk s p == 1) = a
  generalize (pMk s p == 0) = b
  generalize pGone s p = c
  generalize (pSt s p == 0) = d
  cases a <;> cases b <;> cases c <;> cases d <;> simp
theorem good_no {s : Nat → Int} {p : Nat} (hp : p < pC s) (h : gdP s p = false) : ¬ pGood s = true := fun g => by
  unfold pGood at g
  rw [Bool.and_eq_true_iff] at g
  have h9 := allN_of g.2 p hp
  have h8 : gdP s p = true := h9
  rw [h] at h8
  exact Bool.noConfusion h8
theorem good_yes {s : Nat → Int} (hc : pChief s ≠ -1) (h : ∀ q, q < pC s → gdP s q = true) : pGood s = true := by
  unfold pGood
  rw [Bool.and_eq_true_iff]
  exact ⟨by simpa using hc, allN_true h⟩
theorem sp_CwouldBeGood {w : List KD} {m : Nat → Nat → Int} (s : Nat → Int) (hV : VS s) (hB : CB s m) : Sp M_X9_wouldBeGood 5 0 0 [rV 0] (WC ++ w, m) (fun r h => r = some (iV (if pGood s = true then 1 else 0)) ∧ ∃ m2, h = (WC ++ w, m2) ∧ CB s m2 ∧ FBs m m2) := by
  refine Sp.ofG (ls := [rV 0, uV]) (by decide +kernel) rfl (Nat.le_of_ble_eq_true rfl) ?_
  have hC := pC_le hV
  have hN := hV.N
  have hT := hV.T
  have hSc := hV.Sc
  have hcr := pChief_rng s
  refine G_aload_n d_X9_wouldBeGood_0 rfl ?_
  refine G_getIe (v := pChief s) (fl_X9_47.r) d_X9_wouldBeGood_1 (wk_0 _) rfl (hB.2.2.2.1) ?_
  refine G_iconst d_X9_wouldBeGood_4 ?_
  refine G_icmp_ne 10 d_X9_wouldBeGood_5 (by decide) (by omega) (by omega) (fun c5 => ?_) (fun c5 => ?_)
  · have hch : pChief s ≠ -1 := c5
    refine G_aload_n d_X9_wouldBeGood_10 rfl ?_
    refine G_callV0 cl_X9_247 rfl d_X9_wouldBeGood_11 (wk_0 _) (Nat.le_of_ble_eq_true rfl) (by decide) (sp_CbuildScans s hV hB) ?_
    rintro _ _ ⟨rfl, m2, rfl, hB2, hF2, h302, hS2⟩
    refine G_iconst d_X9_wouldBeGood_14 ?_
    refine G_istore_n d_X9_wouldBeGood_15 (by decide) rfl ?_
    have L : ∀ p : Nat, p ≤ pC s → ∀ m1, CB s m1 → FBs m m1 → m1 30 0 = 1 → (∀ q, q < p → gdP s q = true) → G M_X9_wouldBeGood 5 0 0 16 [rV 0, iV (p : Int)] [] (WC ++ w, m1) (fun r h => r = some (iV (if pGood s = true then 1 else 0)) ∧ ∃ m2, h = (WC ++ w, m2) ∧ CB s m2 ∧ FBs m m2) := by
      refine loop_up (pC s) _ ?_
      intro p hp ih m1 hB1 hF1 hk1 hno
      refine G_iload_n d_X9_wouldBeGood_16 rfl ?_
      refine G_aload_n d_X9_wouldBeGood_17 rfl ?_
      refine G_getR (r := 25) (fl_X9_43.r) d_X9_wouldBeGood_18 (wk_0 _) rfl rfl ?_
      refine G_getIe (v := (pC s : Int)) (fl_X9_110.r) d_X9_wouldBeGood_21 (wk_25 _) rfl (hB1.2.2.1.1) ?_
      refine G_icmp_ge 92 d_X9_wouldBeGood_24 (by decide) (by omega) (by omega) (fun c24 => ?_) (fun c24 => ?_)
      · refine G_iconst d_X9_wouldBeGood_92 ?_
        refine G_zret (mc := 0) (ms := 0) (st := []) d_X9_wouldBeGood_93 rfl (by omega) ?_
        exact ⟨by rw [if_pos (good_yes hch (fun q hq => hno q (by omega)))], m1, rfl, hB1, hF1⟩
      · refine G_aload_n d_X9_wouldBeGood_27 rfl ?_
        refine G_iload_n d_X9_wouldBeGood_28 rfl ?_
        refine G_callV1 cl_X9_332 rfl d_X9_wouldBeGood_29 (wk_0 _) (Nat.le_of_ble_eq_true rfl) (by decide) (sp_Cmatters s hV hB1 p (by omega)) ?_
        rintro _ _ ⟨rfl, m2, rfl, h2, hF2, h30e⟩
        have h30 : m2 30 0 = m1 30 0 := by rw [h30e]
        by_cases hmt : pMat s p = true
        · rw [if_pos hmt]
          refine G_if_eq 86 d_X9_wouldBeGood_32 (by decide) (by decide) (fun hd => absurd hd (by decide)) (fun _ => ?_)
          refine G_aload_n d_X9_wouldBeGood_35 rfl ?_
          refine G_iload_n d_X9_wouldBeGood_36 rfl ?_
          refine G_callV1 cl_X9_283 rfl d_X9_wouldBeGood_37 (wk_0 _) (Nat.le_of_ble_eq_true rfl) (by decide) (sp_CisGone s hV h2 p (by omega)) ?_
          rintro _ _ ⟨rfl, m3, rfl, h3, hF3, h31e⟩
          have hk3 : m3 30 0 = 1 := by rw [h31e, h30]; exact hk1
          have hF3 := (hF1.trans hF2).trans hF3
          have hS3 := h3.sb hk3
          by_cases hg : pGone s p = true
          · rw [if_pos hg]
            refine G_if_ne 58 d_X9_wouldBeGood_40 (by decide) (by decide) (fun _ => ?_) (fun hd => absurd hd (by decide))
            refine G_iconst d_X9_wouldBeGood_58 ?_
            refine G_goto 63 d_X9_wouldBeGood_59 (by decide) ?_
            refine G_aload_n d_X9_wouldBeGood_63 rfl ?_
            refine G_getR (r := 1) (fl_X9_12.r) d_X9_wouldBeGood_64 (wk_0 _) rfl rfl ?_
            refine G_getR (r := 5) fl_X9_178 d_X9_wouldBeGood_67 (wk_1 _) rfl rfl ?_
            refine G_iload_n d_X9_wouldBeGood_70 rfl ?_
            refine G_baldj (p) d_X9_wouldBeGood_71 (wk_5 _) (by omega) (by omega) (by decide) ?_
            rw [h3.1.2.2.2.2.2 p (by omega), show s (227 + p) = pMk s p from rfl]
            have hMk := hV.Mk p (by omega)
            refine G_iconst d_X9_wouldBeGood_72 ?_
            refine G_icmp_ne 80 d_X9_wouldBeGood_73 (by decide) (by omega) (by omega) (fun c73 => ?_) (fun c73 => ?_)
            · refine G_iconst d_X9_wouldBeGood_80 ?_
              refine G_icmp_ne 86 d_X9_wouldBeGood_81 (by decide) (by decide) (by decide) (fun _ => ?_) (fun hd => absurd hd (by decide))
              refine G_iinc d_X9_wouldBeGood_86 rfl (by decide) rfl ?_
              refine G_goto 16 d_X9_wouldBeGood_89 (by decide) ?_
              exact ih (by omega) m3 h3 (hF3) hk3 (fun q hq => by
                by_cases e : q = p
                · rw [e]; rw [gd_eq hmt, show pGone s p = true from hg]; (first | rw [show (pMk s p == 1) = true by simpa using c73] | rw [show (pMk s p == 1) = false by simpa using c73]) <;> rfl
                · exact hno q (by omega))
            · refine G_iconst d_X9_wouldBeGood_76 ?_
              refine G_goto 81 d_X9_wouldBeGood_77 (by decide) ?_
              refine G_icmp_ne 86 d_X9_wouldBeGood_81 (by decide) (by decide) (by decide) (fun hd => absurd hd (by decide)) (fun _ => ?_)
              refine G_iconst d_X9_wouldBeGood_84 ?_
              refine G_zret (mc := 0) (ms := 0) (st := []) d_X9_wouldBeGood_85 rfl (by omega) ?_
              exact ⟨by rw [if_neg (good_no (show p < pC s by omega) (by rw [gd_eq hmt, show pGone s p = true from hg]; (first | rw [show (pMk s p == 1) = true by simpa using c73] | rw [show (pMk s p == 1) = false by simpa using c73]) <;> rfl))], m3, rfl, h3, hF3⟩
          · rw [if_neg hg]
            refine G_if_ne 58 d_X9_wouldBeGood_40 (by decide) (by decide) (fun hd => absurd hd (by decide)) (fun _ => ?_)
            refine G_aload_n d_X9_wouldBeGood_43 rfl ?_
            refine G_iload_n d_X9_wouldBeGood_44 rfl ?_
            refine G_aload_n d_X9_wouldBeGood_45 rfl ?_
            refine G_getR (r := 30) (fl_X9_54.r) d_X9_wouldBeGood_46 (wk_0 _) rfl rfl ?_
            refine G_getIe (v := (pSc s : Int)) (fl_X9_258.r) d_X9_wouldBeGood_49 (wk_30 _) rfl (hS3.1.1.1) ?_
            refine G_callV2 cl_X9_335 rfl d_X9_wouldBeGood_52 (wk_0 _) (Nat.le_of_ble_eq_true rfl) (by decide) (sp_CearlyState s hV h3 hk3 hS3 p (pSc s) (by omega) (Nat.le_refl _)) ?_
            rintro _ _ ⟨rfl, m4, rfl, h4, hF4, hk4, -⟩
            have hF4 := hF3.trans hF4
            have hsr := stB_rng (pT s) (pCnt s p (pSc s))
            refine G_if_ne 62 d_X9_wouldBeGood_55 (by decide) (by omega) (fun c55 => ?_) (fun c55 => ?_)
            · refine G_iconst d_X9_wouldBeGood_62 ?_
              refine G_aload_n d_X9_wouldBeGood_63 rfl ?_
              refine G_getR (r := 1) (fl_X9_12.r) d_X9_wouldBeGood_64 (wk_0 _) rfl rfl ?_
              refine G_getR (r := 5) fl_X9_178 d_X9_wouldBeGood_67 (wk_1 _) rfl rfl ?_
              refine G_iload_n d_X9_wouldBeGood_70 rfl ?_
              refine G_baldj (p) d_X9_wouldBeGood_71 (wk_5 _) (by omega) (by omega) (by decide) ?_
              rw [h4.1.2.2.2.2.2 p (by omega), show s (227 + p) = pMk s p from rfl]
              have hMk := hV.Mk p (by omega)
              refine G_iconst d_X9_wouldBeGood_72 ?_
              refine G_icmp_ne 80 d_X9_wouldBeGood_73 (by decide) (by omega) (by omega) (fun c73 => ?_) (fun c73 => ?_)
              · refine G_iconst d_X9_wouldBeGood_80 ?_
                refine G_icmp_ne 86 d_X9_wouldBeGood_81 (by decide) (by decide) (by decide) (fun hd => absurd hd (by decide)) (fun _ => ?_)
                refine G_iconst d_X9_wouldBeGood_84 ?_
                refine G_zret (mc := 0) (ms := 0) (st := []) d_X9_wouldBeGood_85 rfl (by omega) ?_
                exact ⟨by rw [if_neg (good_no (show p < pC s by omega) (by rw [gd_eq hmt, show pGone s p = false by simpa using hg, show (pSt s p == 0) = false by simpa using (show ¬ pSt s p = 0 from c55)]; (first | rw [show (pMk s p == 1) = true by simpa using c73] | rw [show (pMk s p == 1) = false by simpa using c73]) <;> rfl))], m4, rfl, h4, hF4⟩
              · refine G_iconst d_X9_wouldBeGood_76 ?_
                refine G_goto 81 d_X9_wouldBeGood_77 (by decide) ?_
                refine G_icmp_ne 86 d_X9_wouldBeGood_81 (by decide) (by decide) (by decide) (fun _ => ?_) (fun hd => absurd hd (by decide))
                refine G_iinc d_X9_wouldBeGood_86 rfl (by decide) rfl ?_
                refine G_goto 16 d_X9_wouldBeGood_89 (by decide) ?_
                exact ih (by omega) m4 h4 (hF4) hk4 (fun q hq => by
                  by_cases e : q = p
                  · rw [e]; rw [gd_eq hmt, show pGone s p = false by simpa using hg, show (pSt s p == 0) = false by simpa using (show ¬ pSt s p = 0 from c55)]; (first | rw [show (pMk s p == 1) = true by simpa using c73] | rw [show (pMk s p == 1) = false by simpa using c73]) <;> rfl
                  · exact hno q (by omega))
            · refine G_iconst d_X9_wouldBeGood_58 ?_
              refine G_goto 63 d_X9_wouldBeGood_59 (by decide) ?_
              refine G_aload_n d_X9_wouldBeGood_63 rfl ?_
              refine G_getR (r := 1) (fl_X9_12.r) d_X9_wouldBeGood_64 (wk_0 _) rfl rfl ?_
              refine G_getR (r := 5) fl_X9_178 d_X9_wouldBeGood_67 (wk_1 _) rfl rfl ?_
              refine G_iload_n d_X9_wouldBeGood_70 rfl ?_
              refine G_baldj (p) d_X9_wouldBeGood_71 (wk_5 _) (by omega) (by omega) (by decide) ?_
              rw [h4.1.2.2.2.2.2 p (by omega), show s (227 + p) = pMk s p from rfl]
              have hMk := hV.Mk p (by omega)
              refine G_iconst d_X9_wouldBeGood_72 ?_
              refine G_icmp_ne 80 d_X9_wouldBeGood_73 (by decide) (by omega) (by omega) (fun c73 => ?_) (fun c73 => ?_)
              · refine G_iconst d_X9_wouldBeGood_80 ?_
                refine G_icmp_ne 86 d_X9_wouldBeGood_81 (by decide) (by decide) (by decide) (fun _ => ?_) (fun hd => absurd hd (by decide))
                refine G_iinc d_X9_wouldBeGood_86 rfl (by decide) rfl ?_
                refine G_goto 16 d_X9_wouldBeGood_89 (by decide) ?_
                exact ih (by omega) m4 h4 (hF4) hk4 (fun q hq => by
                  by_cases e : q = p
                  · rw [e]; rw [gd_eq hmt, show pGone s p = false by simpa using hg, show (pSt s p == 0) = true by simpa using (show pSt s p = 0 from c55)]; (first | rw [show (pMk s p == 1) = true by simpa using c73] | rw [show (pMk s p == 1) = false by simpa using c73]) <;> rfl
                  · exact hno q (by omega))
              · refine G_iconst d_X9_wouldBeGood_76 ?_
                refine G_goto 81 d_X9_wouldBeGood_77 (by decide) ?_
                refine G_icmp_ne 86 d_X9_wouldBeGood_81 (by decide) (by decide) (by decide) (fun hd => absurd hd (by decide)) (fun _ => ?_)
                refine G_iconst d_X9_wouldBeGood_84 ?_
                refine G_zret (mc := 0) (ms := 0) (st := []) d_X9_wouldBeGood_85 rfl (by omega) ?_
                exact ⟨by rw [if_neg (good_no (show p < pC s by omega) (by rw [gd_eq hmt, show pGone s p = false by simpa using hg, show (pSt s p == 0) = true by simpa using (show pSt s p = 0 from c55)]; (first | rw [show (pMk s p == 1) = true by simpa using c73] | rw [show (pMk s p == 1) = false by simpa using c73]) <;> rfl))], m4, rfl, h4, hF4⟩
        · rw [if_neg hmt]
          refine G_if_eq 86 d_X9_wouldBeGood_32 (by decide) (by decide) (fun _ => ?_) (fun hd => absurd hd (by decide))
          refine G_iinc d_X9_wouldBeGood_86 rfl (by decide) rfl ?_
          refine G_goto 16 d_X9_wouldBeGood_89 (by decide) ?_
          exact ih (by omega) m2 h2 (hF1.trans hF2) (h30.trans hk1) (fun q hq => by
            by_cases e : q = p
            · rw [e]; exact gd_no hmt
            · exact hno q (by omega))
    exact L 0 (by omega) m2 hB2 hF2 h302 (fun q hq => absurd hq (by omega))
  · refine G_iconst d_X9_wouldBeGood_8 ?_
    refine G_zret (mc := 0) (ms := 0) (st := []) d_X9_wouldBeGood_9 rfl (by omega) ?_
    exact ⟨by rw [if_neg (fun h => ((good_eq s).mp h).1 c5)], m, rfl, hB, FBs.refl m⟩
theorem CB.lng {s : Nat → Int} {m : Nat → Nat → Int} (h : CB s m) (hV : VS s) {i : Nat} (hi : i < 4) {b : Int} (hb : 1 ≤ b) : CB (sU s (49 + i) (b - 1)) (upm (upm m 7 i b) 30 0 0) := by
  have a : AS s (sU s (49 + i) (b - 1)) := AS_sU (by omega)
  have k : ∀ c, c ≠ 7 → c ≠ 30 → upm (upm m 7 i b) 30 0 0 c = m c := fun c h1 h2 => by rw [upm_off _ _ h2, upm_off _ _ h1]
  have h0 := h.1.keep (m2 := upm (upm m 7 i b) 30 0 0) (fun c c1 c2 => k c (by omega) (by omega))
  exact ⟨⟨by rw [a.1.N]; exact h0.1, by rw [a.1.M]; exact h0.2.1, fun i hi => by rw [a.1.2.2 i hi]; exact h0.2.2.1 i hi, fun i hi => by rw [a.2.2.1 i hi]; exact h0.2.2.2.1 i hi, fun i hi => by rw [a.2.2.2.1 i hi]; exact h0.2.2.2.2.1 i hi, fun p hp => by rw [a.2.2.2.2 p]; exact h0.2.2.2.2.2 p hp⟩, (h.2.1.len hi hb).keep (fun c c1 c2 => upm_off _ _ (by omega)), a.1.cl hV (h.2.2.1.keep2 (by rw [k 25 (by decide) (by decide)]) (k 26 (by decide) (by decide)) (k 27 (by decide) (by decide))), by rw [k 0 (by decide) (by decide), a.chief hV]; exact h.2.2.2.1, a.1.wgh hV a.2.2.1 a.2.2.2.1 (h.2.2.2.2.1.keep (by rw [k 25 (by decide) (by decide)]) (k 28 (by decide) (by decide)) (k 29 (by decide) (by decide))), Or.inl (upm_same _ _ _ _), h.2.2.2.2.2.2.keep (k 46 (by decide) (by decide)) (k 47 (by decide) (by decide)) (k 48 (by decide) (by decide))⟩
/-- only the length, weights, scans, sums changed -/
def FSp (m m2 : Nat → Nat → Int) : Prop := (∀ a, a ≠ 7 → a ≠ 25 → a ≠ 28 → a ≠ 29 → (a < 30 ∨ 49 < a) → m2 a = m a) ∧ (m 25 1 = 1 → m2 25 1 = 1)
theorem FSp.trans {m m1 m2 : Nat → Nat → Int} (h : FSp m m1) (k : FSp m1 m2) : FSp m m2 := ⟨fun a h1 h2 h3 h4 h5 => (k.1 a h1 h2 h3 h4 h5).trans (h.1 a h1 h2 h3 h4 h5), fun h1 => k.2 (h.2 h1)⟩
theorem FSp.put (m : Nat → Nat → Int) (i : Nat) (b : Int) : FSp m (upm (upm m 7 i b) 30 0 0) := ⟨fun a h1 _ _ _ h5 => by rw [upm_off _ _ (by omega), upm_off _ _ h1], fun h => by rw [upm_off _ _ (by decide), upm_off _ _ (by decide)]; exact h⟩
theorem FBs.sp {m m2 : Nat → Nat → Int} (h : FBs m m2) : FSp m m2 := ⟨fun a _ h2 h3 h4 h5 => h.1 a h2 h3 h4 h5, h.2.2⟩
theorem sp_Cspare {w : List KD} {m : Nat → Nat → Int} (s : Nat → Int) (hV : VS s) (hI : CI s m) (a : Int) (hra : -2147483648 ≤ a ∧ a < 2147483648) : Sp M_X9_spare 6 0 0 [rV 0, iV a] (WC ++ w, m) (fun r h => r = some (iV (vSpare s a)) ∧ ∃ m2, h = (WC ++ w, m2) ∧ CI s m2 ∧ FXo m m2) := by
  refine Sp.ofG (ls := [rV 0, iV a, uV, uV, uV, uV]) (by decide +kernel) rfl (Nat.le_of_ble_eq_true rfl) ?_
  have hC := pC_le hV
  have hN := hV.N
  have hT := hV.T
  have hSc := hV.Sc
  have K93 : ∀ j : Nat, j < 4 → ∀ (f : Int) (u5 : PV) (m1 : Nat → Nat → Int) (x : Int), VS (sU s (49 + j) x) → CB (sU s (49 + j) x) m1 → FSp m m1 → vSpare s (j : Int) = f → G M_X9_spare 6 0 0 93 [rV 0, iV (j : Int), iV (pL s j : Int), iV (oth s j : Int), iV f, u5] [] (WC ++ w, m1) (fun r h => r = some (iV (vSpare s (j : Int))) ∧ ∃ m2, h = (WC ++ w, m2) ∧ CI s m2 ∧ FXo m m2) := by
    intro j hj f u5 m1 x hVx hB1 hF1 hv
    have hLj := hV.L j hj
    have h9 := hB1.lng hVx (i := j) hj (b := (pL s j : Int)) (by omega)
    rw [sU_sU, show (pL s j : Int) - 1 = s (49 + j) by omega, sU_id] at h9
    have hF9 := hF1.trans (FSp.put m1 j (pL s j : Int))
    have e0 := hF9.1 0 (by decide) (by decide) (by decide) (by decide) (by decide)
    have hc : CI s (upm (upm m1 7 j (pL s j : Int)) 30 0 0) := ⟨h9, hI.2.1.keep (by rw [e0]) (hF9.1 50 (by decide) (by decide) (by decide) (by decide) (by decide)), hI.2.2.keep (fun a a1 a2 => hF9.1 a (by omega) (by omega) (by omega) (by omega) (by omega)) hF9.2⟩
    refine G_aload_n d_X9_spare_93 rfl ?_
    refine G_getR (r := 6) (fl_X9_19.r) d_X9_spare_94 (wk_0 _) rfl rfl ?_
    refine G_getR (r := 7) fl_X9_139 d_X9_spare_97 (wk_6 _) rfl rfl ?_
    refine G_iload_n d_X9_spare_100 rfl ?_
    refine G_iload_n d_X9_spare_101 rfl ?_
    refine G_iastj (j) d_X9_spare_102 (wk_7 _) (by omega) (by omega) (by decide) ?_
    refine G_aload_n d_X9_spare_103 rfl ?_
    refine G_getR (r := 30) (fl_X9_54.r) d_X9_spare_104 (wk_0 _) rfl rfl ?_
    refine G_iconst d_X9_spare_107 ?_
    refine G_putZ fl_X9_326 d_X9_spare_108 (wk_30 _) rfl (by omega) ?_
    refine G_iload d_X9_spare_111 rfl ?_
    refine G_iret (mc := 0) (ms := 0) (st := []) d_X9_spare_113 rfl ?_
    exact ⟨by rw [hv], _, rfl, hc, fun a a1 a2 => hF9.1 a (by omega) (by omega) (by omega) (by omega) (by omega), by rw [e0]⟩
  have K34 : ∀ j : Nat, j < 4 → ∀ (l : Nat) (m1 : Nat → Nat → Int) (x : Int), l ≤ 12 → VS (sU s (49 + j) x) → CB (sU s (49 + j) x) m1 → FSp m m1 → vSpare s (j : Int) = (l : Int) → G M_X9_spare 6 0 0 34 [rV 0, iV (j : Int), iV (pL s j : Int), iV (oth s j : Int), iV (l : Int), iV ((l : Int) + 1)] [] (WC ++ w, m1) (fun r h => r = some (iV (vSpare s (j : Int))) ∧ ∃ m2, h = (WC ++ w, m2) ∧ CI s m2 ∧ FXo m m2) := by
    intro j hj l m1 x hl hVx hB1 hF1 hv
    refine G_iload d_X9_spare_34 rfl ?_
    refine G_bipush d_X9_spare_36 (by decide) ?_
    refine G_icmp_gt 93 d_X9_spare_38 (by decide) (by omega) (by omega) (fun c38 => ?_) (fun c38 => ?_)
    · exact K93 j hj l _ m1 x hVx hB1 hF1 hv
    · refine G_iload d_X9_spare_41 rfl ?_
      refine G_iconst d_X9_spare_43 ?_
      refine G_icmp_ne 93 d_X9_spare_44 (by decide) (by omega) (by omega) (fun c44 => ?_) (fun c44 => ?_)
      · exact K93 j hj l _ m1 x hVx hB1 hF1 hv
      · omega
  have L : ∀ j : Nat, j < 4 → ∀ i : Nat, i ≤ 12 → ∀ (m1 : Nat → Nat → Int) (x : Int), VS (sU s (49 + j) x) → CB (sU s (49 + j) x) m1 → FSp m m1 → (∀ l, l < i → spF s j (l + 1) = false) → G M_X9_spare 6 0 0 34 [rV 0, iV (j : Int), iV (pL s j : Int), iV (oth s j : Int), iV (-1), iV ((i + 1 : Nat) : Int)] [] (WC ++ w, m1) (fun r h => r = some (iV (vSpare s (j : Int))) ∧ ∃ m2, h = (WC ++ w, m2) ∧ CI s m2 ∧ FXo m m2) := by
    intro j hj
    refine loop_up 12 _ ?_
    intro i hi ih m1 x hVx hB1 hF1 hno
    have hoth := oth_rng hV hj
    have hmul : (oth s j : Int) * ((i + 1 : Nat) : Int) ≤ 512 * 13 ∧ 0 ≤ (oth s j : Int) * ((i + 1 : Nat) : Int) := ⟨Int.mul_le_mul (by omega) (by omega) (by omega) (by omega), Int.mul_nonneg (by omega) (by omega)⟩
    have hmc : (oth s j : Int) * ((i + 1 : Nat) : Int) = ((oth s j * (i + 1) : Nat) : Int) := by rw [Int.natCast_mul]
    have ok : okCtr (j : Int) := ⟨by omega, by omega⟩
    have hlast : i = 12 → vSpare s (j : Int) = -1 := fun e => by
      unfold vSpare
      rw [if_pos ok, show firstB (fun l => spF s ((j : Int)).toNat (l + 1)) 12 = -1 from firstB_none (fun l hl => hno l (by omega))]
      rfl
    refine G_iload d_X9_spare_34 rfl ?_
    refine G_bipush d_X9_spare_36 (by decide) ?_
    refine G_icmp_gt 93 d_X9_spare_38 (by decide) (by omega) (by omega) (fun c38 => ?_) (fun c38 => ?_)
    · exact K93 j hj (-1) _ m1 x hVx hB1 hF1 (hlast (by omega))
    · refine G_iload d_X9_spare_41 rfl ?_
      refine G_iconst d_X9_spare_43 ?_
      refine G_icmp_ne 93 d_X9_spare_44 (by decide) (by decide) (by decide) (fun hd => absurd hd (by decide)) (fun _ => ?_)
      refine G_iload_n d_X9_spare_47 rfl ?_
      refine G_iload d_X9_spare_48 rfl ?_
      refine G_imul d_X9_spare_50 ?_
      refine G_sipush d_X9_spare_51 (by decide) ?_
      refine G_icmp_gt 87 d_X9_spare_54 (by decide) (by omega) (by omega) (fun c54 => ?_) (fun c54 => ?_)
      · refine G_iinc d_X9_spare_87 rfl (by decide) rfl ?_
        refine G_goto 34 d_X9_spare_90 (by decide) ?_
        exact ih (by omega) m1 x hVx hB1 hF1 (fun l hl => by
          by_cases e : l = i
          · rw [e]; unfold spF; rw [show decide (oth s j * (i + 1) ≤ 512) = false by simpa using (show ¬ oth s j * (i + 1) ≤ 512 by omega)]; rfl
          · exact hno l (by omega))
      · refine G_aload_n d_X9_spare_57 rfl ?_
        refine G_getR (r := 6) (fl_X9_19.r) d_X9_spare_58 (wk_0 _) rfl rfl ?_
        refine G_getR (r := 7) fl_X9_139 d_X9_spare_61 (wk_6 _) rfl rfl ?_
        refine G_iload_n d_X9_spare_64 rfl ?_
        refine G_iload d_X9_spare_65 rfl ?_
        refine G_iastj (j) d_X9_spare_67 (wk_7 _) (by omega) (by omega) (by decide) ?_
        refine G_aload_n d_X9_spare_68 rfl ?_
        refine G_getR (r := 30) (fl_X9_54.r) d_X9_spare_69 (wk_0 _) rfl rfl ?_
        refine G_iconst d_X9_spare_72 ?_
        refine G_putZ fl_X9_326 d_X9_spare_73 (wk_30 _) rfl (by omega) ?_
        refine G_aload_n d_X9_spare_76 rfl ?_
        have hVn := VS_len hV hj (l := i + 1) ⟨by omega, by omega⟩ (by omega)
        have hBn := hB1.lng hVx (i := j) hj (b := ((i + 1 : Nat) : Int)) (by omega)
        rw [sU_sU] at hBn
        refine G_callV0 cl_X9_329 rfl d_X9_spare_77 (wk_0 _) (Nat.le_of_ble_eq_true rfl) (by decide) (sp_CwouldBeGood (sU s (49 + j) (((i + 1 : Nat) : Int) - 1)) hVn hBn) ?_
        rintro _ _ ⟨rfl, m2, rfl, h2, hF2⟩
        have hF2 := (hF1.trans (FSp.put m1 j _)).trans hF2.sp
        by_cases hg : pGood (sU s (49 + j) (((i + 1 : Nat) : Int) - 1)) = true
        · rw [if_pos hg]
          refine G_if_eq 87 d_X9_spare_80 (by decide) (by decide) (fun hd => absurd hd (by decide)) (fun _ => ?_)
          refine G_iload d_X9_spare_83 rfl ?_
          refine G_istore d_X9_spare_85 (by decide) rfl ?_
          refine G_iinc d_X9_spare_87 rfl (by decide) rfl ?_
          refine G_goto 34 d_X9_spare_90 (by decide) ?_
          refine K34 j hj (i + 1) m2 _ (by omega) hVn h2 hF2 ?_
          unfold vSpare
          rw [if_pos ok, show firstB (fun l => spF s ((j : Int)).toNat (l + 1)) 12 = (i : Int) from firstB_found i (by omega) (fun l hl => hno l hl) (by show spF s j (i + 1) = true; unfold spF; rw [hg, show decide (oth s j * (i + 1) ≤ 512) = true by simpa using (show oth s j * (i + 1) ≤ 512 by omega)]; rfl)]
          unfold fst1
          rw [if_neg (by omega)]
          omega
        · rw [if_neg hg]
          refine G_if_eq 87 d_X9_spare_80 (by decide) (by decide) (fun _ => ?_) (fun hd => absurd hd (by decide))
          refine G_iinc d_X9_spare_87 rfl (by decide) rfl ?_
          refine G_goto 34 d_X9_spare_90 (by decide) ?_
          exact ih (by omega) m2 _ hVn h2 hF2 (fun l hl => by
            by_cases e : l = i
            · rw [e]; unfold spF; rw [show pGood (sU s (49 + j) (((i + 1 : Nat) : Int) - 1)) = false by simpa using hg, Bool.and_false]
            · exact hno l (by omega))
  refine G_iload_n d_X9_spare_0 rfl ?_
  refine G_callS1 cl_X9_132 d_X9_spare_1 (Nat.le_of_ble_eq_true rfl) (by decide) (sp_CisCounter a hra) ?_
  rintro _ _ ⟨rfl, rfl⟩
  by_cases ha : 0 ≤ a ∧ a < 4
  · rw [if_pos ha]
    obtain ⟨j, rfl⟩ : ∃ n : Nat, a = (n : Int) := ⟨a.toNat, by omega⟩
    refine G_if_ne 9 d_X9_spare_4 (by decide) (by decide) (fun _ => ?_) (fun hd => absurd hd (by decide))
    refine G_aload_n d_X9_spare_9 rfl ?_
    refine G_getR (r := 6) (fl_X9_19.r) d_X9_spare_10 (wk_0 _) rfl rfl ?_
    refine G_getR (r := 7) fl_X9_139 d_X9_spare_13 (wk_6 _) rfl rfl ?_
    refine G_iload_n d_X9_spare_16 rfl ?_
    refine G_ialdj (j) d_X9_spare_17 (wk_7 _) (by omega) (by omega) (by decide) ?_
    rw [hI.1.2.1.1.2.1 j (by omega)]
    refine G_istore_n d_X9_spare_18 (by decide) rfl ?_
    refine G_aload_n d_X9_spare_19 rfl ?_
    refine G_getR (r := 6) (fl_X9_19.r) d_X9_spare_20 (wk_0 _) rfl rfl ?_
    refine G_iload_n d_X9_spare_23 rfl ?_
    refine G_callV1 cl_X9_135 rfl d_X9_spare_24 (wk_6 _) (Nat.le_of_ble_eq_true rfl) (by decide) (sp_scansBut s hV hI.1.2.1.1 j (by omega)) ?_
    rintro _ _ ⟨rfl, rfl⟩
    refine G_istore_n d_X9_spare_27 (by decide) rfl ?_
    refine G_iconst d_X9_spare_28 ?_
    refine G_istore d_X9_spare_29 (by decide) rfl ?_
    refine G_iconst d_X9_spare_31 ?_
    refine G_istore d_X9_spare_32 (by decide) rfl ?_
    have e9 := sU_id s (49 + j)
    refine L j (by omega) 0 (by omega) m (s (49 + j)) (by rw [e9]; exact hV) (by rw [e9]; exact hI.1) ⟨fun _ _ _ _ _ _ => rfl, fun h => h⟩ (fun l hl => absurd hl (by omega))
  · rw [if_neg ha]
    refine G_if_ne 9 d_X9_spare_4 (by decide) (by decide) (fun hd => absurd hd (by decide)) (fun _ => ?_)
    refine G_iconst d_X9_spare_7 ?_
    refine G_iret (mc := 0) (ms := 0) (st := []) d_X9_spare_8 rfl ?_
    exact ⟨by unfold vSpare; rw [if_neg ha], m, rfl, hI, FXo.refl m⟩
