/-! Cogs -/
def ls9 (s : Nat → Int) (p : Nat) : Int := lsF9 s p (pN s)
def sgB (s : Nat → Int) (q p : Nat) : Bool := pMat s p && decide (ls9 s p = (q : Int))
def stB9 (s : Nat → Int) (k p : Nat) : Bool := pMat s p && decide (0 ≤ ls9 s p ∧ ls9 s p < (k : Int))
def stF (s : Nat → Int) (k : Nat) : Nat := cntB (stB9 s k) (pC s)
theorem stF_0 (s : Nat → Int) : stF s 0 = 0 := by
  unfold stF
  have : ∀ n, cntB (stB9 s 0) n = 0 := by
    intro n
    induction n with
    | zero => rfl
    | succ n ih =>
      rw [cntB_f, ih]
      unfold stB9
      simp only [Bool.and_eq_false_iff, decide_eq_false_iff_not]
      right
      omega
  exact this _
theorem stF_S (s : Nat → Int) (k : Nat) : stF s (k + 1) = stF s k + cntB (sgB s k) (pC s) := by
  have : ∀ n, cntB (stB9 s (k + 1)) n = cntB (stB9 s k) n + cntB (sgB s k) n := by
    intro n
    induction n with
    | zero => rfl
    | succ n ih =>
      show cntB _ n + _ = (cntB _ n + _) + (cntB _ n + _)
      rw [ih]
      unfold stB9 sgB
      by_cases a : pMat s n = true
      · by_cases b : ls9 s n = (k : Int)
        · have h1 : 0 ≤ ls9 s n ∧ ls9 s n < ((k + 1 : Nat) : Int) := by omega
          have h2 : ¬ (0 ≤ ls9 s n ∧ ls9 s n < (k : Int)) := by omega
          simp only [a, decide_eq_true h1, decide_eq_false h2, decide_eq_true b]
          simp
          omega
        · by_cases c : 0 ≤ ls9 s n ∧ ls9 s n < (k : Int)
          · have h1 : 0 ≤ ls9 s n ∧ ls9 s n < ((k + 1 : Nat) : Int) := by omega
            simp only [a, decide_eq_true h1, decide_eq_true c, decide_eq_false b]
            simp
            omega
          · have h1 : ¬ (0 ≤ ls9 s n ∧ ls9 s n < ((k + 1 : Nat) : Int)) := by omega
            simp only [a, decide_eq_false h1, decide_eq_false c, decide_eq_false b]
            simp
      · simp only [show pMat s n = false by simpa using a]
        simp
  exact this _
theorem stF_mono (s : Nat → Int) (a : Nat) : ∀ d, stF s a ≤ stF s (a + d)
  | 0 => Nat.le_refl _
  | d + 1 => by
    have h1 := stF_mono s a d
    have h2 := stF_S s (a + d)
    rw [← Nat.add_assoc, h2]
    omega
theorem stF_le (s : Nat → Int) (k : Nat) : stF s k ≤ pC s := cntB_le _ _
/-- the paths asked, by their last pulse -/
def SG (s : Nat → Int) (q n : Nat) (m : Nat → Nat → Int) : Prop := (∀ i, stF s q ≤ i → i < stF s q + cntB (sgB s q) n → ∃ p, p < n ∧ m 62 i = (p : Int) ∧ sgB s q p = true) ∧ ∀ p, p < n → sgB s q p = true → ∃ i, stF s q ≤ i ∧ i < stF s q + cntB (sgB s q) n ∧ m 62 i = (p : Int)
def SO (s : Nat → Int) (m : Nat → Nat → Int) : Prop := (∀ q, q ≤ pN s → m 63 q = (stF s q : Int)) ∧ ∀ q, q < pN s → SG s q (pC s) m
theorem SG.low {s : Nat → Int} {q n : Nat} {m m2 : Nat → Nat → Int} (h : SG s q n m) (k : ∀ i, i < stF s q + cntB (sgB s q) n → m2 62 i = m 62 i) : SG s q n m2 := by
  refine ⟨fun i h1 h2 => ?_, fun p hp hs => ?_⟩
  · obtain ⟨p, a, b, c⟩ := h.1 i h1 h2
    exact ⟨p, a, by rw [k i h2]; exact b, c⟩
  · obtain ⟨i, a, b, c⟩ := h.2 p hp hs
    exact ⟨i, a, b, by rw [k i b]; exact c⟩
theorem SG.f {s : Nat → Int} {q n : Nat} {m : Nat → Nat → Int} (h : SG s q n m) (hn : ¬ sgB s q n = true) : SG s q (n + 1) m := by
  unfold SG
  rw [cntB_f (by simpa using hn)]
  refine ⟨fun i h1 h2 => ?_, fun p hp hs => ?_⟩
  · obtain ⟨p, a, b, c⟩ := h.1 i h1 h2
    exact ⟨p, by omega, b, c⟩
  · by_cases e : p = n
    · rw [e] at hs; exact absurd hs hn
    · exact h.2 p (by omega) hs
theorem SG.t {s : Nat → Int} {q n : Nat} {m : Nat → Nat → Int} (h : SG s q n m) (hn : sgB s q n = true) : SG s q (n + 1) (upm m 62 (stF s q + cntB (sgB s q) n) (n : Int)) := by
  unfold SG
  rw [cntB_t hn]
  refine ⟨fun i h1 h2 => ?_, fun p hp hs => ?_⟩
  · by_cases e : i = stF s q + cntB (sgB s q) n
    · exact ⟨n, by omega, by rw [e, upm_same], hn⟩
    · obtain ⟨p, a, b, c⟩ := h.1 i h1 (by omega)
      exact ⟨p, by omega, by rw [upm_ne _ _ (fun _ => e)]; exact b, c⟩
  · by_cases e : p = n
    · exact ⟨stF s q + cntB (sgB s q) n, by omega, by omega, by rw [upm_same, e]⟩
    · obtain ⟨i, a, b, c⟩ := h.2 p (by omega) hs
      exact ⟨i, a, by omega, by rw [upm_ne _ _ (fun _ => by omega)]; exact c⟩
theorem sp_sortOut {w : List KD} {m : Nat → Nat → Int} (s : Nat → Int) (hV : VS s) (hS : WS s m) (hWk : WGk s m) (h200 : pC s ≤ 200) : Sp M_X0_sortOut 3 0 0 [rV 60, rV 52, rV 25, rV 5] (WC ++ w, m) (fun r h => r = none ∧ ∃ m2, h = (WC ++ w, m2) ∧ SO s m2 ∧ (∀ a, a ≠ 62 → a ≠ 63 → m2 a = m a)) := by
  refine Sp.ofG (ls := [rV 60, rV 52, rV 25, rV 5, uV, uV, uV, uV]) (by decide +kernel) rfl (Nat.le_of_ble_eq_true rfl) ?_
  have hC := pC_le hV
  have hN := hV.N
  have hT := hV.T
  have hSc := hV.Sc
  have L : ∀ q : Nat, q ≤ pN s → ∀ m1 (u6 u7 : PV), pcat u7 ≠ 2 → (∀ q2, q2 < q → m1 63 q2 = (stF s q2 : Int)) → (∀ q2, q2 < q → SG s q2 (pC s) m1) → (∀ a, a ≠ 62 → a ≠ 63 → m1 a = m a) → G M_X0_sortOut 3 0 0 6 [rV 60, rV 52, rV 25, rV 5, iV (stF s q : Int), iV (q : Int), u6, u7] [] (WC ++ w, m1) (fun r h => r = none ∧ ∃ m2, h = (WC ++ w, m2) ∧ SO s m2 ∧ (∀ a, a ≠ 62 → a ≠ 63 → m2 a = m a)) := by
    refine loop_up (pN s) _ ?_
    intro q hq ihq m1 u6 u7 hu7 h63 hz hfr
    have hsl0 := stF_le s q
    by_cases hqn : q < pN s
    · skip
      have L1 : ∀ p : Nat, p ≤ pC s → ∀ m1 (u7 : PV), pcat u7 ≠ 2 → (∀ q2, q2 ≤ q → m1 63 q2 = (stF s q2 : Int)) → (∀ q2, q2 < q → SG s q2 (pC s) m1) → SG s q p m1 → (∀ a, a ≠ 62 → a ≠ 63 → m1 a = m a) → G M_X0_sortOut 3 0 0 27 [rV 60, rV 52, rV 25, rV 5, iV ((stF s q + cntB (sgB s q) p) : Nat), iV (q : Int), iV (p : Int), u7] [] (WC ++ w, m1) (fun r h => r = none ∧ ∃ m2, h = (WC ++ w, m2) ∧ SO s m2 ∧ (∀ a, a ≠ 62 → a ≠ 63 → m2 a = m a)) := by
        refine loop_up (pC s) _ ?_
        intro p hp ih2 m1 u7 hu7 h63 hz hG hfr
        have hcl := cntB_le (sgB s q) p
        refine G_iload d_X0_sortOut_27 rfl ?_
        refine G_aload_n d_X0_sortOut_29 rfl ?_
        refine G_getIe (v := (pC s : Int)) (fl_X0_34.r) d_X0_sortOut_30 (wk_25 _) rfl ((by rw [hfr 25 (by decide) (by decide)]; exact hS.1.2.2.1.1)) ?_
        refine G_icmp_ge 102 d_X0_sortOut_33 (by decide) (by omega) (by omega) (fun c33 => ?_) (fun c33 => ?_)
        · have hpe : p = pC s := by omega
          rw [hpe] at hG ⊢
          refine G_iinc d_X0_sortOut_102 rfl (by decide) rfl ?_
          refine G_goto 6 d_X0_sortOut_105 (by decide) ?_
          have hS1 := stF_S s q
          rw [← hS1]
          exact ihq hqn m1 _ _ hu7 (fun q2 hq2 => h63 q2 (by omega)) (fun q2 hq2 => by
            by_cases e : q2 = q
            · rw [e]; exact hG
            · exact hz q2 (by omega)) hfr
        · refine G_aload_n d_X0_sortOut_36 rfl ?_
          refine G_iload d_X0_sortOut_37 rfl ?_
          refine G_baldj (p) d_X0_sortOut_39 (wk_5 _) (by omega) (by omega) (by decide) ?_
          rw [hfr 5 (by decide) (by decide), hS.1.1.2.2.2.2.2 p (by omega), show s (227 + p) = pMk s p from rfl]
          have hMk := hV.Mk p (by omega)
          refine G_iconst d_X0_sortOut_40 ?_
          refine G_icmp_eq 60 d_X0_sortOut_41 (by decide) (by omega) (by omega) (fun c41 => ?_) (fun c41 => ?_)
          · refine G_iconst d_X0_sortOut_60 ?_
            refine G_goto 65 d_X0_sortOut_61 (by decide) ?_
            refine G_istore d_X0_sortOut_65 (by decide) rfl ?_
            have hye : pMat s p = true := by unfold pMat; simp [c41]
            refine G_iload d_X0_sortOut_67 rfl ?_
            refine G_if_eq 96 d_X0_sortOut_69 (by decide) (by decide) (fun hd => absurd hd (by decide)) (fun _ => ?_)
            refine G_aload_n d_X0_sortOut_72 rfl ?_
            refine G_getR (r := 56) fl_X0_54 d_X0_sortOut_73 (wk_52 _) rfl rfl ?_
            refine G_iload d_X0_sortOut_76 rfl ?_
            refine G_baldj (p) d_X0_sortOut_78 (wk_56 _) (by omega) (by omega) (by decide) ?_
            rw [hfr 56 (by decide) (by decide), hS.2.2.2.2 p (by omega)]
            have hlr := lsF9_rng s p (pN s)
            refine G_iload d_X0_sortOut_79 rfl ?_
            refine G_icmp_ne 96 d_X0_sortOut_81 (by decide) (by omega) (by omega) (fun c81 => ?_) (fun c81 => ?_)
            · have hl : ¬ ls9 s p = (q : Int) := c81
              refine G_iinc d_X0_sortOut_96 rfl (by decide) rfl ?_
              refine G_goto 27 d_X0_sortOut_99 (by decide) ?_
              have hns : ¬ sgB s q p = true := by unfold sgB; simp [hl]
              rw [cntB_f (by simpa using hns)] at ih2
              exact ih2 (by omega) m1 _ (by show (1 : Nat) ≠ 2; decide) h63 hz (hG.f hns) hfr
            · have hl : ls9 s p = (q : Int) := c81
              have hysx : sgB s q p = true := by unfold sgB; simp [hye, hl]
              have hcm := cntB_mono (sgB s q) (show p + 1 ≤ pC s by omega)
              rw [cntB_t hysx] at hcm
              have hst := stF_S s q
              have hsl := stF_le s (q + 1)
              refine G_aload_n d_X0_sortOut_84 rfl ?_
              refine G_getR (r := 62) (fl_X0_23.r) d_X0_sortOut_85 (wk_60 _) rfl rfl ?_
              refine G_iload d_X0_sortOut_88 rfl ?_
              refine G_iload d_X0_sortOut_90 rfl ?_
              refine G_iastj ((stF s q + cntB (sgB s q) p)) d_X0_sortOut_92 (wk_62 _) (by omega) (by omega) (by decide) ?_
              refine G_iinc d_X0_sortOut_93 rfl (by decide) rfl ?_
              refine G_iinc d_X0_sortOut_96 rfl (by decide) rfl ?_
              refine G_goto 27 d_X0_sortOut_99 (by decide) ?_
              have hys : sgB s q p = true := by unfold sgB; simp [hye, hl]
              rw [cntB_t hys] at ih2
              exact ih2 (by omega) _ _ (by show (1 : Nat) ≠ 2; decide) (fun q2 hq2 => by rw [upm_off _ _ (by decide)]; exact h63 q2 hq2) (fun q2 hq2 => (hz q2 hq2).low (fun i hi => by
                have h9 := stF_mono s (q2 + 1) (q - (q2 + 1))
                rw [show q2 + 1 + (q - (q2 + 1)) = q by omega, stF_S] at h9
                rw [upm_ne _ _ (fun _ => by omega)])) (hG.t hys) (fun a h1 h2 => by rw [upm_off _ _ h1]; exact hfr a h1 h2)
          · refine G_aload_n d_X0_sortOut_44 rfl ?_
            refine G_iload d_X0_sortOut_45 rfl ?_
            refine G_baldj (p) d_X0_sortOut_47 (wk_5 _) (by omega) (by omega) (by decide) ?_
            rw [hfr 5 (by decide) (by decide), hS.1.1.2.2.2.2.2 p (by omega), show s (227 + p) = pMk s p from rfl]
            refine G_if_ne 64 d_X0_sortOut_48 (by decide) (by omega) (fun c48 => ?_) (fun c48 => ?_)
            · refine G_iconst d_X0_sortOut_64 ?_
              refine G_istore d_X0_sortOut_65 (by decide) rfl ?_
              have hno : ¬ pMat s p = true := by unfold pMat pOther; simp [c41, c48]
              refine G_iload d_X0_sortOut_67 rfl ?_
              refine G_if_eq 96 d_X0_sortOut_69 (by decide) (by decide) (fun _ => ?_) (fun hd => absurd hd (by decide))
              refine G_iinc d_X0_sortOut_96 rfl (by decide) rfl ?_
              refine G_goto 27 d_X0_sortOut_99 (by decide) ?_
              have hns : ¬ sgB s q p = true := by unfold sgB; simp [hno]
              rw [cntB_f (by simpa using hns)] at ih2
              exact ih2 (by omega) m1 _ (by show (1 : Nat) ≠ 2; decide) h63 hz (hG.f hns) hfr
            · refine G_aload_n d_X0_sortOut_51 rfl ?_
              refine G_iload d_X0_sortOut_52 rfl ?_
              have hWp := hWk p (by omega)
              have hwr := pWt_rng hV p
              refine G_callV1 cl_X0_50 rfl d_X0_sortOut_54 (wk_25 _) (Nat.le_of_ble_eq_true rfl) (by decide) (sp_isGoneP p (by omega) (by rw [hfr 29 (by decide) (by decide), hWp.2]; split <;> omega) (by rw [hfr 28 (by decide) (by decide), hWp.1]; omega)) ?_
              rintro _ _ ⟨rfl, rfl⟩
              rw [hfr 29 (by decide) (by decide), hfr 28 (by decide) (by decide), gone_eq hWk (by omega)]
              by_cases hg : pGone s p = true
              · rw [if_pos hg]
                refine G_if_ne 64 d_X0_sortOut_57 (by decide) (by decide) (fun _ => ?_) (fun hd => absurd hd (by decide))
                refine G_iconst d_X0_sortOut_64 ?_
                refine G_istore d_X0_sortOut_65 (by decide) rfl ?_
                have hno : ¬ pMat s p = true := by unfold pMat pOther; simp [c41, hg]
                refine G_iload d_X0_sortOut_67 rfl ?_
                refine G_if_eq 96 d_X0_sortOut_69 (by decide) (by decide) (fun _ => ?_) (fun hd => absurd hd (by decide))
                refine G_iinc d_X0_sortOut_96 rfl (by decide) rfl ?_
                refine G_goto 27 d_X0_sortOut_99 (by decide) ?_
                have hns : ¬ sgB s q p = true := by unfold sgB; simp [hno]
                rw [cntB_f (by simpa using hns)] at ih2
                exact ih2 (by omega) m1 _ (by show (1 : Nat) ≠ 2; decide) h63 hz (hG.f hns) hfr
              · rw [if_neg hg]
                refine G_if_ne 64 d_X0_sortOut_57 (by decide) (by decide) (fun hd => absurd hd (by decide)) (fun _ => ?_)
                refine G_iconst d_X0_sortOut_60 ?_
                refine G_goto 65 d_X0_sortOut_61 (by decide) ?_
                refine G_istore d_X0_sortOut_65 (by decide) rfl ?_
                have hye : pMat s p = true := by unfold pMat pOther; simp [c48, hg]
                refine G_iload d_X0_sortOut_67 rfl ?_
                refine G_if_eq 96 d_X0_sortOut_69 (by decide) (by decide) (fun hd => absurd hd (by decide)) (fun _ => ?_)
                refine G_aload_n d_X0_sortOut_72 rfl ?_
                refine G_getR (r := 56) fl_X0_54 d_X0_sortOut_73 (wk_52 _) rfl rfl ?_
                refine G_iload d_X0_sortOut_76 rfl ?_
                refine G_baldj (p) d_X0_sortOut_78 (wk_56 _) (by omega) (by omega) (by decide) ?_
                rw [hfr 56 (by decide) (by decide), hS.2.2.2.2 p (by omega)]
                have hlr := lsF9_rng s p (pN s)
                refine G_iload d_X0_sortOut_79 rfl ?_
                refine G_icmp_ne 96 d_X0_sortOut_81 (by decide) (by omega) (by omega) (fun c81 => ?_) (fun c81 => ?_)
                · have hl : ¬ ls9 s p = (q : Int) := c81
                  refine G_iinc d_X0_sortOut_96 rfl (by decide) rfl ?_
                  refine G_goto 27 d_X0_sortOut_99 (by decide) ?_
                  have hns : ¬ sgB s q p = true := by unfold sgB; simp [hl]
                  rw [cntB_f (by simpa using hns)] at ih2
                  exact ih2 (by omega) m1 _ (by show (1 : Nat) ≠ 2; decide) h63 hz (hG.f hns) hfr
                · have hl : ls9 s p = (q : Int) := c81
                  have hysx : sgB s q p = true := by unfold sgB; simp [hye, hl]
                  have hcm := cntB_mono (sgB s q) (show p + 1 ≤ pC s by omega)
                  rw [cntB_t hysx] at hcm
                  have hst := stF_S s q
                  have hsl := stF_le s (q + 1)
                  refine G_aload_n d_X0_sortOut_84 rfl ?_
                  refine G_getR (r := 62) (fl_X0_23.r) d_X0_sortOut_85 (wk_60 _) rfl rfl ?_
                  refine G_iload d_X0_sortOut_88 rfl ?_
                  refine G_iload d_X0_sortOut_90 rfl ?_
                  refine G_iastj ((stF s q + cntB (sgB s q) p)) d_X0_sortOut_92 (wk_62 _) (by omega) (by omega) (by decide) ?_
                  refine G_iinc d_X0_sortOut_93 rfl (by decide) rfl ?_
                  refine G_iinc d_X0_sortOut_96 rfl (by decide) rfl ?_
                  refine G_goto 27 d_X0_sortOut_99 (by decide) ?_
                  have hys : sgB s q p = true := by unfold sgB; simp [hye, hl]
                  rw [cntB_t hys] at ih2
                  exact ih2 (by omega) _ _ (by show (1 : Nat) ≠ 2; decide) (fun q2 hq2 => by rw [upm_off _ _ (by decide)]; exact h63 q2 hq2) (fun q2 hq2 => (hz q2 hq2).low (fun i hi => by
                    have h9 := stF_mono s (q2 + 1) (q - (q2 + 1))
                    rw [show q2 + 1 + (q - (q2 + 1)) = q by omega, stF_S] at h9
                    rw [upm_ne _ _ (fun _ => by omega)])) (hG.t hys) (fun a h1 h2 => by rw [upm_off _ _ h1]; exact hfr a h1 h2)
      refine G_iload d_X0_sortOut_6 rfl ?_
      refine G_aload_n d_X0_sortOut_8 rfl ?_
      refine G_getIe (v := (pN s : Int)) (fl_X0_47.r) d_X0_sortOut_9 (wk_52 _) rfl ((by rw [hfr 52 (by decide) (by decide)]; exact hS.2.1)) ?_
      refine G_icmp_ge 108 d_X0_sortOut_12 (by decide) (by omega) (by omega) (fun c12 => ?_) (fun c12 => ?_)
      · omega
      · refine G_aload_n d_X0_sortOut_15 rfl ?_
        refine G_getR (r := 63) (fl_X0_26.r) d_X0_sortOut_16 (wk_60 _) rfl rfl ?_
        refine G_iload d_X0_sortOut_19 rfl ?_
        refine G_iload d_X0_sortOut_21 rfl ?_
        refine G_iastj (q) d_X0_sortOut_23 (wk_63 _) (by omega) (by omega) (by decide) ?_
        refine G_iconst d_X0_sortOut_24 ?_
        refine G_istore d_X0_sortOut_25 (by decide) rfl ?_
        exact L1 0 (by omega) _ u7 hu7 (fun q2 hq2 => by
          by_cases e : q2 = q
          · rw [e, upm_same]
          · rw [upm_ne _ _ (fun _ => e)]; exact h63 q2 (by omega)) (fun q2 hq2 => (hz q2 hq2).low (fun i _ => by rw [upm_off _ _ (by decide)])) ⟨fun i h1 h2 => absurd h2 (by rw [show cntB (sgB s q) 0 = 0 from rfl]; omega), fun p hp => absurd hp (by omega)⟩ (fun a h1 h2 => by rw [upm_off _ _ h2]; exact hfr a h1 h2)
    · have hqe : q = pN s := by omega
      subst hqe
      refine G_iload d_X0_sortOut_6 rfl ?_
      refine G_aload_n d_X0_sortOut_8 rfl ?_
      refine G_getIe (v := (pN s : Int)) (fl_X0_47.r) d_X0_sortOut_9 (wk_52 _) rfl ((by rw [hfr 52 (by decide) (by decide)]; exact hS.2.1)) ?_
      refine G_icmp_ge 108 d_X0_sortOut_12 (by decide) (by omega) (by omega) (fun c12 => ?_) (fun c12 => ?_)
      · refine G_aload_n d_X0_sortOut_108 rfl ?_
        refine G_getR (r := 63) (fl_X0_26.r) d_X0_sortOut_109 (wk_60 _) rfl rfl ?_
        refine G_aload_n d_X0_sortOut_112 rfl ?_
        refine G_getIe (v := (pN s : Int)) (fl_X0_47.r) d_X0_sortOut_113 (wk_52 _) rfl ((by rw [hfr 52 (by decide) (by decide)]; exact hS.2.1)) ?_
        refine G_iload d_X0_sortOut_116 rfl ?_
        refine G_iastj (pN s) d_X0_sortOut_118 (wk_63 _) (by omega) (by omega) (by decide) ?_
        refine G_vret (mc := 0) (ms := 0) (st := []) d_X0_sortOut_119 rfl ?_
        exact ⟨rfl, _, rfl, ⟨fun q2 hq2 => by
          by_cases e : q2 = pN s
          · rw [e, upm_same]
          · rw [upm_ne _ _ (fun _ => e)]; exact h63 q2 (by omega), fun q2 hq2 => (hz q2 hq2).low (fun i _ => by rw [upm_off _ _ (by decide)])⟩, fun a h1 h2 => by rw [upm_off _ _ h2]; exact hfr a h1 h2⟩
      · omega
  refine G_iconst d_X0_sortOut_0 ?_
  refine G_istore d_X0_sortOut_1 (by decide) rfl ?_
  refine G_iconst d_X0_sortOut_3 ?_
  refine G_istore d_X0_sortOut_4 (by decide) rfl ?_
  have h9 := L 0 (by omega) m uV uV (by decide) (fun q2 hq2 => absurd hq2 (by omega)) (fun q2 hq2 => absurd hq2 (by omega)) (fun _ _ _ => rfl)
  rw [stF_0] at h9
  exact h9
def cdB (s : Nat → Int) (l : Nat) (N : Nat → Nat) (k p : Nat) : Bool := (cgS s N p (k + 1) % (l : Int) == 0) == (pMk s p == 1)
def fitG (s : Nat → Int) (l : Nat) (N : Nat → Nat) (k : Nat) : Bool := allN (fun p => !sgB s k p || cdB s l N k p) (pC s)
theorem sp_fits {w : List KD} {m : Nat → Nat → Int} (s : Nat → Int) (hV : VS s) (hS : WS s m) (hO : SO s m) (h200 : pC s ≤ 200) (l k : Nat) (hl : 1 ≤ l ∧ l ≤ 12) (hk : k < pN s) (N : Nat → Nat) (hNl : ∀ i, i ≤ k → N i ≤ 12) (hpk : ∀ i, i ≤ k → m 61 i = (N i : Int)) : Sp M_X0_fits 2 0 0 [rV 60, rV 52, rV 25, rV 5, iV (l : Int), iV (k : Int)] (WC ++ w, m) (fun r h => r = some (iV (if fitG s l N k = true then 1 else 0)) ∧ h = (WC ++ w, m)) := by
  refine Sp.ofG (ls := [rV 60, rV 52, rV 25, rV 5, iV (l : Int), iV (k : Int), uV, uV, uV]) (by decide +kernel) rfl (Nat.le_of_ble_eq_true rfl) ?_
  have hC := pC_le hV
  have hN := hV.N
  have hT := hV.T
  have hSc := hV.Sc
  have hst := stF_S s k
  have hsl := stF_le s (k + 1)
  have hG := hO.2 k hk
  have L : ∀ i : Nat, i ≤ stF s (k + 1) → stF s k ≤ i → ∀ u7 u8 : PV, pcat u7 ≠ 2 → (∀ i2 p : Nat, stF s k ≤ i2 → i2 < i → m 62 i2 = (p : Int) → cdB s l N k p = true) → G M_X0_fits 2 0 0 9 [rV 60, rV 52, rV 25, rV 5, iV (l : Int), iV (k : Int), iV (i : Int), u7, u8] [] (WC ++ w, m) (fun r h => r = some (iV (if fitG s l N k = true then 1 else 0)) ∧ h = (WC ++ w, m)) := by
    refine loop_up (stF s (k + 1)) _ ?_
    intro i hi ih hik u7 u8 hu7 hz
    by_cases hi9 : i < stF s (k + 1)
    · obtain ⟨p, hpC, hpi, hps⟩ := hG.1 i hik (by omega)
      have NX : cdB s l N k p = true → ∀ i2 p2 : Nat, stF s k ≤ i2 → i2 < i + 1 → m 62 i2 = (p2 : Int) → cdB s l N k p2 = true := fun hgood i2 p2 h1 h2 h3 => by
        by_cases e : i2 = i
        · rw [e, hpi] at h3
          obtain rfl : p = p2 := by omega
          exact hgood
        · exact hz i2 p2 h1 (by omega) h3
      have L2 : ∀ j : Nat, j ≤ k + 1 → G M_X0_fits 2 0 0 29 [rV 60, rV 52, rV 25, rV 5, iV (l : Int), iV (k : Int), iV (i : Int), iV (cgS s N p j), iV (j : Int)] [] (WC ++ w, m) (fun r h => r = some (iV (if fitG s l N k = true then 1 else 0)) ∧ h = (WC ++ w, m)) := by
        refine loop_up (k + 1) _ ?_
        intro j hj ih2
        have hcr := cgS_rng hV (N := N) p j (by omega) (fun i hi => by have := hNl i (by omega); omega)
        refine G_iload d_X0_fits_29 rfl ?_
        refine G_iload d_X0_fits_31 rfl ?_
        refine G_icmp_gt 69 d_X0_fits_33 (by decide) (by omega) (by omega) (fun c33 => ?_) (fun c33 => ?_)
        · have hje : j = k + 1 := by omega
          rw [hje] at hcr ⊢
          refine G_iload d_X0_fits_69 rfl ?_
          refine G_iload d_X0_fits_71 rfl ?_
          refine G_irem d_X0_fits_73 (by omega) (by omega) (by omega) ?_
          have htm := tmod_b (x := cgS s N p (k + 1)) (y := (l : Int)) (B := 6000) hcr
          refine G_if_ne 81 d_X0_fits_74 (by decide) (by omega) (fun c74 => ?_) (fun c74 => ?_)
          · refine G_iconst d_X0_fits_81 ?_
            refine G_aload_n d_X0_fits_82 rfl ?_
            refine G_aload_n d_X0_fits_83 rfl ?_
            refine G_getR (r := 62) (fl_X0_23.r) d_X0_fits_84 (wk_60 _) rfl rfl ?_
            refine G_iload d_X0_fits_87 rfl ?_
            refine G_ialdj (i) d_X0_fits_89 (wk_62 _) (by omega) (by omega) (by decide) ?_
            rw [hpi]
            refine G_baldj (p) d_X0_fits_90 (wk_5 _) (by omega) (by omega) (by decide) ?_
            rw [hS.1.1.2.2.2.2.2 p (by omega), show s (227 + p) = pMk s p from rfl]
            have hMk := hV.Mk p (by omega)
            refine G_iconst d_X0_fits_91 ?_
            refine G_icmp_ne 99 d_X0_fits_92 (by decide) (by omega) (by omega) (fun c92 => ?_) (fun c92 => ?_)
            · refine G_iconst d_X0_fits_99 ?_
              refine G_icmp_eq 105 d_X0_fits_100 (by decide) (by decide) (by decide) (fun _ => ?_) (fun hd => absurd hd (by decide))
              refine G_iinc d_X0_fits_105 rfl (by decide) rfl ?_
              refine G_goto 9 d_X0_fits_108 (by decide) ?_
              have hgood : cdB s l N k p = true := by unfold cdB; rw [show (cgS s N p (k + 1) % (l : Int) == 0) = false by simpa using fun e => c74 (tm0.mpr e), show (pMk s p == 1) = false by simpa using c92]; rfl
              exact ih (by omega) (by omega) _ _ (by show (1 : Nat) ≠ 2; decide) (NX hgood)
            · refine G_iconst d_X0_fits_95 ?_
              refine G_goto 100 d_X0_fits_96 (by decide) ?_
              refine G_icmp_eq 105 d_X0_fits_100 (by decide) (by decide) (by decide) (fun hd => absurd hd (by decide)) (fun _ => ?_)
              refine G_iconst d_X0_fits_103 ?_
              refine G_zret (mc := 0) (ms := 0) (st := []) d_X0_fits_104 rfl (by omega) ?_
              have hbad : cdB s l N k p = false := by unfold cdB; simp [show ¬ cgS s N p (k + 1) % (l : Int) = 0 from fun e => c74 (tm0.mpr e), c92]
              exact ⟨by rw [if_neg (fun h => by have h9 := allN_of h p hpC; simp [hps, hbad] at h9)], rfl⟩
          · refine G_iconst d_X0_fits_77 ?_
            refine G_goto 82 d_X0_fits_78 (by decide) ?_
            refine G_aload_n d_X0_fits_82 rfl ?_
            refine G_aload_n d_X0_fits_83 rfl ?_
            refine G_getR (r := 62) (fl_X0_23.r) d_X0_fits_84 (wk_60 _) rfl rfl ?_
            refine G_iload d_X0_fits_87 rfl ?_
            refine G_ialdj (i) d_X0_fits_89 (wk_62 _) (by omega) (by omega) (by decide) ?_
            rw [hpi]
            refine G_baldj (p) d_X0_fits_90 (wk_5 _) (by omega) (by omega) (by decide) ?_
            rw [hS.1.1.2.2.2.2.2 p (by omega), show s (227 + p) = pMk s p from rfl]
            have hMk := hV.Mk p (by omega)
            refine G_iconst d_X0_fits_91 ?_
            refine G_icmp_ne 99 d_X0_fits_92 (by decide) (by omega) (by omega) (fun c92 => ?_) (fun c92 => ?_)
            · refine G_iconst d_X0_fits_99 ?_
              refine G_icmp_eq 105 d_X0_fits_100 (by decide) (by decide) (by decide) (fun hd => absurd hd (by decide)) (fun _ => ?_)
              refine G_iconst d_X0_fits_103 ?_
              refine G_zret (mc := 0) (ms := 0) (st := []) d_X0_fits_104 rfl (by omega) ?_
              have hbad : cdB s l N k p = false := by unfold cdB; simp [tm0.mp c74, c92]
              exact ⟨by rw [if_neg (fun h => by have h9 := allN_of h p hpC; simp [hps, hbad] at h9)], rfl⟩
            · refine G_iconst d_X0_fits_95 ?_
              refine G_goto 100 d_X0_fits_96 (by decide) ?_
              refine G_icmp_eq 105 d_X0_fits_100 (by decide) (by decide) (by decide) (fun _ => ?_) (fun hd => absurd hd (by decide))
              refine G_iinc d_X0_fits_105 rfl (by decide) rfl ?_
              refine G_goto 9 d_X0_fits_108 (by decide) ?_
              have hgood : cdB s l N k p = true := by unfold cdB; simp [tm0.mp c74, c92]
              exact ih (by omega) (by omega) _ _ (by show (1 : Nat) ≠ 2; decide) (NX hgood)
        · refine G_iload d_X0_fits_36 rfl ?_
          refine G_aload_n d_X0_fits_38 rfl ?_
          refine G_aload_n d_X0_fits_39 rfl ?_
          refine G_aload_n d_X0_fits_40 rfl ?_
          refine G_getR (r := 62) (fl_X0_23.r) d_X0_fits_41 (wk_60 _) rfl rfl ?_
          refine G_iload d_X0_fits_44 rfl ?_
          refine G_ialdj (i) d_X0_fits_46 (wk_62 _) (by omega) (by omega) (by decide) ?_
          rw [hpi]
          refine G_iload d_X0_fits_47 rfl ?_
          refine G_callV3 cl_X0_62 rfl d_X0_fits_49 (wk_52 _) (Nat.le_of_ble_eq_true rfl) (by decide) (sp_gap s hV hS.1.2.2.1 hS.2.2.1 p j hpC (by omega)) ?_
          rintro _ _ ⟨rfl, rfl⟩
          refine G_aload_n d_X0_fits_52 rfl ?_
          refine G_getR (r := 61) (fl_X0_19.r) d_X0_fits_53 (wk_60 _) rfl rfl ?_
          refine G_iload d_X0_fits_56 rfl ?_
          refine G_ialdj (j) d_X0_fits_58 (wk_61 _) (by omega) (by omega) (by decide) ?_
          rw [hpk j (by omega)]
          refine G_imul d_X0_fits_59 ?_
          refine G_iadd d_X0_fits_60 ?_
          refine G_istore d_X0_fits_61 (by decide) rfl ?_
          refine G_iinc d_X0_fits_63 rfl (by decide) rfl ?_
          refine G_goto 29 d_X0_fits_66 (by decide) ?_
          exact ih2 (by omega)
      refine G_iload d_X0_fits_9 rfl ?_
      refine G_aload_n d_X0_fits_11 rfl ?_
      refine G_getR (r := 63) (fl_X0_26.r) d_X0_fits_12 (wk_60 _) rfl rfl ?_
      refine G_iload d_X0_fits_15 rfl ?_
      refine G_iconst d_X0_fits_17 ?_
      refine G_iadd d_X0_fits_18 ?_
      refine G_ialdj (k + 1) d_X0_fits_19 (wk_63 _) (by omega) (by omega) (by decide) ?_
      rw [hO.1 (k + 1) (by omega)]
      refine G_icmp_ge 111 d_X0_fits_20 (by decide) (by omega) (by omega) (fun c20 => ?_) (fun c20 => ?_)
      · omega
      · refine G_iconst d_X0_fits_23 ?_
        refine G_istore d_X0_fits_24 (by decide) rfl ?_
        refine G_iconst d_X0_fits_26 ?_
        refine G_istore d_X0_fits_27 (by decide) rfl ?_
        exact L2 0 (by omega)
    · have hie : i = stF s (k + 1) := by omega
      refine G_iload d_X0_fits_9 rfl ?_
      refine G_aload_n d_X0_fits_11 rfl ?_
      refine G_getR (r := 63) (fl_X0_26.r) d_X0_fits_12 (wk_60 _) rfl rfl ?_
      refine G_iload d_X0_fits_15 rfl ?_
      refine G_iconst d_X0_fits_17 ?_
      refine G_iadd d_X0_fits_18 ?_
      refine G_ialdj (k + 1) d_X0_fits_19 (wk_63 _) (by omega) (by omega) (by decide) ?_
      rw [hO.1 (k + 1) (by omega)]
      refine G_icmp_ge 111 d_X0_fits_20 (by decide) (by omega) (by omega) (fun c20 => ?_) (fun c20 => ?_)
      · refine G_iconst d_X0_fits_111 ?_
        refine G_zret (mc := 0) (ms := 0) (st := []) d_X0_fits_112 rfl (by omega) ?_
        refine ⟨?_, rfl⟩
        rw [if_pos]
        refine allN_true (fun p hp => ?_)
        by_cases c : sgB s k p = true
        · obtain ⟨i2, a, b, d⟩ := hG.2 p hp c
          simp [hz i2 p a (by omega) d]
        · simp [c]
      · omega
  refine G_aload_n d_X0_fits_0 rfl ?_
  refine G_getR (r := 63) (fl_X0_26.r) d_X0_fits_1 (wk_60 _) rfl rfl ?_
  refine G_iload d_X0_fits_4 rfl ?_
  refine G_ialdj (k) d_X0_fits_6 (wk_63 _) (by omega) (by omega) (by decide) ?_
  rw [hO.1 k (by omega)]
  refine G_istore d_X0_fits_7 (by decide) rfl ?_
  exact L (stF s k) (by omega) (Nat.le_refl _) uV uV (by decide) (fun i2 p h1 h2 => absurd h2 (by omega))
