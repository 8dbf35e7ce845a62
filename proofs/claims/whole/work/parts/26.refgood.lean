theorem pGood_no {s : Nat → Int} {p : Nat} (hp : p < pC s) (h : pLeak s p = true ∨ pLost s p = true) : ¬ pGood s = true := fun hg => by
  have h8 := allN_of (Bool.and_eq_true_iff.mp hg).2 p hp
  rcases h with h | h <;> simp [h] at h8
theorem stB_0 {T : Nat} {f : Nat → Int} : stB T f = 0 ↔ allN (fun a => Bf T f a == 0) T = true := by
  unfold stB
  by_cases h : allN (fun a => Bf T f a == 0) T = true
  · rw [if_pos h]; exact ⟨fun _ => h, fun _ => rfl⟩
  · rw [if_neg h]
    by_cases h2 : cntB (fun r => decide (f r > 0)) T = 1
    · rw [if_pos h2]; exact ⟨fun h3 => absurd h3 (by decide), fun h3 => absurd h3 h⟩
    · rw [if_neg h2]; exact ⟨fun h3 => absurd h3 (by decide), fun h3 => absurd h3 h⟩
theorem sp_MisGood {w : List KD} {m : Nat → Nat → Int} (s : Nat → Int) (hV : VS s) (hI : MI s m) : Sp M_X10_isGood 5 0 0 [rV 64] (WC ++ (WM ++ w), m) (fun r h => r = some (iV (if pGood s = true then 1 else 0)) ∧ ∃ m2, h = (WC ++ (WM ++ w), m2) ∧ KQ s m m2) := by
  refine Sp.ofG (ls := [rV 64, uV, uV, uV, uV]) (by decide +kernel) rfl (Nat.le_of_ble_eq_true rfl) ?_
  have hC := pC_le hV
  have hN := hV.N
  have hSc := hV.Sc
  have hfl := hI.fl
  have L : ¬ pChief s = -1 → ∀ p : Nat, p ≤ pC s → ∀ m1, (∀ a, a ≠ 70 → a ≠ 71 → a ≠ 73 → m1 a = m a) → (m 64 2 = 0 → PH s (pSc s) m1) → (∀ i, i < p → (!pLeak s i && !pLost s i) = true) → G M_X10_isGood 5 0 0 28 [rV 64, iV (pSc s : Int), iV (p : Int), uV, uV] [] (WC ++ (WM ++ w), m1) (fun r h => r = some (iV (if pGood s = true then 1 else 0)) ∧ ∃ m2, h = (WC ++ (WM ++ w), m2) ∧ KQ s m m2) := by
    intro hch
    refine loop_up (pC s) _ ?_
    intro p hp ih m1 hm hH hgd
    have hQ : KQ s m m1 := (KQ.refl hI).scr (fun a ha => hm a (fun e => by subst e; exact absurd ha (by decide)) (fun e => by subst e; exact absurd ha (by decide)) (fun e => by subst e; exact absurd ha (by decide)))
    refine G_iload_n d_X10_isGood_28 rfl ?_
    refine G_aload_n d_X10_isGood_29 rfl ?_
    refine G_getIe (fl_X10_25.r) d_X10_isGood_30 (wk_64 _) rfl (hQ.2.2.1.1) ?_
    refine G_icmp_ge 132 d_X10_isGood_33 (by decide) (by omega) (by omega) (fun c33 => ?_) (fun c33 => ?_)
    · refine G_iconst d_X10_isGood_132 ?_
      refine G_zret (mc := 0) (ms := 0) (st := []) d_X10_isGood_133 rfl (by omega) ?_
      refine ⟨?_, m1, rfl, hQ⟩
      rw [if_pos]
      unfold pGood
      rw [Bool.and_eq_true_iff]
      exact ⟨by simpa using hch, allN_true (fun i hi => hgd i (by omega))⟩
    · refine G_aload_n d_X10_isGood_36 rfl ?_
      refine G_iload_n d_X10_isGood_37 rfl ?_
      refine G_callV1 cl_X10_248 rfl d_X10_isGood_38 (wk_64 _) (Nat.le_of_ble_eq_true rfl) (by decide) (sp_MisOther s hV hQ.2.1 hQ.2.2.1 p (by omega)) ?_
      rintro _ _ ⟨rfl, rfl⟩
      by_cases ho : pOther s p = true
      · rw [if_pos ho]
        have ho2 : pMk s p = 0 ∧ pGone s p = false := by simpa [pOther] using ho
        refine G_istore_n d_X10_isGood_41 (by decide) rfl ?_
        refine G_aload_n d_X10_isGood_42 rfl ?_
        refine G_iload_n d_X10_isGood_43 rfl ?_
        refine G_callV1 cl_X10_104 rfl d_X10_isGood_44 (wk_64 _) (Nat.le_of_ble_eq_true rfl) (by decide) (sp_MisWished s hV hQ.2.1 hQ.2.2.1 p (by omega)) ?_
        rintro _ _ ⟨rfl, rfl⟩
        by_cases hw : pMk s p = 1
        · omega
        · rw [if_neg hw]
          refine G_if_eq 60 d_X10_isGood_47 (by decide) (by decide) (fun _ => ?_) (fun hd => absurd hd (by decide))
          refine G_iload_n d_X10_isGood_60 rfl ?_
          refine G_if_ne 75 d_X10_isGood_61 (by decide) (by decide) (fun _ => ?_) (fun hd => absurd hd (by decide))
          refine G_aload_n d_X10_isGood_75 rfl ?_
          refine G_getIe (v := m 64 2) (fl_X10_32.r) d_X10_isGood_76 (wk_64 _) rfl (congrFun (hm 64 (by decide) (by decide) (by decide)) 2) ?_
          refine G_if_ne 88 d_X10_isGood_79 (by decide) (by omega) (fun c79 => ?_) (fun c79 => ?_)
          · have hs1 : ∀ i, i < pC s → m1 76 i = pSt s i := by
              rcases hI.2.2.2 with h | h
              · exact absurd h c79
              · exact fun i hi => (congrFun (hm 76 (by decide) (by decide) (by decide)) i).trans (h.2 i hi)
            refine G_aload_n d_X10_isGood_88 rfl ?_
            refine G_getIe (v := m 64 2) (fl_X10_32.r) d_X10_isGood_89 (wk_64 _) rfl (congrFun (hm 64 (by decide) (by decide) (by decide)) 2) ?_
            refine G_if_eq 112 d_X10_isGood_92 (by decide) (by omega) (fun c92 => ?_) (fun c92 => ?_)
            · omega
            · refine G_aload_n d_X10_isGood_95 rfl ?_
              refine G_getR (r := 76) (fl_X10_73.r) d_X10_isGood_96 (wk_64 _) rfl rfl ?_
              refine G_iload_n d_X10_isGood_99 rfl ?_
              refine G_ialdj (p) d_X10_isGood_100 (wk_76 _) (by omega) (by omega) (by decide) ?_
              rw [hs1 p (by omega)]
              have hst := pSt_rng s p
              refine G_if_ne 108 d_X10_isGood_101 (by decide) (by omega) (fun c101 => ?_) (fun c101 => ?_)
              · have hz : ¬ pSt s p = 0 := c101
                refine G_iconst d_X10_isGood_108 ?_
                refine G_goto 116 d_X10_isGood_109 (by decide) ?_
                refine G_istore d_X10_isGood_116 (by decide) rfl ?_
                refine G_iload d_X10_isGood_118 rfl ?_
                refine G_iload_n d_X10_isGood_120 rfl ?_
                refine G_icmp_eq 126 d_X10_isGood_121 (by decide) (by decide) (by decide) (fun hd => absurd hd (by decide)) (fun _ => ?_)
                refine G_iconst d_X10_isGood_124 ?_
                refine G_zret (mc := 0) (ms := 0) (st := []) d_X10_isGood_125 rfl (by omega) ?_
                refine ⟨?_, m1, rfl, hQ⟩
                rw [if_neg (pGood_no (show p < pC s by omega) ?_)]
                first | (left; simp [pLeak, ho, hz]; done) | (right; simp [pLost, hw, hz]; done)
              · have hz : pSt s p = 0 := by omega
                refine G_iconst d_X10_isGood_104 ?_
                refine G_goto 116 d_X10_isGood_105 (by decide) ?_
                refine G_istore d_X10_isGood_116 (by decide) rfl ?_
                refine G_iload d_X10_isGood_118 rfl ?_
                refine G_iload_n d_X10_isGood_120 rfl ?_
                refine G_icmp_eq 126 d_X10_isGood_121 (by decide) (by decide) (by decide) (fun _ => ?_) (fun hd => absurd hd (by decide))
                refine G_iinc d_X10_isGood_126 rfl (by decide) rfl ?_
                refine G_goto 28 d_X10_isGood_129 (by decide) ?_
                refine G.fg (ih (by omega) m1 (hm) (hH) (fun i hi => by
                  by_cases e : i = p
                  · subst e; first | (simp [pLeak, pLost, ho, hw]; done) | (simp [pLeak, pLost, ho, hw, hz]; done) | (simp [pLeak, pLost, ho, hw, hz, hg]; done)
                  · exact hgd i (by omega))) ?_
                repeat (first | exact trivial | refine wkL_cons (Or.inl rfl) ?_ | refine wkL_cons (Or.inr rfl) ?_)
          · refine G_aload_n d_X10_isGood_82 rfl ?_
            refine G_iload_n d_X10_isGood_83 rfl ?_
            refine G_iload_n d_X10_isGood_84 rfl ?_
            refine G_callV2 cl_X10_239 rfl d_X10_isGood_85 (wk_64 _) (Nat.le_of_ble_eq_true rfl) (by decide) (sp_McountsFirst s hV hQ.2.1 hQ.2.2.1 (pSc s) p (pSc s) (hH c79) (by omega) (Nat.le_refl _) (by omega)) ?_
            rintro _ _ ⟨rfl, m2, rfl, hm20, hc2⟩
            have hQ2 := hQ.scr1 71 rfl hm20
            refine G_aload_n d_X10_isGood_88 rfl ?_
            refine G_getIe (v := m 64 2) (fl_X10_32.r) d_X10_isGood_89 (wk_64 _) rfl ((congrFun (hm20 64 (by decide)) 2).trans (congrFun (hm 64 (by decide) (by decide) (by decide)) 2)) ?_
            refine G_if_eq 112 d_X10_isGood_92 (by decide) (by omega) (fun c92 => ?_) (fun c92 => ?_)
            · refine G_aload_n d_X10_isGood_112 rfl ?_
              refine G_callV0 cl_X10_227 rfl d_X10_isGood_113 (wk_64 _) (Nat.le_of_ble_eq_true rfl) (by decide) (sp_MisNothing s hV hQ2.2.1 (pCnt s p (pSc s)) hQ2.2.2.2.1 hc2 (fun r _ => by have := pCnt_rng s p (pSc s) r; omega)) ?_
              rintro _ _ ⟨rfl, m3, rfl, hm30⟩
              have hQ3 := hQ2.scr1 73 rfl hm30
              have hm3 : ∀ a, a ≠ 70 → a ≠ 71 → a ≠ 73 → m3 a = m a := fun a h1 h2 h3 => (hm30 a h3).trans ((hm20 a h2).trans (hm a h1 h2 h3))
              by_cases hn : allN (fun a => Bf (pT s) (pCnt s p (pSc s)) a == 0) (pT s) = true
              · rw [if_pos hn]
                have hz : pSt s p = 0 := stB_0.mpr hn
                refine G_istore d_X10_isGood_116 (by decide) rfl ?_
                refine G_iload d_X10_isGood_118 rfl ?_
                refine G_iload_n d_X10_isGood_120 rfl ?_
                refine G_icmp_eq 126 d_X10_isGood_121 (by decide) (by decide) (by decide) (fun _ => ?_) (fun hd => absurd hd (by decide))
                refine G_iinc d_X10_isGood_126 rfl (by decide) rfl ?_
                refine G_goto 28 d_X10_isGood_129 (by decide) ?_
                refine G.fg (ih (by omega) m3 (hm3) (fun h0 t ht k hk => (congrFun (hm30 70 (by decide)) _).trans ((congrFun (hm20 70 (by decide)) _).trans (hH h0 t ht k hk))) (fun i hi => by
                  by_cases e : i = p
                  · subst e; first | (simp [pLeak, pLost, ho, hw]; done) | (simp [pLeak, pLost, ho, hw, hz]; done) | (simp [pLeak, pLost, ho, hw, hz, hg]; done)
                  · exact hgd i (by omega))) ?_
                repeat (first | exact trivial | refine wkL_cons (Or.inl rfl) ?_ | refine wkL_cons (Or.inr rfl) ?_)
              · rw [if_neg hn]
                have hz : ¬ pSt s p = 0 := fun h => hn (stB_0.mp h)
                refine G_istore d_X10_isGood_116 (by decide) rfl ?_
                refine G_iload d_X10_isGood_118 rfl ?_
                refine G_iload_n d_X10_isGood_120 rfl ?_
                refine G_icmp_eq 126 d_X10_isGood_121 (by decide) (by decide) (by decide) (fun hd => absurd hd (by decide)) (fun _ => ?_)
                refine G_iconst d_X10_isGood_124 ?_
                refine G_zret (mc := 0) (ms := 0) (st := []) d_X10_isGood_125 rfl (by omega) ?_
                refine ⟨?_, m3, rfl, hQ3⟩
                rw [if_neg (pGood_no (show p < pC s by omega) ?_)]
                first | (left; simp [pLeak, ho, hz]; done) | (right; simp [pLost, hw, hz]; done)
            · omega
      · rw [if_neg ho]
        refine G_istore_n d_X10_isGood_41 (by decide) rfl ?_
        refine G_aload_n d_X10_isGood_42 rfl ?_
        refine G_iload_n d_X10_isGood_43 rfl ?_
        refine G_callV1 cl_X10_104 rfl d_X10_isGood_44 (wk_64 _) (Nat.le_of_ble_eq_true rfl) (by decide) (sp_MisWished s hV hQ.2.1 hQ.2.2.1 p (by omega)) ?_
        rintro _ _ ⟨rfl, rfl⟩
        by_cases hw : pMk s p = 1
        · rw [if_pos hw]
          refine G_if_eq 60 d_X10_isGood_47 (by decide) (by decide) (fun hd => absurd hd (by decide)) (fun _ => ?_)
          refine G_aload_n d_X10_isGood_50 rfl ?_
          refine G_iload_n d_X10_isGood_51 rfl ?_
          refine G_callV1 cl_X10_245 rfl d_X10_isGood_52 (wk_64 _) (Nat.le_of_ble_eq_true rfl) (by decide) (sp_MisGone s hV hQ.2.1 hQ.2.2.1 p (by omega)) ?_
          rintro _ _ ⟨rfl, rfl⟩
          by_cases hg : pGone s p = true
          · rw [if_pos hg]
            refine G_if_eq 60 d_X10_isGood_55 (by decide) (by decide) (fun hd => absurd hd (by decide)) (fun _ => ?_)
            refine G_iconst d_X10_isGood_58 ?_
            refine G_zret (mc := 0) (ms := 0) (st := []) d_X10_isGood_59 rfl (by omega) ?_
            exact ⟨by rw [if_neg (pGood_no (show p < pC s by omega) (Or.inr (by simp [pLost, hw, hg])))], m1, rfl, hQ⟩
          · rw [if_neg hg]
            refine G_if_eq 60 d_X10_isGood_55 (by decide) (by decide) (fun _ => ?_) (fun hd => absurd hd (by decide))
            refine G_iload_n d_X10_isGood_60 rfl ?_
            refine G_if_ne 75 d_X10_isGood_61 (by decide) (by decide) (fun hd => absurd hd (by decide)) (fun _ => ?_)
            refine G_aload_n d_X10_isGood_64 rfl ?_
            refine G_iload_n d_X10_isGood_65 rfl ?_
            refine G_callV1 cl_X10_104 rfl d_X10_isGood_66 (wk_64 _) (Nat.le_of_ble_eq_true rfl) (by decide) (sp_MisWished s hV hQ.2.1 hQ.2.2.1 p (by omega)) ?_
            rintro _ _ ⟨rfl, rfl⟩
            rw [if_pos hw]
            refine G_if_ne 75 d_X10_isGood_69 (by decide) (by decide) (fun _ => ?_) (fun hd => absurd hd (by decide))
            refine G_aload_n d_X10_isGood_75 rfl ?_
            refine G_getIe (v := m 64 2) (fl_X10_32.r) d_X10_isGood_76 (wk_64 _) rfl (congrFun (hm 64 (by decide) (by decide) (by decide)) 2) ?_
            refine G_if_ne 88 d_X10_isGood_79 (by decide) (by omega) (fun c79 => ?_) (fun c79 => ?_)
            · have hs1 : ∀ i, i < pC s → m1 76 i = pSt s i := by
                rcases hI.2.2.2 with h | h
                · exact absurd h c79
                · exact fun i hi => (congrFun (hm 76 (by decide) (by decide) (by decide)) i).trans (h.2 i hi)
              refine G_aload_n d_X10_isGood_88 rfl ?_
              refine G_getIe (v := m 64 2) (fl_X10_32.r) d_X10_isGood_89 (wk_64 _) rfl (congrFun (hm 64 (by decide) (by decide) (by decide)) 2) ?_
              refine G_if_eq 112 d_X10_isGood_92 (by decide) (by omega) (fun c92 => ?_) (fun c92 => ?_)
              · omega
              · refine G_aload_n d_X10_isGood_95 rfl ?_
                refine G_getR (r := 76) (fl_X10_73.r) d_X10_isGood_96 (wk_64 _) rfl rfl ?_
                refine G_iload_n d_X10_isGood_99 rfl ?_
                refine G_ialdj (p) d_X10_isGood_100 (wk_76 _) (by omega) (by omega) (by decide) ?_
                rw [hs1 p (by omega)]
                have hst := pSt_rng s p
                refine G_if_ne 108 d_X10_isGood_101 (by decide) (by omega) (fun c101 => ?_) (fun c101 => ?_)
                · have hz : ¬ pSt s p = 0 := c101
                  refine G_iconst d_X10_isGood_108 ?_
                  refine G_goto 116 d_X10_isGood_109 (by decide) ?_
                  refine G_istore d_X10_isGood_116 (by decide) rfl ?_
                  refine G_iload d_X10_isGood_118 rfl ?_
                  refine G_iload_n d_X10_isGood_120 rfl ?_
                  refine G_icmp_eq 126 d_X10_isGood_121 (by decide) (by decide) (by decide) (fun _ => ?_) (fun hd => absurd hd (by decide))
                  refine G_iinc d_X10_isGood_126 rfl (by decide) rfl ?_
                  refine G_goto 28 d_X10_isGood_129 (by decide) ?_
                  refine G.fg (ih (by omega) m1 (hm) (hH) (fun i hi => by
                    by_cases e : i = p
                    · subst e; first | (simp [pLeak, pLost, ho, hw]; done) | (simp [pLeak, pLost, ho, hw, hz]; done) | (simp [pLeak, pLost, ho, hw, hz, hg]; done)
                    · exact hgd i (by omega))) ?_
                  repeat (first | exact trivial | refine wkL_cons (Or.inl rfl) ?_ | refine wkL_cons (Or.inr rfl) ?_)
                · have hz : pSt s p = 0 := by omega
                  refine G_iconst d_X10_isGood_104 ?_
                  refine G_goto 116 d_X10_isGood_105 (by decide) ?_
                  refine G_istore d_X10_isGood_116 (by decide) rfl ?_
                  refine G_iload d_X10_isGood_118 rfl ?_
                  refine G_iload_n d_X10_isGood_120 rfl ?_
                  refine G_icmp_eq 126 d_X10_isGood_121 (by decide) (by decide) (by decide) (fun hd => absurd hd (by decide)) (fun _ => ?_)
                  refine G_iconst d_X10_isGood_124 ?_
                  refine G_zret (mc := 0) (ms := 0) (st := []) d_X10_isGood_125 rfl (by omega) ?_
                  refine ⟨?_, m1, rfl, hQ⟩
                  rw [if_neg (pGood_no (show p < pC s by omega) ?_)]
                  first | (left; simp [pLeak, ho, hz]; done) | (right; simp [pLost, hw, hz]; done)
            · refine G_aload_n d_X10_isGood_82 rfl ?_
              refine G_iload_n d_X10_isGood_83 rfl ?_
              refine G_iload_n d_X10_isGood_84 rfl ?_
              refine G_callV2 cl_X10_239 rfl d_X10_isGood_85 (wk_64 _) (Nat.le_of_ble_eq_true rfl) (by decide) (sp_McountsFirst s hV hQ.2.1 hQ.2.2.1 (pSc s) p (pSc s) (hH c79) (by omega) (Nat.le_refl _) (by omega)) ?_
              rintro _ _ ⟨rfl, m2, rfl, hm20, hc2⟩
              have hQ2 := hQ.scr1 71 rfl hm20
              refine G_aload_n d_X10_isGood_88 rfl ?_
              refine G_getIe (v := m 64 2) (fl_X10_32.r) d_X10_isGood_89 (wk_64 _) rfl ((congrFun (hm20 64 (by decide)) 2).trans (congrFun (hm 64 (by decide) (by decide) (by decide)) 2)) ?_
              refine G_if_eq 112 d_X10_isGood_92 (by decide) (by omega) (fun c92 => ?_) (fun c92 => ?_)
              · refine G_aload_n d_X10_isGood_112 rfl ?_
                refine G_callV0 cl_X10_227 rfl d_X10_isGood_113 (wk_64 _) (Nat.le_of_ble_eq_true rfl) (by decide) (sp_MisNothing s hV hQ2.2.1 (pCnt s p (pSc s)) hQ2.2.2.2.1 hc2 (fun r _ => by have := pCnt_rng s p (pSc s) r; omega)) ?_
                rintro _ _ ⟨rfl, m3, rfl, hm30⟩
                have hQ3 := hQ2.scr1 73 rfl hm30
                have hm3 : ∀ a, a ≠ 70 → a ≠ 71 → a ≠ 73 → m3 a = m a := fun a h1 h2 h3 => (hm30 a h3).trans ((hm20 a h2).trans (hm a h1 h2 h3))
                by_cases hn : allN (fun a => Bf (pT s) (pCnt s p (pSc s)) a == 0) (pT s) = true
                · rw [if_pos hn]
                  have hz : pSt s p = 0 := stB_0.mpr hn
                  refine G_istore d_X10_isGood_116 (by decide) rfl ?_
                  refine G_iload d_X10_isGood_118 rfl ?_
                  refine G_iload_n d_X10_isGood_120 rfl ?_
                  refine G_icmp_eq 126 d_X10_isGood_121 (by decide) (by decide) (by decide) (fun hd => absurd hd (by decide)) (fun _ => ?_)
                  refine G_iconst d_X10_isGood_124 ?_
                  refine G_zret (mc := 0) (ms := 0) (st := []) d_X10_isGood_125 rfl (by omega) ?_
                  refine ⟨?_, m3, rfl, hQ3⟩
                  rw [if_neg (pGood_no (show p < pC s by omega) ?_)]
                  first | (left; simp [pLeak, ho, hz]; done) | (right; simp [pLost, hw, hz]; done)
                · rw [if_neg hn]
                  have hz : ¬ pSt s p = 0 := fun h => hn (stB_0.mp h)
                  refine G_istore d_X10_isGood_116 (by decide) rfl ?_
                  refine G_iload d_X10_isGood_118 rfl ?_
                  refine G_iload_n d_X10_isGood_120 rfl ?_
                  refine G_icmp_eq 126 d_X10_isGood_121 (by decide) (by decide) (by decide) (fun _ => ?_) (fun hd => absurd hd (by decide))
                  refine G_iinc d_X10_isGood_126 rfl (by decide) rfl ?_
                  refine G_goto 28 d_X10_isGood_129 (by decide) ?_
                  refine G.fg (ih (by omega) m3 (hm3) (fun h0 t ht k hk => (congrFun (hm30 70 (by decide)) _).trans ((congrFun (hm20 70 (by decide)) _).trans (hH h0 t ht k hk))) (fun i hi => by
                    by_cases e : i = p
                    · subst e; first | (simp [pLeak, pLost, ho, hw]; done) | (simp [pLeak, pLost, ho, hw, hz]; done) | (simp [pLeak, pLost, ho, hw, hz, hg]; done)
                    · exact hgd i (by omega))) ?_
                  repeat (first | exact trivial | refine wkL_cons (Or.inl rfl) ?_ | refine wkL_cons (Or.inr rfl) ?_)
              · omega
        · rw [if_neg hw]
          refine G_if_eq 60 d_X10_isGood_47 (by decide) (by decide) (fun _ => ?_) (fun hd => absurd hd (by decide))
          refine G_iload_n d_X10_isGood_60 rfl ?_
          refine G_if_ne 75 d_X10_isGood_61 (by decide) (by decide) (fun hd => absurd hd (by decide)) (fun _ => ?_)
          refine G_aload_n d_X10_isGood_64 rfl ?_
          refine G_iload_n d_X10_isGood_65 rfl ?_
          refine G_callV1 cl_X10_104 rfl d_X10_isGood_66 (wk_64 _) (Nat.le_of_ble_eq_true rfl) (by decide) (sp_MisWished s hV hQ.2.1 hQ.2.2.1 p (by omega)) ?_
          rintro _ _ ⟨rfl, rfl⟩
          rw [if_neg hw]
          refine G_if_ne 75 d_X10_isGood_69 (by decide) (by decide) (fun hd => absurd hd (by decide)) (fun _ => ?_)
          refine G_goto 126 d_X10_isGood_72 (by decide) ?_
          refine G_iinc d_X10_isGood_126 rfl (by decide) rfl ?_
          refine G_goto 28 d_X10_isGood_129 (by decide) ?_
          refine G.fg (ih (by omega) m1 (hm) (hH) (fun i hi => by
            by_cases e : i = p
            · subst e; first | (simp [pLeak, pLost, ho, hw]; done) | (simp [pLeak, pLost, ho, hw, hz]; done) | (simp [pLeak, pLost, ho, hw, hz, hg]; done)
            · exact hgd i (by omega))) ?_
          repeat (first | exact trivial | refine wkL_cons (Or.inl rfl) ?_ | refine wkL_cons (Or.inr rfl) ?_)
  refine G_aload_n d_X10_isGood_0 rfl ?_
  refine G_callV0 cl_X10_213 rfl d_X10_isGood_1 (wk_64 _) (Nat.le_of_ble_eq_true rfl) (by decide) (sp_Mchief s hV hI.1 hI.2.1) ?_
  rintro _ _ ⟨rfl, rfl⟩
  refine G_iconst d_X10_isGood_4 ?_
  have hcr := pChief_rng s
  refine G_icmp_ne 10 d_X10_isGood_5 (by decide) (by omega) (by omega) (fun c5 => ?_) (fun c5 => ?_)
  · have hch : ¬ pChief s = -1 := c5
    refine G_aload_n d_X10_isGood_10 rfl ?_
    refine G_getI (fl_X10_32.r) d_X10_isGood_11 (wk_64 _) rfl ?_
    have hfl := hI.fl
    refine G_if_ne 21 d_X10_isGood_14 (by decide) (by omega) (fun c14 => ?_) (fun c14 => ?_)
    · refine G_aload_n d_X10_isGood_21 rfl ?_
      refine G_callV0 cl_X10_142 rfl d_X10_isGood_22 (wk_64 _) (Nat.le_of_ble_eq_true rfl) (by decide) (sp_Mscans s hV hI.1) ?_
      rintro _ _ ⟨rfl, rfl⟩
      refine G_istore_n d_X10_isGood_25 (by decide) rfl ?_
      refine G_iconst d_X10_isGood_26 ?_
      refine G_istore_n d_X10_isGood_27 (by decide) rfl ?_
      exact L hch 0 (by omega) m (fun _ _ _ _ => rfl) (fun h0 => absurd h0 c14) (fun i hi => absurd hi (by omega))
    · refine G_aload_n d_X10_isGood_17 rfl ?_
      refine G_callV0 cl_X10_236 rfl d_X10_isGood_18 (wk_64 _) (Nat.le_of_ble_eq_true rfl) (by decide) (sp_MlaysPhases s hV hI.1 hI.2.1) ?_
      rintro _ _ ⟨rfl, m1, rfl, hm1, hH⟩
      have hQ := (KQ.refl hI).scr1 70 rfl hm1
      refine G_aload_n d_X10_isGood_21 rfl ?_
      refine G_callV0 cl_X10_142 rfl d_X10_isGood_22 (wk_64 _) (Nat.le_of_ble_eq_true rfl) (by decide) (sp_Mscans s hV hQ.2.1) ?_
      rintro _ _ ⟨rfl, rfl⟩
      refine G_istore_n d_X10_isGood_25 (by decide) rfl ?_
      refine G_iconst d_X10_isGood_26 ?_
      refine G_istore_n d_X10_isGood_27 (by decide) rfl ?_
      exact L hch 0 (by omega) m1 (fun a h _ _ => hm1 a h) (fun _ => hH) (fun i hi => absurd hi (by omega))
  · refine G_iconst d_X10_isGood_8 ?_
    refine G_zret (mc := 0) (ms := 0) (st := []) d_X10_isGood_9 rfl (by omega) ?_
    refine ⟨?_, m, rfl, KQ.refl hI⟩
    rw [if_neg]
    intro hg
    have h8 := (Bool.and_eq_true_iff.mp hg).1
    simp [show pChief s = -1 by omega] at h8
