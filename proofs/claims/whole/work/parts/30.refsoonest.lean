def gdN (s : Nat → Int) (n p : Nat) : Bool := if pOther s p = true ∨ pMk s p = 1 then ((stB (pT s) (pCnt s p n) == 0) == pOther s p) else true
def goodN (s : Nat → Int) (n : Nat) : Bool := allN (gdN s n) (pC s)
def vSoonest (s : Nat → Int) : Int := if pC s ≤ 200 ∧ pChief s ≠ -1 ∧ ¬ anyGone s = true then fst1 (firstB (fun t => goodN s (t + 1)) (pSc s)) else -1
def SF (s : Nat → Int) (f : Nat → Nat) (m : Nat → Nat → Int) : Prop := ∀ p, p < pC s → ∀ r, r < 48 → m 82 (48 * p + r) = pCnt s p (f p) r
theorem sp_MisGoodSoFar {w : List KD} {m : Nat → Nat → Int} (s : Nat → Int) (hV : VS s) (hI : MI s m) (n : Nat) (hn : n ≤ 512) (hp2 : pC s ≤ 200) (hS : SF s (fun _ => n) m) : Sp M_X10_isGoodSoFar 5 0 0 [rV 64] (WC ++ (WM ++ w), m) (fun r h => r = some (iV (if goodN s n = true then 1 else 0)) ∧ ∃ m2, h = (WC ++ (WM ++ w), m2) ∧ KQ s m m2 ∧ m2 82 = m 82 ∧ m2 70 = m 70) := by
  refine Sp.ofG (ls := [rV 64, uV, uV, uV]) (by decide +kernel) rfl (Nat.le_of_ble_eq_true rfl) ?_
  have hC := pC_le hV
  have hN := hV.N
  have hT := hV.T
  have hSc := hV.Sc
  have L1 : ∀ p : Nat, p ≤ pC s → ∀ m1, KQ s m m1 → m1 82 = m 82 → m1 70 = m 70 → (∀ q, q < p → gdN s n q = true) → G M_X10_isGoodSoFar 5 0 0 2 [rV 64, iV (p : Int), uV, uV] [] (WC ++ (WM ++ w), m1) (fun r h => r = some (iV (if goodN s n = true then 1 else 0)) ∧ ∃ m2, h = (WC ++ (WM ++ w), m2) ∧ KQ s m m2 ∧ m2 82 = m 82 ∧ m2 70 = m 70) := by
    refine loop_up (pC s) _ ?_
    intro p hp ih
    have L2 : ∀ r : Nat, r ≤ 48 → ∀ o : Int, (o = 1 ∧ pOther s p = true ∨ o = 0 ∧ pOther s p = false ∧ pMk s p = 1) → ∀ m1, KQ s m m1 → m1 82 = m 82 → m1 70 = m 70 → (∀ i, i < r → m1 71 i = pCnt s p n i) → (∀ q, q < p → gdN s n q = true) → p < pC s → G M_X10_isGoodSoFar 5 0 0 33 [rV 64, iV (p : Int), iV o, iV (r : Int)] [] (WC ++ (WM ++ w), m1) (fun r h => r = some (iV (if goodN s n = true then 1 else 0)) ∧ ∃ m2, h = (WC ++ (WM ++ w), m2) ∧ KQ s m m2 ∧ m2 82 = m 82 ∧ m2 70 = m 70) := by
      refine loop_up (48) _ ?_
      intro r hr ihr o ho m1 h1 h82 h70 hz hgd hpc
      refine G_iload_n d_X10_isGoodSoFar_33 rfl ?_
      refine G_bipush d_X10_isGoodSoFar_34 (by decide) ?_
      refine G_icmp_ge 62 d_X10_isGoodSoFar_36 (by decide) (by omega) (by omega) (fun c36 => ?_) (fun c36 => ?_)
      · refine G_aload_n d_X10_isGoodSoFar_62 rfl ?_
        refine G_callV0 cl_X10_227 rfl d_X10_isGoodSoFar_63 (wk_64 _) (Nat.le_of_ble_eq_true rfl) (by decide) (sp_MisNothing s hV h1.2.1 (pCnt s p n) h1.2.2.2.1 (fun i hi => hz i (by omega)) (fun i _ => by have := pCnt_rng s p n i; omega)) ?_
        rintro _ _ ⟨rfl, m3, rfl, hm3⟩
        have hQ3 := h1.scr1 73 rfl hm3
        have h823 : m3 82 = m 82 := (hm3 82 (by decide)).trans h82
        have h703 : m3 70 = m 70 := (hm3 70 (by decide)).trans h70
        by_cases hn : allN (fun a => Bf (pT s) (pCnt s p n) a == 0) (pT s) = true
        · rw [if_pos hn]
          have hst := stB_0.mpr hn
          refine G_iload_n d_X10_isGoodSoFar_66 rfl ?_
          refine G_icmp_eq 72 d_X10_isGoodSoFar_67 (by decide) (by omega) (by omega) (fun c67 => ?_) (fun c67 => ?_)
          · refine G_iinc d_X10_isGoodSoFar_72 rfl (by decide) rfl ?_
            refine G_goto 2 d_X10_isGoodSoFar_75 (by decide) ?_
            refine G.fg (ih (by omega) m3 hQ3 h823 h703 (fun q hq => by
              by_cases e : q = p
              · subst e
                unfold gdN
                rcases ho with ho | ho
                · rw [if_pos (Or.inl ho.2), ho.2]; simp; omega
                · rw [if_pos (Or.inr ho.2.2), ho.2.1]; simp; omega
              · exact hgd q (by omega))) ?_
            repeat (first | exact trivial | refine wkL_cons (Or.inl rfl) ?_ | refine wkL_cons (Or.inr rfl) ?_)
          · refine G_iconst d_X10_isGoodSoFar_70 ?_
            refine G_zret (mc := 0) (ms := 0) (st := []) d_X10_isGoodSoFar_71 rfl (by omega) ?_
            refine ⟨?_, m3, rfl, hQ3, h823, h703⟩
            rw [if_neg]
            intro hg
            have h8 := allN_of hg p (by omega)
            unfold gdN at h8
            rcases ho with ho | ho
            · rw [if_pos (Or.inl ho.2), ho.2] at h8; simp at h8; omega
            · rw [if_pos (Or.inr ho.2.2), ho.2.1] at h8; simp at h8; omega
        · rw [if_neg hn]
          have hst : ¬ stB (pT s) (pCnt s p n) = 0 := fun h => hn (stB_0.mp h)
          refine G_iload_n d_X10_isGoodSoFar_66 rfl ?_
          refine G_icmp_eq 72 d_X10_isGoodSoFar_67 (by decide) (by omega) (by omega) (fun c67 => ?_) (fun c67 => ?_)
          · refine G_iinc d_X10_isGoodSoFar_72 rfl (by decide) rfl ?_
            refine G_goto 2 d_X10_isGoodSoFar_75 (by decide) ?_
            refine G.fg (ih (by omega) m3 hQ3 h823 h703 (fun q hq => by
              by_cases e : q = p
              · subst e
                unfold gdN
                rcases ho with ho | ho
                · rw [if_pos (Or.inl ho.2), ho.2]; simp; omega
                · rw [if_pos (Or.inr ho.2.2), ho.2.1]; simp; omega
              · exact hgd q (by omega))) ?_
            repeat (first | exact trivial | refine wkL_cons (Or.inl rfl) ?_ | refine wkL_cons (Or.inr rfl) ?_)
          · refine G_iconst d_X10_isGoodSoFar_70 ?_
            refine G_zret (mc := 0) (ms := 0) (st := []) d_X10_isGoodSoFar_71 rfl (by omega) ?_
            refine ⟨?_, m3, rfl, hQ3, h823, h703⟩
            rw [if_neg]
            intro hg
            have h8 := allN_of hg p (by omega)
            unfold gdN at h8
            rcases ho with ho | ho
            · rw [if_pos (Or.inl ho.2), ho.2] at h8; simp at h8; omega
            · rw [if_pos (Or.inr ho.2.2), ho.2.1] at h8; simp at h8; omega
      · refine G_aload_n d_X10_isGoodSoFar_39 rfl ?_
        refine G_getR (r := 71) (fl_X10_57.r) d_X10_isGoodSoFar_40 (wk_64 _) rfl rfl ?_
        refine G_iload_n d_X10_isGoodSoFar_43 rfl ?_
        refine G_aload_n d_X10_isGoodSoFar_44 rfl ?_
        refine G_getR (r := 82) (fl_X10_92.r) d_X10_isGoodSoFar_45 (wk_64 _) rfl rfl ?_
        refine G_bipush d_X10_isGoodSoFar_48 (by decide) ?_
        refine G_iload_n d_X10_isGoodSoFar_50 rfl ?_
        refine G_imul d_X10_isGoodSoFar_51 ?_
        refine G_iload_n d_X10_isGoodSoFar_52 rfl ?_
        refine G_iadd d_X10_isGoodSoFar_53 ?_
        refine G_ialdj (48 * p + r) d_X10_isGoodSoFar_54 (wk_82 _) (by omega) (by omega) (by decide) ?_
        rw [show m1 82 (48 * p + r) = pCnt s p n r by rw [h82]; exact hS p (by omega) r (by omega)]
        refine G_iastj (r) d_X10_isGoodSoFar_55 (wk_71 _) (by omega) (by omega) (by decide) ?_
        refine G_iinc d_X10_isGoodSoFar_56 rfl (by decide) rfl ?_
        refine G_goto 33 d_X10_isGoodSoFar_59 (by decide) ?_
        exact ihr (by omega) o ho _ (h1.up rfl) (by rw [upm_off _ _ (by decide)]; exact h82) (by rw [upm_off _ _ (by decide)]; exact h70) (fun i hi => by
          by_cases e : i = r
          · rw [e, upm_same]
          · rw [upm_ne _ _ (fun _ => e)]; exact hz i (by omega)) hgd hpc
    intro m1 h1 h82 h70 hgd
    refine G_iload_n d_X10_isGoodSoFar_2 rfl ?_
    refine G_aload_n d_X10_isGoodSoFar_3 rfl ?_
    refine G_getIe (fl_X10_25.r) d_X10_isGoodSoFar_4 (wk_64 _) rfl (h1.2.2.1.1) ?_
    refine G_icmp_ge 78 d_X10_isGoodSoFar_7 (by decide) (by omega) (by omega) (fun c7 => ?_) (fun c7 => ?_)
    · refine G_iconst d_X10_isGoodSoFar_78 ?_
      refine G_zret (mc := 0) (ms := 0) (st := []) d_X10_isGoodSoFar_79 rfl (by omega) ?_
      exact ⟨by rw [if_pos (show goodN s n = true from allN_true (fun q hq => hgd q (by omega)))], m1, rfl, h1, h82, h70⟩
    · refine G_aload_n d_X10_isGoodSoFar_10 rfl ?_
      refine G_iload_n d_X10_isGoodSoFar_11 rfl ?_
      refine G_callV1 cl_X10_248 rfl d_X10_isGoodSoFar_12 (wk_64 _) (Nat.le_of_ble_eq_true rfl) (by decide) (sp_MisOther s hV h1.2.1 h1.2.2.1 p (by omega)) ?_
      rintro _ _ ⟨rfl, rfl⟩
      by_cases ho : pOther s p = true
      · rw [if_pos ho]
        refine G_istore_n d_X10_isGoodSoFar_15 (by decide) rfl ?_
        refine G_iload_n d_X10_isGoodSoFar_16 rfl ?_
        refine G_if_ne 31 d_X10_isGoodSoFar_17 (by decide) (by decide) (fun _ => ?_) (fun hd => absurd hd (by decide))
        refine G_iconst d_X10_isGoodSoFar_31 ?_
        refine G_istore_n d_X10_isGoodSoFar_32 (by decide) rfl ?_
        exact L2 0 (by omega) 1 (Or.inl ⟨rfl, ho⟩) m1 h1 h82 h70 (fun i hi => absurd hi (by omega)) hgd (by omega)
      · rw [if_neg ho]
        refine G_istore_n d_X10_isGoodSoFar_15 (by decide) rfl ?_
        refine G_iload_n d_X10_isGoodSoFar_16 rfl ?_
        refine G_if_ne 31 d_X10_isGoodSoFar_17 (by decide) (by decide) (fun hd => absurd hd (by decide)) (fun _ => ?_)
        refine G_aload_n d_X10_isGoodSoFar_20 rfl ?_
        refine G_iload_n d_X10_isGoodSoFar_21 rfl ?_
        refine G_callV1 cl_X10_104 rfl d_X10_isGoodSoFar_22 (wk_64 _) (Nat.le_of_ble_eq_true rfl) (by decide) (sp_MisWished s hV h1.2.1 h1.2.2.1 p (by omega)) ?_
        rintro _ _ ⟨rfl, rfl⟩
        by_cases hw : pMk s p = 1
        · rw [if_pos hw]
          refine G_if_ne 31 d_X10_isGoodSoFar_25 (by decide) (by decide) (fun _ => ?_) (fun hd => absurd hd (by decide))
          refine G_iconst d_X10_isGoodSoFar_31 ?_
          refine G_istore_n d_X10_isGoodSoFar_32 (by decide) rfl ?_
          exact L2 0 (by omega) 0 (Or.inr ⟨rfl, by simpa using ho, hw⟩) m1 h1 h82 h70 (fun i hi => absurd hi (by omega)) hgd (by omega)
        · rw [if_neg hw]
          refine G_if_ne 31 d_X10_isGoodSoFar_25 (by decide) (by decide) (fun hd => absurd hd (by decide)) (fun _ => ?_)
          refine G_goto 72 d_X10_isGoodSoFar_28 (by decide) ?_
          refine G_iinc d_X10_isGoodSoFar_72 rfl (by decide) rfl ?_
          refine G_goto 2 d_X10_isGoodSoFar_75 (by decide) ?_
          refine G.fg (ih (by omega) m1 h1 h82 h70 (fun q hq => by
            by_cases e : q = p
            · subst e; unfold gdN; rw [if_neg (fun h => h.elim ho hw)]
            · exact hgd q (by omega))) ?_
          repeat (first | exact trivial | refine wkL_cons (Or.inl rfl) ?_ | refine wkL_cons (Or.inr rfl) ?_)
  refine G_iconst d_X10_isGoodSoFar_0 ?_
  refine G_istore_n d_X10_isGoodSoFar_1 (by decide) rfl ?_
  exact L1 0 (by omega) m (KQ.refl hI) rfl rfl (fun q hq => absurd hq (by omega))
theorem sp_Msoonest {w : List KD} {m : Nat → Nat → Int} (s : Nat → Int) (hV : VS s) (hI : MI s m) : Sp M_X10_soonest 6 0 0 [rV 64] (WC ++ (WM ++ w), m) (fun r h => r = some (iV (vSoonest s)) ∧ ∃ m2, h = (WC ++ (WM ++ w), m2) ∧ KQ s m m2) := by
  refine Sp.ofG (ls := [rV 64, uV, uV, uV, uV]) (by decide +kernel) rfl (Nat.le_of_ble_eq_true rfl) ?_
  have hC := pC_le hV
  have hN := hV.N
  have hT := hV.T
  have hSc := hV.Sc
  have L1 : pC s ≤ 200 ∧ pChief s ≠ -1 ∧ ¬ anyGone s = true → ∀ t : Nat, t ≤ pSc s → ∀ m1, KQ s m m1 → PH s (pSc s) m1 → SF s (fun _ => t) m1 → (∀ j, j < t → goodN s (j + 1) = false) → G M_X10_soonest 6 0 0 65 [rV 64, iV (pSc s : Int), iV (t : Int), uV, uV] [] (WC ++ (WM ++ w), m1) (fun r h => r = some (iV (vSoonest s)) ∧ ∃ m2, h = (WC ++ (WM ++ w), m2) ∧ KQ s m m2) := by
    intro hok
    have hC2 := hok.1
    refine loop_up (pSc s) _ ?_
    intro t ht ih_t
    have L2 : ∀ p : Nat, p ≤ pC s → ∀ m1, KQ s m m1 → PH s (pSc s) m1 → SF s (fun q => if q < p then t + 1 else t) m1 → t < pSc s → (∀ j, j < t → goodN s (j + 1) = false) → G M_X10_soonest 6 0 0 72 [rV 64, iV (pSc s : Int), iV (t : Int), iV (p : Int), uV] [] (WC ++ (WM ++ w), m1) (fun r h => r = some (iV (vSoonest s)) ∧ ∃ m2, h = (WC ++ (WM ++ w), m2) ∧ KQ s m m2) := by
      refine loop_up (pC s) _ ?_
      intro p hp ih m1 h1 hH hS htl hno
      refine G_iload_n d_X10_soonest_72 rfl ?_
      refine G_aload_n d_X10_soonest_73 rfl ?_
      refine G_getIe (fl_X10_25.r) d_X10_soonest_74 (wk_64 _) rfl (h1.2.2.1.1) ?_
      refine G_icmp_ge 115 d_X10_soonest_77 (by decide) (by omega) (by omega) (fun c77 => ?_) (fun c77 => ?_)
      · refine G_aload_n d_X10_soonest_115 rfl ?_
        refine G_callV0 cl_X10_338 rfl d_X10_soonest_116 (wk_64 _) (Nat.le_of_ble_eq_true rfl) (by decide) (sp_MisGoodSoFar s hV h1.2 (t + 1) (by omega) (by omega) (fun q hq r hr => by have := hS q hq r hr; simp only [] at this ⊢; rw [if_pos (by omega)] at this; exact this)) ?_
        rintro _ _ ⟨rfl, m3, rfl, h3, h823, h703⟩
        have h3 := h1.trans h3
        by_cases hg : goodN s (t + 1) = true
        · rw [if_pos hg]
          refine G_if_eq 126 d_X10_soonest_119 (by decide) (by decide) (fun hd => absurd hd (by decide)) (fun _ => ?_)
          refine G_iload_n d_X10_soonest_122 rfl ?_
          refine G_iconst d_X10_soonest_123 ?_
          refine G_iadd d_X10_soonest_124 ?_
          refine G_iret (mc := 0) (ms := 0) (st := []) d_X10_soonest_125 rfl ?_
          exact ⟨by unfold vSoonest; rw [if_pos hok, firstB_found t htl hno hg]; unfold fst1; rw [if_neg (by omega)], m3, rfl, h3⟩
        · rw [if_neg hg]
          refine G_if_eq 126 d_X10_soonest_119 (by decide) (by decide) (fun _ => ?_) (fun hd => absurd hd (by decide))
          refine G_iinc d_X10_soonest_126 rfl (by decide) rfl ?_
          refine G_goto 65 d_X10_soonest_129 (by decide) ?_
          refine G.fg (ih_t (by omega) m3 h3 (fun u hu k hk => by rw [h703]; exact hH u hu k hk) (fun q hq r hr => by have := hS q hq r hr; simp only [] at this ⊢; rw [if_pos (by omega)] at this; rw [h823]; exact this) (fun j hj => by
            by_cases e : j = t
            · subst e; simpa using hg
            · exact hno j (by omega))) ?_
          repeat (first | exact trivial | refine wkL_cons (Or.inl rfl) ?_ | refine wkL_cons (Or.inr rfl) ?_)
      · refine G_bipush d_X10_soonest_80 (by decide) ?_
        refine G_iload_n d_X10_soonest_82 rfl ?_
        refine G_imul d_X10_soonest_83 ?_
        refine G_aload_n d_X10_soonest_84 rfl ?_
        refine G_iload_n d_X10_soonest_85 rfl ?_
        refine G_iload_n d_X10_soonest_86 rfl ?_
        refine G_callV2 cl_X10_233 rfl d_X10_soonest_87 (wk_64 _) (Nat.le_of_ble_eq_true rfl) (by decide) (sp_Mres s hV h1.2.1 h1.2.2.1 (pSc s) p t hH (by omega) (by omega) (by omega)) ?_
        rintro _ _ ⟨rfl, rfl⟩
        have hrl := pRes_lt hV p t
        refine G_iadd d_X10_soonest_90 ?_
        refine G_istore d_X10_soonest_91 (by decide) rfl ?_
        refine G_aload_n d_X10_soonest_93 rfl ?_
        refine G_getR (r := 82) (fl_X10_92.r) d_X10_soonest_94 (wk_64 _) rfl rfl ?_
        refine G_iload d_X10_soonest_97 rfl ?_
        refine G_aload_n d_X10_soonest_99 rfl ?_
        refine G_getR (r := 82) (fl_X10_92.r) d_X10_soonest_100 (wk_64 _) rfl rfl ?_
        refine G_iload d_X10_soonest_103 rfl ?_
        refine G_ialdj (48 * p + pRes s p t) d_X10_soonest_105 (wk_82 _) (by omega) (by omega) (by decide) ?_
        refine G_iconst d_X10_soonest_106 ?_
        refine G_iadd d_X10_soonest_107 ?_
        refine G_iastj (48 * p + pRes s p t) d_X10_soonest_108 (wk_82 _) (by omega) (by omega) (by decide) ?_
        refine G_iinc d_X10_soonest_109 rfl (by decide) rfl ?_
        refine G_goto 72 d_X10_soonest_112 (by decide) ?_
        refine G.fg (ih (by omega) _ (h1.up rfl) (fun u hu k hk => by rw [upm_off _ _ (by decide)]; exact hH u hu k hk) (fun q hq r hr => ?_) htl hno) ?_
        · by_cases e : 48 * q + r = 48 * p + pRes s p t
          · have e1 : q = p := by omega
            have e2 : r = pRes s p t := by omega
            subst e1
            subst e2
            rw [upm_same, hS q hq _ hr]
            simp only []
            rw [if_pos (Nat.lt_succ_self q), if_neg (Nat.lt_irrefl q)]
            unfold pCnt
            rw [cntB_t (f := fun u => pRes s q u == pRes s q t) (by simp)]
            exact (Int.natCast_add _ 1).symm
          · rw [upm_ne _ _ (fun _ => e), hS q hq r hr]
            by_cases e1 : q = p
            · subst e1
              simp only []
              rw [if_neg (by omega), if_pos (by omega)]
              unfold pCnt
              rw [cntB_f (f := fun u => pRes s q u == r) (by simp; omega)]
            · simp only []
              by_cases e3 : q < p
              · rw [if_pos e3, if_pos (by omega)]
              · rw [if_neg e3, if_neg (by omega)]
        · repeat (first | exact trivial | refine wkL_cons (Or.inl rfl) ?_ | refine wkL_cons (Or.inr rfl) ?_)
    intro m1 h1 hH hS hno
    refine G_iload_n d_X10_soonest_65 rfl ?_
    refine G_iload_n d_X10_soonest_66 rfl ?_
    refine G_icmp_ge 132 d_X10_soonest_67 (by decide) (by omega) (by omega) (fun c67 => ?_) (fun c67 => ?_)
    · refine G_iconst d_X10_soonest_132 ?_
      refine G_iret (mc := 0) (ms := 0) (st := []) d_X10_soonest_133 rfl ?_
      exact ⟨by unfold vSoonest; rw [if_pos hok, firstB_none (fun j hj => hno j (by omega))]; rfl, m1, rfl, h1⟩
    · refine G_iconst d_X10_soonest_70 ?_
      refine G_istore_n d_X10_soonest_71 (by decide) rfl ?_
      exact L2 0 (by omega) m1 h1 hH (fun q hq r hr => by simp only []; rw [if_neg (by omega)]; exact hS q hq r hr) (by omega) hno
  have L0 : ∀ i : Nat, i ≤ 9600 → ∀ m1, pC s ≤ 200 ∧ pChief s ≠ -1 ∧ ¬ anyGone s = true → KQ s m m1 → PH s (pSc s) m1 → (∀ j, j < i → m1 82 j = 0) → G M_X10_soonest 6 0 0 38 [rV 64, iV (i : Int), uV, uV, uV] [] (WC ++ (WM ++ w), m1) (fun r h => r = some (iV (vSoonest s)) ∧ ∃ m2, h = (WC ++ (WM ++ w), m2) ∧ KQ s m m2) := by
    refine loop_up (9600) _ ?_
    intro i hi ih m1 hok h1 hH hz
    refine G_iload_n d_X10_soonest_38 rfl ?_
    refine G_sipush d_X10_soonest_39 (by decide) ?_
    refine G_icmp_ge 58 d_X10_soonest_42 (by decide) (by omega) (by omega) (fun c42 => ?_) (fun c42 => ?_)
    · refine G_aload_n d_X10_soonest_58 rfl ?_
      refine G_callV0 cl_X10_142 rfl d_X10_soonest_59 (wk_64 _) (Nat.le_of_ble_eq_true rfl) (by decide) (sp_Mscans s hV h1.2.1) ?_
      rintro _ _ ⟨rfl, rfl⟩
      refine G_istore_n d_X10_soonest_62 (by decide) rfl ?_
      refine G_iconst d_X10_soonest_63 ?_
      refine G_istore_n d_X10_soonest_64 (by decide) rfl ?_
      exact L1 hok 0 (by omega) m1 h1 hH (fun q hq r hr => by have := hok.1; rw [hz _ (by omega)]; rfl) (fun j hj => absurd hj (by omega))
    · refine G_aload_n d_X10_soonest_45 rfl ?_
      refine G_getR (r := 82) (fl_X10_92.r) d_X10_soonest_46 (wk_64 _) rfl rfl ?_
      refine G_iload_n d_X10_soonest_49 rfl ?_
      refine G_iconst d_X10_soonest_50 ?_
      refine G_iastj (i) d_X10_soonest_51 (wk_82 _) (by omega) (by omega) (by decide) ?_
      refine G_iinc d_X10_soonest_52 rfl (by decide) rfl ?_
      refine G_goto 38 d_X10_soonest_55 (by decide) ?_
      exact ih (by omega) _ hok (h1.up rfl) (fun u hu k hk => by rw [upm_off _ _ (by decide)]; exact hH u hu k hk) (fun j hj => by
        by_cases e : j = i
        · rw [e, upm_same]
        · rw [upm_ne _ _ (fun _ => e)]; exact hz j (by omega))
  refine G_aload_n d_X10_soonest_0 rfl ?_
  refine G_iconst d_X10_soonest_1 ?_
  refine G_putII fl_X10_1 d_X10_soonest_2 (wk_64 _) rfl ?_
  have hQ0 : KQ s m (upm m 64 0 0) := (KQ.refl hI).fld rfl
  generalize upm m 64 0 0 = m0 at hQ0 ⊢
  refine G_aload_n d_X10_soonest_5 rfl ?_
  refine G_getIe (fl_X10_25.r) d_X10_soonest_6 (wk_64 _) rfl (hQ0.2.2.1.1) ?_
  refine G_sipush d_X10_soonest_9 (by decide) ?_
  refine G_icmp_gt 30 d_X10_soonest_12 (by decide) (by omega) (by omega) (fun c12 => ?_) (fun c12 => ?_)
  · refine G_iconst d_X10_soonest_30 ?_
    refine G_iret (mc := 0) (ms := 0) (st := []) d_X10_soonest_31 rfl ?_
    exact ⟨by unfold vSoonest; rw [if_neg (fun h => by have := h.1; omega)], m0, rfl, hQ0⟩
  · refine G_aload_n d_X10_soonest_15 rfl ?_
    refine G_callV0 cl_X10_213 rfl d_X10_soonest_16 (wk_64 _) (Nat.le_of_ble_eq_true rfl) (by decide) (sp_Mchief s hV hQ0.2.1 hQ0.2.2.1) ?_
    rintro _ _ ⟨rfl, rfl⟩
    have hcr := pChief_rng s
    refine G_iconst d_X10_soonest_19 ?_
    refine G_icmp_eq 30 d_X10_soonest_20 (by decide) (by omega) (by omega) (fun c20 => ?_) (fun c20 => ?_)
    · refine G_iconst d_X10_soonest_30 ?_
      refine G_iret (mc := 0) (ms := 0) (st := []) d_X10_soonest_31 rfl ?_
      exact ⟨by unfold vSoonest; rw [if_neg (fun h => h.2.1 c20)], m0, rfl, hQ0⟩
    · refine G_aload_n d_X10_soonest_23 rfl ?_
      refine G_callV0 cl_X10_335 rfl d_X10_soonest_24 (wk_64 _) (Nat.le_of_ble_eq_true rfl) (by decide) (sp_MareAnyGone s hV hQ0.2.1 hQ0.2.2.1) ?_
      rintro _ _ ⟨rfl, rfl⟩
      by_cases hag : anyGone s = true
      · rw [if_pos hag]
        refine G_if_eq 32 d_X10_soonest_27 (by decide) (by decide) (fun hd => absurd hd (by decide)) (fun _ => ?_)
        refine G_iconst d_X10_soonest_30 ?_
        refine G_iret (mc := 0) (ms := 0) (st := []) d_X10_soonest_31 rfl ?_
        exact ⟨by unfold vSoonest; rw [if_neg (fun h => h.2.2 hag)], m0, rfl, hQ0⟩
      · rw [if_neg hag]
        refine G_if_eq 32 d_X10_soonest_27 (by decide) (by decide) (fun _ => ?_) (fun hd => absurd hd (by decide))
        refine G_aload_n d_X10_soonest_32 rfl ?_
        refine G_callV0 cl_X10_236 rfl d_X10_soonest_33 (wk_64 _) (Nat.le_of_ble_eq_true rfl) (by decide) (sp_MlaysPhases s hV hQ0.2.1 hQ0.2.2.1) ?_
        rintro _ _ ⟨rfl, m1, rfl, hm1, hH⟩
        have hQ1 := hQ0.scr1 70 rfl hm1
        refine G_iconst d_X10_soonest_36 ?_
        refine G_istore_n d_X10_soonest_37 (by decide) rfl ?_
        exact L0 0 (by omega) m1 ⟨by omega, c20, hag⟩ hQ1 hH (fun j hj => absurd hj (by omega))
