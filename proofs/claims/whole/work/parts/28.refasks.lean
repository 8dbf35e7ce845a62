theorem allN_s {f : Nat → Bool} {n : Nat} (h : allN f n = true) (h2 : f n = true) : allN f (n + 1) = true := Bool.and_eq_true_iff.mpr ⟨h, h2⟩
theorem allN_n0 {f : Nat → Bool} {n : Nat} (h : ¬ allN f n = true) : ¬ allN f (n + 1) = true := fun k => h (Bool.and_eq_true_iff.mp k).1
theorem allN_n1 {f : Nat → Bool} {n : Nat} (h : f n = false) : ¬ allN f (n + 1) = true := fun k => by
  have h9 := (Bool.and_eq_true_iff.mp k).2
  rw [h] at h9
  exact absurd h9 (by decide)
theorem sp_Mfind {w : List KD} {m : Nat → Nat → Int} (s : Nat → Int) (hV : VS s) (hI : MI s m) (a : Int) (hra : -2147483648 ≤ a ∧ a < 2147483648) (b : Int) (hrb : -2147483648 ≤ b ∧ b < 2147483648) (c : Int) (hrc : -2147483648 ≤ c ∧ c < 2147483648) (e : Int) (hre : -2147483648 ≤ e ∧ e < 2147483648) : Sp M_X10_find 1 0 0 [rV 64, iV a, iV b, iV c, iV e] (WC ++ (WM ++ w), m) (fun r h => r = some (iV (vFind s a b c e)) ∧ ∃ m2, h = (WC ++ (WM ++ w), m2) ∧ KQ s m m2) := by
  refine Sp.ofG (ls := [rV 64, iV a, iV b, iV c, iV e, uV, uV, uV]) (by decide +kernel) rfl (Nat.le_of_ble_eq_true rfl) ?_
  have hC := pC_le hV
  have hN := hV.N
  have hT := hV.T
  have hSc := hV.Sc
  have L1 : ∀ p : Nat, p ≤ pC s → ∀ m1, KQ s m m1 → (∀ q, q < p → isF s a b c e q = false) → G M_X10_find 1 0 0 8 [rV 64, iV a, iV b, iV c, iV e, iV (p : Int), uV, uV] [] (WC ++ (WM ++ w), m1) (fun r h => r = some (iV (vFind s a b c e)) ∧ ∃ m2, h = (WC ++ (WM ++ w), m2) ∧ KQ s m m2) := by
    refine loop_up (pC s) _ ?_
    intro p hp ih m1 h1 hno
    by_cases hpc : p < pC s
    · skip
      have L2 : ∀ k : Nat, k ≤ pN s - 1 → G M_X10_find 1 0 0 23 [rV 64, iV a, iV b, iV c, iV e, iV (p : Int), iV (if allN (fun k => pO s p k == arg4 a b c e k) k = true then 1 else 0), iV (k : Int)] [] (WC ++ (WM ++ w), m1) (fun r h => r = some (iV (vFind s a b c e)) ∧ ∃ m2, h = (WC ++ (WM ++ w), m2) ∧ KQ s m m2) := by
        refine loop_up (pN s - 1) _ ?_
        intro k hk ih2
        refine G_iload d_X10_find_23 rfl ?_
        refine G_aload_n d_X10_find_25 rfl ?_
        refine G_callV0 cl_X10_11 rfl d_X10_find_26 (wk_64 _) (Nat.le_of_ble_eq_true rfl) (by decide) (sp_Mn s hV h1.2.1) ?_
        rintro _ _ ⟨rfl, rfl⟩
        refine G_iconst d_X10_find_29 ?_
        refine G_isub d_X10_find_30 ?_
        refine G_icmp_ge 94 d_X10_find_31 (by decide) (by omega) (by omega) (fun c31 => ?_) (fun c31 => ?_)
        · have hke : k = pN s - 1 := by omega
          subst hke
          by_cases hi : allN (fun k => pO s p k == arg4 a b c e k) (pN s - 1) = true
          · rw [if_pos hi]
            refine G_iload d_X10_find_94 rfl ?_
            refine G_if_eq 102 d_X10_find_96 (by decide) (by decide) (fun hd => absurd hd (by decide)) (fun _ => ?_)
            refine G_iload d_X10_find_99 rfl ?_
            refine G_iret (mc := 0) (ms := 0) (st := []) d_X10_find_101 rfl ?_
            exact ⟨by unfold vFind; rw [firstB_found p (by omega) hno hi], m1, rfl, h1⟩
          · rw [if_neg hi]
            refine G_iload d_X10_find_94 rfl ?_
            refine G_if_eq 102 d_X10_find_96 (by decide) (by decide) (fun _ => ?_) (fun hd => absurd hd (by decide))
            refine G_iinc d_X10_find_102 rfl (by decide) rfl ?_
            refine G_goto 8 d_X10_find_105 (by decide) ?_
            refine G.fg (ih (by omega) m1 h1 (fun q hq => by
              by_cases e2 : q = p
              · subst e2; unfold isF; simpa using hi
              · exact hno q (by omega))) ?_
            repeat (first | exact trivial | refine wkL_cons (Or.inl rfl) ?_ | refine wkL_cons (Or.inr rfl) ?_)
        · by_cases hi : allN (fun k => pO s p k == arg4 a b c e k) k = true
          · rw [if_pos hi]
            refine G_iload d_X10_find_34 rfl ?_
            refine G_if_eq 85 d_X10_find_36 (by decide) (by decide) (fun hd => absurd hd (by decide)) (fun _ => ?_)
            refine G_aload_n d_X10_find_39 rfl ?_
            refine G_iload d_X10_find_40 rfl ?_
            refine G_iload d_X10_find_42 rfl ?_
            refine G_callV2 cl_X10_18 rfl d_X10_find_44 (wk_64 _) (Nat.le_of_ble_eq_true rfl) (by decide) (sp_Mord s hV h1.2.1 h1.2.2.1 p k (by omega) (by omega)) ?_
            rintro _ _ ⟨rfl, rfl⟩
            have hor := pO_rng hV p k
            refine G_iload d_X10_find_47 rfl ?_
            refine G_if_ne 56 d_X10_find_49 (by decide) (by omega) (fun c49 => ?_) (fun c49 => ?_)
            · refine G_iload d_X10_find_56 rfl ?_
              refine G_iconst d_X10_find_58 ?_
              refine G_icmp_ne 66 d_X10_find_59 (by decide) (by omega) (by omega) (fun c59 => ?_) (fun c59 => ?_)
              · refine G_iload d_X10_find_66 rfl ?_
                refine G_iconst d_X10_find_68 ?_
                refine G_icmp_ne 76 d_X10_find_69 (by decide) (by omega) (by omega) (fun c69 => ?_) (fun c69 => ?_)
                · refine G_iload d_X10_find_76 rfl ?_
                  refine G_icmp_ne 85 d_X10_find_78 (by decide) (by omega) (by omega) (fun c78 => ?_) (fun c78 => ?_)
                  · have hne : (pO s p k == arg4 a b c e k) = false := by
                      simp only [beq_eq_false_iff_ne]
                      unfold arg4
                      repeat (split <;> try omega)
                    refine G_iconst d_X10_find_85 ?_
                    refine G_istore d_X10_find_86 (by decide) rfl ?_
                    refine G_iinc d_X10_find_88 rfl (by decide) rfl ?_
                    refine G_goto 23 d_X10_find_91 (by decide) ?_
                    rw [show (if allN (fun k => pO s p k == arg4 a b c e k) (k + 1) = true then (1 : Int) else 0) = 0 by rw [if_neg (allN_n1 hne)]] at ih2
                    exact ih2 (by omega)
                  · have heq : (pO s p k == arg4 a b c e k) = true := by
                      simp only [beq_iff_eq]
                      unfold arg4
                      repeat (split <;> try omega)
                    refine G_iconst d_X10_find_81 ?_
                    refine G_goto 86 d_X10_find_82 (by decide) ?_
                    refine G_istore d_X10_find_86 (by decide) rfl ?_
                    refine G_iinc d_X10_find_88 rfl (by decide) rfl ?_
                    refine G_goto 23 d_X10_find_91 (by decide) ?_
                    rw [show (if allN (fun k => pO s p k == arg4 a b c e k) (k + 1) = true then (1 : Int) else 0) = 1 by rw [if_pos (allN_s hi heq)]] at ih2
                    exact ih2 (by omega)
                · refine G_iload_n d_X10_find_72 rfl ?_
                  refine G_goto 78 d_X10_find_73 (by decide) ?_
                  refine G_icmp_ne 85 d_X10_find_78 (by decide) (by omega) (by omega) (fun c78 => ?_) (fun c78 => ?_)
                  · have hne : (pO s p k == arg4 a b c e k) = false := by
                      simp only [beq_eq_false_iff_ne]
                      unfold arg4
                      repeat (split <;> try omega)
                    refine G_iconst d_X10_find_85 ?_
                    refine G_istore d_X10_find_86 (by decide) rfl ?_
                    refine G_iinc d_X10_find_88 rfl (by decide) rfl ?_
                    refine G_goto 23 d_X10_find_91 (by decide) ?_
                    rw [show (if allN (fun k => pO s p k == arg4 a b c e k) (k + 1) = true then (1 : Int) else 0) = 0 by rw [if_neg (allN_n1 hne)]] at ih2
                    exact ih2 (by omega)
                  · have heq : (pO s p k == arg4 a b c e k) = true := by
                      simp only [beq_iff_eq]
                      unfold arg4
                      repeat (split <;> try omega)
                    refine G_iconst d_X10_find_81 ?_
                    refine G_goto 86 d_X10_find_82 (by decide) ?_
                    refine G_istore d_X10_find_86 (by decide) rfl ?_
                    refine G_iinc d_X10_find_88 rfl (by decide) rfl ?_
                    refine G_goto 23 d_X10_find_91 (by decide) ?_
                    rw [show (if allN (fun k => pO s p k == arg4 a b c e k) (k + 1) = true then (1 : Int) else 0) = 1 by rw [if_pos (allN_s hi heq)]] at ih2
                    exact ih2 (by omega)
              · refine G_iload_n d_X10_find_62 rfl ?_
                refine G_goto 78 d_X10_find_63 (by decide) ?_
                refine G_icmp_ne 85 d_X10_find_78 (by decide) (by omega) (by omega) (fun c78 => ?_) (fun c78 => ?_)
                · have hne : (pO s p k == arg4 a b c e k) = false := by
                    simp only [beq_eq_false_iff_ne]
                    unfold arg4
                    repeat (split <;> try omega)
                  refine G_iconst d_X10_find_85 ?_
                  refine G_istore d_X10_find_86 (by decide) rfl ?_
                  refine G_iinc d_X10_find_88 rfl (by decide) rfl ?_
                  refine G_goto 23 d_X10_find_91 (by decide) ?_
                  rw [show (if allN (fun k => pO s p k == arg4 a b c e k) (k + 1) = true then (1 : Int) else 0) = 0 by rw [if_neg (allN_n1 hne)]] at ih2
                  exact ih2 (by omega)
                · have heq : (pO s p k == arg4 a b c e k) = true := by
                    simp only [beq_iff_eq]
                    unfold arg4
                    repeat (split <;> try omega)
                  refine G_iconst d_X10_find_81 ?_
                  refine G_goto 86 d_X10_find_82 (by decide) ?_
                  refine G_istore d_X10_find_86 (by decide) rfl ?_
                  refine G_iinc d_X10_find_88 rfl (by decide) rfl ?_
                  refine G_goto 23 d_X10_find_91 (by decide) ?_
                  rw [show (if allN (fun k => pO s p k == arg4 a b c e k) (k + 1) = true then (1 : Int) else 0) = 1 by rw [if_pos (allN_s hi heq)]] at ih2
                  exact ih2 (by omega)
            · refine G_iload_n d_X10_find_52 rfl ?_
              refine G_goto 78 d_X10_find_53 (by decide) ?_
              refine G_icmp_ne 85 d_X10_find_78 (by decide) (by omega) (by omega) (fun c78 => ?_) (fun c78 => ?_)
              · have hne : (pO s p k == arg4 a b c e k) = false := by
                  simp only [beq_eq_false_iff_ne]
                  unfold arg4
                  repeat (split <;> try omega)
                refine G_iconst d_X10_find_85 ?_
                refine G_istore d_X10_find_86 (by decide) rfl ?_
                refine G_iinc d_X10_find_88 rfl (by decide) rfl ?_
                refine G_goto 23 d_X10_find_91 (by decide) ?_
                rw [show (if allN (fun k => pO s p k == arg4 a b c e k) (k + 1) = true then (1 : Int) else 0) = 0 by rw [if_neg (allN_n1 hne)]] at ih2
                exact ih2 (by omega)
              · have heq : (pO s p k == arg4 a b c e k) = true := by
                  simp only [beq_iff_eq]
                  unfold arg4
                  repeat (split <;> try omega)
                refine G_iconst d_X10_find_81 ?_
                refine G_goto 86 d_X10_find_82 (by decide) ?_
                refine G_istore d_X10_find_86 (by decide) rfl ?_
                refine G_iinc d_X10_find_88 rfl (by decide) rfl ?_
                refine G_goto 23 d_X10_find_91 (by decide) ?_
                rw [show (if allN (fun k => pO s p k == arg4 a b c e k) (k + 1) = true then (1 : Int) else 0) = 1 by rw [if_pos (allN_s hi heq)]] at ih2
                exact ih2 (by omega)
          · rw [if_neg hi]
            refine G_iload d_X10_find_34 rfl ?_
            refine G_if_eq 85 d_X10_find_36 (by decide) (by decide) (fun _ => ?_) (fun hd => absurd hd (by decide))
            refine G_iconst d_X10_find_85 ?_
            refine G_istore d_X10_find_86 (by decide) rfl ?_
            refine G_iinc d_X10_find_88 rfl (by decide) rfl ?_
            refine G_goto 23 d_X10_find_91 (by decide) ?_
            rw [show (if allN (fun k => pO s p k == arg4 a b c e k) (k + 1) = true then (1 : Int) else 0) = 0 by rw [if_neg (allN_n0 hi)]] at ih2
            exact ih2 (by omega)
      refine G_iload d_X10_find_8 rfl ?_
      refine G_aload_n d_X10_find_10 rfl ?_
      refine G_getIe (fl_X10_25.r) d_X10_find_11 (wk_64 _) rfl (h1.2.2.1.1) ?_
      refine G_icmp_ge 108 d_X10_find_14 (by decide) (by omega) (by omega) (fun c14 => ?_) (fun c14 => ?_)
      · omega
      · refine G_iconst d_X10_find_17 ?_
        refine G_istore d_X10_find_18 (by decide) rfl ?_
        refine G_iconst d_X10_find_20 ?_
        refine G_istore d_X10_find_21 (by decide) rfl ?_
        have h9 := L2 0 (by omega)
        exact h9
    · have hpe : p = pC s := by omega
      refine G_iload d_X10_find_8 rfl ?_
      refine G_aload_n d_X10_find_10 rfl ?_
      refine G_getIe (fl_X10_25.r) d_X10_find_11 (wk_64 _) rfl (h1.2.2.1.1) ?_
      refine G_icmp_ge 108 d_X10_find_14 (by decide) (by omega) (by omega) (fun c14 => ?_) (fun c14 => ?_)
      · refine G_iconst d_X10_find_108 ?_
        refine G_iret (mc := 0) (ms := 0) (st := []) d_X10_find_109 rfl ?_
        exact ⟨by unfold vFind; rw [firstB_none (fun j hj => hno j (by omega))], m1, rfl, h1⟩
      · omega
  refine G_aload_n d_X10_find_0 rfl ?_
  refine G_iconst d_X10_find_1 ?_
  refine G_putII fl_X10_1 d_X10_find_2 (wk_64 _) rfl ?_
  have hQ0 : KQ s m (upm m 64 0 0) := (KQ.refl hI).fld rfl
  generalize upm m 64 0 0 = m0 at hQ0 ⊢
  refine G_iconst d_X10_find_5 ?_
  refine G_istore d_X10_find_6 (by decide) rfl ?_
  exact L1 0 (by omega) m0 hQ0 (fun j hj => absurd hj (by omega))
def anyGone (s : Nat → Int) : Bool := !allN (fun p => !(pMk s p == 1 && pGone s p)) (pC s)
theorem sp_MareAnyGone {w : List KD} {m : Nat → Nat → Int} (s : Nat → Int) (hV : VS s) (hO : MO s m) (hP : MP s m) : Sp M_X10_areAnyGone 4 0 0 [rV 64] (WC ++ (WM ++ w), m) (fun r h => r = some (iV (if anyGone s = true then 1 else 0)) ∧ h = (WC ++ (WM ++ w), m)) := by
  refine Sp.ofG (ls := [rV 64, uV]) (by decide +kernel) rfl (Nat.le_of_ble_eq_true rfl) ?_
  have hC := pC_le hV
  have hN := hV.N
  have hT := hV.T
  have hSc := hV.Sc
  have L : ∀ p : Nat, p ≤ pC s → (∀ q, q < p → (!(pMk s q == 1 && pGone s q)) = true) → G M_X10_areAnyGone 4 0 0 2 [rV 64, iV (p : Int)] [] (WC ++ (WM ++ w), m) (fun r h => r = some (iV (if anyGone s = true then 1 else 0)) ∧ h = (WC ++ (WM ++ w), m)) := by
    refine loop_up (pC s) _ ?_
    intro p hp ih hno
    refine G_iload_n d_X10_areAnyGone_2 rfl ?_
    refine G_aload_n d_X10_areAnyGone_3 rfl ?_
    refine G_getIe (fl_X10_25.r) d_X10_areAnyGone_4 (wk_64 _) rfl (hP.1) ?_
    refine G_icmp_ge 34 d_X10_areAnyGone_7 (by decide) (by omega) (by omega) (fun c7 => ?_) (fun c7 => ?_)
    · refine G_iconst d_X10_areAnyGone_34 ?_
      refine G_zret (mc := 0) (ms := 0) (st := []) d_X10_areAnyGone_35 rfl (by omega) ?_
      refine ⟨?_, rfl⟩
      rw [if_neg]
      unfold anyGone
      rw [allN_true (fun q hq => hno q (by omega))]
      decide
    · refine G_aload_n d_X10_areAnyGone_10 rfl ?_
      refine G_iload_n d_X10_areAnyGone_11 rfl ?_
      refine G_callV1 cl_X10_104 rfl d_X10_areAnyGone_12 (wk_64 _) (Nat.le_of_ble_eq_true rfl) (by decide) (sp_MisWished s hV hO hP p (by omega)) ?_
      rintro _ _ ⟨rfl, rfl⟩
      by_cases hw : pMk s p = 1
      · rw [if_pos hw]
        refine G_if_eq 28 d_X10_areAnyGone_15 (by decide) (by decide) (fun hd => absurd hd (by decide)) (fun _ => ?_)
        refine G_aload_n d_X10_areAnyGone_18 rfl ?_
        refine G_iload_n d_X10_areAnyGone_19 rfl ?_
        refine G_callV1 cl_X10_245 rfl d_X10_areAnyGone_20 (wk_64 _) (Nat.le_of_ble_eq_true rfl) (by decide) (sp_MisGone s hV hO hP p (by omega)) ?_
        rintro _ _ ⟨rfl, rfl⟩
        by_cases hg : pGone s p = true
        · rw [if_pos hg]
          refine G_if_eq 28 d_X10_areAnyGone_23 (by decide) (by decide) (fun hd => absurd hd (by decide)) (fun _ => ?_)
          refine G_iconst d_X10_areAnyGone_26 ?_
          refine G_zret (mc := 0) (ms := 0) (st := []) d_X10_areAnyGone_27 rfl (by omega) ?_
          refine ⟨?_, rfl⟩
          rw [if_pos]
          unfold anyGone
          rw [allN_false p (by omega) (by simp [hw, hg])]
          rfl
        · rw [if_neg hg]
          refine G_if_eq 28 d_X10_areAnyGone_23 (by decide) (by decide) (fun _ => ?_) (fun hd => absurd hd (by decide))
          refine G_iinc d_X10_areAnyGone_28 rfl (by decide) rfl ?_
          refine G_goto 2 d_X10_areAnyGone_31 (by decide) ?_
          exact ih (by omega) (fun q hq => by
            by_cases e : q = p
            · subst e; simp [hg]
            · exact hno q (by omega))
      · rw [if_neg hw]
        refine G_if_eq 28 d_X10_areAnyGone_15 (by decide) (by decide) (fun _ => ?_) (fun hd => absurd hd (by decide))
        refine G_iinc d_X10_areAnyGone_28 rfl (by decide) rfl ?_
        refine G_goto 2 d_X10_areAnyGone_31 (by decide) ?_
        exact ih (by omega) (fun q hq => by
          by_cases e : q = p
          · subst e; simp [hw]
          · exact hno q (by omega))
  refine G_iconst d_X10_areAnyGone_0 ?_
  refine G_istore_n d_X10_areAnyGone_1 (by decide) rfl ?_
  exact L 0 (by omega) (fun j hj => absurd hj (by omega))
def pw (T : Nat) (c : Nat → Int) : Int := if T = 2 then (c 0 - c 1) * (c 0 - c 1) else if T = 4 then (c 0 - c 2) * (c 0 - c 2) + (c 1 - c 3) * (c 1 - c 3) else if T = 3 then (c 0 - c 2) * (c 0 - c 2) - (c 0 - c 2) * (c 1 - c 2) + (c 1 - c 2) * (c 1 - c 2) else (c 0 - c 3 - (c 2 - c 5)) * (c 0 - c 3 - (c 2 - c 5)) + (c 0 - c 3 - (c 2 - c 5)) * (c 1 - c 4 + (c 2 - c 5)) + (c 1 - c 4 + (c 2 - c 5)) * (c 1 - c 4 + (c 2 - c 5))
def vPower (s : Nat → Int) (p : Int) : Int := if isPth s p ∧ (pT s = 2 ∨ pT s = 3 ∨ pT s = 4 ∨ pT s = 6) then pw (pT s) (pCnt s p.toNat (pSc s)) else -1
theorem sp_Mpower {w : List KD} {m : Nat → Nat → Int} (s : Nat → Int) (hV : VS s) (hI : MI s m) (a : Int) (hra : -2147483648 ≤ a ∧ a < 2147483648) : Sp M_X10_power 4 0 0 [rV 64, iV a] (WC ++ (WM ++ w), m) (fun r h => r = some (lV (vPower s a)) ∧ ∃ m2, h = (WC ++ (WM ++ w), m2) ∧ KQ s m m2) := by
  refine Sp.ofG (ls := [rV 64, iV a, uV, uV, uV, uV, uV, uV, uV]) (by decide +kernel) rfl (Nat.le_of_ble_eq_true rfl) ?_
  have hC := pC_le hV
  have hN := hV.N
  have hT := hV.T
  have hSc := hV.Sc
  refine G_aload_n d_X10_power_0 rfl ?_
  refine G_iconst d_X10_power_1 ?_
  refine G_putII fl_X10_1 d_X10_power_2 (wk_64 _) rfl ?_
  have hQ0 : KQ s m (upm m 64 0 0) := (KQ.refl hI).fld rfl
  generalize upm m 64 0 0 = m0 at hQ0 ⊢
  refine G_aload_n d_X10_power_5 rfl ?_
  refine G_callV0 cl_X10_148 rfl d_X10_power_6 (wk_64 _) (Nat.le_of_ble_eq_true rfl) (by decide) (sp_Mt s hV hQ0.2.1) ?_
  rintro _ _ ⟨rfl, rfl⟩
  refine G_istore_n d_X10_power_9 (by decide) rfl ?_
  refine G_aload_n d_X10_power_10 rfl ?_
  refine G_iload_n d_X10_power_11 rfl ?_
  refine G_callV1 cl_X10_159 rfl d_X10_power_12 (wk_64 _) (Nat.le_of_ble_eq_true rfl) (by decide) (sp_MisPath s hV hQ0.2.1 hQ0.2.2.1 a hra) ?_
  rintro _ _ ⟨rfl, rfl⟩
  by_cases hp : 0 ≤ a ∧ a < pC s
  · rw [if_pos hp]
    obtain ⟨p, rfl⟩ : ∃ n : Nat, a = (n : Int) := ⟨a.toNat, by omega⟩
    refine G_if_eq 39 d_X10_power_15 (by decide) (by decide) (fun hd => absurd hd (by decide)) (fun _ => ?_)
    refine G_iload_n d_X10_power_18 rfl ?_
    refine G_iconst d_X10_power_19 ?_
    refine G_icmp_eq 43 d_X10_power_20 (by decide) (by omega) (by omega) (fun c20 => ?_) (fun c20 => ?_)
    · refine G_aload_n d_X10_power_43 rfl ?_
      refine G_callV0 cl_X10_236 rfl d_X10_power_44 (wk_64 _) (Nat.le_of_ble_eq_true rfl) (by decide) (sp_MlaysPhases s hV hQ0.2.1 hQ0.2.2.1) ?_
      rintro _ _ ⟨rfl, m1, rfl, hm1, hH⟩
      have hQ1 := hQ0.scr1 70 rfl hm1
      refine G_aload_n d_X10_power_47 rfl ?_
      refine G_iload_n d_X10_power_48 rfl ?_
      refine G_aload_n d_X10_power_49 rfl ?_
      refine G_callV0 cl_X10_142 rfl d_X10_power_50 (wk_64 _) (Nat.le_of_ble_eq_true rfl) (by decide) (sp_Mscans s hV hQ1.2.1) ?_
      rintro _ _ ⟨rfl, rfl⟩
      refine G_callV2 cl_X10_239 rfl d_X10_power_53 (wk_64 _) (Nat.le_of_ble_eq_true rfl) (by decide) (sp_McountsFirst s hV hQ1.2.1 hQ1.2.2.1 (pSc s) p (pSc s) hH (by omega) (by omega) (by omega)) ?_
      rintro _ _ ⟨rfl, m2, rfl, hm2, hc2⟩
      have hQ2 := hQ1.scr1 71 rfl hm2
      refine G_aload_n d_X10_power_56 rfl ?_
      refine G_getR (r := 71) (fl_X10_57.r) d_X10_power_57 (wk_64 _) rfl rfl ?_
      refine G_iconst d_X10_power_60 ?_
      refine G_ialdj (0) d_X10_power_61 (wk_71 _) (by omega) (by omega) (by decide) ?_
      rw [show m2 71 0 = pCnt s p (pSc s) 0 from hc2 0 (by decide)]
      have hb0 := pCnt_rng s p (pSc s) 0
      refine G_i2l d_X10_power_62 (by omega) ?_
      refine G_lstore_n d_X10_power_63 (by decide) rfl ?_
      refine G_aload_n d_X10_power_64 rfl ?_
      refine G_getR (r := 71) (fl_X10_57.r) d_X10_power_65 (wk_64 _) rfl rfl ?_
      refine G_iconst d_X10_power_68 ?_
      refine G_ialdj (1) d_X10_power_69 (wk_71 _) (by omega) (by omega) (by decide) ?_
      rw [show m2 71 1 = pCnt s p (pSc s) 1 from hc2 1 (by decide)]
      have hb1 := pCnt_rng s p (pSc s) 1
      refine G_i2l d_X10_power_70 (by omega) ?_
      refine G_lstore d_X10_power_71 (by decide) rfl ?_
      refine G_iload_n d_X10_power_73 rfl ?_
      refine G_iconst d_X10_power_74 ?_
      refine G_icmp_ne 88 d_X10_power_75 (by decide) (by omega) (by omega) (fun c75 => ?_) (fun c75 => ?_)
      · refine G_iload_n d_X10_power_88 rfl ?_
        refine G_iconst d_X10_power_89 ?_
        refine G_icmp_ne 135 d_X10_power_90 (by decide) (by omega) (by omega) (fun c90 => ?_) (fun c90 => ?_)
        · refine G_iload_n d_X10_power_135 rfl ?_
          refine G_iconst d_X10_power_136 ?_
          refine G_icmp_ne 177 d_X10_power_137 (by decide) (by omega) (by omega) (fun c137 => ?_) (fun c137 => ?_)
          · refine G_aload_n d_X10_power_177 rfl ?_
            refine G_getR (r := 71) (fl_X10_57.r) d_X10_power_178 (wk_64 _) rfl rfl ?_
            refine G_iconst d_X10_power_181 ?_
            refine G_ialdj (2) d_X10_power_182 (wk_71 _) (by omega) (by omega) (by decide) ?_
            rw [show m2 71 2 = pCnt s p (pSc s) 2 from hc2 2 (by decide)]
            have hb2 := pCnt_rng s p (pSc s) 2
            refine G_aload_n d_X10_power_183 rfl ?_
            refine G_getR (r := 71) (fl_X10_57.r) d_X10_power_184 (wk_64 _) rfl rfl ?_
            refine G_iconst d_X10_power_187 ?_
            refine G_ialdj (5) d_X10_power_188 (wk_71 _) (by omega) (by omega) (by decide) ?_
            rw [show m2 71 5 = pCnt s p (pSc s) 5 from hc2 5 (by decide)]
            have hb5 := pCnt_rng s p (pSc s) 5
            refine G_isub d_X10_power_189 ?_
            refine G_i2l d_X10_power_190 (by omega) ?_
            refine G_lstore d_X10_power_191 (by decide) rfl ?_
            refine G_lload_n d_X10_power_193 rfl ?_
            refine G_aload_n d_X10_power_194 rfl ?_
            refine G_getR (r := 71) (fl_X10_57.r) d_X10_power_195 (wk_64 _) rfl rfl ?_
            refine G_iconst d_X10_power_198 ?_
            refine G_ialdj (3) d_X10_power_199 (wk_71 _) (by omega) (by omega) (by decide) ?_
            rw [show m2 71 3 = pCnt s p (pSc s) 3 from hc2 3 (by decide)]
            have hb3 := pCnt_rng s p (pSc s) 3
            refine G_i2l d_X10_power_200 (by omega) ?_
            refine G_lsub d_X10_power_201 ?_
            refine G_lload d_X10_power_202 rfl ?_
            refine G_lsub d_X10_power_204 ?_
            refine G_lstore_n d_X10_power_205 (by decide) rfl ?_
            refine G_lload d_X10_power_206 rfl ?_
            refine G_aload_n d_X10_power_208 rfl ?_
            refine G_getR (r := 71) (fl_X10_57.r) d_X10_power_209 (wk_64 _) rfl rfl ?_
            refine G_iconst d_X10_power_212 ?_
            refine G_ialdj (4) d_X10_power_213 (wk_71 _) (by omega) (by omega) (by decide) ?_
            rw [show m2 71 4 = pCnt s p (pSc s) 4 from hc2 4 (by decide)]
            have hb4 := pCnt_rng s p (pSc s) 4
            refine G_i2l d_X10_power_214 (by omega) ?_
            refine G_lsub d_X10_power_215 ?_
            refine G_lload d_X10_power_216 rfl ?_
            refine G_ladd d_X10_power_218 ?_
            refine G_lstore d_X10_power_219 (by decide) rfl ?_
            refine G_lload_n d_X10_power_221 rfl ?_
            refine G_lload_n d_X10_power_222 rfl ?_
            refine G_lmul d_X10_power_223 ?_
            refine G_lload_n d_X10_power_224 rfl ?_
            refine G_lload d_X10_power_225 rfl ?_
            refine G_lmul d_X10_power_227 ?_
            refine G_ladd d_X10_power_228 ?_
            refine G_lload d_X10_power_229 rfl ?_
            refine G_lload d_X10_power_231 rfl ?_
            refine G_lmul d_X10_power_233 ?_
            refine G_ladd d_X10_power_234 ?_
            refine G_lret (mc := 0) (ms := 0) (st := []) d_X10_power_235 rfl ?_
            exact ⟨Eq.symm (by unfold vPower; rw [if_pos ⟨hp, by omega⟩]; unfold pw; rw [if_neg (by omega)]; rw [if_neg (by omega)]; rw [if_neg (by omega)]; (first | done | rfl)), m2, rfl, hQ2⟩
          · refine G_lload_n d_X10_power_140 rfl ?_
            refine G_aload_n d_X10_power_141 rfl ?_
            refine G_getR (r := 71) (fl_X10_57.r) d_X10_power_142 (wk_64 _) rfl rfl ?_
            refine G_iconst d_X10_power_145 ?_
            refine G_ialdj (2) d_X10_power_146 (wk_71 _) (by omega) (by omega) (by decide) ?_
            rw [show m2 71 2 = pCnt s p (pSc s) 2 from hc2 2 (by decide)]
            have hb2 := pCnt_rng s p (pSc s) 2
            refine G_i2l d_X10_power_147 (by omega) ?_
            refine G_lsub d_X10_power_148 ?_
            refine G_lstore_n d_X10_power_149 (by decide) rfl ?_
            refine G_lload d_X10_power_150 rfl ?_
            refine G_aload_n d_X10_power_152 rfl ?_
            refine G_getR (r := 71) (fl_X10_57.r) d_X10_power_153 (wk_64 _) rfl rfl ?_
            refine G_iconst d_X10_power_156 ?_
            refine G_ialdj (2) d_X10_power_157 (wk_71 _) (by omega) (by omega) (by decide) ?_
            rw [show m2 71 2 = pCnt s p (pSc s) 2 from hc2 2 (by decide)]
            have hb2 := pCnt_rng s p (pSc s) 2
            refine G_i2l d_X10_power_158 (by omega) ?_
            refine G_lsub d_X10_power_159 ?_
            refine G_lstore d_X10_power_160 (by decide) rfl ?_
            refine G_lload_n d_X10_power_162 rfl ?_
            refine G_lload_n d_X10_power_163 rfl ?_
            refine G_lmul d_X10_power_164 ?_
            refine G_lload_n d_X10_power_165 rfl ?_
            refine G_lload d_X10_power_166 rfl ?_
            refine G_lmul d_X10_power_168 ?_
            refine G_lsub d_X10_power_169 ?_
            refine G_lload d_X10_power_170 rfl ?_
            refine G_lload d_X10_power_172 rfl ?_
            refine G_lmul d_X10_power_174 ?_
            refine G_ladd d_X10_power_175 ?_
            refine G_lret (mc := 0) (ms := 0) (st := []) d_X10_power_176 rfl ?_
            exact ⟨Eq.symm (by unfold vPower; rw [if_pos ⟨hp, by omega⟩]; unfold pw; rw [if_neg (by omega)]; rw [if_neg (by omega)]; rw [if_pos (by omega)]; (first | done | rfl)), m2, rfl, hQ2⟩
        · refine G_lload_n d_X10_power_93 rfl ?_
          refine G_aload_n d_X10_power_94 rfl ?_
          refine G_getR (r := 71) (fl_X10_57.r) d_X10_power_95 (wk_64 _) rfl rfl ?_
          refine G_iconst d_X10_power_98 ?_
          refine G_ialdj (2) d_X10_power_99 (wk_71 _) (by omega) (by omega) (by decide) ?_
          rw [show m2 71 2 = pCnt s p (pSc s) 2 from hc2 2 (by decide)]
          have hb2 := pCnt_rng s p (pSc s) 2
          refine G_i2l d_X10_power_100 (by omega) ?_
          refine G_lsub d_X10_power_101 ?_
          refine G_lload_n d_X10_power_102 rfl ?_
          refine G_aload_n d_X10_power_103 rfl ?_
          refine G_getR (r := 71) (fl_X10_57.r) d_X10_power_104 (wk_64 _) rfl rfl ?_
          refine G_iconst d_X10_power_107 ?_
          refine G_ialdj (2) d_X10_power_108 (wk_71 _) (by omega) (by omega) (by decide) ?_
          rw [show m2 71 2 = pCnt s p (pSc s) 2 from hc2 2 (by decide)]
          have hb2 := pCnt_rng s p (pSc s) 2
          refine G_i2l d_X10_power_109 (by omega) ?_
          refine G_lsub d_X10_power_110 ?_
          refine G_lmul d_X10_power_111 ?_
          refine G_lload d_X10_power_112 rfl ?_
          refine G_aload_n d_X10_power_114 rfl ?_
          refine G_getR (r := 71) (fl_X10_57.r) d_X10_power_115 (wk_64 _) rfl rfl ?_
          refine G_iconst d_X10_power_118 ?_
          refine G_ialdj (3) d_X10_power_119 (wk_71 _) (by omega) (by omega) (by decide) ?_
          rw [show m2 71 3 = pCnt s p (pSc s) 3 from hc2 3 (by decide)]
          have hb3 := pCnt_rng s p (pSc s) 3
          refine G_i2l d_X10_power_120 (by omega) ?_
          refine G_lsub d_X10_power_121 ?_
          refine G_lload d_X10_power_122 rfl ?_
          refine G_aload_n d_X10_power_124 rfl ?_
          refine G_getR (r := 71) (fl_X10_57.r) d_X10_power_125 (wk_64 _) rfl rfl ?_
          refine G_iconst d_X10_power_128 ?_
          refine G_ialdj (3) d_X10_power_129 (wk_71 _) (by omega) (by omega) (by decide) ?_
          rw [show m2 71 3 = pCnt s p (pSc s) 3 from hc2 3 (by decide)]
          have hb3 := pCnt_rng s p (pSc s) 3
          refine G_i2l d_X10_power_130 (by omega) ?_
          refine G_lsub d_X10_power_131 ?_
          refine G_lmul d_X10_power_132 ?_
          refine G_ladd d_X10_power_133 ?_
          refine G_lret (mc := 0) (ms := 0) (st := []) d_X10_power_134 rfl ?_
          exact ⟨Eq.symm (by unfold vPower; rw [if_pos ⟨hp, by omega⟩]; unfold pw; rw [if_neg (by omega)]; rw [if_pos (by omega)]; (first | done | rfl)), m2, rfl, hQ2⟩
      · refine G_lload_n d_X10_power_78 rfl ?_
        refine G_lload d_X10_power_79 rfl ?_
        refine G_lsub d_X10_power_81 ?_
        refine G_lload_n d_X10_power_82 rfl ?_
        refine G_lload d_X10_power_83 rfl ?_
        refine G_lsub d_X10_power_85 ?_
        refine G_lmul d_X10_power_86 ?_
        refine G_lret (mc := 0) (ms := 0) (st := []) d_X10_power_87 rfl ?_
        exact ⟨Eq.symm (by unfold vPower; rw [if_pos ⟨hp, by omega⟩]; unfold pw; rw [if_pos (by omega)]; (first | done | rfl)), m2, rfl, hQ2⟩
    · refine G_iload_n d_X10_power_23 rfl ?_
      refine G_iconst d_X10_power_24 ?_
      refine G_icmp_eq 43 d_X10_power_25 (by decide) (by omega) (by omega) (fun c25 => ?_) (fun c25 => ?_)
      · refine G_aload_n d_X10_power_43 rfl ?_
        refine G_callV0 cl_X10_236 rfl d_X10_power_44 (wk_64 _) (Nat.le_of_ble_eq_true rfl) (by decide) (sp_MlaysPhases s hV hQ0.2.1 hQ0.2.2.1) ?_
        rintro _ _ ⟨rfl, m1, rfl, hm1, hH⟩
        have hQ1 := hQ0.scr1 70 rfl hm1
        refine G_aload_n d_X10_power_47 rfl ?_
        refine G_iload_n d_X10_power_48 rfl ?_
        refine G_aload_n d_X10_power_49 rfl ?_
        refine G_callV0 cl_X10_142 rfl d_X10_power_50 (wk_64 _) (Nat.le_of_ble_eq_true rfl) (by decide) (sp_Mscans s hV hQ1.2.1) ?_
        rintro _ _ ⟨rfl, rfl⟩
        refine G_callV2 cl_X10_239 rfl d_X10_power_53 (wk_64 _) (Nat.le_of_ble_eq_true rfl) (by decide) (sp_McountsFirst s hV hQ1.2.1 hQ1.2.2.1 (pSc s) p (pSc s) hH (by omega) (by omega) (by omega)) ?_
        rintro _ _ ⟨rfl, m2, rfl, hm2, hc2⟩
        have hQ2 := hQ1.scr1 71 rfl hm2
        refine G_aload_n d_X10_power_56 rfl ?_
        refine G_getR (r := 71) (fl_X10_57.r) d_X10_power_57 (wk_64 _) rfl rfl ?_
        refine G_iconst d_X10_power_60 ?_
        refine G_ialdj (0) d_X10_power_61 (wk_71 _) (by omega) (by omega) (by decide) ?_
        rw [show m2 71 0 = pCnt s p (pSc s) 0 from hc2 0 (by decide)]
        have hb0 := pCnt_rng s p (pSc s) 0
        refine G_i2l d_X10_power_62 (by omega) ?_
        refine G_lstore_n d_X10_power_63 (by decide) rfl ?_
        refine G_aload_n d_X10_power_64 rfl ?_
        refine G_getR (r := 71) (fl_X10_57.r) d_X10_power_65 (wk_64 _) rfl rfl ?_
        refine G_iconst d_X10_power_68 ?_
        refine G_ialdj (1) d_X10_power_69 (wk_71 _) (by omega) (by omega) (by decide) ?_
        rw [show m2 71 1 = pCnt s p (pSc s) 1 from hc2 1 (by decide)]
        have hb1 := pCnt_rng s p (pSc s) 1
        refine G_i2l d_X10_power_70 (by omega) ?_
        refine G_lstore d_X10_power_71 (by decide) rfl ?_
        refine G_iload_n d_X10_power_73 rfl ?_
        refine G_iconst d_X10_power_74 ?_
        refine G_icmp_ne 88 d_X10_power_75 (by decide) (by omega) (by omega) (fun c75 => ?_) (fun c75 => ?_)
        · refine G_iload_n d_X10_power_88 rfl ?_
          refine G_iconst d_X10_power_89 ?_
          refine G_icmp_ne 135 d_X10_power_90 (by decide) (by omega) (by omega) (fun c90 => ?_) (fun c90 => ?_)
          · refine G_iload_n d_X10_power_135 rfl ?_
            refine G_iconst d_X10_power_136 ?_
            refine G_icmp_ne 177 d_X10_power_137 (by decide) (by omega) (by omega) (fun c137 => ?_) (fun c137 => ?_)
            · refine G_aload_n d_X10_power_177 rfl ?_
              refine G_getR (r := 71) (fl_X10_57.r) d_X10_power_178 (wk_64 _) rfl rfl ?_
              refine G_iconst d_X10_power_181 ?_
              refine G_ialdj (2) d_X10_power_182 (wk_71 _) (by omega) (by omega) (by decide) ?_
              rw [show m2 71 2 = pCnt s p (pSc s) 2 from hc2 2 (by decide)]
              have hb2 := pCnt_rng s p (pSc s) 2
              refine G_aload_n d_X10_power_183 rfl ?_
              refine G_getR (r := 71) (fl_X10_57.r) d_X10_power_184 (wk_64 _) rfl rfl ?_
              refine G_iconst d_X10_power_187 ?_
              refine G_ialdj (5) d_X10_power_188 (wk_71 _) (by omega) (by omega) (by decide) ?_
              rw [show m2 71 5 = pCnt s p (pSc s) 5 from hc2 5 (by decide)]
              have hb5 := pCnt_rng s p (pSc s) 5
              refine G_isub d_X10_power_189 ?_
              refine G_i2l d_X10_power_190 (by omega) ?_
              refine G_lstore d_X10_power_191 (by decide) rfl ?_
              refine G_lload_n d_X10_power_193 rfl ?_
              refine G_aload_n d_X10_power_194 rfl ?_
              refine G_getR (r := 71) (fl_X10_57.r) d_X10_power_195 (wk_64 _) rfl rfl ?_
              refine G_iconst d_X10_power_198 ?_
              refine G_ialdj (3) d_X10_power_199 (wk_71 _) (by omega) (by omega) (by decide) ?_
              rw [show m2 71 3 = pCnt s p (pSc s) 3 from hc2 3 (by decide)]
              have hb3 := pCnt_rng s p (pSc s) 3
              refine G_i2l d_X10_power_200 (by omega) ?_
              refine G_lsub d_X10_power_201 ?_
              refine G_lload d_X10_power_202 rfl ?_
              refine G_lsub d_X10_power_204 ?_
              refine G_lstore_n d_X10_power_205 (by decide) rfl ?_
              refine G_lload d_X10_power_206 rfl ?_
              refine G_aload_n d_X10_power_208 rfl ?_
              refine G_getR (r := 71) (fl_X10_57.r) d_X10_power_209 (wk_64 _) rfl rfl ?_
              refine G_iconst d_X10_power_212 ?_
              refine G_ialdj (4) d_X10_power_213 (wk_71 _) (by omega) (by omega) (by decide) ?_
              rw [show m2 71 4 = pCnt s p (pSc s) 4 from hc2 4 (by decide)]
              have hb4 := pCnt_rng s p (pSc s) 4
              refine G_i2l d_X10_power_214 (by omega) ?_
              refine G_lsub d_X10_power_215 ?_
              refine G_lload d_X10_power_216 rfl ?_
              refine G_ladd d_X10_power_218 ?_
              refine G_lstore d_X10_power_219 (by decide) rfl ?_
              refine G_lload_n d_X10_power_221 rfl ?_
              refine G_lload_n d_X10_power_222 rfl ?_
              refine G_lmul d_X10_power_223 ?_
              refine G_lload_n d_X10_power_224 rfl ?_
              refine G_lload d_X10_power_225 rfl ?_
              refine G_lmul d_X10_power_227 ?_
              refine G_ladd d_X10_power_228 ?_
              refine G_lload d_X10_power_229 rfl ?_
              refine G_lload d_X10_power_231 rfl ?_
              refine G_lmul d_X10_power_233 ?_
              refine G_ladd d_X10_power_234 ?_
              refine G_lret (mc := 0) (ms := 0) (st := []) d_X10_power_235 rfl ?_
              exact ⟨Eq.symm (by unfold vPower; rw [if_pos ⟨hp, by omega⟩]; unfold pw; rw [if_neg (by omega)]; rw [if_neg (by omega)]; rw [if_neg (by omega)]; (first | done | rfl)), m2, rfl, hQ2⟩
            · refine G_lload_n d_X10_power_140 rfl ?_
              refine G_aload_n d_X10_power_141 rfl ?_
              refine G_getR (r := 71) (fl_X10_57.r) d_X10_power_142 (wk_64 _) rfl rfl ?_
              refine G_iconst d_X10_power_145 ?_
              refine G_ialdj (2) d_X10_power_146 (wk_71 _) (by omega) (by omega) (by decide) ?_
              rw [show m2 71 2 = pCnt s p (pSc s) 2 from hc2 2 (by decide)]
              have hb2 := pCnt_rng s p (pSc s) 2
              refine G_i2l d_X10_power_147 (by omega) ?_
              refine G_lsub d_X10_power_148 ?_
              refine G_lstore_n d_X10_power_149 (by decide) rfl ?_
              refine G_lload d_X10_power_150 rfl ?_
              refine G_aload_n d_X10_power_152 rfl ?_
              refine G_getR (r := 71) (fl_X10_57.r) d_X10_power_153 (wk_64 _) rfl rfl ?_
              refine G_iconst d_X10_power_156 ?_
              refine G_ialdj (2) d_X10_power_157 (wk_71 _) (by omega) (by omega) (by decide) ?_
              rw [show m2 71 2 = pCnt s p (pSc s) 2 from hc2 2 (by decide)]
              have hb2 := pCnt_rng s p (pSc s) 2
              refine G_i2l d_X10_power_158 (by omega) ?_
              refine G_lsub d_X10_power_159 ?_
              refine G_lstore d_X10_power_160 (by decide) rfl ?_
              refine G_lload_n d_X10_power_162 rfl ?_
              refine G_lload_n d_X10_power_163 rfl ?_
              refine G_lmul d_X10_power_164 ?_
              refine G_lload_n d_X10_power_165 rfl ?_
              refine G_lload d_X10_power_166 rfl ?_
              refine G_lmul d_X10_power_168 ?_
              refine G_lsub d_X10_power_169 ?_
              refine G_lload d_X10_power_170 rfl ?_
              refine G_lload d_X10_power_172 rfl ?_
              refine G_lmul d_X10_power_174 ?_
              refine G_ladd d_X10_power_175 ?_
              refine G_lret (mc := 0) (ms := 0) (st := []) d_X10_power_176 rfl ?_
              exact ⟨Eq.symm (by unfold vPower; rw [if_pos ⟨hp, by omega⟩]; unfold pw; rw [if_neg (by omega)]; rw [if_neg (by omega)]; rw [if_pos (by omega)]; (first | done | rfl)), m2, rfl, hQ2⟩
          · refine G_lload_n d_X10_power_93 rfl ?_
            refine G_aload_n d_X10_power_94 rfl ?_
            refine G_getR (r := 71) (fl_X10_57.r) d_X10_power_95 (wk_64 _) rfl rfl ?_
            refine G_iconst d_X10_power_98 ?_
            refine G_ialdj (2) d_X10_power_99 (wk_71 _) (by omega) (by omega) (by decide) ?_
            rw [show m2 71 2 = pCnt s p (pSc s) 2 from hc2 2 (by decide)]
            have hb2 := pCnt_rng s p (pSc s) 2
            refine G_i2l d_X10_power_100 (by omega) ?_
            refine G_lsub d_X10_power_101 ?_
            refine G_lload_n d_X10_power_102 rfl ?_
            refine G_aload_n d_X10_power_103 rfl ?_
            refine G_getR (r := 71) (fl_X10_57.r) d_X10_power_104 (wk_64 _) rfl rfl ?_
            refine G_iconst d_X10_power_107 ?_
            refine G_ialdj (2) d_X10_power_108 (wk_71 _) (by omega) (by omega) (by decide) ?_
            rw [show m2 71 2 = pCnt s p (pSc s) 2 from hc2 2 (by decide)]
            have hb2 := pCnt_rng s p (pSc s) 2
            refine G_i2l d_X10_power_109 (by omega) ?_
            refine G_lsub d_X10_power_110 ?_
            refine G_lmul d_X10_power_111 ?_
            refine G_lload d_X10_power_112 rfl ?_
            refine G_aload_n d_X10_power_114 rfl ?_
            refine G_getR (r := 71) (fl_X10_57.r) d_X10_power_115 (wk_64 _) rfl rfl ?_
            refine G_iconst d_X10_power_118 ?_
            refine G_ialdj (3) d_X10_power_119 (wk_71 _) (by omega) (by omega) (by decide) ?_
            rw [show m2 71 3 = pCnt s p (pSc s) 3 from hc2 3 (by decide)]
            have hb3 := pCnt_rng s p (pSc s) 3
            refine G_i2l d_X10_power_120 (by omega) ?_
            refine G_lsub d_X10_power_121 ?_
            refine G_lload d_X10_power_122 rfl ?_
            refine G_aload_n d_X10_power_124 rfl ?_
            refine G_getR (r := 71) (fl_X10_57.r) d_X10_power_125 (wk_64 _) rfl rfl ?_
            refine G_iconst d_X10_power_128 ?_
            refine G_ialdj (3) d_X10_power_129 (wk_71 _) (by omega) (by omega) (by decide) ?_
            rw [show m2 71 3 = pCnt s p (pSc s) 3 from hc2 3 (by decide)]
            have hb3 := pCnt_rng s p (pSc s) 3
            refine G_i2l d_X10_power_130 (by omega) ?_
            refine G_lsub d_X10_power_131 ?_
            refine G_lmul d_X10_power_132 ?_
            refine G_ladd d_X10_power_133 ?_
            refine G_lret (mc := 0) (ms := 0) (st := []) d_X10_power_134 rfl ?_
            exact ⟨Eq.symm (by unfold vPower; rw [if_pos ⟨hp, by omega⟩]; unfold pw; rw [if_neg (by omega)]; rw [if_pos (by omega)]; (first | done | rfl)), m2, rfl, hQ2⟩
        · refine G_lload_n d_X10_power_78 rfl ?_
          refine G_lload d_X10_power_79 rfl ?_
          refine G_lsub d_X10_power_81 ?_
          refine G_lload_n d_X10_power_82 rfl ?_
          refine G_lload d_X10_power_83 rfl ?_
          refine G_lsub d_X10_power_85 ?_
          refine G_lmul d_X10_power_86 ?_
          refine G_lret (mc := 0) (ms := 0) (st := []) d_X10_power_87 rfl ?_
          exact ⟨Eq.symm (by unfold vPower; rw [if_pos ⟨hp, by omega⟩]; unfold pw; rw [if_pos (by omega)]; (first | done | rfl)), m2, rfl, hQ2⟩
      · refine G_iload_n d_X10_power_28 rfl ?_
        refine G_iconst d_X10_power_29 ?_
        refine G_icmp_eq 43 d_X10_power_30 (by decide) (by omega) (by omega) (fun c30 => ?_) (fun c30 => ?_)
        · refine G_aload_n d_X10_power_43 rfl ?_
          refine G_callV0 cl_X10_236 rfl d_X10_power_44 (wk_64 _) (Nat.le_of_ble_eq_true rfl) (by decide) (sp_MlaysPhases s hV hQ0.2.1 hQ0.2.2.1) ?_
          rintro _ _ ⟨rfl, m1, rfl, hm1, hH⟩
          have hQ1 := hQ0.scr1 70 rfl hm1
          refine G_aload_n d_X10_power_47 rfl ?_
          refine G_iload_n d_X10_power_48 rfl ?_
          refine G_aload_n d_X10_power_49 rfl ?_
          refine G_callV0 cl_X10_142 rfl d_X10_power_50 (wk_64 _) (Nat.le_of_ble_eq_true rfl) (by decide) (sp_Mscans s hV hQ1.2.1) ?_
          rintro _ _ ⟨rfl, rfl⟩
          refine G_callV2 cl_X10_239 rfl d_X10_power_53 (wk_64 _) (Nat.le_of_ble_eq_true rfl) (by decide) (sp_McountsFirst s hV hQ1.2.1 hQ1.2.2.1 (pSc s) p (pSc s) hH (by omega) (by omega) (by omega)) ?_
          rintro _ _ ⟨rfl, m2, rfl, hm2, hc2⟩
          have hQ2 := hQ1.scr1 71 rfl hm2
          refine G_aload_n d_X10_power_56 rfl ?_
          refine G_getR (r := 71) (fl_X10_57.r) d_X10_power_57 (wk_64 _) rfl rfl ?_
          refine G_iconst d_X10_power_60 ?_
          refine G_ialdj (0) d_X10_power_61 (wk_71 _) (by omega) (by omega) (by decide) ?_
          rw [show m2 71 0 = pCnt s p (pSc s) 0 from hc2 0 (by decide)]
          have hb0 := pCnt_rng s p (pSc s) 0
          refine G_i2l d_X10_power_62 (by omega) ?_
          refine G_lstore_n d_X10_power_63 (by decide) rfl ?_
          refine G_aload_n d_X10_power_64 rfl ?_
          refine G_getR (r := 71) (fl_X10_57.r) d_X10_power_65 (wk_64 _) rfl rfl ?_
          refine G_iconst d_X10_power_68 ?_
          refine G_ialdj (1) d_X10_power_69 (wk_71 _) (by omega) (by omega) (by decide) ?_
          rw [show m2 71 1 = pCnt s p (pSc s) 1 from hc2 1 (by decide)]
          have hb1 := pCnt_rng s p (pSc s) 1
          refine G_i2l d_X10_power_70 (by omega) ?_
          refine G_lstore d_X10_power_71 (by decide) rfl ?_
          refine G_iload_n d_X10_power_73 rfl ?_
          refine G_iconst d_X10_power_74 ?_
          refine G_icmp_ne 88 d_X10_power_75 (by decide) (by omega) (by omega) (fun c75 => ?_) (fun c75 => ?_)
          · refine G_iload_n d_X10_power_88 rfl ?_
            refine G_iconst d_X10_power_89 ?_
            refine G_icmp_ne 135 d_X10_power_90 (by decide) (by omega) (by omega) (fun c90 => ?_) (fun c90 => ?_)
            · refine G_iload_n d_X10_power_135 rfl ?_
              refine G_iconst d_X10_power_136 ?_
              refine G_icmp_ne 177 d_X10_power_137 (by decide) (by omega) (by omega) (fun c137 => ?_) (fun c137 => ?_)
              · refine G_aload_n d_X10_power_177 rfl ?_
                refine G_getR (r := 71) (fl_X10_57.r) d_X10_power_178 (wk_64 _) rfl rfl ?_
                refine G_iconst d_X10_power_181 ?_
                refine G_ialdj (2) d_X10_power_182 (wk_71 _) (by omega) (by omega) (by decide) ?_
                rw [show m2 71 2 = pCnt s p (pSc s) 2 from hc2 2 (by decide)]
                have hb2 := pCnt_rng s p (pSc s) 2
                refine G_aload_n d_X10_power_183 rfl ?_
                refine G_getR (r := 71) (fl_X10_57.r) d_X10_power_184 (wk_64 _) rfl rfl ?_
                refine G_iconst d_X10_power_187 ?_
                refine G_ialdj (5) d_X10_power_188 (wk_71 _) (by omega) (by omega) (by decide) ?_
                rw [show m2 71 5 = pCnt s p (pSc s) 5 from hc2 5 (by decide)]
                have hb5 := pCnt_rng s p (pSc s) 5
                refine G_isub d_X10_power_189 ?_
                refine G_i2l d_X10_power_190 (by omega) ?_
                refine G_lstore d_X10_power_191 (by decide) rfl ?_
                refine G_lload_n d_X10_power_193 rfl ?_
                refine G_aload_n d_X10_power_194 rfl ?_
                refine G_getR (r := 71) (fl_X10_57.r) d_X10_power_195 (wk_64 _) rfl rfl ?_
                refine G_iconst d_X10_power_198 ?_
                refine G_ialdj (3) d_X10_power_199 (wk_71 _) (by omega) (by omega) (by decide) ?_
                rw [show m2 71 3 = pCnt s p (pSc s) 3 from hc2 3 (by decide)]
                have hb3 := pCnt_rng s p (pSc s) 3
                refine G_i2l d_X10_power_200 (by omega) ?_
                refine G_lsub d_X10_power_201 ?_
                refine G_lload d_X10_power_202 rfl ?_
                refine G_lsub d_X10_power_204 ?_
                refine G_lstore_n d_X10_power_205 (by decide) rfl ?_
                refine G_lload d_X10_power_206 rfl ?_
                refine G_aload_n d_X10_power_208 rfl ?_
                refine G_getR (r := 71) (fl_X10_57.r) d_X10_power_209 (wk_64 _) rfl rfl ?_
                refine G_iconst d_X10_power_212 ?_
                refine G_ialdj (4) d_X10_power_213 (wk_71 _) (by omega) (by omega) (by decide) ?_
                rw [show m2 71 4 = pCnt s p (pSc s) 4 from hc2 4 (by decide)]
                have hb4 := pCnt_rng s p (pSc s) 4
                refine G_i2l d_X10_power_214 (by omega) ?_
                refine G_lsub d_X10_power_215 ?_
                refine G_lload d_X10_power_216 rfl ?_
                refine G_ladd d_X10_power_218 ?_
                refine G_lstore d_X10_power_219 (by decide) rfl ?_
                refine G_lload_n d_X10_power_221 rfl ?_
                refine G_lload_n d_X10_power_222 rfl ?_
                refine G_lmul d_X10_power_223 ?_
                refine G_lload_n d_X10_power_224 rfl ?_
                refine G_lload d_X10_power_225 rfl ?_
                refine G_lmul d_X10_power_227 ?_
                refine G_ladd d_X10_power_228 ?_
                refine G_lload d_X10_power_229 rfl ?_
                refine G_lload d_X10_power_231 rfl ?_
                refine G_lmul d_X10_power_233 ?_
                refine G_ladd d_X10_power_234 ?_
                refine G_lret (mc := 0) (ms := 0) (st := []) d_X10_power_235 rfl ?_
                exact ⟨Eq.symm (by unfold vPower; rw [if_pos ⟨hp, by omega⟩]; unfold pw; rw [if_neg (by omega)]; rw [if_neg (by omega)]; rw [if_neg (by omega)]; (first | done | rfl)), m2, rfl, hQ2⟩
              · refine G_lload_n d_X10_power_140 rfl ?_
                refine G_aload_n d_X10_power_141 rfl ?_
                refine G_getR (r := 71) (fl_X10_57.r) d_X10_power_142 (wk_64 _) rfl rfl ?_
                refine G_iconst d_X10_power_145 ?_
                refine G_ialdj (2) d_X10_power_146 (wk_71 _) (by omega) (by omega) (by decide) ?_
                rw [show m2 71 2 = pCnt s p (pSc s) 2 from hc2 2 (by decide)]
                have hb2 := pCnt_rng s p (pSc s) 2
                refine G_i2l d_X10_power_147 (by omega) ?_
                refine G_lsub d_X10_power_148 ?_
                refine G_lstore_n d_X10_power_149 (by decide) rfl ?_
                refine G_lload d_X10_power_150 rfl ?_
                refine G_aload_n d_X10_power_152 rfl ?_
                refine G_getR (r := 71) (fl_X10_57.r) d_X10_power_153 (wk_64 _) rfl rfl ?_
                refine G_iconst d_X10_power_156 ?_
                refine G_ialdj (2) d_X10_power_157 (wk_71 _) (by omega) (by omega) (by decide) ?_
                rw [show m2 71 2 = pCnt s p (pSc s) 2 from hc2 2 (by decide)]
                have hb2 := pCnt_rng s p (pSc s) 2
                refine G_i2l d_X10_power_158 (by omega) ?_
                refine G_lsub d_X10_power_159 ?_
                refine G_lstore d_X10_power_160 (by decide) rfl ?_
                refine G_lload_n d_X10_power_162 rfl ?_
                refine G_lload_n d_X10_power_163 rfl ?_
                refine G_lmul d_X10_power_164 ?_
                refine G_lload_n d_X10_power_165 rfl ?_
                refine G_lload d_X10_power_166 rfl ?_
                refine G_lmul d_X10_power_168 ?_
                refine G_lsub d_X10_power_169 ?_
                refine G_lload d_X10_power_170 rfl ?_
                refine G_lload d_X10_power_172 rfl ?_
                refine G_lmul d_X10_power_174 ?_
                refine G_ladd d_X10_power_175 ?_
                refine G_lret (mc := 0) (ms := 0) (st := []) d_X10_power_176 rfl ?_
                exact ⟨Eq.symm (by unfold vPower; rw [if_pos ⟨hp, by omega⟩]; unfold pw; rw [if_neg (by omega)]; rw [if_neg (by omega)]; rw [if_pos (by omega)]; (first | done | rfl)), m2, rfl, hQ2⟩
            · refine G_lload_n d_X10_power_93 rfl ?_
              refine G_aload_n d_X10_power_94 rfl ?_
              refine G_getR (r := 71) (fl_X10_57.r) d_X10_power_95 (wk_64 _) rfl rfl ?_
              refine G_iconst d_X10_power_98 ?_
              refine G_ialdj (2) d_X10_power_99 (wk_71 _) (by omega) (by omega) (by decide) ?_
              rw [show m2 71 2 = pCnt s p (pSc s) 2 from hc2 2 (by decide)]
              have hb2 := pCnt_rng s p (pSc s) 2
              refine G_i2l d_X10_power_100 (by omega) ?_
              refine G_lsub d_X10_power_101 ?_
              refine G_lload_n d_X10_power_102 rfl ?_
              refine G_aload_n d_X10_power_103 rfl ?_
              refine G_getR (r := 71) (fl_X10_57.r) d_X10_power_104 (wk_64 _) rfl rfl ?_
              refine G_iconst d_X10_power_107 ?_
              refine G_ialdj (2) d_X10_power_108 (wk_71 _) (by omega) (by omega) (by decide) ?_
              rw [show m2 71 2 = pCnt s p (pSc s) 2 from hc2 2 (by decide)]
              have hb2 := pCnt_rng s p (pSc s) 2
              refine G_i2l d_X10_power_109 (by omega) ?_
              refine G_lsub d_X10_power_110 ?_
              refine G_lmul d_X10_power_111 ?_
              refine G_lload d_X10_power_112 rfl ?_
              refine G_aload_n d_X10_power_114 rfl ?_
              refine G_getR (r := 71) (fl_X10_57.r) d_X10_power_115 (wk_64 _) rfl rfl ?_
              refine G_iconst d_X10_power_118 ?_
              refine G_ialdj (3) d_X10_power_119 (wk_71 _) (by omega) (by omega) (by decide) ?_
              rw [show m2 71 3 = pCnt s p (pSc s) 3 from hc2 3 (by decide)]
              have hb3 := pCnt_rng s p (pSc s) 3
              refine G_i2l d_X10_power_120 (by omega) ?_
              refine G_lsub d_X10_power_121 ?_
              refine G_lload d_X10_power_122 rfl ?_
              refine G_aload_n d_X10_power_124 rfl ?_
              refine G_getR (r := 71) (fl_X10_57.r) d_X10_power_125 (wk_64 _) rfl rfl ?_
              refine G_iconst d_X10_power_128 ?_
              refine G_ialdj (3) d_X10_power_129 (wk_71 _) (by omega) (by omega) (by decide) ?_
              rw [show m2 71 3 = pCnt s p (pSc s) 3 from hc2 3 (by decide)]
              have hb3 := pCnt_rng s p (pSc s) 3
              refine G_i2l d_X10_power_130 (by omega) ?_
              refine G_lsub d_X10_power_131 ?_
              refine G_lmul d_X10_power_132 ?_
              refine G_ladd d_X10_power_133 ?_
              refine G_lret (mc := 0) (ms := 0) (st := []) d_X10_power_134 rfl ?_
              exact ⟨Eq.symm (by unfold vPower; rw [if_pos ⟨hp, by omega⟩]; unfold pw; rw [if_neg (by omega)]; rw [if_pos (by omega)]; (first | done | rfl)), m2, rfl, hQ2⟩
          · refine G_lload_n d_X10_power_78 rfl ?_
            refine G_lload d_X10_power_79 rfl ?_
            refine G_lsub d_X10_power_81 ?_
            refine G_lload_n d_X10_power_82 rfl ?_
            refine G_lload d_X10_power_83 rfl ?_
            refine G_lsub d_X10_power_85 ?_
            refine G_lmul d_X10_power_86 ?_
            refine G_lret (mc := 0) (ms := 0) (st := []) d_X10_power_87 rfl ?_
            exact ⟨Eq.symm (by unfold vPower; rw [if_pos ⟨hp, by omega⟩]; unfold pw; rw [if_pos (by omega)]; (first | done | rfl)), m2, rfl, hQ2⟩
        · refine G_iload_n d_X10_power_33 rfl ?_
          refine G_bipush d_X10_power_34 (by decide) ?_
          refine G_icmp_eq 43 d_X10_power_36 (by decide) (by omega) (by omega) (fun c36 => ?_) (fun c36 => ?_)
          · refine G_aload_n d_X10_power_43 rfl ?_
            refine G_callV0 cl_X10_236 rfl d_X10_power_44 (wk_64 _) (Nat.le_of_ble_eq_true rfl) (by decide) (sp_MlaysPhases s hV hQ0.2.1 hQ0.2.2.1) ?_
            rintro _ _ ⟨rfl, m1, rfl, hm1, hH⟩
            have hQ1 := hQ0.scr1 70 rfl hm1
            refine G_aload_n d_X10_power_47 rfl ?_
            refine G_iload_n d_X10_power_48 rfl ?_
            refine G_aload_n d_X10_power_49 rfl ?_
            refine G_callV0 cl_X10_142 rfl d_X10_power_50 (wk_64 _) (Nat.le_of_ble_eq_true rfl) (by decide) (sp_Mscans s hV hQ1.2.1) ?_
            rintro _ _ ⟨rfl, rfl⟩
            refine G_callV2 cl_X10_239 rfl d_X10_power_53 (wk_64 _) (Nat.le_of_ble_eq_true rfl) (by decide) (sp_McountsFirst s hV hQ1.2.1 hQ1.2.2.1 (pSc s) p (pSc s) hH (by omega) (by omega) (by omega)) ?_
            rintro _ _ ⟨rfl, m2, rfl, hm2, hc2⟩
            have hQ2 := hQ1.scr1 71 rfl hm2
            refine G_aload_n d_X10_power_56 rfl ?_
            refine G_getR (r := 71) (fl_X10_57.r) d_X10_power_57 (wk_64 _) rfl rfl ?_
            refine G_iconst d_X10_power_60 ?_
            refine G_ialdj (0) d_X10_power_61 (wk_71 _) (by omega) (by omega) (by decide) ?_
            rw [show m2 71 0 = pCnt s p (pSc s) 0 from hc2 0 (by decide)]
            have hb0 := pCnt_rng s p (pSc s) 0
            refine G_i2l d_X10_power_62 (by omega) ?_
            refine G_lstore_n d_X10_power_63 (by decide) rfl ?_
            refine G_aload_n d_X10_power_64 rfl ?_
            refine G_getR (r := 71) (fl_X10_57.r) d_X10_power_65 (wk_64 _) rfl rfl ?_
            refine G_iconst d_X10_power_68 ?_
            refine G_ialdj (1) d_X10_power_69 (wk_71 _) (by omega) (by omega) (by decide) ?_
            rw [show m2 71 1 = pCnt s p (pSc s) 1 from hc2 1 (by decide)]
            have hb1 := pCnt_rng s p (pSc s) 1
            refine G_i2l d_X10_power_70 (by omega) ?_
            refine G_lstore d_X10_power_71 (by decide) rfl ?_
            refine G_iload_n d_X10_power_73 rfl ?_
            refine G_iconst d_X10_power_74 ?_
            refine G_icmp_ne 88 d_X10_power_75 (by decide) (by omega) (by omega) (fun c75 => ?_) (fun c75 => ?_)
            · refine G_iload_n d_X10_power_88 rfl ?_
              refine G_iconst d_X10_power_89 ?_
              refine G_icmp_ne 135 d_X10_power_90 (by decide) (by omega) (by omega) (fun c90 => ?_) (fun c90 => ?_)
              · refine G_iload_n d_X10_power_135 rfl ?_
                refine G_iconst d_X10_power_136 ?_
                refine G_icmp_ne 177 d_X10_power_137 (by decide) (by omega) (by omega) (fun c137 => ?_) (fun c137 => ?_)
                · refine G_aload_n d_X10_power_177 rfl ?_
                  refine G_getR (r := 71) (fl_X10_57.r) d_X10_power_178 (wk_64 _) rfl rfl ?_
                  refine G_iconst d_X10_power_181 ?_
                  refine G_ialdj (2) d_X10_power_182 (wk_71 _) (by omega) (by omega) (by decide) ?_
                  rw [show m2 71 2 = pCnt s p (pSc s) 2 from hc2 2 (by decide)]
                  have hb2 := pCnt_rng s p (pSc s) 2
                  refine G_aload_n d_X10_power_183 rfl ?_
                  refine G_getR (r := 71) (fl_X10_57.r) d_X10_power_184 (wk_64 _) rfl rfl ?_
                  refine G_iconst d_X10_power_187 ?_
                  refine G_ialdj (5) d_X10_power_188 (wk_71 _) (by omega) (by omega) (by decide) ?_
                  rw [show m2 71 5 = pCnt s p (pSc s) 5 from hc2 5 (by decide)]
                  have hb5 := pCnt_rng s p (pSc s) 5
                  refine G_isub d_X10_power_189 ?_
                  refine G_i2l d_X10_power_190 (by omega) ?_
                  refine G_lstore d_X10_power_191 (by decide) rfl ?_
                  refine G_lload_n d_X10_power_193 rfl ?_
                  refine G_aload_n d_X10_power_194 rfl ?_
                  refine G_getR (r := 71) (fl_X10_57.r) d_X10_power_195 (wk_64 _) rfl rfl ?_
                  refine G_iconst d_X10_power_198 ?_
                  refine G_ialdj (3) d_X10_power_199 (wk_71 _) (by omega) (by omega) (by decide) ?_
                  rw [show m2 71 3 = pCnt s p (pSc s) 3 from hc2 3 (by decide)]
                  have hb3 := pCnt_rng s p (pSc s) 3
                  refine G_i2l d_X10_power_200 (by omega) ?_
                  refine G_lsub d_X10_power_201 ?_
                  refine G_lload d_X10_power_202 rfl ?_
                  refine G_lsub d_X10_power_204 ?_
                  refine G_lstore_n d_X10_power_205 (by decide) rfl ?_
                  refine G_lload d_X10_power_206 rfl ?_
                  refine G_aload_n d_X10_power_208 rfl ?_
                  refine G_getR (r := 71) (fl_X10_57.r) d_X10_power_209 (wk_64 _) rfl rfl ?_
                  refine G_iconst d_X10_power_212 ?_
                  refine G_ialdj (4) d_X10_power_213 (wk_71 _) (by omega) (by omega) (by decide) ?_
                  rw [show m2 71 4 = pCnt s p (pSc s) 4 from hc2 4 (by decide)]
                  have hb4 := pCnt_rng s p (pSc s) 4
                  refine G_i2l d_X10_power_214 (by omega) ?_
                  refine G_lsub d_X10_power_215 ?_
                  refine G_lload d_X10_power_216 rfl ?_
                  refine G_ladd d_X10_power_218 ?_
                  refine G_lstore d_X10_power_219 (by decide) rfl ?_
                  refine G_lload_n d_X10_power_221 rfl ?_
                  refine G_lload_n d_X10_power_222 rfl ?_
                  refine G_lmul d_X10_power_223 ?_
                  refine G_lload_n d_X10_power_224 rfl ?_
                  refine G_lload d_X10_power_225 rfl ?_
                  refine G_lmul d_X10_power_227 ?_
                  refine G_ladd d_X10_power_228 ?_
                  refine G_lload d_X10_power_229 rfl ?_
                  refine G_lload d_X10_power_231 rfl ?_
                  refine G_lmul d_X10_power_233 ?_
                  refine G_ladd d_X10_power_234 ?_
                  refine G_lret (mc := 0) (ms := 0) (st := []) d_X10_power_235 rfl ?_
                  exact ⟨Eq.symm (by unfold vPower; rw [if_pos ⟨hp, by omega⟩]; unfold pw; rw [if_neg (by omega)]; rw [if_neg (by omega)]; rw [if_neg (by omega)]; (first | done | rfl)), m2, rfl, hQ2⟩
                · refine G_lload_n d_X10_power_140 rfl ?_
                  refine G_aload_n d_X10_power_141 rfl ?_
                  refine G_getR (r := 71) (fl_X10_57.r) d_X10_power_142 (wk_64 _) rfl rfl ?_
                  refine G_iconst d_X10_power_145 ?_
                  refine G_ialdj (2) d_X10_power_146 (wk_71 _) (by omega) (by omega) (by decide) ?_
                  rw [show m2 71 2 = pCnt s p (pSc s) 2 from hc2 2 (by decide)]
                  have hb2 := pCnt_rng s p (pSc s) 2
                  refine G_i2l d_X10_power_147 (by omega) ?_
                  refine G_lsub d_X10_power_148 ?_
                  refine G_lstore_n d_X10_power_149 (by decide) rfl ?_
                  refine G_lload d_X10_power_150 rfl ?_
                  refine G_aload_n d_X10_power_152 rfl ?_
                  refine G_getR (r := 71) (fl_X10_57.r) d_X10_power_153 (wk_64 _) rfl rfl ?_
                  refine G_iconst d_X10_power_156 ?_
                  refine G_ialdj (2) d_X10_power_157 (wk_71 _) (by omega) (by omega) (by decide) ?_
                  rw [show m2 71 2 = pCnt s p (pSc s) 2 from hc2 2 (by decide)]
                  have hb2 := pCnt_rng s p (pSc s) 2
                  refine G_i2l d_X10_power_158 (by omega) ?_
                  refine G_lsub d_X10_power_159 ?_
                  refine G_lstore d_X10_power_160 (by decide) rfl ?_
                  refine G_lload_n d_X10_power_162 rfl ?_
                  refine G_lload_n d_X10_power_163 rfl ?_
                  refine G_lmul d_X10_power_164 ?_
                  refine G_lload_n d_X10_power_165 rfl ?_
                  refine G_lload d_X10_power_166 rfl ?_
                  refine G_lmul d_X10_power_168 ?_
                  refine G_lsub d_X10_power_169 ?_
                  refine G_lload d_X10_power_170 rfl ?_
                  refine G_lload d_X10_power_172 rfl ?_
                  refine G_lmul d_X10_power_174 ?_
                  refine G_ladd d_X10_power_175 ?_
                  refine G_lret (mc := 0) (ms := 0) (st := []) d_X10_power_176 rfl ?_
                  exact ⟨Eq.symm (by unfold vPower; rw [if_pos ⟨hp, by omega⟩]; unfold pw; rw [if_neg (by omega)]; rw [if_neg (by omega)]; rw [if_pos (by omega)]; (first | done | rfl)), m2, rfl, hQ2⟩
              · refine G_lload_n d_X10_power_93 rfl ?_
                refine G_aload_n d_X10_power_94 rfl ?_
                refine G_getR (r := 71) (fl_X10_57.r) d_X10_power_95 (wk_64 _) rfl rfl ?_
                refine G_iconst d_X10_power_98 ?_
                refine G_ialdj (2) d_X10_power_99 (wk_71 _) (by omega) (by omega) (by decide) ?_
                rw [show m2 71 2 = pCnt s p (pSc s) 2 from hc2 2 (by decide)]
                have hb2 := pCnt_rng s p (pSc s) 2
                refine G_i2l d_X10_power_100 (by omega) ?_
                refine G_lsub d_X10_power_101 ?_
                refine G_lload_n d_X10_power_102 rfl ?_
                refine G_aload_n d_X10_power_103 rfl ?_
                refine G_getR (r := 71) (fl_X10_57.r) d_X10_power_104 (wk_64 _) rfl rfl ?_
                refine G_iconst d_X10_power_107 ?_
                refine G_ialdj (2) d_X10_power_108 (wk_71 _) (by omega) (by omega) (by decide) ?_
                rw [show m2 71 2 = pCnt s p (pSc s) 2 from hc2 2 (by decide)]
                have hb2 := pCnt_rng s p (pSc s) 2
                refine G_i2l d_X10_power_109 (by omega) ?_
                refine G_lsub d_X10_power_110 ?_
                refine G_lmul d_X10_power_111 ?_
                refine G_lload d_X10_power_112 rfl ?_
                refine G_aload_n d_X10_power_114 rfl ?_
                refine G_getR (r := 71) (fl_X10_57.r) d_X10_power_115 (wk_64 _) rfl rfl ?_
                refine G_iconst d_X10_power_118 ?_
                refine G_ialdj (3) d_X10_power_119 (wk_71 _) (by omega) (by omega) (by decide) ?_
                rw [show m2 71 3 = pCnt s p (pSc s) 3 from hc2 3 (by decide)]
                have hb3 := pCnt_rng s p (pSc s) 3
                refine G_i2l d_X10_power_120 (by omega) ?_
                refine G_lsub d_X10_power_121 ?_
                refine G_lload d_X10_power_122 rfl ?_
                refine G_aload_n d_X10_power_124 rfl ?_
                refine G_getR (r := 71) (fl_X10_57.r) d_X10_power_125 (wk_64 _) rfl rfl ?_
                refine G_iconst d_X10_power_128 ?_
                refine G_ialdj (3) d_X10_power_129 (wk_71 _) (by omega) (by omega) (by decide) ?_
                rw [show m2 71 3 = pCnt s p (pSc s) 3 from hc2 3 (by decide)]
                have hb3 := pCnt_rng s p (pSc s) 3
                refine G_i2l d_X10_power_130 (by omega) ?_
                refine G_lsub d_X10_power_131 ?_
                refine G_lmul d_X10_power_132 ?_
                refine G_ladd d_X10_power_133 ?_
                refine G_lret (mc := 0) (ms := 0) (st := []) d_X10_power_134 rfl ?_
                exact ⟨Eq.symm (by unfold vPower; rw [if_pos ⟨hp, by omega⟩]; unfold pw; rw [if_neg (by omega)]; rw [if_pos (by omega)]; (first | done | rfl)), m2, rfl, hQ2⟩
            · refine G_lload_n d_X10_power_78 rfl ?_
              refine G_lload d_X10_power_79 rfl ?_
              refine G_lsub d_X10_power_81 ?_
              refine G_lload_n d_X10_power_82 rfl ?_
              refine G_lload d_X10_power_83 rfl ?_
              refine G_lsub d_X10_power_85 ?_
              refine G_lmul d_X10_power_86 ?_
              refine G_lret (mc := 0) (ms := 0) (st := []) d_X10_power_87 rfl ?_
              exact ⟨Eq.symm (by unfold vPower; rw [if_pos ⟨hp, by omega⟩]; unfold pw; rw [if_pos (by omega)]; (first | done | rfl)), m2, rfl, hQ2⟩
          · refine G_ldc2 d_X10_power_39 co_X10_219 ?_
            refine G_lret (mc := 0) (ms := 0) (st := []) d_X10_power_42 rfl ?_
            exact ⟨by unfold vPower; rw [if_neg (fun h => by have := h.2; omega)], m0, rfl, hQ0⟩
  · rw [if_neg hp]
    refine G_if_eq 39 d_X10_power_15 (by decide) (by decide) (fun _ => ?_) (fun hd => absurd hd (by decide))
    refine G_ldc2 d_X10_power_39 co_X10_219 ?_
    refine G_lret (mc := 0) (ms := 0) (st := []) d_X10_power_42 rfl ?_
    exact ⟨by unfold vPower; rw [if_neg (fun h => hp h.1)], m0, rfl, hQ0⟩
