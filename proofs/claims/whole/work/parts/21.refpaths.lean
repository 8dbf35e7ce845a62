theorem sp_Mchief {w : List KD} {m : Nat → Nat → Int} (s : Nat → Int) (hV : VS s) (hO : MO s m) (hP : MP s m) : Sp M_X10_chief 1 0 0 [rV 64] (WC ++ (WM ++ w), m) (fun r h => r = some (iV (pChief s)) ∧ h = (WC ++ (WM ++ w), m)) := by
  refine Sp.ofG (ls := [rV 64, uV]) (by decide +kernel) rfl (Nat.le_of_ble_eq_true rfl) ?_
  have hC := pC_le hV
  have hN := hV.N
  have L : ∀ p : Nat, p ≤ pC s → (∀ j, j < p → (pMk s j == 1) = false) → G M_X10_chief 1 0 0 2 [rV 64, iV (p : Int)] [] (WC ++ (WM ++ w), m) (fun r h => r = some (iV (pChief s)) ∧ h = (WC ++ (WM ++ w), m)) := by
    refine loop_up (pC s) _ ?_
    intro p hp ih hno
    refine G_iload_n d_X10_chief_2 rfl ?_
    refine G_aload_n d_X10_chief_3 rfl ?_
    refine G_getIe (fl_X10_25.r) d_X10_chief_4 (wk_64 _) rfl (hP.1) ?_
    refine G_icmp_ge 26 d_X10_chief_7 (by decide) (by omega) (by omega) (fun c7 => ?_) (fun c7 => ?_)
    · refine G_iconst d_X10_chief_26 ?_
      refine G_iret (mc := 0) (ms := 0) (st := []) d_X10_chief_27 rfl ?_
      exact ⟨by unfold pChief; rw [firstB_none (fun j hj => hno j (by omega))], rfl⟩
    · refine G_aload_n d_X10_chief_10 rfl ?_
      refine G_iload_n d_X10_chief_11 rfl ?_
      refine G_callV1 cl_X10_104 rfl d_X10_chief_12 (wk_64 _) (Nat.le_of_ble_eq_true rfl) (by decide) (sp_MisWished s hV hO hP p (by omega)) ?_
      rintro _ _ ⟨rfl, rfl⟩
      by_cases hw : pMk s p = 1
      · rw [if_pos hw]
        refine G_if_eq 20 d_X10_chief_15 (by decide) (by decide) (fun hd => absurd hd (by decide)) (fun _ => ?_)
        refine G_iload_n d_X10_chief_18 rfl ?_
        refine G_iret (mc := 0) (ms := 0) (st := []) d_X10_chief_19 rfl ?_
        exact ⟨by unfold pChief; rw [firstB_found p (by omega) hno (by simpa using hw)], rfl⟩
      · rw [if_neg hw]
        refine G_if_eq 20 d_X10_chief_15 (by decide) (by decide) (fun _ => ?_) (fun hd => absurd hd (by decide))
        refine G_iinc d_X10_chief_20 rfl (by decide) rfl ?_
        refine G_goto 2 d_X10_chief_23 (by decide) ?_
        exact ih (by omega) (fun j hj => by
          by_cases e : j = p
          · rw [e]; simpa using hw
          · exact hno j (by omega))
  refine G_iconst d_X10_chief_0 ?_
  refine G_istore_n d_X10_chief_1 (by decide) rfl ?_
  exact L 0 (by omega) (fun j hj => absurd hj (by omega))
def pLp (s : Nat → Int) : Nat → Nat
  | 0 => 1
  | j + 1 => pLp s j * pL s j
theorem pLp_4 (s : Nat → Int) : pLp s 4 = pSc s := by
  show 1 * pL s 0 * pL s 1 * pL s 2 * pL s 3 = _
  rw [Nat.one_mul]
  rfl
theorem sp_Mscans {w : List KD} {m : Nat → Nat → Int} (s : Nat → Int) (hV : VS s) (hO : MO s m) : Sp M_X10_scans 1 0 0 [rV 64] (WC ++ (WM ++ w), m) (fun r h => r = some (iV (pSc s : Int)) ∧ h = (WC ++ (WM ++ w), m)) := by
  refine Sp.ofG (ls := [rV 64, uV, uV]) (by decide +kernel) rfl (Nat.le_of_ble_eq_true rfl) ?_
  have L : ∀ j : Nat, j ≤ 4 → G M_X10_scans 1 0 0 4 [rV 64, iV ((pLp s j : Nat) : Int), iV (j : Int)] [] (WC ++ (WM ++ w), m) (fun r h => r = some (iV (pSc s : Int)) ∧ h = (WC ++ (WM ++ w), m)) := by
    refine loop_up (4) _ ?_
    intro j hj ih
    refine G_iload_n d_X10_scans_4 rfl ?_
    refine G_iconst d_X10_scans_5 ?_
    refine G_icmp_ge 23 d_X10_scans_6 (by decide) (by omega) (by omega) (fun c6 => ?_) (fun c6 => ?_)
    · refine G_iload_n d_X10_scans_23 rfl ?_
      refine G_iret (mc := 0) (ms := 0) (st := []) d_X10_scans_24 rfl ?_
      exact ⟨by rw [show j = 4 by omega, pLp_4], rfl⟩
    · refine G_iload_n d_X10_scans_9 rfl ?_
      refine G_aload_n d_X10_scans_10 rfl ?_
      refine G_iload_n d_X10_scans_11 rfl ?_
      refine G_callV1 cl_X10_136 rfl d_X10_scans_12 (wk_64 _) (Nat.le_of_ble_eq_true rfl) (by decide) (sp_MlengthOf s hV hO j (by omega)) ?_
      rintro _ _ ⟨rfl, rfl⟩
      refine G_imul d_X10_scans_15 ?_
      refine G_istore_n d_X10_scans_16 (by decide) rfl ?_
      refine G_iinc d_X10_scans_17 rfl (by decide) rfl ?_
      refine G_goto 4 d_X10_scans_20 (by decide) ?_
      rw [← Int.natCast_mul]
      exact ih (by omega)
  refine G_iconst d_X10_scans_0 ?_
  refine G_istore_n d_X10_scans_1 (by decide) rfl ?_
  refine G_iconst d_X10_scans_2 ?_
  refine G_istore_n d_X10_scans_3 (by decide) rfl ?_
  exact L 0 (by omega)
theorem sp_MclearsCycle {w : List KD} {m : Nat → Nat → Int}  : Sp M_X10_clearsCycle 0 0 0 [rV 64] (WC ++ (WM ++ w), m) (fun r h => r = none ∧ h = (WC ++ (WM ++ w), upm (flm m 65 49 227 0) 64 2 0)) := by
  refine Sp.ofG (ls := [rV 64, uV]) (by decide +kernel) rfl (Nat.le_of_ble_eq_true rfl) ?_
  have L : ∀ i : Nat, i ≤ 227 → 49 ≤ i → G M_X10_clearsCycle 0 0 0 3 [rV 64, iV (i : Int)] [] (WC ++ (WM ++ w), flm m 65 49 i 0) (fun r h => r = none ∧ h = (WC ++ (WM ++ w), upm (flm m 65 49 227 0) 64 2 0)) := by
    refine loop_up (227) _ ?_
    intro i hi ih h49
    refine G_iload_n d_X10_clearsCycle_3 rfl ?_
    refine G_sipush d_X10_clearsCycle_4 (by decide) ?_
    refine G_icmp_ge 23 d_X10_clearsCycle_7 (by decide) (by omega) (by omega) (fun c7 => ?_) (fun c7 => ?_)
    · refine G_aload_n d_X10_clearsCycle_23 rfl ?_
      refine G_iconst d_X10_clearsCycle_24 ?_
      refine G_putZ fl_X10_32 d_X10_clearsCycle_25 (wk_64 _) rfl (by omega) ?_
      refine G_vret (mc := 0) (ms := 0) (st := []) d_X10_clearsCycle_28 rfl ?_
      exact ⟨rfl, by rw [show i = 227 by omega]⟩
    · refine G_aload_n d_X10_clearsCycle_10 rfl ?_
      refine G_getR (r := 65) (fl_X10_7.r) d_X10_clearsCycle_11 (wk_64 _) rfl rfl ?_
      refine G_iload_n d_X10_clearsCycle_14 rfl ?_
      refine G_iconst d_X10_clearsCycle_15 ?_
      refine G_iastj (i) d_X10_clearsCycle_16 (wk_65 _) (by omega) (by omega) (by decide) ?_
      refine G_iinc d_X10_clearsCycle_17 rfl (by decide) rfl ?_
      refine G_goto 3 d_X10_clearsCycle_20 (by decide) ?_
      rw [flm_step m 65 49 i 0 (by omega)]
      exact ih (by omega) (by omega)
  refine G_bipush d_X10_clearsCycle_0 (by decide) ?_
  refine G_istore_n d_X10_clearsCycle_2 (by decide) rfl ?_
  have h0 := L 49 (by omega) (by omega)
  rw [flm_nil] at h0
  exact h0
def splR (m : Nat → Nat → Int) (cnt n M c q : Nat) : Nat → Nat → Int := fun a j => if a = 66 ∧ 5 * cnt + q ≤ j ∧ j < 5 * cnt + n then dg n M c (j - 5 * cnt) else m a j
theorem splR_off (m : Nat → Nat → Int) {cnt n M c q a : Nat} (h : a ≠ 66) : splR m cnt n M c q a = m a := by
  funext j
  unfold splR
  rw [if_neg (by omega)]
theorem splR_first (m : Nat → Nat → Int) (cnt n M c : Nat) (hn : 1 ≤ n) : upm m 66 (5 * cnt + n - 1) (-1) = splR m cnt n M c (n - 1) := by
  funext a j
  unfold upm splR
  by_cases h : a = 66 ∧ j = 5 * cnt + n - 1
  · rw [if_pos h, if_pos (by omega)]
    unfold dg
    rw [if_pos (by omega)]
  · rw [if_neg h, if_neg (by omega)]
theorem splR_step (m : Nat → Nat → Int) (cnt n M c q : Nat) (hq : q + 2 ≤ n) : upm (splR m cnt n M c (q + 1)) 66 (5 * cnt + q) (((c / bs M ^ (n - 2 - q) % bs M : Nat) : Int) - M) = splR m cnt n M c q := by
  funext a j
  unfold upm splR
  by_cases h : a = 66 ∧ j = 5 * cnt + q
  · rw [if_pos h, if_pos (by omega)]
    unfold dg
    rw [if_neg (by omega), show j - 5 * cnt = q by omega]
  · rw [if_neg h]
    by_cases h2 : a = 66 ∧ 5 * cnt + (q + 1) ≤ j ∧ j < 5 * cnt + n
    · rw [if_pos h2, if_pos (by omega)]
    · rw [if_neg h2, if_neg (by omega)]
def RLI (n M : Nat) (K : Nat → Int) (C : Nat) (m0 m : Nat → Nat → Int) : Prop := (∀ a, a ≠ 64 → a ≠ 66 → m a = m0 a) ∧ (∀ j, j ≠ 3 → m 64 j = m0 64 j) ∧ m 64 3 = ((kl n M K C).length : Int) ∧ ∀ p, p < (kl n M K C).length → ∀ k, k < n → m 66 (5 * p + k) = dg n M ((kl n M K C).getD p 0) k
theorem RLI_no {n M : Nat} {K : Nat → Int} {C : Nat} {m0 m : Nat → Nat → Int} (hn : 1 ≤ n ∧ n ≤ 5) (h : RLI n M K C m0 m) (hk : ¬ okc n M K C = true) (cnt : Nat) (hc : cnt = (kl n M K C).length) : RLI n M K (C + 1) m0 (splR m cnt n M C 0) := by
  obtain ⟨h1, h2, h3, h4⟩ := h
  have e : kl n M K (C + 1) = kl n M K C := by rw [kl_succ, if_neg hk, List.append_nil]
  refine ⟨fun a a1 a2 => by rw [splR_off _ a2]; exact h1 a a1 a2, fun j hj => by rw [splR_off _ (by decide)]; exact h2 j hj, by rw [splR_off _ (by decide), e]; exact h3, fun p hp k hk2 => ?_⟩
  rw [e] at hp ⊢
  unfold splR
  rw [if_neg (by omega)]
  exact h4 p hp k hk2
theorem RLI_yes {n M : Nat} {K : Nat → Int} {C : Nat} {m0 m : Nat → Nat → Int} (hn : 1 ≤ n ∧ n ≤ 5) (h : RLI n M K C m0 m) (hk : okc n M K C = true) (cnt : Nat) (hc : cnt = (kl n M K C).length) : RLI n M K (C + 1) m0 (upm (splR m cnt n M C 0) 64 3 ((cnt : Int) + 1)) := by
  obtain ⟨h1, h2, h3, h4⟩ := h
  have e : kl n M K (C + 1) = kl n M K C ++ [C] := by rw [kl_succ, if_pos hk]
  have el : (kl n M K (C + 1)).length = cnt + 1 := by rw [e, List.length_append, hc]; rfl
  refine ⟨fun a a1 a2 => by rw [upm_off _ _ a1, splR_off _ a2]; exact h1 a a1 a2, fun j hj => by rw [upm_ne _ _ (fun _ => hj), splR_off _ (by decide)]; exact h2 j hj, by rw [upm_same, el]; omega, fun p hp k hk2 => ?_⟩
  rw [el] at hp
  rw [upm_off _ _ (by decide)]
  unfold splR
  by_cases e2 : p = cnt
  · subst e2
    rw [if_pos (by omega), show 5 * p + k - 5 * p = k by omega]
    congr 1
    rw [e, List.getD_eq_getElem?_getD, List.getElem?_append_right (by omega), ← hc, Nat.sub_self]
    rfl
  · rw [if_neg (by omega), h4 p (by omega) k hk2]
    congr 1
    rw [e, List.getD_eq_getElem?_getD, List.getD_eq_getElem?_getD, List.getElem?_append_left (by omega)]
/-- what laysPaths leaves -/
def RLP (s : Nat → Int) (m m2 : Nat → Nat → Int) : Prop := (∀ a, a ≠ 64 → a ≠ 66 → m2 a = m a) ∧ (∀ j, j ≠ 2 → j ≠ 3 → m2 64 j = m 64 j) ∧ m2 64 2 = 0 ∧ MP s m2
theorem sp_MlaysPaths {w : List KD} {m : Nat → Nat → Int} (s : Nat → Int) (hV : VS s) (hO : MO s m) : Sp M_X10_laysPaths 2 0 0 [rV 64] (WC ++ (WM ++ w), m) (fun r h => r = none ∧ ∃ m2, h = (WC ++ (WM ++ w), m2) ∧ RLP s m m2) := by
  refine Sp.ofG (ls := [rV 64, uV, uV, uV, uV, uV, uV, uV]) (by decide +kernel) rfl (Nat.le_of_ble_eq_true rfl) ?_
  have hM := hV.M
  have hN := hV.N
  have hnC := nC_le (n := pN s) (M := pM s) ⟨hN.1, hN.2.1⟩ ⟨hM.1, hM.2.1⟩
  have hpw := fun k hk => pw_le (pM s) ⟨hM.1, hM.2.1⟩ k hk
  have hbs : 2 * (pM s : Int) + 1 = ((bs (pM s) : Nat) : Int) := by unfold bs; omega
  have hb7 : bs (pM s) ≤ 7 ∧ 1 ≤ bs (pM s) := by unfold bs; omega
  have hdl : ∀ C e, C / bs (pM s) ^ e ≤ C := fun C e => Nat.div_le_self _ _
  have L2 : ∀ C : Nat, C ≤ nC (pN s) (pM s) → ∀ m1, RLI (pN s) (pM s) (pK s) C m m1 → G M_X10_laysPaths 2 0 0 38 [rV 64, iV (2 * (pM s : Int) + 1), iV ((nC (pN s) (pM s) : Nat) : Int), iV (C : Int), uV, uV, uV, uV] [] (WC ++ (WM ++ w), m1) (fun r h => r = none ∧ ∃ m2, h = (WC ++ (WM ++ w), m2) ∧ RLP s m m2) := by
    refine loop_up (nC (pN s) (pM s)) _ ?_
    intro C hC ih0 m1 hI
    have ih : C < nC (pN s) (pM s) → ∀ m1, RLI (pN s) (pM s) (pK s) (C + 1) m m1 → G M_X10_laysPaths 2 0 0 38 [rV 64, iV (2 * (pM s : Int) + 1), iV ((nC (pN s) (pM s) : Nat) : Int), iV ((C : Int) + 1), uV, uV, uV, uV] [] (WC ++ (WM ++ w), m1) (fun r h => r = none ∧ ∃ m2, h = (WC ++ (WM ++ w), m2) ∧ RLP s m m2) := fun h => ih0 h
    have hO1 : MO s m1 := fun j hj => by rw [hI.1 65 (by decide) (by decide)]; exact hO j hj
    have hc := hI.2.2.1
    have hle := kl_len_le (pN s) (pM s) (pK s) C
    generalize hcnt : (kl (pN s) (pM s) (pK s) C).length = cnt at hc hle
    have hO3 : MO s (splR m1 cnt (pN s) (pM s) C 0) := fun j hj => by rw [splR_off _ (by decide)]; exact hO1 j hj
    have hc3 : splR m1 cnt (pN s) (pM s) C 0 64 3 = (cnt : Int) := by rw [splR_off _ (by decide)]; exact hc
    have hor : ∀ k, k < pN s → splR m1 cnt (pN s) (pM s) C 0 66 (5 * cnt + k) = dg (pN s) (pM s) C k := fun k hk => by
      unfold splR
      rw [if_pos (by omega), show 5 * cnt + k - 5 * cnt = k by omega]
    have sp_prev : C < nC (pN s) (pM s) → ∀ k, k < pN s → Sp M_X10_orderOf 0 0 0 [rV 64, iV (cnt : Int), iV ((k : Int) - 1)] (WC ++ (WM ++ w), splR m1 cnt (pN s) (pM s) C 0) (fun r h => r = some (iV (prevO (pN s) (pM s) C k)) ∧ h = (WC ++ (WM ++ w), splR m1 cnt (pN s) (pM s) C 0)) := by
      intro hCl k hk
      by_cases h0 : k = 0
      · subst h0
        exact sp_Mordm cnt _ (by omega)
      · rw [show (k : Int) - 1 = ((k - 1 : Nat) : Int) by omega]
        refine (sp_Mord0 cnt (k - 1) (by omega) (by omega)).post (fun r h hq => ?_)
        rw [hor (k - 1) (by omega)] at hq
        unfold prevO
        rw [if_neg h0]
        exact hq
    have L4a : C < nC (pN s) (pM s) → ∀ k : Nat, k ≤ pN s → G M_X10_laysPaths 2 0 0 119 [rV 64, iV (2 * (pM s : Int) + 1), iV ((nC (pN s) (pM s) : Nat) : Int), iV (C : Int), uV, uV, iV (if allN (fun k => okk (pK s k) (prevO (pN s) (pM s) C k) (dg (pN s) (pM s) C k)) k = true then 1 else 0), iV (k : Int)] [] (WC ++ (WM ++ w), splR m1 cnt (pN s) (pM s) C 0) (fun r h => r = none ∧ ∃ m2, h = (WC ++ (WM ++ w), m2) ∧ RLP s m m2) := by
      intro hCl
      refine loop_up (pN s) _ ?_
      intro k hk ih4
      have hdr : ∀ k, -3 ≤ dg (pN s) (pM s) C k ∧ dg (pN s) (pM s) C k ≤ 3 := fun k => by have := dg_rng (pN s) (pM s) C k hM.1; omega
      by_cases hal : allN (fun k => okk (pK s k) (prevO (pN s) (pM s) C k) (dg (pN s) (pM s) C k)) k = true
      · rw [if_pos hal]
        refine G_iload d_X10_laysPaths_119 rfl ?_
        refine G_aload_n d_X10_laysPaths_121 rfl ?_
        refine G_callV0 cl_X10_11 rfl d_X10_laysPaths_122 (wk_64 _) (Nat.le_of_ble_eq_true rfl) (by decide) (sp_Mn s hV hO3) ?_
        rintro _ _ ⟨rfl, rfl⟩
        refine G_icmp_ge 177 d_X10_laysPaths_125 (by decide) (by omega) (by omega) (fun c125 => ?_) (fun c125 => ?_)
        · have hke : k = pN s := by omega
          subst hke
          refine G_iload d_X10_laysPaths_177 rfl ?_
          refine G_if_eq 192 d_X10_laysPaths_179 (by decide) (by decide) (fun hd => absurd hd (by decide)) (fun _ => ?_)
          refine G_aload_n d_X10_laysPaths_182 rfl ?_
          refine G_aload_n d_X10_laysPaths_183 rfl ?_
          refine G_getIe (fl_X10_25.r) d_X10_laysPaths_184 (wk_64 _) rfl (hc3) ?_
          refine G_iconst d_X10_laysPaths_187 ?_
          refine G_iadd d_X10_laysPaths_188 ?_
          refine G_putII fl_X10_25 d_X10_laysPaths_189 (wk_64 _) rfl ?_
          refine G_iinc d_X10_laysPaths_192 rfl (by decide) rfl ?_
          refine G_goto 38 d_X10_laysPaths_195 (by decide) ?_
          refine G.fg (ih hCl _ (RLI_yes ⟨hN.1, hN.2.1⟩ hI hal cnt hcnt.symm)) ?_
          repeat (first | exact trivial | refine wkL_cons (Or.inl rfl) ?_ | refine wkL_cons (Or.inr rfl) ?_)
        · refine G_iload d_X10_laysPaths_128 rfl ?_
          refine G_if_eq 168 d_X10_laysPaths_130 (by decide) (by decide) (fun hd => absurd hd (by decide)) (fun _ => ?_)
          refine G_aload_n d_X10_laysPaths_133 rfl ?_
          refine G_iload d_X10_laysPaths_134 rfl ?_
          refine G_aload_n d_X10_laysPaths_136 rfl ?_
          refine G_aload_n d_X10_laysPaths_137 rfl ?_
          refine G_getIe (fl_X10_25.r) d_X10_laysPaths_138 (wk_64 _) rfl (hc3) ?_
          refine G_iload d_X10_laysPaths_141 rfl ?_
          refine G_iconst d_X10_laysPaths_143 ?_
          refine G_isub d_X10_laysPaths_144 ?_
          refine G_callV2 cl_X10_18 rfl d_X10_laysPaths_145 (wk_64 _) (Nat.le_of_ble_eq_true rfl) (by decide) (sp_prev hCl k (by omega)) ?_
          rintro _ _ ⟨rfl, rfl⟩
          refine G_aload_n d_X10_laysPaths_148 rfl ?_
          refine G_aload_n d_X10_laysPaths_149 rfl ?_
          refine G_getIe (fl_X10_25.r) d_X10_laysPaths_150 (wk_64 _) rfl (hc3) ?_
          refine G_iload d_X10_laysPaths_153 rfl ?_
          refine G_callV2 cl_X10_18 rfl d_X10_laysPaths_155 (wk_64 _) (Nat.le_of_ble_eq_true rfl) (by decide) (sp_Mord0 cnt k (by omega) (by omega)) ?_
          rintro _ _ ⟨rfl, rfl⟩
          rw [hor k (by omega)]
          refine G_callV3 cl_X10_28 rfl d_X10_laysPaths_158 (wk_64 _) (Nat.le_of_ble_eq_true rfl) (by decide) (sp_MmayFollow s hV hO3 k (by omega) (prevO (pN s) (pM s) C k) (dg (pN s) (pM s) C k) (by have := prevO_rng (pN s) (pM s) C k hM.1; omega) (by have := hdr k; omega)) ?_
          rintro _ _ ⟨rfl, rfl⟩
          by_cases hok : okk (pK s k) (prevO (pN s) (pM s) C k) (dg (pN s) (pM s) C k) = true
          · rw [if_pos hok]
            refine G_if_eq 168 d_X10_laysPaths_161 (by decide) (by decide) (fun hd => absurd hd (by decide)) (fun _ => ?_)
            refine G_iconst d_X10_laysPaths_164 ?_
            refine G_goto 169 d_X10_laysPaths_165 (by decide) ?_
            refine G_istore d_X10_laysPaths_169 (by decide) rfl ?_
            refine G_iinc d_X10_laysPaths_171 rfl (by decide) rfl ?_
            refine G_goto 119 d_X10_laysPaths_174 (by decide) ?_
            have e4 := ih4 (by omega)
            rw [if_pos (by show (allN _ k && _) = true; rw [Bool.and_eq_true]; exact ⟨hal, hok⟩)] at e4
            exact e4
          · rw [if_neg hok]
            refine G_if_eq 168 d_X10_laysPaths_161 (by decide) (by decide) (fun _ => ?_) (fun hd => absurd hd (by decide))
            refine G_iconst d_X10_laysPaths_168 ?_
            refine G_istore d_X10_laysPaths_169 (by decide) rfl ?_
            refine G_iinc d_X10_laysPaths_171 rfl (by decide) rfl ?_
            refine G_goto 119 d_X10_laysPaths_174 (by decide) ?_
            have e4 := ih4 (by omega)
            rw [if_neg (by show ¬ (allN _ k && _) = true; rw [Bool.and_eq_true]; exact fun h => hok h.2)] at e4
            exact e4
      · rw [if_neg hal]
        refine G_iload d_X10_laysPaths_119 rfl ?_
        refine G_aload_n d_X10_laysPaths_121 rfl ?_
        refine G_callV0 cl_X10_11 rfl d_X10_laysPaths_122 (wk_64 _) (Nat.le_of_ble_eq_true rfl) (by decide) (sp_Mn s hV hO3) ?_
        rintro _ _ ⟨rfl, rfl⟩
        refine G_icmp_ge 177 d_X10_laysPaths_125 (by decide) (by omega) (by omega) (fun c125 => ?_) (fun c125 => ?_)
        · have hke : k = pN s := by omega
          subst hke
          refine G_iload d_X10_laysPaths_177 rfl ?_
          refine G_if_eq 192 d_X10_laysPaths_179 (by decide) (by decide) (fun _ => ?_) (fun hd => absurd hd (by decide))
          refine G_iinc d_X10_laysPaths_192 rfl (by decide) rfl ?_
          refine G_goto 38 d_X10_laysPaths_195 (by decide) ?_
          refine G.fg (ih hCl _ (RLI_no ⟨hN.1, hN.2.1⟩ hI hal cnt hcnt.symm)) ?_
          repeat (first | exact trivial | refine wkL_cons (Or.inl rfl) ?_ | refine wkL_cons (Or.inr rfl) ?_)
        · refine G_iload d_X10_laysPaths_128 rfl ?_
          refine G_if_eq 168 d_X10_laysPaths_130 (by decide) (by decide) (fun _ => ?_) (fun hd => absurd hd (by decide))
          refine G_iconst d_X10_laysPaths_168 ?_
          refine G_istore d_X10_laysPaths_169 (by decide) rfl ?_
          refine G_iinc d_X10_laysPaths_171 rfl (by decide) rfl ?_
          refine G_goto 119 d_X10_laysPaths_174 (by decide) ?_
          have e4 := ih4 (by omega)
          rw [if_neg (by show ¬ (allN _ k && _) = true; rw [Bool.and_eq_true]; exact fun h => hal h.1)] at e4
          exact e4
    have L4 : C < nC (pN s) (pM s) → G M_X10_laysPaths 2 0 0 113 [rV 64, iV (2 * (pM s : Int) + 1), iV ((nC (pN s) (pM s) : Nat) : Int), iV (C : Int), uV, uV, uV, uV] [] (WC ++ (WM ++ w), splR m1 cnt (pN s) (pM s) C 0) (fun r h => r = none ∧ ∃ m2, h = (WC ++ (WM ++ w), m2) ∧ RLP s m m2) := by
      intro hCl
      refine G_iconst d_X10_laysPaths_113 ?_
      refine G_istore d_X10_laysPaths_114 (by decide) rfl ?_
      refine G_iconst d_X10_laysPaths_116 ?_
      refine G_istore d_X10_laysPaths_117 (by decide) rfl ?_
      exact L4a hCl 0 (by omega)
    have L3 : C < nC (pN s) (pM s) → ∀ q : Nat, q ≤ pN s - 1 → G M_X10_laysPaths 2 0 0 77 [rV 64, iV (2 * (pM s : Int) + 1), iV ((nC (pN s) (pM s) : Nat) : Int), iV (C : Int), iV (5 * (cnt : Int)), iV ((C / bs (pM s) ^ (pN s - 1 - q) : Nat) : Int), iV ((q : Int) - 1), uV] [] (WC ++ (WM ++ w), splR m1 cnt (pN s) (pM s) C q) (fun r h => r = none ∧ ∃ m2, h = (WC ++ (WM ++ w), m2) ∧ RLP s m m2) := by
      intro hCl
      refine loop_down _ ?_
      intro q ih3 hq
      have hd1 := hdl C (pN s - 1 - q)
      have hO2 : MO s (splR m1 cnt (pN s) (pM s) C q) := fun j hj => by rw [splR_off _ (by decide)]; exact hO1 j hj
      refine G_iload d_X10_laysPaths_77 rfl ?_
      refine G_if_lt 113 d_X10_laysPaths_79 (by decide) (by omega) (fun c79 => ?_) (fun c79 => ?_)
      · have hq0 : q = 0 := by omega
        subst hq0
        exact G.fg (L4 hCl) (by
          repeat (first | exact trivial | refine wkL_cons (Or.inl rfl) ?_ | refine wkL_cons (Or.inr rfl) ?_))
      · obtain ⟨q2, rfl⟩ : ∃ q2, q = q2 + 1 := ⟨q - 1, by omega⟩
        refine G_aload_n d_X10_laysPaths_82 rfl ?_
        refine G_getR (r := 66) (fl_X10_15.r) d_X10_laysPaths_83 (wk_64 _) rfl rfl ?_
        refine G_iload d_X10_laysPaths_86 rfl ?_
        refine G_iload d_X10_laysPaths_88 rfl ?_
        refine G_iadd d_X10_laysPaths_90 ?_
        refine G_iload d_X10_laysPaths_91 rfl ?_
        refine G_iload_n d_X10_laysPaths_93 rfl ?_
        refine G_iremN (C / bs (pM s) ^ (pN s - 1 - (q2 + 1))) (bs (pM s)) (rfl) (hbs) d_X10_laysPaths_94 (by omega) (by omega) (by omega) ?_
        refine G_aload_n d_X10_laysPaths_95 rfl ?_
        refine G_callV0 cl_X10_22 rfl d_X10_laysPaths_96 (wk_64 _) (Nat.le_of_ble_eq_true rfl) (by decide) (sp_Mm s hV hO2) ?_
        rintro _ _ ⟨rfl, rfl⟩
        refine G_isub d_X10_laysPaths_99 ?_
        refine G_iastj (5 * cnt + q2) d_X10_laysPaths_100 (wk_66 _) (by omega) (by omega) (by decide) ?_
        rw [show pN s - 1 - (q2 + 1) = pN s - 2 - q2 by omega, splR_step m1 cnt (pN s) (pM s) C q2 (by omega)]
        refine G_iload d_X10_laysPaths_101 rfl ?_
        refine G_iload_n d_X10_laysPaths_103 rfl ?_
        have hd2 := hdl C (pN s - 2 - q2)
        refine G_idivN (C / bs (pM s) ^ (pN s - 2 - q2)) (bs (pM s)) (rfl) (hbs) d_X10_laysPaths_104 (by omega) (by omega) (by omega) ?_
        rw [Nat.div_div_eq_div_mul, ← Nat.pow_succ, show (pN s - 2 - q2).succ = pN s - 1 - q2 by omega]
        refine G_istore d_X10_laysPaths_105 (by decide) rfl ?_
        refine G_iinc d_X10_laysPaths_107 rfl (by decide) rfl ?_
        refine G_goto 77 d_X10_laysPaths_110 (by decide) ?_
        rw [show ((q2 + 1 : Nat) : Int) - 1 + -1 = (q2 : Int) - 1 by omega]
        exact ih3 q2 rfl (by omega)
    refine G_iload_n d_X10_laysPaths_38 rfl ?_
    refine G_iload_n d_X10_laysPaths_39 rfl ?_
    refine G_icmp_ge 198 d_X10_laysPaths_40 (by decide) (by omega) (by omega) (fun c40 => ?_) (fun c40 => ?_)
    · refine G_aload_n d_X10_laysPaths_198 rfl ?_
      refine G_iconst d_X10_laysPaths_199 ?_
      refine G_putZ fl_X10_32 d_X10_laysPaths_200 (wk_64 _) rfl (by omega) ?_
      refine G_vret (mc := 0) (ms := 0) (st := []) d_X10_laysPaths_203 rfl ?_
      have hCe : C = nC (pN s) (pM s) := by omega
      subst hCe
      exact ⟨rfl, _, rfl, fun a h1 h2 => by rw [upm_off _ _ h1]; exact hI.1 a h1 h2, fun j h2 h3 => by rw [upm_ne _ _ (fun _ => h2)]; exact hI.2.1 j h3, upm_same _ _ _ _, by rw [upm_ne _ _ (fun _ => by decide)]; exact hI.2.2.1, fun p hp k hk => by rw [upm_off _ _ (by decide)]; exact hI.2.2.2 p hp k hk⟩
    · refine G_iconst d_X10_laysPaths_43 ?_
      refine G_aload_n d_X10_laysPaths_44 rfl ?_
      refine G_getIe (fl_X10_25.r) d_X10_laysPaths_45 (wk_64 _) rfl (hc) ?_
      refine G_imul d_X10_laysPaths_48 ?_
      refine G_istore d_X10_laysPaths_49 (by decide) rfl ?_
      refine G_iload_n d_X10_laysPaths_51 rfl ?_
      refine G_istore d_X10_laysPaths_52 (by decide) rfl ?_
      refine G_aload_n d_X10_laysPaths_54 rfl ?_
      refine G_getR (r := 66) (fl_X10_15.r) d_X10_laysPaths_55 (wk_64 _) rfl rfl ?_
      refine G_iload d_X10_laysPaths_58 rfl ?_
      refine G_aload_n d_X10_laysPaths_60 rfl ?_
      refine G_callV0 cl_X10_11 rfl d_X10_laysPaths_61 (wk_64 _) (Nat.le_of_ble_eq_true rfl) (by decide) (sp_Mn s hV hO1) ?_
      rintro _ _ ⟨rfl, rfl⟩
      refine G_iadd d_X10_laysPaths_64 ?_
      refine G_iconst d_X10_laysPaths_65 ?_
      refine G_isub d_X10_laysPaths_66 ?_
      refine G_iconst d_X10_laysPaths_67 ?_
      refine G_iastj (5 * cnt + pN s - 1) d_X10_laysPaths_68 (wk_66 _) (by omega) (by omega) (by decide) ?_
      rw [splR_first m1 cnt (pN s) (pM s) C hN.1]
      refine G_aload_n d_X10_laysPaths_69 rfl ?_
      refine G_callV0 cl_X10_11 rfl d_X10_laysPaths_70 (wk_64 _) (Nat.le_of_ble_eq_true rfl) (by decide) (sp_Mn s hV (fun j hj => by rw [splR_off _ (by decide)]; exact hO1 j hj)) ?_
      rintro _ _ ⟨rfl, rfl⟩
      refine G_iconst d_X10_laysPaths_73 ?_
      refine G_isub d_X10_laysPaths_74 ?_
      refine G_istore d_X10_laysPaths_75 (by decide) rfl ?_
      have h0 := L3 (by omega) (pN s - 1) (Nat.le_refl _)
      rw [show pN s - 1 - (pN s - 1) = 0 by omega, Nat.pow_zero, Nat.div_one, show (((pN s - 1 : Nat) : Int) - 1) = (pN s : Int) - 2 by omega] at h0
      exact h0
  have RLI0 : RLI (pN s) (pM s) (pK s) 0 m (upm m 64 3 0) := ⟨fun a a1 _ => upm_off _ _ a1, fun j hj => upm_ne _ _ (fun _ => hj), upm_same _ _ _ _, fun p hp => absurd hp (by simp [kl])⟩
  have L1 : ∀ q : Nat, q ≤ pN s - 1 → G M_X10_laysPaths 2 0 0 13 [rV 64, iV (2 * (pM s : Int) + 1), iV ((bs (pM s) ^ q : Nat) : Int), iV ((q : Int) + 1), uV, uV, uV, uV] [] (WC ++ (WM ++ w), m) (fun r h => r = none ∧ ∃ m2, h = (WC ++ (WM ++ w), m2) ∧ RLP s m m2) := by
    refine loop_up (pN s - 1) _ ?_
    intro q hq ih
    refine G_iload_n d_X10_laysPaths_13 rfl ?_
    refine G_aload_n d_X10_laysPaths_14 rfl ?_
    refine G_callV0 cl_X10_11 rfl d_X10_laysPaths_15 (wk_64 _) (Nat.le_of_ble_eq_true rfl) (by decide) (sp_Mn s hV hO) ?_
    rintro _ _ ⟨rfl, rfl⟩
    refine G_icmp_ge 31 d_X10_laysPaths_18 (by decide) (by omega) (by omega) (fun c18 => ?_) (fun c18 => ?_)
    · refine G_aload_n d_X10_laysPaths_31 rfl ?_
      refine G_iconst d_X10_laysPaths_32 ?_
      refine G_putII fl_X10_25 d_X10_laysPaths_33 (wk_64 _) rfl ?_
      refine G_iconst d_X10_laysPaths_36 ?_
      refine G_istore_n d_X10_laysPaths_37 (by decide) rfl ?_
      have hq1 : q = pN s - 1 := by omega
      subst hq1
      refine G.fg (L2 0 (by omega) _ RLI0) ?_
      repeat (first | exact trivial | refine wkL_cons (Or.inl rfl) ?_ | refine wkL_cons (Or.inr rfl) ?_)
    · refine G_iload_n d_X10_laysPaths_21 rfl ?_
      refine G_iload_n d_X10_laysPaths_22 rfl ?_
      refine G_imul d_X10_laysPaths_23 ?_
      refine G_istore_n d_X10_laysPaths_24 (by decide) rfl ?_
      refine G_iinc d_X10_laysPaths_25 rfl (by decide) rfl ?_
      refine G_goto 13 d_X10_laysPaths_28 (by decide) ?_
      rw [hbs, ← Int.natCast_mul, ← Nat.pow_succ, ← hbs]
      exact ih (by omega)
  refine G_iconst d_X10_laysPaths_0 ?_
  refine G_aload_n d_X10_laysPaths_1 rfl ?_
  refine G_callV0 cl_X10_22 rfl d_X10_laysPaths_2 (wk_64 _) (Nat.le_of_ble_eq_true rfl) (by decide) (sp_Mm s hV hO) ?_
  rintro _ _ ⟨rfl, rfl⟩
  refine G_imul d_X10_laysPaths_5 ?_
  refine G_iconst d_X10_laysPaths_6 ?_
  refine G_iadd d_X10_laysPaths_7 ?_
  refine G_istore_n d_X10_laysPaths_8 (by decide) rfl ?_
  refine G_iconst d_X10_laysPaths_9 ?_
  refine G_istore_n d_X10_laysPaths_10 (by decide) rfl ?_
  refine G_iconst d_X10_laysPaths_11 ?_
  refine G_istore_n d_X10_laysPaths_12 (by decide) rfl ?_
  have h0 := L1 0 (by omega)
  rw [Nat.pow_zero] at h0
  exact h0
