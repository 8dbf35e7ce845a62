/-! Sum: its factors are those of shL, in their order -/
def dvO (p : Nat) : Nat → Nat → Nat
  | 0, r => r
  | f + 1, r => if r % p = 0 then dvO p f (r / p) else r
def fcM (T p : Nat) (t : Nat × Int) : Nat × Int := ((t.1 + T / p) % T, -t.2)
def fcS (T p : Nat) (q : List (Nat × Int) × Nat) : List (Nat × Int) × Nat := (if q.2 % p = 0 ∧ 2 * q.1.length ≤ 8 then q.1 ++ q.1.map (fcM T p) else q.1, dvO p 48 q.2)
def fcL (T : Nat) : Nat → List (Nat × Int) × Nat
  | 0 => ([(0, 1)], T)
  | k + 1 => fcS T (k + 2) (fcL T k)
theorem fcL_all : allN (fun T => !decide (2 ≤ T) || (fcL T (T - 1)).1 == shL.getD T []) 49 = true := by decide +kernel
theorem fcL_end {T : Nat} (h1 : 2 ≤ T) (h2 : T ≤ 48) : (fcL T (T - 1)).1 = shL.getD T [] := by
  have h3 := allN_of fcL_all T (by omega)
  simpa [h1] using h3
theorem dvO_le (p : Nat) : ∀ f r : Nat, dvO p f r ≤ r
  | 0, _ => Nat.le_refl _
  | f + 1, r => by
    unfold dvO
    by_cases h : r % p = 0
    · rw [if_pos h]; exact Nat.le_trans (dvO_le p f _) (Nat.div_le_self _ _)
    · rw [if_neg h]; exact Nat.le_refl _
def FB (T : Nat) (l : List (Nat × Int)) : Prop := l.length ≤ 8 ∧ 1 ≤ l.length ∧ ∀ q ∈ l, q.1 < T ∧ -1 ≤ q.2 ∧ q.2 ≤ 1
theorem fcL_ok {T : Nat} (h1 : 2 ≤ T) : ∀ k, FB T (fcL T k).1 ∧ (fcL T k).2 ≤ T
  | 0 => ⟨⟨by show 1 ≤ 8; decide, by show 1 ≤ 1; decide, fun q hq => by
      simp only [fcL, List.mem_singleton] at hq
      subst hq
      exact ⟨by show 0 < T; omega, by decide, by decide⟩⟩, Nat.le_refl _⟩
  | k + 1 => by
    have h := fcL_ok h1 k
    refine ⟨?_, Nat.le_trans (dvO_le _ _ _) h.2⟩
    show FB T (if _ then _ else _)
    by_cases c : (fcL T k).2 % (k + 2) = 0 ∧ 2 * (fcL T k).1.length ≤ 8
    · rw [if_pos c]
      refine ⟨by rw [List.length_append, List.length_map]; omega, by rw [List.length_append]; have := h.1.2.1; omega, fun q hq => ?_⟩
      rcases List.mem_append.mp hq with hq | hq
      · exact h.1.2.2 q hq
      · obtain ⟨q', hq', rfl⟩ := List.mem_map.mp hq
        have h3 := h.1.2.2 q' hq'
        exact ⟨Nat.mod_lt _ (by omega), by show -1 ≤ -q'.2; omega, by show -q'.2 ≤ 1; omega⟩
    · rw [if_neg c]; exact h.1
/-- the factors as they lie -/
def FS (T : Nat) (l : List (Nat × Int)) (m : Nat → Nat → Int) : Prop := m 46 0 = (T : Int) ∧ m 46 1 = (l.length : Int) ∧ ∀ (i : Nat) (q : Nat × Int), l[i]? = some q → m 47 i = (q.1 : Int) ∧ m 48 i = q.2
def FO (m m2 : Nat → Nat → Int) : Prop := ∀ a, a ≠ 46 → a ≠ 47 → a ≠ 48 → m2 a = m a
theorem sp_factor {w : List KD} {m : Nat → Nat → Int} (T : Nat) (hT1 : 2 ≤ T) (hT2 : T ≤ 48) : Sp M_X6_factor 0 0 0 [rV 46, iV (T : Int)] (WC ++ w, m) (fun r h => r = none ∧ ∃ m2, h = (WC ++ w, m2) ∧ FS T (shL.getD T []) m2 ∧ FO m m2) := by
  refine Sp.ofG (ls := [rV 46, iV (T : Int), uV, uV, uV]) (by decide +kernel) rfl (Nat.le_of_ble_eq_true rfl) ?_
  have L : ∀ k : Nat, k ≤ T - 1 → ∀ m1, FS T (fcL T k).1 m1 → FO m m1 → ∀ u4 : PV, G M_X6_factor 0 0 0 28 [rV 46, iV (T : Int), iV ((fcL T k).2 : Int), iV ((k + 2 : Nat) : Int), u4] [] (WC ++ w, m1) (fun r h => r = none ∧ ∃ m2, h = (WC ++ w, m2) ∧ FS T (shL.getD T []) m2 ∧ FO m m2) := by
    refine loop_up (T - 1) _ ?_
    intro k hk ihk m1 h1 hF1 u4
    have hok := fcL_ok (T := T) hT1 k
    by_cases hkT : k < T - 1
    · have hl1 : (fcL T (k + 1)).1 = if (fcL T k).2 % (k + 2) = 0 ∧ 2 * (fcL T k).1.length ≤ 8 then (fcL T k).1 ++ (fcL T k).1.map (fcM T (k + 2)) else (fcL T k).1 := rfl
      have K126 : ∀ m1, FS T (fcL T (k + 1)).1 m1 → FO m m1 → ∀ u4 : PV, G M_X6_factor 0 0 0 126 [rV 46, iV (T : Int), iV ((fcL T k).2 : Int), iV ((k + 2 : Nat) : Int), u4] [] (WC ++ w, m1) (fun r h => r = none ∧ ∃ m2, h = (WC ++ w, m2) ∧ FS T (shL.getD T []) m2 ∧ FO m m2) := by
        intro m1 h1 hF1 u4
        have L2 : ∀ (f i r : Nat), i + f = 48 → r ≤ T → dvO (k + 2) f r = (fcL T (k + 1)).2 → G M_X6_factor 0 0 0 129 [rV 46, iV (T : Int), iV (r : Int), iV ((k + 2 : Nat) : Int), iV (i : Int)] [] (WC ++ w, m1) (fun r h => r = none ∧ ∃ m2, h = (WC ++ w, m2) ∧ FS T (shL.getD T []) m2 ∧ FO m m2) := by
          intro f
          induction f with
          | zero =>
            intro i r hif hr hd
            refine G_iload d_X6_factor_129 rfl ?_
            refine G_bipush d_X6_factor_131 (by decide) ?_
            refine G_icmp_ge 152 d_X6_factor_133 (by decide) (by omega) (by omega) (fun c133 => ?_) (fun c133 => ?_)
            · refine G_iinc d_X6_factor_152 rfl (by decide) rfl ?_
              refine G_goto 28 d_X6_factor_155 (by decide) ?_
              have hd2 : r = (fcL T (k + 1)).2 := hd
              rw [hd2]
              exact ihk (by omega) m1 h1 hF1 _
            · omega
          | succ f ihf =>
            intro i r hif hr hd
            unfold dvO at hd
            refine G_iload d_X6_factor_129 rfl ?_
            refine G_bipush d_X6_factor_131 (by decide) ?_
            refine G_icmp_ge 152 d_X6_factor_133 (by decide) (by omega) (by omega) (fun c133 => ?_) (fun c133 => ?_)
            · omega
            · refine G_iload_n d_X6_factor_136 rfl ?_
              refine G_iload_n d_X6_factor_137 rfl ?_
              refine G_iremN (r) (k + 2) (rfl) (rfl) d_X6_factor_138 (by omega) (by omega) (by omega) ?_
              have hmm : r % (k + 2) ≤ r := Nat.mod_le _ _
              refine G_if_ne 152 d_X6_factor_139 (by decide) (by omega) (fun c139 => ?_) (fun c139 => ?_)
              · refine G_iinc d_X6_factor_152 rfl (by decide) rfl ?_
                refine G_goto 28 d_X6_factor_155 (by decide) ?_
                rw [if_neg (by omega)] at hd
                rw [hd]
                exact ihk (by omega) m1 h1 hF1 _
              · refine G_iload_n d_X6_factor_142 rfl ?_
                refine G_iload_n d_X6_factor_143 rfl ?_
                refine G_idivN (r) (k + 2) (rfl) (rfl) d_X6_factor_144 (by omega) (by omega) (by omega) ?_
                refine G_istore_n d_X6_factor_145 (by decide) rfl ?_
                refine G_iinc d_X6_factor_146 rfl (by decide) rfl ?_
                refine G_goto 129 d_X6_factor_149 (by decide) ?_
                rw [if_pos (by omega)] at hd
                exact ihf (i + 1) (r / (k + 2)) (by omega) (Nat.le_trans (Nat.div_le_self _ _) hr) hd
        refine G_iconst d_X6_factor_126 ?_
        refine G_istore d_X6_factor_127 (by decide) rfl ?_
        exact L2 48 0 (fcL T k).2 rfl hok.2 rfl

      refine G_iload_n d_X6_factor_28 rfl ?_
      refine G_iload_n d_X6_factor_29 rfl ?_
      refine G_icmp_gt 158 d_X6_factor_30 (by decide) (by omega) (by omega) (fun c30 => ?_) (fun c30 => ?_)
      · omega
      · refine G_iload_n d_X6_factor_33 rfl ?_
        refine G_iload_n d_X6_factor_34 rfl ?_
        refine G_iremN ((fcL T k).2) (k + 2) (rfl) (rfl) d_X6_factor_35 (by omega) (by omega) (by omega) ?_
        have hmm : (fcL T k).2 % (k + 2) ≤ (fcL T k).2 := Nat.mod_le _ _
        have hok2 := hok.2
        refine G_if_ne 126 d_X6_factor_36 (by decide) (by omega) (fun c36 => ?_) (fun c36 => ?_)
        · exact K126 m1 (by rw [hl1, if_neg (fun e => by omega)]; exact h1) hF1 _
        · refine G_iconst d_X6_factor_39 ?_
          refine G_aload_n d_X6_factor_40 rfl ?_
          have hl8 := hok.1.1
          refine G_getIe (fl_X6_15.r) d_X6_factor_41 (wk_46 _) rfl (h1.2.1) ?_
          refine G_imul d_X6_factor_44 ?_
          refine G_aload_n d_X6_factor_45 rfl ?_
          refine G_getR (r := 47) (fl_X6_18.r) d_X6_factor_46 (wk_46 _) rfl rfl ?_
          refine G_alen1 d_X6_factor_49 (wk_47 _) ?_
          refine G_icmp_gt 126 d_X6_factor_50 (by decide) (by omega) (by omega) (fun c50 => ?_) (fun c50 => ?_)
          · exact K126 m1 (by rw [hl1, if_neg (fun e => by omega)]; exact h1) hF1 _
          · refine G_iconst d_X6_factor_53 ?_
            refine G_istore d_X6_factor_54 (by decide) rfl ?_
            have hl2 : (fcL T (k + 1)).1 = (fcL T k).1 ++ (fcL T k).1.map (fcM T (k + 2)) := by rw [hl1, if_pos ⟨by omega, by omega⟩]
            have L1 : ∀ i : Nat, i ≤ (fcL T k).1.length → ∀ m1, FS T (fcL T k).1 m1 → FO m m1 → (∀ (j : Nat) (q : Nat × Int), j < i → (fcL T k).1[j]? = some q → m1 47 ((fcL T k).1.length + j) = ((fcM T (k + 2) q).1 : Int) ∧ m1 48 ((fcL T k).1.length + j) = (fcM T (k + 2) q).2) → G M_X6_factor 0 0 0 56 [rV 46, iV (T : Int), iV ((fcL T k).2 : Int), iV ((k + 2 : Nat) : Int), iV (i : Int)] [] (WC ++ w, m1) (fun r h => r = none ∧ ∃ m2, h = (WC ++ w, m2) ∧ FS T (shL.getD T []) m2 ∧ FO m m2) := by
              refine loop_up ((fcL T k).1.length) _ ?_
              intro i hi ih m1 h1 hF1 hz
              refine G_iload d_X6_factor_56 rfl ?_
              refine G_aload_n d_X6_factor_58 rfl ?_
              refine G_getIe (fl_X6_15.r) d_X6_factor_59 (wk_46 _) rfl (h1.2.1) ?_
              refine G_icmp_ge 116 d_X6_factor_62 (by decide) (by omega) (by omega) (fun c62 => ?_) (fun c62 => ?_)
              · refine G_aload_n d_X6_factor_116 rfl ?_
                refine G_dup d_X6_factor_117 rfl ?_
                have hie : i = (fcL T k).1.length := by omega
                subst hie
                refine G_getIe (fl_X6_15.r) d_X6_factor_118 (wk_46 _) rfl (h1.2.1) ?_
                refine G_iconst d_X6_factor_121 ?_
                refine G_imul d_X6_factor_122 ?_
                refine G_putII fl_X6_15 d_X6_factor_123 (wk_46 _) rfl ?_
                refine K126 _ ⟨by rw [upm_ne _ _ (fun _ => by decide)]; exact h1.1, ?_, fun j q2 hj => ?_⟩ (fun a h7 h8 h9 => by rw [upm_off _ _ h7]; exact hF1 a h7 h8 h9) _
                · rw [upm_same, hl2, List.length_append, List.length_map]; omega
                · rw [upm_off _ _ (by decide), upm_off _ _ (by decide)]
                  rw [hl2, List.getElem?_append] at hj
                  by_cases e : j < (fcL T k).1.length
                  · rw [if_pos e] at hj
                    exact h1.2.2 j q2 hj
                  · rw [if_neg e, List.getElem?_map] at hj
                    obtain ⟨q3, hq3, rfl⟩ := Option.map_eq_some_iff.mp hj
                    have h4 := hz (j - (fcL T k).1.length) q3 (by have := (List.getElem?_eq_some_iff.mp hq3).1; omega) hq3
                    rw [show (fcL T k).1.length + (j - (fcL T k).1.length) = j by omega] at h4
                    exact h4
              · refine G_aload_n d_X6_factor_65 rfl ?_
                obtain ⟨q, hq⟩ : ∃ q, (fcL T k).1[i]? = some q := ⟨(fcL T k).1[i], List.getElem?_eq_getElem (by omega)⟩
                have hqv := h1.2.2 i q hq
                have hqb := hok.1.2.2 q (List.mem_of_getElem? hq)
                have hl8 := hok.1.1
                have hdv : T / (k + 2) ≤ T := Nat.div_le_self _ _
                refine G_getR (r := 47) (fl_X6_18.r) d_X6_factor_66 (wk_46 _) rfl rfl ?_
                refine G_aload_n d_X6_factor_69 rfl ?_
                refine G_getIe (fl_X6_15.r) d_X6_factor_70 (wk_46 _) rfl (h1.2.1) ?_
                refine G_iload d_X6_factor_73 rfl ?_
                refine G_iadd d_X6_factor_75 ?_
                refine G_aload_n d_X6_factor_76 rfl ?_
                refine G_getR (r := 47) (fl_X6_18.r) d_X6_factor_77 (wk_46 _) rfl rfl ?_
                refine G_iload d_X6_factor_80 rfl ?_
                refine G_ialdj (i) d_X6_factor_82 (wk_47 _) (by omega) (by omega) (by decide) ?_
                rw [hqv.1]
                refine G_iload_n d_X6_factor_83 rfl ?_
                refine G_iload_n d_X6_factor_84 rfl ?_
                refine G_idivN (T) (k + 2) (rfl) (rfl) d_X6_factor_85 (by omega) (by omega) (by omega) ?_
                refine G_iadd d_X6_factor_86 ?_
                refine G_iload_n d_X6_factor_87 rfl ?_
                refine G_iremN (q.1 + T / (k + 2)) (T) ((by omega)) (rfl) d_X6_factor_88 (by omega) (by omega) (by omega) ?_
                refine G_iastj ((fcL T k).1.length + i) d_X6_factor_89 (wk_47 _) (by omega) (by omega) (by decide) ?_
                refine G_aload_n d_X6_factor_90 rfl ?_
                refine G_getR (r := 48) (fl_X6_22.r) d_X6_factor_91 (wk_46 _) rfl rfl ?_
                refine G_aload_n d_X6_factor_94 rfl ?_
                refine G_getIe (v := ((fcL T k).1.length : Int)) (fl_X6_15.r) d_X6_factor_95 (wk_46 _) rfl ((by rw [upm_off _ _ (by decide)]; exact h1.2.1)) ?_
                refine G_iload d_X6_factor_98 rfl ?_
                refine G_iadd d_X6_factor_100 ?_
                refine G_aload_n d_X6_factor_101 rfl ?_
                refine G_getR (r := 48) (fl_X6_22.r) d_X6_factor_102 (wk_46 _) rfl rfl ?_
                refine G_iload d_X6_factor_105 rfl ?_
                refine G_ialdj (i) d_X6_factor_107 (wk_48 _) (by omega) (by omega) (by decide) ?_
                rw [upm_off _ _ (by decide), hqv.2]
                refine G_ineg d_X6_factor_108 ?_
                refine G_iastj ((fcL T k).1.length + i) d_X6_factor_109 (wk_48 _) (by omega) (by omega) (by decide) ?_
                refine G_iinc d_X6_factor_110 rfl (by decide) rfl ?_
                refine G_goto 56 d_X6_factor_113 (by decide) ?_
                refine ih (by omega) _ ⟨h1.1, h1.2.1, fun j q2 hj => ?_⟩ (fun a h7 h8 h9 => by rw [upm_off _ _ h9, upm_off _ _ h8]; exact hF1 a h7 h8 h9) (fun j q2 hj hq2 => ?_)
                · have hjl : j < (fcL T k).1.length := (List.getElem?_eq_some_iff.mp hj).1
                  have h3 := h1.2.2 j q2 hj
                  exact ⟨by rw [upm_off _ _ (by decide), upm_ne _ _ (fun _ => by omega)]; exact h3.1, by rw [upm_ne _ _ (fun _ => by omega), upm_off _ _ (by decide)]; exact h3.2⟩
                · by_cases e : j = i
                  · subst e
                    obtain rfl : q = q2 := by rw [hq] at hq2; simpa using hq2
                    exact ⟨by rw [upm_off _ _ (by decide), upm_same]; rfl, by rw [upm_same]; rfl⟩
                  · have h3 := hz j q2 (by omega) hq2
                    exact ⟨by rw [upm_off _ _ (by decide), upm_ne _ _ (fun _ => by omega)]; exact h3.1, by rw [upm_ne _ _ (fun _ => by omega), upm_off _ _ (by decide)]; exact h3.2⟩
            exact L1 0 (by omega) m1 h1 hF1 (fun j q hj => absurd hj (by omega))
    · have hke : k = T - 1 := by omega
      subst hke
      refine G_iload_n d_X6_factor_28 rfl ?_
      refine G_iload_n d_X6_factor_29 rfl ?_
      refine G_icmp_gt 158 d_X6_factor_30 (by decide) (by omega) (by omega) (fun c30 => ?_) (fun c30 => ?_)
      · refine G_vret (mc := 0) (ms := 0) (st := []) d_X6_factor_158 rfl ?_
        exact ⟨rfl, m1, rfl, by rw [← fcL_end hT1 hT2]; exact h1, hF1⟩
      · omega
  refine G_aload_n d_X6_factor_0 rfl ?_
  refine G_iload_n d_X6_factor_1 rfl ?_
  refine G_putII fl_X6_9 d_X6_factor_2 (wk_46 _) rfl ?_
  refine G_aload_n d_X6_factor_5 rfl ?_
  refine G_iconst d_X6_factor_6 ?_
  refine G_putII fl_X6_15 d_X6_factor_7 (wk_46 _) rfl ?_
  refine G_aload_n d_X6_factor_10 rfl ?_
  refine G_getR (r := 47) (fl_X6_18.r) d_X6_factor_11 (wk_46 _) rfl rfl ?_
  refine G_iconst d_X6_factor_14 ?_
  refine G_iconst d_X6_factor_15 ?_
  refine G_iastj (0) d_X6_factor_16 (wk_47 _) (by omega) (by omega) (by decide) ?_
  refine G_aload_n d_X6_factor_17 rfl ?_
  refine G_getR (r := 48) (fl_X6_22.r) d_X6_factor_18 (wk_46 _) rfl rfl ?_
  refine G_iconst d_X6_factor_21 ?_
  refine G_iconst d_X6_factor_22 ?_
  refine G_iastj (0) d_X6_factor_23 (wk_48 _) (by omega) (by omega) (by decide) ?_
  refine G_iload_n d_X6_factor_24 rfl ?_
  refine G_istore_n d_X6_factor_25 (by decide) rfl ?_
  refine G_iconst d_X6_factor_26 ?_
  refine G_istore_n d_X6_factor_27 (by decide) rfl ?_
  exact L 0 (by omega) _ ⟨by rw [upm_off _ _ (by decide), upm_off _ _ (by decide), upm_ne _ _ (fun _ => by decide), upm_same], by rw [upm_off _ _ (by decide), upm_off _ _ (by decide), upm_same]; rfl, fun i q hq => by
    cases i with
    | zero =>
      obtain rfl : (0, 1) = q := by simpa [fcL] using hq
      exact ⟨by rw [upm_off _ _ (by decide), upm_same]; rfl, by rw [upm_same]⟩
    | succ i => exact absurd hq (by simp [fcL])⟩ (fun a h7 h8 h9 => by rw [upm_off _ _ h9, upm_off _ _ h8, upm_off _ _ h7, upm_off _ _ h7]) _
