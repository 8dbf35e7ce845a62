/-! Wants -/
def CH (s : Nat → Int) (m : Nat → Nat → Int) : Prop := ∀ k, k < pN s → m 53 k = pCh s (pChief s).toNat k
def GS (s : Nat → Int) (n : Nat) (m : Nat → Nat → Int) : Prop := m 52 2 = (pN s : Int) ∧ m 52 3 = (pC s : Int) ∧ CH s m ∧ m 52 1 = b1 (allN (fun q => !(pMk s q == 1 && pGone s q)) n) ∧ (∀ k, k < pN s → m 54 k = (cmF s k n : Nat)) ∧ (∀ q, q < n → m 56 q = lsF9 s q (pN s)) ∧ m 52 6 = ((otl s n).length : Nat) ∧ LM (otl s n) m
theorem otl_t {s : Nat → Int} {p : Nat} (h : pOther s p = true) : otl s (p + 1) = otl s p ++ [p] := by
  unfold otl
  rw [List.range_succ, List.filter_append]
  simp [h]
theorem otl_f {s : Nat → Int} {p : Nat} (h : ¬ pOther s p = true) : otl s (p + 1) = otl s p := by
  unfold otl
  rw [List.range_succ, List.filter_append]
  simp [h]
theorem otl_le (s : Nat → Int) (n : Nat) : (otl s n).length ≤ n := by
  unfold otl
  have := List.length_filter_le (pOther s) (List.range n)
  rw [List.length_range] at this
  exact this
theorem otl_mem {s : Nat → Int} {n p : Nat} (h : p ∈ otl s n) : p < n ∧ pOther s p = true := by
  have h1 := List.mem_filter.mp h
  exact ⟨List.mem_range.mp h1.1, h1.2⟩
theorem LM.snoc {l : List Nat} {m m2 : Nat → Nat → Int} (h : LM l m) (p : Nat) (h1 : ∀ j, j < l.length → m2 55 j = m 55 j) (h2 : m2 55 l.length = (p : Int)) : LM (l ++ [p]) m2 := fun i q hq => by
  by_cases e : i < l.length
  · rw [List.getElem?_append_left e] at hq
    rw [h1 i e]
    exact h i q hq
  · have hl := (List.getElem?_eq_some_iff.mp hq).1
    rw [List.length_append] at hl
    have hi : i = l.length := by simp at hl; omega
    subst hi
    rw [List.getElem?_append_right (Nat.le_refl _), Nat.sub_self] at hq
    simp at hq
    rw [h2, hq]
theorem LM.congr {l : List Nat} {m m2 : Nat → Nat → Int} (h : LM l m) (k : m2 55 = m 55) : LM l m2 := fun i q hq => by rw [k]; exact h i q hq
theorem sp_gap {w : List KD} {m : Nat → Nat → Int} (s : Nat → Int) (hV : VS s) (hL : CL s m) (hH : CH s m) (p k : Nat) (hp : p < pC s) (hk : k < pN s) : Sp M_X8_gap 1 0 0 [rV 52, rV 25, iV (p : Int), iV (k : Int)] (WC ++ w, m) (fun r h => r = some (iV (gapD s p k)) ∧ h = (WC ++ w, m)) := by
  refine Sp.ofG (ls := [rV 52, rV 25, iV (p : Int), iV (k : Int)]) (by decide +kernel) rfl (Nat.le_of_ble_eq_true rfl) ?_
  have hC := pC_le hV
  have hN := hV.N
  have hT := hV.T
  have hSc := hV.Sc
  refine G_aload_n d_X8_gap_0 rfl ?_
  refine G_iload_n d_X8_gap_1 rfl ?_
  refine G_iload_n d_X8_gap_2 rfl ?_
  refine G_callV2 cl_X8_54 rfl d_X8_gap_3 (wk_25 _) (Nat.le_of_ble_eq_true rfl) (by decide) (sp_Cch s hV hL p k hp hk) ?_
  rintro _ _ ⟨rfl, rfl⟩
  refine G_aload_n d_X8_gap_6 rfl ?_
  refine G_getR (r := 53) (fl_X8_25.r) d_X8_gap_7 (wk_52 _) rfl rfl ?_
  refine G_iload_n d_X8_gap_10 rfl ?_
  refine G_ialdj (k) d_X8_gap_11 (wk_53 _) (by omega) (by omega) (by decide) ?_
  rw [hH k hk]
  refine G_isub d_X8_gap_12 ?_
  refine G_iret (mc := 0) (ms := 0) (st := []) d_X8_gap_13 rfl ?_
  exact ⟨rfl, rfl⟩
theorem sp_divisorOf {w : List KD} {m : Nat → Nat → Int} (a b : Nat) (ha : a ≤ 50) (hb : b ≤ 50) : Sp M_X8_divisorOf 0 0 0 [iV (a : Int), iV (b : Int)] (WC ++ w, m) (fun r h => r = some (iV (Nat.gcd a b : Nat)) ∧ h = (WC ++ w, m)) := by
  refine Sp.ofG (ls := [iV (a : Int), iV (b : Int), uV, uV, uV, uV]) (by decide +kernel) rfl (Nat.le_of_ble_eq_true rfl) ?_
  have L : ∀ (y x i : Nat) (u5 : PV), x ≤ 50 → y ≤ 50 → i + y ≤ 60 → Nat.gcd x y = Nat.gcd a b → pcat u5 ≠ 2 → G M_X8_divisorOf 0 0 0 7 [iV (a : Int), iV (b : Int), iV (x : Int), iV (y : Int), iV (i : Int), u5] [] (WC ++ w, m) (fun r h => r = some (iV (Nat.gcd a b : Nat)) ∧ h = (WC ++ w, m)) := by
    intro y
    induction y using Nat.strongRecOn with
    | ind y ih =>
      intro x i u5 hx hy hi hg hu5
      refine G_iload d_X8_divisorOf_7 rfl ?_
      refine G_bipush d_X8_divisorOf_9 (by decide) ?_
      refine G_icmp_ge 34 d_X8_divisorOf_11 (by decide) (by omega) (by omega) (fun c11 => ?_) (fun c11 => ?_)
      · omega
      · refine G_iload_n d_X8_divisorOf_14 rfl ?_
        refine G_if_eq 34 d_X8_divisorOf_15 (by decide) (by omega) (fun c15 => ?_) (fun c15 => ?_)
        · refine G_iload_n d_X8_divisorOf_34 rfl ?_
          refine G_iret (mc := 0) (ms := 0) (st := []) d_X8_divisorOf_35 rfl ?_
          have hy0 : y = 0 := by omega
          subst hy0
          exact ⟨by rw [← hg, Nat.gcd_zero_right], rfl⟩
        · refine G_iload_n d_X8_divisorOf_18 rfl ?_
          refine G_iload_n d_X8_divisorOf_19 rfl ?_
          refine G_iremN (x) (y) (rfl) (rfl) d_X8_divisorOf_20 (by omega) (by omega) (by omega) ?_
          refine G_istore d_X8_divisorOf_21 (by decide) rfl ?_
          refine G_iload_n d_X8_divisorOf_23 rfl ?_
          refine G_istore_n d_X8_divisorOf_24 (by decide) rfl ?_
          refine G_iload d_X8_divisorOf_25 rfl ?_
          refine G_istore_n d_X8_divisorOf_27 (by decide) rfl ?_
          refine G_iinc d_X8_divisorOf_28 rfl (by decide) rfl ?_
          refine G_goto 7 d_X8_divisorOf_31 (by decide) ?_
          have hlt : x % y < y := Nat.mod_lt _ (by omega)
          exact ih (x % y) hlt y (i + 1) _ (by omega) (by omega) (by omega) (by rw [← hg, Nat.gcd_comm x y, Nat.gcd_rec y x, Nat.gcd_comm]) (by show (1 : Nat) ≠ 2; decide)
  refine G_iload_n d_X8_divisorOf_0 rfl ?_
  refine G_istore_n d_X8_divisorOf_1 (by decide) rfl ?_
  refine G_iload_n d_X8_divisorOf_2 rfl ?_
  refine G_istore_n d_X8_divisorOf_3 (by decide) rfl ?_
  refine G_iconst d_X8_divisorOf_4 ?_
  refine G_istore d_X8_divisorOf_5 (by decide) rfl ?_
  exact L b a 0 uV ha hb (by omega) rfl (by decide)
theorem lsF9_rng (s : Nat → Int) (p : Nat) : ∀ n, -1 ≤ lsF9 s p n ∧ lsF9 s p n < n
  | 0 => ⟨Int.le_refl _, by show (-1 : Int) < 0; decide⟩
  | n + 1 => by
    have h := lsF9_rng s p n
    unfold lsF9
    by_cases c : gapD s p n ≠ 0
    · rw [if_pos c]; omega
    · rw [if_neg c]; omega
theorem cmF_rng {s : Nat → Int} (hV : VS s) (k : Nat) : ∀ n, cmF s k n ≤ 12
  | 0 => Nat.zero_le _
  | n + 1 => by
    have h := cmF_rng hV k n
    have h2 := gapD_rng hV n k
    unfold cmF
    by_cases c : pMk s n = 1
    · rw [if_pos c]
      by_cases d : (gapD s n k).natAbs = 0
      · rw [d, Nat.gcd_zero_right]; exact h
      · have := Nat.gcd_le_right (cmF s k n) (Nat.pos_of_ne_zero d)
        omega
    · rw [if_neg c]; exact h
theorem sp_sort {w : List KD} {m : Nat → Nat → Int} (s : Nat → Int) (hV : VS s) (hB : CB s m) (hW : WGk s m) (p : Nat) (hp : p < pC s) (hG : GS s p m) : Sp M_X8_sort 2 0 0 [rV 52, rV 1, rV 25, iV (p : Int)] (WC ++ w, m) (fun r h => r = none ∧ ∃ m2, h = (WC ++ w, m2) ∧ GS s (p + 1) m2 ∧ (∀ a, a ≠ 52 → a ≠ 54 → a ≠ 55 → a ≠ 56 → m2 a = m a) ∧ m2 52 0 = m 52 0) := by
  refine Sp.ofG (ls := [rV 52, rV 1, rV 25, iV (p : Int), uV, uV, uV, uV]) (by decide +kernel) rfl (Nat.le_of_ble_eq_true rfl) ?_
  have hC := pC_le hV
  have hN := hV.N
  have hT := hV.T
  have hSc := hV.Sc
  have L00 : ¬ pGone s p = true → ¬ pMk s p = 1 → ∀ k : Nat, k ≤ pN s → ∀ m1 (u7 : PV), CH s m1 → m1 56 p = lsF9 s p k → (∀ q, q ≠ p → m1 56 q = m 56 q) → (∀ j, j < k → m1 54 j = (cmF s j (p + 1) : Nat)) → (∀ j, k ≤ j → m1 54 j = m 54 j) → (∀ a, a ≠ 54 → a ≠ 56 → m1 a = m a) → G M_X8_sort 2 0 0 34 [rV 52, rV 1, rV 25, iV (p : Int), iV 0, iV 0, iV (k : Int), u7] [] (WC ++ w, m1) (fun r h => r = none ∧ ∃ m2, h = (WC ++ w, m2) ∧ GS s (p + 1) m2 ∧ (∀ a, a ≠ 52 → a ≠ 54 → a ≠ 55 → a ≠ 56 → m2 a = m a) ∧ m2 52 0 = m 52 0) := by
    intro hg hMk1
    have hMk := hV.Mk p (by omega)
    refine loop_up (pN s) _ ?_
    intro k hk ih m1 u7 hH1 h561 h56o hcl hch hfr
    refine G_iload d_X8_sort_34 rfl ?_
    refine G_aload_n d_X8_sort_36 rfl ?_
    refine G_getIe (v := (pN s : Int)) (fl_X8_18.r) d_X8_sort_37 (wk_52 _) rfl ((by rw [hfr 52 (by decide) (by decide)]; exact hG.1)) ?_
    refine G_icmp_ge 100 d_X8_sort_40 (by decide) (by omega) (by omega) (fun c40 => ?_) (fun c40 => ?_)
    · refine G_iload d_X8_sort_100 rfl ?_
      refine G_if_eq 115 d_X8_sort_102 (by decide) (by decide) (fun _ => ?_) (fun hd => absurd hd (by decide))
      refine G_aload_n d_X8_sort_115 rfl ?_
      refine G_getR (r := 5) fl_X8_66 d_X8_sort_116 (wk_1 _) rfl rfl ?_
      refine G_iload_n d_X8_sort_119 rfl ?_
      refine G_baldj (p) d_X8_sort_120 (wk_5 _) (by omega) (by omega) (by decide) ?_
      rw [hfr 5 (by decide) (by decide), hB.1.2.2.2.2.2 p (by omega), show s (227 + p) = pMk s p from rfl]
      refine G_if_ne 149 d_X8_sort_121 (by decide) (by omega) (fun c121 => ?_) (fun c121 => ?_)
      · refine G_vret (mc := 0) (ms := 0) (st := []) d_X8_sort_149 rfl ?_
        have hnot : ¬ pOther s p = true := by unfold pOther; simp [c121]
        have hLMf : LM (otl s (p + 1)) m1 := by rw [otl_f hnot]; exact hG.2.2.2.2.2.2.2.congr (hfr 55 (by decide) (by decide))
        have hke : k = pN s := by omega
        rw [hke] at h561 hcl
        refine ⟨rfl, m1, rfl, ⟨by rw [hfr 52 (by decide) (by decide)]; exact hG.1, by rw [hfr 52 (by decide) (by decide)]; exact hG.2.1, hH1, by rw [hfr 52 (by decide) (by decide), hG.2.2.2.1]; show _ = b1 (allN _ p && !(pMk s p == 1 && pGone s p)); rw [show (!(pMk s p == 1 && pGone s p)) = true by simp [hMk1], Bool.and_true], (fun k2 hk2 => hcl k2 hk2), fun q hq => ?_, by rw [otl_f hnot, hfr 52 (by decide) (by decide)]; exact hG.2.2.2.2.2.2.1, hLMf⟩, (fun a h52 h54 h55 h56 => hfr a h54 h56), by rw [hfr 52 (by decide) (by decide)]⟩
        by_cases e : q = p
        · rw [e]; exact h561
        · rw [h56o q e]; exact hG.2.2.2.2.2.1 q (by omega)
      · refine G_iload d_X8_sort_124 rfl ?_
        refine G_if_ne 149 d_X8_sort_126 (by decide) (by decide) (fun hd => absurd hd (by decide)) (fun _ => ?_)
        refine G_aload_n d_X8_sort_129 rfl ?_
        refine G_getR (r := 55) (fl_X8_35.r) d_X8_sort_130 (wk_52 _) rfl rfl ?_
        refine G_aload_n d_X8_sort_133 rfl ?_
        have hol := otl_le s p
        refine G_getIe (v := ((otl s p).length : Int)) (fl_X8_32.r) d_X8_sort_134 (wk_52 _) rfl ((by rw [hfr 52 (by decide) (by decide)]; exact hG.2.2.2.2.2.2.1)) ?_
        refine G_iload_n d_X8_sort_137 rfl ?_
        refine G_iastj ((otl s p).length) d_X8_sort_138 (wk_55 _) (by omega) (by omega) (by decide) ?_
        refine G_aload_n d_X8_sort_139 rfl ?_
        refine G_dup d_X8_sort_140 rfl ?_
        refine G_getIe (v := ((otl s p).length : Int)) (fl_X8_32.r) d_X8_sort_141 (wk_52 _) rfl ((by rw [upm_off _ _ (by decide), hfr 52 (by decide) (by decide)]; exact hG.2.2.2.2.2.2.1)) ?_
        refine G_iconst d_X8_sort_144 ?_
        refine G_iadd d_X8_sort_145 ?_
        refine G_putII fl_X8_32 d_X8_sort_146 (wk_52 _) rfl ?_
        refine G_vret (mc := 0) (ms := 0) (st := []) d_X8_sort_149 rfl ?_
        have hke : k = pN s := by omega
        rw [hke] at h561 hcl
        have hyes : pOther s p = true := by unfold pOther; simp [c121, hg]
        refine ⟨rfl, _, rfl, ⟨by rw [upm_ne _ _ (fun _ => by decide), upm_off _ _ (by decide), hfr 52 (by decide) (by decide)]; exact hG.1, by rw [upm_ne _ _ (fun _ => by decide), upm_off _ _ (by decide), hfr 52 (by decide) (by decide)]; exact hG.2.1, (fun k2 hk2 => by rw [upm_off _ _ (by decide), upm_off _ _ (by decide)]; exact hH1 k2 hk2), by rw [upm_ne _ _ (fun _ => by decide), upm_off _ _ (by decide)]; rw [hfr 52 (by decide) (by decide), hG.2.2.2.1]; show _ = b1 (allN _ p && !(pMk s p == 1 && pGone s p)); rw [show (!(pMk s p == 1 && pGone s p)) = true by simp [hg], Bool.and_true], (fun k2 hk2 => by rw [upm_off _ _ (by decide), upm_off _ _ (by decide)]; exact hcl k2 hk2), fun q hq => ?_, by rw [otl_t hyes, upm_same, List.length_append]; rfl, by rw [otl_t hyes]; exact hG.2.2.2.2.2.2.2.snoc p (fun j hj => by rw [upm_off _ _ (by decide), upm_ne _ _ (fun _ => by omega), hfr 55 (by decide) (by decide)]) (by rw [upm_off _ _ (by decide), upm_same])⟩, (fun a h52 h54 h55 h56 => by rw [upm_off _ _ h52, upm_off _ _ h55]; exact hfr a h54 h56), by rw [upm_ne _ _ (fun _ => by decide), upm_off _ _ (by decide), hfr 52 (by decide) (by decide)]⟩
        by_cases e : q = p
        · rw [e]; rw [upm_off _ _ (by decide), upm_off _ _ (by decide)]; exact h561
        · rw [upm_off _ _ (by decide), upm_off _ _ (by decide)]; rw [h56o q e]; exact hG.2.2.2.2.2.1 q (by omega)
    · refine G_aload_n d_X8_sort_43 rfl ?_
      refine G_aload_n d_X8_sort_44 rfl ?_
      refine G_iload_n d_X8_sort_45 rfl ?_
      refine G_iload d_X8_sort_46 rfl ?_
      refine G_callV3 cl_X8_69 rfl d_X8_sort_48 (wk_52 _) (Nat.le_of_ble_eq_true rfl) (by decide) (sp_gap s hV (hB.2.2.1.keep2 (by rw [hfr 25 (by decide) (by decide)]) (hfr 26 (by decide) (by decide)) (hfr 27 (by decide) (by decide))) hH1 p k hp (by omega)) ?_
      rintro _ _ ⟨rfl, rfl⟩
      have hgr := gapD_rng hV p k
      refine G_istore d_X8_sort_51 (by decide) rfl ?_
      refine G_iload d_X8_sort_53 rfl ?_
      refine G_if_eq 67 d_X8_sort_55 (by decide) (by omega) (fun c55 => ?_) (fun c55 => ?_)
      · refine G_iload d_X8_sort_67 rfl ?_
        refine G_if_eq 94 d_X8_sort_69 (by decide) (by decide) (fun _ => ?_) (fun hd => absurd hd (by decide))
        refine G_iinc d_X8_sort_94 rfl (by decide) rfl ?_
        refine G_goto 34 d_X8_sort_97 (by decide) ?_
        have hls : lsF9 s p (k + 1) = lsF9 s p k := if_neg (fun h => h c55)
        refine ih (by omega) _ _ (fun k2 hk2 => by exact hH1 k2 hk2) ?_ (fun q hq => ?_) (fun j hj => ?_) (fun j hj => ?_) (fun a h54 h56 => ?_)
        · rw [hls]; exact h561
        · exact h56o q hq
        · 
          by_cases e : j = k
          · rw [e, hch k (Nat.le_refl _), hG.2.2.2.2.1 k (by omega)]
            exact congrArg Int.ofNat (if_neg hMk1).symm
          · exact hcl j (by omega)
        · exact hch j (by omega)
        · exact hfr a h54 h56
      · refine G_aload_n d_X8_sort_58 rfl ?_
        refine G_getR (r := 56) (fl_X8_38.r) d_X8_sort_59 (wk_52 _) rfl rfl ?_
        refine G_iload_n d_X8_sort_62 rfl ?_
        refine G_iload d_X8_sort_63 rfl ?_
        refine G_i2bS d_X8_sort_65 (by omega) ?_
        refine G_bastj (p) d_X8_sort_66 (wk_56 _) (by omega) (by omega) (by decide) (by omega) ?_
        refine G_iload d_X8_sort_67 rfl ?_
        refine G_if_eq 94 d_X8_sort_69 (by decide) (by decide) (fun _ => ?_) (fun hd => absurd hd (by decide))
        refine G_iinc d_X8_sort_94 rfl (by decide) rfl ?_
        refine G_goto 34 d_X8_sort_97 (by decide) ?_
        have hls : lsF9 s p (k + 1) = (k : Int) := if_pos c55
        refine ih (by omega) _ _ (fun k2 hk2 => by rw [upm_off _ _ (by decide)]; exact hH1 k2 hk2) ?_ (fun q hq => ?_) (fun j hj => ?_) (fun j hj => ?_) (fun a h54 h56 => ?_)
        · rw [upm_same, hls]
        · rw [upm_ne _ _ (fun _ => hq)]; exact h56o q hq
        · rw [upm_off _ _ (by decide)]; 
          by_cases e : j = k
          · rw [e, hch k (Nat.le_refl _), hG.2.2.2.2.1 k (by omega)]
            exact congrArg Int.ofNat (if_neg hMk1).symm
          · exact hcl j (by omega)
        · rw [upm_off _ _ (by decide)]; exact hch j (by omega)
        · rw [upm_off _ _ h56]; exact hfr a h54 h56
  have L01 : ¬ pGone s p = true → pMk s p = 1 → ∀ k : Nat, k ≤ pN s → ∀ m1 (u7 : PV), CH s m1 → m1 56 p = lsF9 s p k → (∀ q, q ≠ p → m1 56 q = m 56 q) → (∀ j, j < k → m1 54 j = (cmF s j (p + 1) : Nat)) → (∀ j, k ≤ j → m1 54 j = m 54 j) → (∀ a, a ≠ 54 → a ≠ 56 → m1 a = m a) → G M_X8_sort 2 0 0 34 [rV 52, rV 1, rV 25, iV (p : Int), iV 0, iV 1, iV (k : Int), u7] [] (WC ++ w, m1) (fun r h => r = none ∧ ∃ m2, h = (WC ++ w, m2) ∧ GS s (p + 1) m2 ∧ (∀ a, a ≠ 52 → a ≠ 54 → a ≠ 55 → a ≠ 56 → m2 a = m a) ∧ m2 52 0 = m 52 0) := by
    intro hg hMk1
    have hMk := hV.Mk p (by omega)
    refine loop_up (pN s) _ ?_
    intro k hk ih m1 u7 hH1 h561 h56o hcl hch hfr
    refine G_iload d_X8_sort_34 rfl ?_
    refine G_aload_n d_X8_sort_36 rfl ?_
    refine G_getIe (v := (pN s : Int)) (fl_X8_18.r) d_X8_sort_37 (wk_52 _) rfl ((by rw [hfr 52 (by decide) (by decide)]; exact hG.1)) ?_
    refine G_icmp_ge 100 d_X8_sort_40 (by decide) (by omega) (by omega) (fun c40 => ?_) (fun c40 => ?_)
    · refine G_iload d_X8_sort_100 rfl ?_
      refine G_if_eq 115 d_X8_sort_102 (by decide) (by decide) (fun hd => absurd hd (by decide)) (fun _ => ?_)
      refine G_iload d_X8_sort_105 rfl ?_
      refine G_if_eq 115 d_X8_sort_107 (by decide) (by decide) (fun _ => ?_) (fun hd => absurd hd (by decide))
      refine G_aload_n d_X8_sort_115 rfl ?_
      refine G_getR (r := 5) fl_X8_66 d_X8_sort_116 (wk_1 _) rfl rfl ?_
      refine G_iload_n d_X8_sort_119 rfl ?_
      refine G_baldj (p) d_X8_sort_120 (wk_5 _) (by omega) (by omega) (by decide) ?_
      rw [hfr 5 (by decide) (by decide), hB.1.2.2.2.2.2 p (by omega), show s (227 + p) = pMk s p from rfl]
      refine G_if_ne 149 d_X8_sort_121 (by decide) (by omega) (fun c121 => ?_) (fun c121 => ?_)
      · refine G_vret (mc := 0) (ms := 0) (st := []) d_X8_sort_149 rfl ?_
        have hnot : ¬ pOther s p = true := by unfold pOther; simp [hMk1]
        have hLMf : LM (otl s (p + 1)) m1 := by rw [otl_f hnot]; exact hG.2.2.2.2.2.2.2.congr (hfr 55 (by decide) (by decide))
        have hke : k = pN s := by omega
        rw [hke] at h561 hcl
        refine ⟨rfl, m1, rfl, ⟨by rw [hfr 52 (by decide) (by decide)]; exact hG.1, by rw [hfr 52 (by decide) (by decide)]; exact hG.2.1, hH1, by rw [hfr 52 (by decide) (by decide), hG.2.2.2.1]; show _ = b1 (allN _ p && !(pMk s p == 1 && pGone s p)); rw [show (!(pMk s p == 1 && pGone s p)) = true by simp [hg], Bool.and_true], (fun k2 hk2 => hcl k2 hk2), fun q hq => ?_, by rw [otl_f hnot, hfr 52 (by decide) (by decide)]; exact hG.2.2.2.2.2.2.1, hLMf⟩, (fun a h52 h54 h55 h56 => hfr a h54 h56), by rw [hfr 52 (by decide) (by decide)]⟩
        by_cases e : q = p
        · rw [e]; exact h561
        · rw [h56o q e]; exact hG.2.2.2.2.2.1 q (by omega)
      · omega
    · refine G_aload_n d_X8_sort_43 rfl ?_
      refine G_aload_n d_X8_sort_44 rfl ?_
      refine G_iload_n d_X8_sort_45 rfl ?_
      refine G_iload d_X8_sort_46 rfl ?_
      refine G_callV3 cl_X8_69 rfl d_X8_sort_48 (wk_52 _) (Nat.le_of_ble_eq_true rfl) (by decide) (sp_gap s hV (hB.2.2.1.keep2 (by rw [hfr 25 (by decide) (by decide)]) (hfr 26 (by decide) (by decide)) (hfr 27 (by decide) (by decide))) hH1 p k hp (by omega)) ?_
      rintro _ _ ⟨rfl, rfl⟩
      have hgr := gapD_rng hV p k
      refine G_istore d_X8_sort_51 (by decide) rfl ?_
      refine G_iload d_X8_sort_53 rfl ?_
      refine G_if_eq 67 d_X8_sort_55 (by decide) (by omega) (fun c55 => ?_) (fun c55 => ?_)
      · refine G_iload d_X8_sort_67 rfl ?_
        refine G_if_eq 94 d_X8_sort_69 (by decide) (by decide) (fun hd => absurd hd (by decide)) (fun _ => ?_)
        refine G_aload_n d_X8_sort_72 rfl ?_
        refine G_getR (r := 54) (fl_X8_29.r) d_X8_sort_73 (wk_52 _) rfl rfl ?_
        refine G_iload d_X8_sort_76 rfl ?_
        refine G_aload_n d_X8_sort_78 rfl ?_
        refine G_getR (r := 54) (fl_X8_29.r) d_X8_sort_79 (wk_52 _) rfl rfl ?_
        refine G_iload d_X8_sort_82 rfl ?_
        refine G_ialdj (k) d_X8_sort_84 (wk_54 _) (by omega) (by omega) (by decide) ?_
        rw [hch k (Nat.le_refl _), hG.2.2.2.2.1 k (by omega)]
        refine G_iload d_X8_sort_85 rfl ?_
        refine G_callS1 cl_X8_73 d_X8_sort_87 (Nat.le_of_ble_eq_true rfl) (by decide) (sp_abs (by omega)) ?_
        rintro _ _ ⟨rfl, rfl⟩
        refine G_callS2 cl_X8_79 d_X8_sort_90 (Nat.le_of_ble_eq_true rfl) (by decide) (sp_divisorOf (cmF s k p) (gapD s p k).natAbs (by have := cmF_rng hV k p; omega) (by omega)) ?_
        rintro _ _ ⟨rfl, rfl⟩
        refine G_iastj (k) d_X8_sort_93 (wk_54 _) (by omega) (by omega) (by decide) ?_
        refine G_iinc d_X8_sort_94 rfl (by decide) rfl ?_
        refine G_goto 34 d_X8_sort_97 (by decide) ?_
        have hls : lsF9 s p (k + 1) = lsF9 s p k := if_neg (fun h => h c55)
        refine ih (by omega) _ _ (fun k2 hk2 => by rw [upm_off _ _ (by decide)]; exact hH1 k2 hk2) ?_ (fun q hq => ?_) (fun j hj => ?_) (fun j hj => ?_) (fun a h54 h56 => ?_)
        · rw [upm_off _ _ (by decide)]; rw [hls]; exact h561
        · rw [upm_off _ _ (by decide)]; exact h56o q hq
        · by_cases e : j = k
          · rw [e, upm_same]
            exact congrArg Int.ofNat (if_pos hMk1).symm
          · rw [upm_ne _ _ (fun _ => e)]; exact hcl j (by omega)
        · rw [upm_ne _ _ (fun _ => by omega)]; exact hch j (by omega)
        · rw [upm_off _ _ h54]; exact hfr a h54 h56
      · refine G_aload_n d_X8_sort_58 rfl ?_
        refine G_getR (r := 56) (fl_X8_38.r) d_X8_sort_59 (wk_52 _) rfl rfl ?_
        refine G_iload_n d_X8_sort_62 rfl ?_
        refine G_iload d_X8_sort_63 rfl ?_
        refine G_i2bS d_X8_sort_65 (by omega) ?_
        refine G_bastj (p) d_X8_sort_66 (wk_56 _) (by omega) (by omega) (by decide) (by omega) ?_
        refine G_iload d_X8_sort_67 rfl ?_
        refine G_if_eq 94 d_X8_sort_69 (by decide) (by decide) (fun hd => absurd hd (by decide)) (fun _ => ?_)
        refine G_aload_n d_X8_sort_72 rfl ?_
        refine G_getR (r := 54) (fl_X8_29.r) d_X8_sort_73 (wk_52 _) rfl rfl ?_
        refine G_iload d_X8_sort_76 rfl ?_
        refine G_aload_n d_X8_sort_78 rfl ?_
        refine G_getR (r := 54) (fl_X8_29.r) d_X8_sort_79 (wk_52 _) rfl rfl ?_
        refine G_iload d_X8_sort_82 rfl ?_
        refine G_ialdj (k) d_X8_sort_84 (wk_54 _) (by omega) (by omega) (by decide) ?_
        rw [upm_off _ _ (by decide), hch k (Nat.le_refl _), hG.2.2.2.2.1 k (by omega)]
        refine G_iload d_X8_sort_85 rfl ?_
        refine G_callS1 cl_X8_73 d_X8_sort_87 (Nat.le_of_ble_eq_true rfl) (by decide) (sp_abs (by omega)) ?_
        rintro _ _ ⟨rfl, rfl⟩
        refine G_callS2 cl_X8_79 d_X8_sort_90 (Nat.le_of_ble_eq_true rfl) (by decide) (sp_divisorOf (cmF s k p) (gapD s p k).natAbs (by have := cmF_rng hV k p; omega) (by omega)) ?_
        rintro _ _ ⟨rfl, rfl⟩
        refine G_iastj (k) d_X8_sort_93 (wk_54 _) (by omega) (by omega) (by decide) ?_
        refine G_iinc d_X8_sort_94 rfl (by decide) rfl ?_
        refine G_goto 34 d_X8_sort_97 (by decide) ?_
        have hls : lsF9 s p (k + 1) = (k : Int) := if_pos c55
        refine ih (by omega) _ _ (fun k2 hk2 => by rw [upm_off _ _ (by decide), upm_off _ _ (by decide)]; exact hH1 k2 hk2) ?_ (fun q hq => ?_) (fun j hj => ?_) (fun j hj => ?_) (fun a h54 h56 => ?_)
        · rw [upm_off _ _ (by decide), upm_same, hls]
        · rw [upm_off _ _ (by decide), upm_ne _ _ (fun _ => hq)]; exact h56o q hq
        · by_cases e : j = k
          · rw [e, upm_same]
            exact congrArg Int.ofNat (if_pos hMk1).symm
          · rw [upm_ne _ _ (fun _ => e), upm_off _ _ (by decide)]; exact hcl j (by omega)
        · rw [upm_ne _ _ (fun _ => by omega), upm_off _ _ (by decide)]; exact hch j (by omega)
        · rw [upm_off _ _ h54, upm_off _ _ h56]; exact hfr a h54 h56
  have L10 : pGone s p = true → ¬ pMk s p = 1 → ∀ k : Nat, k ≤ pN s → ∀ m1 (u7 : PV), CH s m1 → m1 56 p = lsF9 s p k → (∀ q, q ≠ p → m1 56 q = m 56 q) → (∀ j, j < k → m1 54 j = (cmF s j (p + 1) : Nat)) → (∀ j, k ≤ j → m1 54 j = m 54 j) → (∀ a, a ≠ 54 → a ≠ 56 → m1 a = m a) → G M_X8_sort 2 0 0 34 [rV 52, rV 1, rV 25, iV (p : Int), iV 1, iV 0, iV (k : Int), u7] [] (WC ++ w, m1) (fun r h => r = none ∧ ∃ m2, h = (WC ++ w, m2) ∧ GS s (p + 1) m2 ∧ (∀ a, a ≠ 52 → a ≠ 54 → a ≠ 55 → a ≠ 56 → m2 a = m a) ∧ m2 52 0 = m 52 0) := by
    intro hg hMk1
    have hMk := hV.Mk p (by omega)
    refine loop_up (pN s) _ ?_
    intro k hk ih m1 u7 hH1 h561 h56o hcl hch hfr
    refine G_iload d_X8_sort_34 rfl ?_
    refine G_aload_n d_X8_sort_36 rfl ?_
    refine G_getIe (v := (pN s : Int)) (fl_X8_18.r) d_X8_sort_37 (wk_52 _) rfl ((by rw [hfr 52 (by decide) (by decide)]; exact hG.1)) ?_
    refine G_icmp_ge 100 d_X8_sort_40 (by decide) (by omega) (by omega) (fun c40 => ?_) (fun c40 => ?_)
    · refine G_iload d_X8_sort_100 rfl ?_
      refine G_if_eq 115 d_X8_sort_102 (by decide) (by decide) (fun _ => ?_) (fun hd => absurd hd (by decide))
      refine G_aload_n d_X8_sort_115 rfl ?_
      refine G_getR (r := 5) fl_X8_66 d_X8_sort_116 (wk_1 _) rfl rfl ?_
      refine G_iload_n d_X8_sort_119 rfl ?_
      refine G_baldj (p) d_X8_sort_120 (wk_5 _) (by omega) (by omega) (by decide) ?_
      rw [hfr 5 (by decide) (by decide), hB.1.2.2.2.2.2 p (by omega), show s (227 + p) = pMk s p from rfl]
      refine G_if_ne 149 d_X8_sort_121 (by decide) (by omega) (fun c121 => ?_) (fun c121 => ?_)
      · refine G_vret (mc := 0) (ms := 0) (st := []) d_X8_sort_149 rfl ?_
        have hnot : ¬ pOther s p = true := by unfold pOther; simp [c121]
        have hLMf : LM (otl s (p + 1)) m1 := by rw [otl_f hnot]; exact hG.2.2.2.2.2.2.2.congr (hfr 55 (by decide) (by decide))
        have hke : k = pN s := by omega
        rw [hke] at h561 hcl
        refine ⟨rfl, m1, rfl, ⟨by rw [hfr 52 (by decide) (by decide)]; exact hG.1, by rw [hfr 52 (by decide) (by decide)]; exact hG.2.1, hH1, by rw [hfr 52 (by decide) (by decide), hG.2.2.2.1]; show _ = b1 (allN _ p && !(pMk s p == 1 && pGone s p)); rw [show (!(pMk s p == 1 && pGone s p)) = true by simp [hMk1], Bool.and_true], (fun k2 hk2 => hcl k2 hk2), fun q hq => ?_, by rw [otl_f hnot, hfr 52 (by decide) (by decide)]; exact hG.2.2.2.2.2.2.1, hLMf⟩, (fun a h52 h54 h55 h56 => hfr a h54 h56), by rw [hfr 52 (by decide) (by decide)]⟩
        by_cases e : q = p
        · rw [e]; exact h561
        · rw [h56o q e]; exact hG.2.2.2.2.2.1 q (by omega)
      · refine G_iload d_X8_sort_124 rfl ?_
        refine G_if_ne 149 d_X8_sort_126 (by decide) (by decide) (fun _ => ?_) (fun hd => absurd hd (by decide))
        refine G_vret (mc := 0) (ms := 0) (st := []) d_X8_sort_149 rfl ?_
        have hnot : ¬ pOther s p = true := by unfold pOther; simp [hg]
        have hLMf : LM (otl s (p + 1)) m1 := by rw [otl_f hnot]; exact hG.2.2.2.2.2.2.2.congr (hfr 55 (by decide) (by decide))
        have hke : k = pN s := by omega
        rw [hke] at h561 hcl
        refine ⟨rfl, m1, rfl, ⟨by rw [hfr 52 (by decide) (by decide)]; exact hG.1, by rw [hfr 52 (by decide) (by decide)]; exact hG.2.1, hH1, by rw [hfr 52 (by decide) (by decide), hG.2.2.2.1]; show _ = b1 (allN _ p && !(pMk s p == 1 && pGone s p)); rw [show (!(pMk s p == 1 && pGone s p)) = true by simp [hMk1], Bool.and_true], (fun k2 hk2 => hcl k2 hk2), fun q hq => ?_, by rw [otl_f hnot, hfr 52 (by decide) (by decide)]; exact hG.2.2.2.2.2.2.1, hLMf⟩, (fun a h52 h54 h55 h56 => hfr a h54 h56), by rw [hfr 52 (by decide) (by decide)]⟩
        by_cases e : q = p
        · rw [e]; exact h561
        · rw [h56o q e]; exact hG.2.2.2.2.2.1 q (by omega)
    · refine G_aload_n d_X8_sort_43 rfl ?_
      refine G_aload_n d_X8_sort_44 rfl ?_
      refine G_iload_n d_X8_sort_45 rfl ?_
      refine G_iload d_X8_sort_46 rfl ?_
      refine G_callV3 cl_X8_69 rfl d_X8_sort_48 (wk_52 _) (Nat.le_of_ble_eq_true rfl) (by decide) (sp_gap s hV (hB.2.2.1.keep2 (by rw [hfr 25 (by decide) (by decide)]) (hfr 26 (by decide) (by decide)) (hfr 27 (by decide) (by decide))) hH1 p k hp (by omega)) ?_
      rintro _ _ ⟨rfl, rfl⟩
      have hgr := gapD_rng hV p k
      refine G_istore d_X8_sort_51 (by decide) rfl ?_
      refine G_iload d_X8_sort_53 rfl ?_
      refine G_if_eq 67 d_X8_sort_55 (by decide) (by omega) (fun c55 => ?_) (fun c55 => ?_)
      · refine G_iload d_X8_sort_67 rfl ?_
        refine G_if_eq 94 d_X8_sort_69 (by decide) (by decide) (fun _ => ?_) (fun hd => absurd hd (by decide))
        refine G_iinc d_X8_sort_94 rfl (by decide) rfl ?_
        refine G_goto 34 d_X8_sort_97 (by decide) ?_
        have hls : lsF9 s p (k + 1) = lsF9 s p k := if_neg (fun h => h c55)
        refine ih (by omega) _ _ (fun k2 hk2 => by exact hH1 k2 hk2) ?_ (fun q hq => ?_) (fun j hj => ?_) (fun j hj => ?_) (fun a h54 h56 => ?_)
        · rw [hls]; exact h561
        · exact h56o q hq
        · 
          by_cases e : j = k
          · rw [e, hch k (Nat.le_refl _), hG.2.2.2.2.1 k (by omega)]
            exact congrArg Int.ofNat (if_neg hMk1).symm
          · exact hcl j (by omega)
        · exact hch j (by omega)
        · exact hfr a h54 h56
      · refine G_aload_n d_X8_sort_58 rfl ?_
        refine G_getR (r := 56) (fl_X8_38.r) d_X8_sort_59 (wk_52 _) rfl rfl ?_
        refine G_iload_n d_X8_sort_62 rfl ?_
        refine G_iload d_X8_sort_63 rfl ?_
        refine G_i2bS d_X8_sort_65 (by omega) ?_
        refine G_bastj (p) d_X8_sort_66 (wk_56 _) (by omega) (by omega) (by decide) (by omega) ?_
        refine G_iload d_X8_sort_67 rfl ?_
        refine G_if_eq 94 d_X8_sort_69 (by decide) (by decide) (fun _ => ?_) (fun hd => absurd hd (by decide))
        refine G_iinc d_X8_sort_94 rfl (by decide) rfl ?_
        refine G_goto 34 d_X8_sort_97 (by decide) ?_
        have hls : lsF9 s p (k + 1) = (k : Int) := if_pos c55
        refine ih (by omega) _ _ (fun k2 hk2 => by rw [upm_off _ _ (by decide)]; exact hH1 k2 hk2) ?_ (fun q hq => ?_) (fun j hj => ?_) (fun j hj => ?_) (fun a h54 h56 => ?_)
        · rw [upm_same, hls]
        · rw [upm_ne _ _ (fun _ => hq)]; exact h56o q hq
        · rw [upm_off _ _ (by decide)]; 
          by_cases e : j = k
          · rw [e, hch k (Nat.le_refl _), hG.2.2.2.2.1 k (by omega)]
            exact congrArg Int.ofNat (if_neg hMk1).symm
          · exact hcl j (by omega)
        · rw [upm_off _ _ (by decide)]; exact hch j (by omega)
        · rw [upm_off _ _ h56]; exact hfr a h54 h56
  have L11 : pGone s p = true → pMk s p = 1 → ∀ k : Nat, k ≤ pN s → ∀ m1 (u7 : PV), CH s m1 → m1 56 p = lsF9 s p k → (∀ q, q ≠ p → m1 56 q = m 56 q) → (∀ j, j < k → m1 54 j = (cmF s j (p + 1) : Nat)) → (∀ j, k ≤ j → m1 54 j = m 54 j) → (∀ a, a ≠ 54 → a ≠ 56 → m1 a = m a) → G M_X8_sort 2 0 0 34 [rV 52, rV 1, rV 25, iV (p : Int), iV 1, iV 1, iV (k : Int), u7] [] (WC ++ w, m1) (fun r h => r = none ∧ ∃ m2, h = (WC ++ w, m2) ∧ GS s (p + 1) m2 ∧ (∀ a, a ≠ 52 → a ≠ 54 → a ≠ 55 → a ≠ 56 → m2 a = m a) ∧ m2 52 0 = m 52 0) := by
    intro hg hMk1
    have hMk := hV.Mk p (by omega)
    refine loop_up (pN s) _ ?_
    intro k hk ih m1 u7 hH1 h561 h56o hcl hch hfr
    refine G_iload d_X8_sort_34 rfl ?_
    refine G_aload_n d_X8_sort_36 rfl ?_
    refine G_getIe (v := (pN s : Int)) (fl_X8_18.r) d_X8_sort_37 (wk_52 _) rfl ((by rw [hfr 52 (by decide) (by decide)]; exact hG.1)) ?_
    refine G_icmp_ge 100 d_X8_sort_40 (by decide) (by omega) (by omega) (fun c40 => ?_) (fun c40 => ?_)
    · refine G_iload d_X8_sort_100 rfl ?_
      refine G_if_eq 115 d_X8_sort_102 (by decide) (by decide) (fun hd => absurd hd (by decide)) (fun _ => ?_)
      refine G_iload d_X8_sort_105 rfl ?_
      refine G_if_eq 115 d_X8_sort_107 (by decide) (by decide) (fun hd => absurd hd (by decide)) (fun _ => ?_)
      refine G_aload_n d_X8_sort_110 rfl ?_
      refine G_iconst d_X8_sort_111 ?_
      refine G_putZ fl_X8_15 d_X8_sort_112 (wk_52 _) rfl (by omega) ?_
      refine G_aload_n d_X8_sort_115 rfl ?_
      refine G_getR (r := 5) fl_X8_66 d_X8_sort_116 (wk_1 _) rfl rfl ?_
      refine G_iload_n d_X8_sort_119 rfl ?_
      refine G_baldj (p) d_X8_sort_120 (wk_5 _) (by omega) (by omega) (by decide) ?_
      rw [upm_off _ _ (by decide), hfr 5 (by decide) (by decide), hB.1.2.2.2.2.2 p (by omega), show s (227 + p) = pMk s p from rfl]
      refine G_if_ne 149 d_X8_sort_121 (by decide) (by omega) (fun c121 => ?_) (fun c121 => ?_)
      · refine G_vret (mc := 0) (ms := 0) (st := []) d_X8_sort_149 rfl ?_
        have hnot : ¬ pOther s p = true := by unfold pOther; simp [hMk1]
        have hLMf : LM (otl s (p + 1)) m1 := by rw [otl_f hnot]; exact hG.2.2.2.2.2.2.2.congr (hfr 55 (by decide) (by decide))
        have hke : k = pN s := by omega
        rw [hke] at h561 hcl
        refine ⟨rfl, _, rfl, ⟨by rw [upm_ne _ _ (fun _ => by decide), hfr 52 (by decide) (by decide)]; exact hG.1, by rw [upm_ne _ _ (fun _ => by decide), hfr 52 (by decide) (by decide)]; exact hG.2.1, (fun k2 hk2 => by rw [upm_off _ _ (by decide)]; exact hH1 k2 hk2), by rw [upm_same]; show _ = b1 (allN _ p && !(pMk s p == 1 && pGone s p)); rw [show (!(pMk s p == 1 && pGone s p)) = false by simp [hMk1, hg], Bool.and_false]; rfl, (fun k2 hk2 => by rw [upm_off _ _ (by decide)]; exact hcl k2 hk2), fun q hq => ?_, by rw [upm_ne _ _ (fun _ => by decide)]; rw [otl_f hnot, hfr 52 (by decide) (by decide)]; exact hG.2.2.2.2.2.2.1, hLMf.congr (upm_off _ _ (by decide))⟩, (fun a h52 h54 h55 h56 => by rw [upm_off _ _ h52]; exact hfr a h54 h56), by rw [upm_ne _ _ (fun _ => by decide), hfr 52 (by decide) (by decide)]⟩
        by_cases e : q = p
        · rw [e]; rw [upm_off _ _ (by decide)]; exact h561
        · rw [upm_off _ _ (by decide)]; rw [h56o q e]; exact hG.2.2.2.2.2.1 q (by omega)
      · omega
    · refine G_aload_n d_X8_sort_43 rfl ?_
      refine G_aload_n d_X8_sort_44 rfl ?_
      refine G_iload_n d_X8_sort_45 rfl ?_
      refine G_iload d_X8_sort_46 rfl ?_
      refine G_callV3 cl_X8_69 rfl d_X8_sort_48 (wk_52 _) (Nat.le_of_ble_eq_true rfl) (by decide) (sp_gap s hV (hB.2.2.1.keep2 (by rw [hfr 25 (by decide) (by decide)]) (hfr 26 (by decide) (by decide)) (hfr 27 (by decide) (by decide))) hH1 p k hp (by omega)) ?_
      rintro _ _ ⟨rfl, rfl⟩
      have hgr := gapD_rng hV p k
      refine G_istore d_X8_sort_51 (by decide) rfl ?_
      refine G_iload d_X8_sort_53 rfl ?_
      refine G_if_eq 67 d_X8_sort_55 (by decide) (by omega) (fun c55 => ?_) (fun c55 => ?_)
      · refine G_iload d_X8_sort_67 rfl ?_
        refine G_if_eq 94 d_X8_sort_69 (by decide) (by decide) (fun hd => absurd hd (by decide)) (fun _ => ?_)
        refine G_aload_n d_X8_sort_72 rfl ?_
        refine G_getR (r := 54) (fl_X8_29.r) d_X8_sort_73 (wk_52 _) rfl rfl ?_
        refine G_iload d_X8_sort_76 rfl ?_
        refine G_aload_n d_X8_sort_78 rfl ?_
        refine G_getR (r := 54) (fl_X8_29.r) d_X8_sort_79 (wk_52 _) rfl rfl ?_
        refine G_iload d_X8_sort_82 rfl ?_
        refine G_ialdj (k) d_X8_sort_84 (wk_54 _) (by omega) (by omega) (by decide) ?_
        rw [hch k (Nat.le_refl _), hG.2.2.2.2.1 k (by omega)]
        refine G_iload d_X8_sort_85 rfl ?_
        refine G_callS1 cl_X8_73 d_X8_sort_87 (Nat.le_of_ble_eq_true rfl) (by decide) (sp_abs (by omega)) ?_
        rintro _ _ ⟨rfl, rfl⟩
        refine G_callS2 cl_X8_79 d_X8_sort_90 (Nat.le_of_ble_eq_true rfl) (by decide) (sp_divisorOf (cmF s k p) (gapD s p k).natAbs (by have := cmF_rng hV k p; omega) (by omega)) ?_
        rintro _ _ ⟨rfl, rfl⟩
        refine G_iastj (k) d_X8_sort_93 (wk_54 _) (by omega) (by omega) (by decide) ?_
        refine G_iinc d_X8_sort_94 rfl (by decide) rfl ?_
        refine G_goto 34 d_X8_sort_97 (by decide) ?_
        have hls : lsF9 s p (k + 1) = lsF9 s p k := if_neg (fun h => h c55)
        refine ih (by omega) _ _ (fun k2 hk2 => by rw [upm_off _ _ (by decide)]; exact hH1 k2 hk2) ?_ (fun q hq => ?_) (fun j hj => ?_) (fun j hj => ?_) (fun a h54 h56 => ?_)
        · rw [upm_off _ _ (by decide)]; rw [hls]; exact h561
        · rw [upm_off _ _ (by decide)]; exact h56o q hq
        · by_cases e : j = k
          · rw [e, upm_same]
            exact congrArg Int.ofNat (if_pos hMk1).symm
          · rw [upm_ne _ _ (fun _ => e)]; exact hcl j (by omega)
        · rw [upm_ne _ _ (fun _ => by omega)]; exact hch j (by omega)
        · rw [upm_off _ _ h54]; exact hfr a h54 h56
      · refine G_aload_n d_X8_sort_58 rfl ?_
        refine G_getR (r := 56) (fl_X8_38.r) d_X8_sort_59 (wk_52 _) rfl rfl ?_
        refine G_iload_n d_X8_sort_62 rfl ?_
        refine G_iload d_X8_sort_63 rfl ?_
        refine G_i2bS d_X8_sort_65 (by omega) ?_
        refine G_bastj (p) d_X8_sort_66 (wk_56 _) (by omega) (by omega) (by decide) (by omega) ?_
        refine G_iload d_X8_sort_67 rfl ?_
        refine G_if_eq 94 d_X8_sort_69 (by decide) (by decide) (fun hd => absurd hd (by decide)) (fun _ => ?_)
        refine G_aload_n d_X8_sort_72 rfl ?_
        refine G_getR (r := 54) (fl_X8_29.r) d_X8_sort_73 (wk_52 _) rfl rfl ?_
        refine G_iload d_X8_sort_76 rfl ?_
        refine G_aload_n d_X8_sort_78 rfl ?_
        refine G_getR (r := 54) (fl_X8_29.r) d_X8_sort_79 (wk_52 _) rfl rfl ?_
        refine G_iload d_X8_sort_82 rfl ?_
        refine G_ialdj (k) d_X8_sort_84 (wk_54 _) (by omega) (by omega) (by decide) ?_
        rw [upm_off _ _ (by decide), hch k (Nat.le_refl _), hG.2.2.2.2.1 k (by omega)]
        refine G_iload d_X8_sort_85 rfl ?_
        refine G_callS1 cl_X8_73 d_X8_sort_87 (Nat.le_of_ble_eq_true rfl) (by decide) (sp_abs (by omega)) ?_
        rintro _ _ ⟨rfl, rfl⟩
        refine G_callS2 cl_X8_79 d_X8_sort_90 (Nat.le_of_ble_eq_true rfl) (by decide) (sp_divisorOf (cmF s k p) (gapD s p k).natAbs (by have := cmF_rng hV k p; omega) (by omega)) ?_
        rintro _ _ ⟨rfl, rfl⟩
        refine G_iastj (k) d_X8_sort_93 (wk_54 _) (by omega) (by omega) (by decide) ?_
        refine G_iinc d_X8_sort_94 rfl (by decide) rfl ?_
        refine G_goto 34 d_X8_sort_97 (by decide) ?_
        have hls : lsF9 s p (k + 1) = (k : Int) := if_pos c55
        refine ih (by omega) _ _ (fun k2 hk2 => by rw [upm_off _ _ (by decide), upm_off _ _ (by decide)]; exact hH1 k2 hk2) ?_ (fun q hq => ?_) (fun j hj => ?_) (fun j hj => ?_) (fun a h54 h56 => ?_)
        · rw [upm_off _ _ (by decide), upm_same, hls]
        · rw [upm_off _ _ (by decide), upm_ne _ _ (fun _ => hq)]; exact h56o q hq
        · by_cases e : j = k
          · rw [e, upm_same]
            exact congrArg Int.ofNat (if_pos hMk1).symm
          · rw [upm_ne _ _ (fun _ => e), upm_off _ _ (by decide)]; exact hcl j (by omega)
        · rw [upm_ne _ _ (fun _ => by omega), upm_off _ _ (by decide)]; exact hch j (by omega)
        · rw [upm_off _ _ h54, upm_off _ _ h56]; exact hfr a h54 h56
  refine G_aload_n d_X8_sort_0 rfl ?_
  refine G_iload_n d_X8_sort_1 rfl ?_
  have hWp := hW p hp
  have hwr := pWt_rng hV p
  refine G_callV1 cl_X8_62 rfl d_X8_sort_2 (wk_25 _) (Nat.le_of_ble_eq_true rfl) (by decide) (sp_isGoneP p (by omega) (by rw [hWp.2]; split <;> omega) (by rw [hWp.1]; omega)) ?_
  rintro _ _ ⟨rfl, rfl⟩
  rw [gone_eq hW hp]
  by_cases hg : pGone s p = true
  · rw [if_pos hg]
    refine G_istore d_X8_sort_5 (by decide) rfl ?_
    refine G_aload_n d_X8_sort_7 rfl ?_
    refine G_getR (r := 5) fl_X8_66 d_X8_sort_8 (wk_1 _) rfl rfl ?_
    refine G_iload_n d_X8_sort_11 rfl ?_
    refine G_baldj (p) d_X8_sort_12 (wk_5 _) (by omega) (by omega) (by decide) ?_
    rw [hB.1.2.2.2.2.2 p (by omega), show s (227 + p) = pMk s p from rfl]
    have hMk := hV.Mk p (by omega)
    refine G_iconst d_X8_sort_13 ?_
    refine G_icmp_ne 21 d_X8_sort_14 (by decide) (by omega) (by omega) (fun c14 => ?_) (fun c14 => ?_)
    · refine G_iconst d_X8_sort_21 ?_
      refine G_istore d_X8_sort_22 (by decide) rfl ?_
      refine G_aload_n d_X8_sort_24 rfl ?_
      refine G_getR (r := 56) (fl_X8_38.r) d_X8_sort_25 (wk_52 _) rfl rfl ?_
      refine G_iload_n d_X8_sort_28 rfl ?_
      refine G_iconst d_X8_sort_29 ?_
      refine G_bastj (p) d_X8_sort_30 (wk_56 _) (by omega) (by omega) (by decide) (by omega) ?_
      refine G_iconst d_X8_sort_31 ?_
      refine G_istore d_X8_sort_32 (by decide) rfl ?_
      first | exact L00 hg (by omega) 0 (by omega) _ _ (fun k2 hk2 => by rw [upm_off _ _ (by decide)]; exact hG.2.2.1 k2 hk2) (upm_same _ _ _ _) (fun q hq => upm_ne _ _ (fun _ => hq)) (fun j hj => absurd hj (by omega)) (fun j _ => by rw [upm_off _ _ (by decide)]) (fun a h54 h56 => upm_off _ _ h56) | exact L01 hg (by omega) 0 (by omega) _ _ (fun k2 hk2 => by rw [upm_off _ _ (by decide)]; exact hG.2.2.1 k2 hk2) (upm_same _ _ _ _) (fun q hq => upm_ne _ _ (fun _ => hq)) (fun j hj => absurd hj (by omega)) (fun j _ => by rw [upm_off _ _ (by decide)]) (fun a h54 h56 => upm_off _ _ h56) | exact L10 hg (by omega) 0 (by omega) _ _ (fun k2 hk2 => by rw [upm_off _ _ (by decide)]; exact hG.2.2.1 k2 hk2) (upm_same _ _ _ _) (fun q hq => upm_ne _ _ (fun _ => hq)) (fun j hj => absurd hj (by omega)) (fun j _ => by rw [upm_off _ _ (by decide)]) (fun a h54 h56 => upm_off _ _ h56) | exact L11 hg (by omega) 0 (by omega) _ _ (fun k2 hk2 => by rw [upm_off _ _ (by decide)]; exact hG.2.2.1 k2 hk2) (upm_same _ _ _ _) (fun q hq => upm_ne _ _ (fun _ => hq)) (fun j hj => absurd hj (by omega)) (fun j _ => by rw [upm_off _ _ (by decide)]) (fun a h54 h56 => upm_off _ _ h56)
    · refine G_iconst d_X8_sort_17 ?_
      refine G_goto 22 d_X8_sort_18 (by decide) ?_
      refine G_istore d_X8_sort_22 (by decide) rfl ?_
      refine G_aload_n d_X8_sort_24 rfl ?_
      refine G_getR (r := 56) (fl_X8_38.r) d_X8_sort_25 (wk_52 _) rfl rfl ?_
      refine G_iload_n d_X8_sort_28 rfl ?_
      refine G_iconst d_X8_sort_29 ?_
      refine G_bastj (p) d_X8_sort_30 (wk_56 _) (by omega) (by omega) (by decide) (by omega) ?_
      refine G_iconst d_X8_sort_31 ?_
      refine G_istore d_X8_sort_32 (by decide) rfl ?_
      first | exact L00 hg (by omega) 0 (by omega) _ _ (fun k2 hk2 => by rw [upm_off _ _ (by decide)]; exact hG.2.2.1 k2 hk2) (upm_same _ _ _ _) (fun q hq => upm_ne _ _ (fun _ => hq)) (fun j hj => absurd hj (by omega)) (fun j _ => by rw [upm_off _ _ (by decide)]) (fun a h54 h56 => upm_off _ _ h56) | exact L01 hg (by omega) 0 (by omega) _ _ (fun k2 hk2 => by rw [upm_off _ _ (by decide)]; exact hG.2.2.1 k2 hk2) (upm_same _ _ _ _) (fun q hq => upm_ne _ _ (fun _ => hq)) (fun j hj => absurd hj (by omega)) (fun j _ => by rw [upm_off _ _ (by decide)]) (fun a h54 h56 => upm_off _ _ h56) | exact L10 hg (by omega) 0 (by omega) _ _ (fun k2 hk2 => by rw [upm_off _ _ (by decide)]; exact hG.2.2.1 k2 hk2) (upm_same _ _ _ _) (fun q hq => upm_ne _ _ (fun _ => hq)) (fun j hj => absurd hj (by omega)) (fun j _ => by rw [upm_off _ _ (by decide)]) (fun a h54 h56 => upm_off _ _ h56) | exact L11 hg (by omega) 0 (by omega) _ _ (fun k2 hk2 => by rw [upm_off _ _ (by decide)]; exact hG.2.2.1 k2 hk2) (upm_same _ _ _ _) (fun q hq => upm_ne _ _ (fun _ => hq)) (fun j hj => absurd hj (by omega)) (fun j _ => by rw [upm_off _ _ (by decide)]) (fun a h54 h56 => upm_off _ _ h56)
  · rw [if_neg hg]
    refine G_istore d_X8_sort_5 (by decide) rfl ?_
    refine G_aload_n d_X8_sort_7 rfl ?_
    refine G_getR (r := 5) fl_X8_66 d_X8_sort_8 (wk_1 _) rfl rfl ?_
    refine G_iload_n d_X8_sort_11 rfl ?_
    refine G_baldj (p) d_X8_sort_12 (wk_5 _) (by omega) (by omega) (by decide) ?_
    rw [hB.1.2.2.2.2.2 p (by omega), show s (227 + p) = pMk s p from rfl]
    have hMk := hV.Mk p (by omega)
    refine G_iconst d_X8_sort_13 ?_
    refine G_icmp_ne 21 d_X8_sort_14 (by decide) (by omega) (by omega) (fun c14 => ?_) (fun c14 => ?_)
    · refine G_iconst d_X8_sort_21 ?_
      refine G_istore d_X8_sort_22 (by decide) rfl ?_
      refine G_aload_n d_X8_sort_24 rfl ?_
      refine G_getR (r := 56) (fl_X8_38.r) d_X8_sort_25 (wk_52 _) rfl rfl ?_
      refine G_iload_n d_X8_sort_28 rfl ?_
      refine G_iconst d_X8_sort_29 ?_
      refine G_bastj (p) d_X8_sort_30 (wk_56 _) (by omega) (by omega) (by decide) (by omega) ?_
      refine G_iconst d_X8_sort_31 ?_
      refine G_istore d_X8_sort_32 (by decide) rfl ?_
      first | exact L00 hg (by omega) 0 (by omega) _ _ (fun k2 hk2 => by rw [upm_off _ _ (by decide)]; exact hG.2.2.1 k2 hk2) (upm_same _ _ _ _) (fun q hq => upm_ne _ _ (fun _ => hq)) (fun j hj => absurd hj (by omega)) (fun j _ => by rw [upm_off _ _ (by decide)]) (fun a h54 h56 => upm_off _ _ h56) | exact L01 hg (by omega) 0 (by omega) _ _ (fun k2 hk2 => by rw [upm_off _ _ (by decide)]; exact hG.2.2.1 k2 hk2) (upm_same _ _ _ _) (fun q hq => upm_ne _ _ (fun _ => hq)) (fun j hj => absurd hj (by omega)) (fun j _ => by rw [upm_off _ _ (by decide)]) (fun a h54 h56 => upm_off _ _ h56) | exact L10 hg (by omega) 0 (by omega) _ _ (fun k2 hk2 => by rw [upm_off _ _ (by decide)]; exact hG.2.2.1 k2 hk2) (upm_same _ _ _ _) (fun q hq => upm_ne _ _ (fun _ => hq)) (fun j hj => absurd hj (by omega)) (fun j _ => by rw [upm_off _ _ (by decide)]) (fun a h54 h56 => upm_off _ _ h56) | exact L11 hg (by omega) 0 (by omega) _ _ (fun k2 hk2 => by rw [upm_off _ _ (by decide)]; exact hG.2.2.1 k2 hk2) (upm_same _ _ _ _) (fun q hq => upm_ne _ _ (fun _ => hq)) (fun j hj => absurd hj (by omega)) (fun j _ => by rw [upm_off _ _ (by decide)]) (fun a h54 h56 => upm_off _ _ h56)
    · refine G_iconst d_X8_sort_17 ?_
      refine G_goto 22 d_X8_sort_18 (by decide) ?_
      refine G_istore d_X8_sort_22 (by decide) rfl ?_
      refine G_aload_n d_X8_sort_24 rfl ?_
      refine G_getR (r := 56) (fl_X8_38.r) d_X8_sort_25 (wk_52 _) rfl rfl ?_
      refine G_iload_n d_X8_sort_28 rfl ?_
      refine G_iconst d_X8_sort_29 ?_
      refine G_bastj (p) d_X8_sort_30 (wk_56 _) (by omega) (by omega) (by decide) (by omega) ?_
      refine G_iconst d_X8_sort_31 ?_
      refine G_istore d_X8_sort_32 (by decide) rfl ?_
      first | exact L00 hg (by omega) 0 (by omega) _ _ (fun k2 hk2 => by rw [upm_off _ _ (by decide)]; exact hG.2.2.1 k2 hk2) (upm_same _ _ _ _) (fun q hq => upm_ne _ _ (fun _ => hq)) (fun j hj => absurd hj (by omega)) (fun j _ => by rw [upm_off _ _ (by decide)]) (fun a h54 h56 => upm_off _ _ h56) | exact L01 hg (by omega) 0 (by omega) _ _ (fun k2 hk2 => by rw [upm_off _ _ (by decide)]; exact hG.2.2.1 k2 hk2) (upm_same _ _ _ _) (fun q hq => upm_ne _ _ (fun _ => hq)) (fun j hj => absurd hj (by omega)) (fun j _ => by rw [upm_off _ _ (by decide)]) (fun a h54 h56 => upm_off _ _ h56) | exact L10 hg (by omega) 0 (by omega) _ _ (fun k2 hk2 => by rw [upm_off _ _ (by decide)]; exact hG.2.2.1 k2 hk2) (upm_same _ _ _ _) (fun q hq => upm_ne _ _ (fun _ => hq)) (fun j hj => absurd hj (by omega)) (fun j _ => by rw [upm_off _ _ (by decide)]) (fun a h54 h56 => upm_off _ _ h56) | exact L11 hg (by omega) 0 (by omega) _ _ (fun k2 hk2 => by rw [upm_off _ _ (by decide)]; exact hG.2.2.1 k2 hk2) (upm_same _ _ _ _) (fun q hq => upm_ne _ _ (fun _ => hq)) (fun j hj => absurd hj (by omega)) (fun j _ => by rw [upm_off _ _ (by decide)]) (fun a h54 h56 => upm_off _ _ h56)
