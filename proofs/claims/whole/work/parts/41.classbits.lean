/-! the class's lengths without one; its counters exchanged; its rows taken -/
def sbN (s : Nat → Int) (j : Nat) : Nat → Nat
  | 0 => 1
  | i + 1 => if i = j then sbN s j i else sbN s j i * pL s i
theorem sbN_oth {s : Nat → Int} {j : Nat} (hj : j < 4) : sbN s j 4 = oth s j := by
  unfold oth
  rcases (show j = 0 ∨ j = 1 ∨ j = 2 ∨ j = 3 by omega) with rfl | rfl | rfl | rfl <;> simp [sbN]
theorem sbN_rng {s : Nat → Int} (h : VS s) (j : Nat) : ∀ i, i ≤ 4 → 1 ≤ sbN s j i ∧ sbN s j i ≤ 12 ^ i
  | 0, _ => ⟨Nat.le_refl _, Nat.le_refl _⟩
  | i + 1, hi => by
    have h1 := sbN_rng h j i (by omega)
    have h2 := h.L i (by omega)
    unfold sbN
    have h3 : 12 ^ (i + 1) = 12 ^ i * 12 := Nat.pow_succ _ _
    by_cases e : i = j
    · rw [if_pos e]; omega
    · rw [if_neg e, h3]
      exact ⟨Nat.mul_pos (by omega) (by omega), Nat.mul_le_mul h1.2 h2.2.1⟩
theorem sbN_le {s : Nat → Int} (h : VS s) (j i : Nat) (hi : i ≤ 4) : 1 ≤ sbN s j i ∧ sbN s j i ≤ 20736 := by
  have h1 := sbN_rng h j i hi
  have h2 : 12 ^ i ≤ 20736 := by
    rcases (show i = 0 ∨ i = 1 ∨ i = 2 ∨ i = 3 ∨ i = 4 by omega) with e | e | e | e | e <;> rw [e] <;> decide
  omega
theorem sp_scansBut {w : List KD} {m : Nat → Nat → Int} (s : Nat → Int) (hV : VS s) (hC : CY s m) (j : Nat) (hj : j < 4) : Sp M_X1_scansBut 0 0 0 [rV 6, iV (j : Int)] (WC ++ w, m) (fun r h => r = some (iV (oth s j : Int)) ∧ h = (WC ++ w, m)) := by
  refine Sp.ofG (ls := [rV 6, iV (j : Int), uV, uV]) (by decide +kernel) rfl (Nat.le_of_ble_eq_true rfl) ?_
  have L : ∀ i : Nat, i ≤ 4 → G M_X1_scansBut 0 0 0 4 [rV 6, iV (j : Int), iV (sbN s j i : Int), iV (i : Int)] [] (WC ++ w, m) (fun r h => r = some (iV (oth s j : Int)) ∧ h = (WC ++ w, m)) := by
    refine loop_up (4) _ ?_
    intro i hi ih
    refine G_iload_n d_X1_scansBut_4 rfl ?_
    refine G_iconst d_X1_scansBut_5 ?_
    refine G_icmp_ge 29 d_X1_scansBut_6 (by decide) (by omega) (by omega) (fun c6 => ?_) (fun c6 => ?_)
    · refine G_iload_n d_X1_scansBut_29 rfl ?_
      refine G_iret (mc := 0) (ms := 0) (st := []) d_X1_scansBut_30 rfl ?_
      have hi4 : i = 4 := by omega
      subst hi4
      exact ⟨by rw [sbN_oth hj], rfl⟩
    · refine G_iload_n d_X1_scansBut_9 rfl ?_
      refine G_iload_n d_X1_scansBut_10 rfl ?_
      refine G_icmp_eq 23 d_X1_scansBut_11 (by decide) (by omega) (by omega) (fun c11 => ?_) (fun c11 => ?_)
      · refine G_iinc d_X1_scansBut_23 rfl (by decide) rfl ?_
        refine G_goto 4 d_X1_scansBut_26 (by decide) ?_
        have e1 : sbN s j (i + 1) = sbN s j i := if_pos (by omega)
        rw [e1] at ih
        exact ih (by omega)
      · refine G_iload_n d_X1_scansBut_14 rfl ?_
        refine G_aload_n d_X1_scansBut_15 rfl ?_
        refine G_getR (r := 7) (fl_X1_19.r) d_X1_scansBut_16 (wk_6 _) rfl rfl ?_
        refine G_iload_n d_X1_scansBut_19 rfl ?_
        refine G_ialdj (i) d_X1_scansBut_20 (wk_7 _) (by omega) (by omega) (by decide) ?_
        rw [hC.2.1 i (by omega)]
        refine G_imul d_X1_scansBut_21 ?_
        refine G_istore_n d_X1_scansBut_22 (by decide) rfl ?_
        refine G_iinc d_X1_scansBut_23 rfl (by decide) rfl ?_
        refine G_goto 4 d_X1_scansBut_26 (by decide) ?_
        have e1 : sbN s j (i + 1) = sbN s j i * pL s i := if_neg (by omega)
        rw [e1, Int.natCast_mul] at ih
        exact ih (by omega)
  refine G_iconst d_X1_scansBut_0 ?_
  refine G_istore_n d_X1_scansBut_1 (by decide) rfl ?_
  refine G_iconst d_X1_scansBut_2 ?_
  refine G_istore_n d_X1_scansBut_3 (by decide) rfl ?_
  exact L 0 (by omega)
def exM (m : Nat → Nat → Int) (a b k : Nat) : Nat → Nat → Int := fun c i => if c = 7 then (if i = a then m 7 b else if i = b then m 7 a else m 7 i) else if c = 8 then (if i < 4 * k ∧ i % 4 = a then m 8 (i - a + b) else if i < 4 * k ∧ i % 4 = b then m 8 (i - b + a) else m 8 i) else m c i
theorem exM_off (m : Nat → Nat → Int) {a b k c : Nat} (h7 : c ≠ 7) (h8 : c ≠ 8) : exM m a b k c = m c := by
  funext i
  unfold exM
  rw [if_neg h7, if_neg h8]
theorem exM_0 (m : Nat → Nat → Int) (a b : Nat) (hab : a ≠ b) : upm (upm m 7 a (m 7 b)) 7 b (m 7 a) = exM m a b 0 := by
  funext c i
  unfold upm exM
  by_cases hc : c = 7
  · subst hc
    rw [if_pos rfl]
    by_cases h1 : i = a
    · rw [if_neg (by omega), if_pos ⟨rfl, h1⟩, if_pos h1]
    · rw [if_neg h1]
      by_cases h2 : i = b
      · rw [if_pos ⟨rfl, h2⟩, if_pos h2]
      · rw [if_neg (by omega), if_neg (by omega), if_neg h2]
  · rw [if_neg (fun h => hc h.1), if_neg (fun h => hc h.1), if_neg hc]
    by_cases h8 : c = 8
    · rw [if_pos h8, if_neg (by omega), if_neg (by omega), h8]
    · rw [if_neg h8]
theorem exM_step (m : Nat → Nat → Int) {a b k : Nat} (ha : a < 4) (hb : b < 4) (hab : a ≠ b) : upm (upm (exM m a b k) 8 (4 * k + a) (exM m a b k 8 (4 * k + b))) 8 (4 * k + b) (exM m a b k 8 (4 * k + a)) = exM m a b (k + 1) := by
  have e1 : exM m a b k 8 (4 * k + b) = m 8 (4 * k + b) := by unfold exM; rw [if_neg (by decide), if_pos rfl, if_neg (by omega), if_neg (by omega)]
  have e2 : exM m a b k 8 (4 * k + a) = m 8 (4 * k + a) := by unfold exM; rw [if_neg (by decide), if_pos rfl, if_neg (by omega), if_neg (by omega)]
  rw [e1, e2]
  funext c i
  by_cases h8 : c = 8
  · subst h8
    by_cases h1 : i = 4 * k + b
    · rw [show exM m a b (k + 1) 8 i = m 8 (i - b + a) by unfold exM; rw [if_neg (by decide), if_pos rfl, if_neg (by omega), if_pos (by omega)]]
      unfold upm
      rw [if_pos ⟨rfl, h1⟩]
      congr 1
      omega
    · by_cases h2 : i = 4 * k + a
      · rw [show exM m a b (k + 1) 8 i = m 8 (i - a + b) by unfold exM; rw [if_neg (by decide), if_pos rfl, if_pos (by omega)]]
        unfold upm
        rw [if_neg (by omega), if_pos ⟨rfl, h2⟩]
        congr 1
        omega
      · unfold upm
        rw [if_neg (by omega), if_neg (by omega)]
        unfold exM
        have e7 : ¬ (8 : Nat) = 7 := by decide
        rw [if_neg e7, if_pos rfl, if_neg e7, if_pos rfl]
        by_cases h5 : i < 4 * k ∧ i % 4 = a
        · rw [if_pos h5, if_pos (by omega)]
        have h5' : ¬ (i < 4 * (k + 1) ∧ i % 4 = a) := by omega
        rw [if_neg h5, if_neg h5']
        by_cases h6 : i < 4 * k ∧ i % 4 = b
        · rw [if_pos h6, if_pos (by omega)]
        have h6' : ¬ (i < 4 * (k + 1) ∧ i % 4 = b) := by omega
        rw [if_neg h6, if_neg h6']
  · unfold upm
    rw [if_neg (fun h => h8 h.1), if_neg (fun h => h8 h.1)]
    unfold exM
    by_cases h7 : c = 7
    · rw [if_pos h7, if_pos h7]
    · rw [if_neg h7, if_neg h7, if_neg h8, if_neg h8]
theorem sp_exchange {w : List KD} {m : Nat → Nat → Int} (a b : Nat) (ha : a < 4) (hb : b < 4) (hab : a ≠ b) : Sp M_X1_exchange 0 0 0 [rV 6, iV (a : Int), iV (b : Int)] (WC ++ w, m) (fun r h => r = none ∧ h = (WC ++ w, exM m a b 6)) := by
  refine Sp.ofG (ls := [rV 6, iV (a : Int), iV (b : Int), uV, uV, uV]) (by decide +kernel) rfl (Nat.le_of_ble_eq_true rfl) ?_
  have L : ∀ k : Nat, k ≤ 6 → ∀ u5 : PV, pcat u5 ≠ 2 → G M_X1_exchange 0 0 0 29 [rV 6, iV (a : Int), iV (b : Int), iV (m 7 a), iV (k : Int), u5] [] (WC ++ w, exM m a b k) (fun r h => r = none ∧ h = (WC ++ w, exM m a b 6)) := by
    refine loop_up (6) _ ?_
    intro k hk ih u5 hu5
    refine G_iload d_X1_exchange_29 rfl ?_
    refine G_bipush d_X1_exchange_31 (by decide) ?_
    refine G_icmp_ge 90 d_X1_exchange_33 (by decide) (by omega) (by omega) (fun c33 => ?_) (fun c33 => ?_)
    · refine G_vret (mc := 0) (ms := 0) (st := []) d_X1_exchange_90 rfl ?_
      have hk6 : k = 6 := by omega
      subst hk6
      exact ⟨rfl, rfl⟩
    · refine G_aload_n d_X1_exchange_36 rfl ?_
      refine G_getR (r := 8) (fl_X1_23.r) d_X1_exchange_37 (wk_6 _) rfl rfl ?_
      refine G_iload d_X1_exchange_40 rfl ?_
      refine G_iconst d_X1_exchange_42 ?_
      refine G_imul d_X1_exchange_43 ?_
      refine G_iload_n d_X1_exchange_44 rfl ?_
      refine G_iadd d_X1_exchange_45 ?_
      refine G_ialdj (4 * k + a) d_X1_exchange_46 (wk_8 _) (by omega) (by omega) (by decide) ?_
      refine G_istore d_X1_exchange_47 (by decide) rfl ?_
      refine G_aload_n d_X1_exchange_49 rfl ?_
      refine G_getR (r := 8) (fl_X1_23.r) d_X1_exchange_50 (wk_6 _) rfl rfl ?_
      refine G_iload d_X1_exchange_53 rfl ?_
      refine G_iconst d_X1_exchange_55 ?_
      refine G_imul d_X1_exchange_56 ?_
      refine G_iload_n d_X1_exchange_57 rfl ?_
      refine G_iadd d_X1_exchange_58 ?_
      refine G_aload_n d_X1_exchange_59 rfl ?_
      refine G_getR (r := 8) (fl_X1_23.r) d_X1_exchange_60 (wk_6 _) rfl rfl ?_
      refine G_iload d_X1_exchange_63 rfl ?_
      refine G_iconst d_X1_exchange_65 ?_
      refine G_imul d_X1_exchange_66 ?_
      refine G_iload_n d_X1_exchange_67 rfl ?_
      refine G_iadd d_X1_exchange_68 ?_
      refine G_ialdj (4 * k + b) d_X1_exchange_69 (wk_8 _) (by omega) (by omega) (by decide) ?_
      refine G_iastj (4 * k + a) d_X1_exchange_70 (wk_8 _) (by omega) (by omega) (by decide) ?_
      refine G_aload_n d_X1_exchange_71 rfl ?_
      refine G_getR (r := 8) (fl_X1_23.r) d_X1_exchange_72 (wk_6 _) rfl rfl ?_
      refine G_iload d_X1_exchange_75 rfl ?_
      refine G_iconst d_X1_exchange_77 ?_
      refine G_imul d_X1_exchange_78 ?_
      refine G_iload_n d_X1_exchange_79 rfl ?_
      refine G_iadd d_X1_exchange_80 ?_
      refine G_iload d_X1_exchange_81 rfl ?_
      refine G_iastj (4 * k + b) d_X1_exchange_83 (wk_8 _) (by omega) (by omega) (by decide) ?_
      refine G_iinc d_X1_exchange_84 rfl (by decide) rfl ?_
      refine G_goto 29 d_X1_exchange_87 (by decide) ?_
      rw [exM_step _ ha hb hab]
      exact ih (by omega) _ (by show (1 : Nat) ≠ 2; decide)
  refine G_aload_n d_X1_exchange_0 rfl ?_
  refine G_getR (r := 7) (fl_X1_19.r) d_X1_exchange_1 (wk_6 _) rfl rfl ?_
  refine G_iload_n d_X1_exchange_4 rfl ?_
  refine G_ialdj (a) d_X1_exchange_5 (wk_7 _) (by omega) (by omega) (by decide) ?_
  refine G_istore_n d_X1_exchange_6 (by decide) rfl ?_
  refine G_aload_n d_X1_exchange_7 rfl ?_
  refine G_getR (r := 7) (fl_X1_19.r) d_X1_exchange_8 (wk_6 _) rfl rfl ?_
  refine G_iload_n d_X1_exchange_11 rfl ?_
  refine G_aload_n d_X1_exchange_12 rfl ?_
  refine G_getR (r := 7) (fl_X1_19.r) d_X1_exchange_13 (wk_6 _) rfl rfl ?_
  refine G_iload_n d_X1_exchange_16 rfl ?_
  refine G_ialdj (b) d_X1_exchange_17 (wk_7 _) (by omega) (by omega) (by decide) ?_
  refine G_iastj (a) d_X1_exchange_18 (wk_7 _) (by omega) (by omega) (by decide) ?_
  refine G_aload_n d_X1_exchange_19 rfl ?_
  refine G_getR (r := 7) (fl_X1_19.r) d_X1_exchange_20 (wk_6 _) rfl rfl ?_
  refine G_iload_n d_X1_exchange_23 rfl ?_
  refine G_iload_n d_X1_exchange_24 rfl ?_
  refine G_iastj (b) d_X1_exchange_25 (wk_7 _) (by omega) (by omega) (by decide) ?_
  refine G_iconst d_X1_exchange_26 ?_
  refine G_istore d_X1_exchange_27 (by decide) rfl ?_
  rw [exM_0 m a b hab]
  exact L 0 (by omega) _ (by decide)
def mx2 (m : Nat → Nat → Int) (k : Nat) : Nat → Nat → Int := fun c i => if c = 10 ∧ i < k then max 1 (m 24 i) else if c = 9 ∧ i < 144 then m 23 i else m c i
theorem mx2_0 (m : Nat → Nat → Int) : cpm m 23 9 144 = mx2 m 0 := by
  funext c i
  unfold cpm mx2
  have hn : ¬ (c = 10 ∧ i < 0) := fun e => absurd e.2 (Nat.not_lt_zero _)
  rw [if_neg hn]
theorem mx2_at (m : Nat → Nat → Int) (k c : Nat) (h : c ≠ 9) (h2 : c ≠ 10) : mx2 m k c = m c := by
  funext i
  unfold mx2
  rw [if_neg (fun e => h2 e.1), if_neg (fun e => h e.1)]
theorem mx2_step (m : Nat → Nat → Int) (k : Nat) : upm (mx2 m k) 10 k (max 1 (m 24 k)) = mx2 m (k + 1) := by
  funext c i
  unfold upm mx2
  by_cases h : c = 10 ∧ i = k
  · rw [if_pos h, if_pos ⟨h.1, by omega⟩, h.2]
  · rw [if_neg h]
    by_cases d : c = 10 ∧ i < k
    · rw [if_pos d, if_pos ⟨d.1, by omega⟩]
    · have d' : ¬ (c = 10 ∧ i < k + 1) := fun e => by
        by_cases x : i = k
        · exact h ⟨e.1, x⟩
        · exact d ⟨e.1, by omega⟩
      rw [if_neg d, if_neg d']
theorem sp_takeRows {w : List KD} {m : Nat → Nat → Int} (h24 : ∀ k, k < 6 → 0 ≤ m 24 k ∧ m 24 k ≤ 24) : Sp M_X1_takeRows 1 0 0 [rV 6, rV 23, rV 24] (WC ++ w, m) (fun r h => r = none ∧ h = (WC ++ w, mx2 m 6)) := by
  refine Sp.ofG (ls := [rV 6, rV 23, rV 24, uV]) (by decide +kernel) rfl (Nat.le_of_ble_eq_true rfl) ?_
  have L : ∀ k : Nat, k ≤ 6 → G M_X1_takeRows 1 0 0 17 [rV 6, rV 23, rV 24, iV (k : Int)] [] (WC ++ w, mx2 m k) (fun r h => r = none ∧ h = (WC ++ w, mx2 m 6)) := by
    refine loop_up (6) _ ?_
    intro k hk ih
    refine G_iload_n d_X1_takeRows_17 rfl ?_
    refine G_bipush d_X1_takeRows_18 (by decide) ?_
    refine G_icmp_ge 42 d_X1_takeRows_20 (by decide) (by omega) (by omega) (fun c20 => ?_) (fun c20 => ?_)
    · refine G_vret (mc := 0) (ms := 0) (st := []) d_X1_takeRows_42 rfl ?_
      have hk6 : k = 6 := by omega
      subst hk6
      exact ⟨rfl, rfl⟩
    · refine G_aload_n d_X1_takeRows_23 rfl ?_
      refine G_getR (r := 10) (fl_X1_29.r) d_X1_takeRows_24 (wk_6 _) rfl rfl ?_
      refine G_iload_n d_X1_takeRows_27 rfl ?_
      refine G_iconst d_X1_takeRows_28 ?_
      refine G_aload_n d_X1_takeRows_29 rfl ?_
      refine G_iload_n d_X1_takeRows_30 rfl ?_
      refine G_ialdj (k) d_X1_takeRows_31 (wk_24 _) (by omega) (by omega) (by decide) ?_
      rw [mx2_at _ _ _ (by decide) (by decide)]
      have h24k := h24 k (by omega)
      refine G_callS2 cl_X1_47 d_X1_takeRows_32 (Nat.le_of_ble_eq_true rfl) (by decide) (sp_max (by omega) (by omega)) ?_
      rintro _ _ ⟨rfl, rfl⟩
      refine G_iastj (k) d_X1_takeRows_35 (wk_10 _) (by omega) (by omega) (by decide) ?_
      refine G_iinc d_X1_takeRows_36 rfl (by decide) rfl ?_
      refine G_goto 17 d_X1_takeRows_39 (by decide) ?_
      rw [mx2_step]
      exact ih (by omega)
  refine G_aload_n d_X1_takeRows_0 rfl ?_
  refine G_iconst d_X1_takeRows_1 ?_
  refine G_aload_n d_X1_takeRows_2 rfl ?_
  refine G_getR (r := 9) (fl_X1_26.r) d_X1_takeRows_3 (wk_6 _) rfl rfl ?_
  refine G_iconst d_X1_takeRows_6 ?_
  refine G_aload_n d_X1_takeRows_7 rfl ?_
  refine G_getR (r := 9) (fl_X1_26.r) d_X1_takeRows_8 (wk_6 _) rfl rfl ?_
  refine G_alen1 d_X1_takeRows_11 (wk_9 _) ?_
  refine G_acopyi d_X1_takeRows_12 ac_X1_41 ac_nat ac_sta ac_ini (wk_23 _) (wk_9 _) (by decide) (by decide) (by decide) (Nat.le_of_ble_eq_true rfl) (by omega) ?_
  refine G_iconst d_X1_takeRows_15 ?_
  refine G_istore_n d_X1_takeRows_16 (by decide) rfl ?_
  rw [mx2_0]
  exact L 0 (by omega)
theorem cChg_eq {s : Nat → Int} {m : Nat → Nat → Int} (hc : cLP (pN s) (pM s) (pK s) (nC (pN s) (pM s)) m) {p k : Nat} (hp : p < pC s) (hk : k < pN s) : cChg m p k = pCh s p k := by
  unfold cChg pCh
  have h := hc.2.1 p hp
  by_cases e : k = 0
  · rw [if_pos e, if_pos e]; exact h 0 (by omega)
  · rw [if_neg e, if_neg e, h k hk, show 5 * p + k - 1 = 5 * p + (k - 1) by omega, h (k - 1) (by omega)]
    rfl
theorem cOrd_eq {s : Nat → Int} {m : Nat → Nat → Int} (hc : cLP (pN s) (pM s) (pK s) (nC (pN s) (pM s)) m) {p k : Nat} (hp : p < pC s) (hk : k < pN s) : cOrd m p k = pO s p k := hc.2.1 p hp k hk
abbrev CL (s : Nat → Int) (m : Nat → Nat → Int) : Prop := cLP (pN s) (pM s) (pK s) (nC (pN s) (pM s)) m
theorem sp_Cch {w : List KD} {m : Nat → Nat → Int} (s : Nat → Int) (hV : VS s) (hL : CL s m) (p k : Nat) (hp : p < pC s) (hk : k < pN s) : Sp M_X3_changeOf 0 0 0 [rV 25, iV (p : Int), iV (k : Int)] (WC ++ w, m) (fun r h => r = some (iV (pCh s p k)) ∧ h = (WC ++ w, m)) := by
  have hC := pC_le hV
  have hN := hV.N
  rw [← cChg_eq hL hp hk]
  exact sp_changeOf p k (by omega) (by omega)
theorem sp_Cor {w : List KD} {m : Nat → Nat → Int} (s : Nat → Int) (hV : VS s) (hL : CL s m) (p k : Nat) (hp : p < pC s) (hk : k < pN s) : Sp M_X3_orderOf 0 0 0 [rV 25, iV (p : Int), iV (k : Int)] (WC ++ w, m) (fun r h => r = some (iV (pO s p k)) ∧ h = (WC ++ w, m)) := by
  have hC := pC_le hV
  have hN := hV.N
  rw [← cOrd_eq hL hp hk]
  exact sp_orderOf p k (by omega) (by omega)
theorem sp_countChanges {w : List KD} {m : Nat → Nat → Int} (s : Nat → Int) (hV : VS s) (hL : CL s m) (p : Nat) (hp : p < pC s) : Sp M_X3_countChanges 1 0 0 [rV 25, iV (p : Int), iV (pN s : Int)] (WC ++ w, m) (fun r h => r = some (iV (cntB (fun k => pCh s p k != 0) (pN s) : Nat)) ∧ h = (WC ++ w, m)) := by
  refine Sp.ofG (ls := [rV 25, iV (p : Int), iV (pN s : Int), uV, uV]) (by decide +kernel) rfl (Nat.le_of_ble_eq_true rfl) ?_
  have hC := pC_le hV
  have hN := hV.N
  have L : ∀ k : Nat, k ≤ pN s → G M_X3_countChanges 1 0 0 5 [rV 25, iV (p : Int), iV (pN s : Int), iV (cntB (fun k => pCh s p k != 0) k : Nat), iV (k : Int)] [] (WC ++ w, m) (fun r h => r = some (iV (cntB (fun k => pCh s p k != 0) (pN s) : Nat)) ∧ h = (WC ++ w, m)) := by
    refine loop_up (pN s) _ ?_
    intro k hk ih
    refine G_iload d_X3_countChanges_5 rfl ?_
    refine G_iload_n d_X3_countChanges_7 rfl ?_
    refine G_icmp_ge 30 d_X3_countChanges_8 (by decide) (by omega) (by omega) (fun c8 => ?_) (fun c8 => ?_)
    · refine G_iload_n d_X3_countChanges_30 rfl ?_
      refine G_iret (mc := 0) (ms := 0) (st := []) d_X3_countChanges_31 rfl ?_
      exact ⟨by rw [show k = pN s by omega], rfl⟩
    · refine G_aload_n d_X3_countChanges_11 rfl ?_
      refine G_iload_n d_X3_countChanges_12 rfl ?_
      refine G_iload d_X3_countChanges_13 rfl ?_
      refine G_callV2 cl_X3_64 rfl d_X3_countChanges_15 (wk_25 _) (Nat.le_of_ble_eq_true rfl) (by decide) (sp_Cch s hV hL p k hp (by omega)) ?_
      rintro _ _ ⟨rfl, rfl⟩
      have hch := pCh_rng hV p k
      refine G_if_eq 24 d_X3_countChanges_18 (by decide) (by omega) (fun c18 => ?_) (fun c18 => ?_)
      · refine G_iinc d_X3_countChanges_24 rfl (by decide) rfl ?_
        refine G_goto 5 d_X3_countChanges_27 (by decide) ?_
        rw [cntB_f (f := (fun k => pCh s p k != 0)) (by simpa using c18)] at ih
        exact ih (by omega)
      · refine G_iinc d_X3_countChanges_21 rfl (by decide) rfl ?_
        refine G_iinc d_X3_countChanges_24 rfl (by decide) rfl ?_
        refine G_goto 5 d_X3_countChanges_27 (by decide) ?_
        rw [cntB_t (f := (fun k => pCh s p k != 0)) (by simpa using c18)] at ih
        exact ih (by omega)
  refine G_iconst d_X3_countChanges_0 ?_
  refine G_istore_n d_X3_countChanges_1 (by decide) rfl ?_
  refine G_iconst d_X3_countChanges_2 ?_
  refine G_istore d_X3_countChanges_3 (by decide) rfl ?_
  exact L 0 (by omega)
theorem maxN_rng {f : Nat → Int} {B : Int} (hB : 0 ≤ B) : ∀ {n : Nat}, (∀ i, i < n → 0 ≤ f i ∧ f i ≤ B) → 0 ≤ maxN f n ∧ maxN f n ≤ B
  | 0, _ => ⟨Int.le_refl 0, hB⟩
  | n + 1, h => by
    have h1 := maxN_rng hB (n := n) (fun i hi => h i (by omega))
    have h2 := h n (by omega)
    unfold maxN
    first | omega | (split <;> omega)
theorem sp_greatestOrder {w : List KD} {m : Nat → Nat → Int} (s : Nat → Int) (hV : VS s) (hL : CL s m) (p : Nat) (hp : p < pC s) : Sp M_X3_greatestOrder 1 0 0 [rV 25, iV (p : Int), iV (pN s : Int)] (WC ++ w, m) (fun r h => r = some (iV (maxN (fun k => ((pO s p k).natAbs : Int)) (pN s))) ∧ h = (WC ++ w, m)) := by
  refine Sp.ofG (ls := [rV 25, iV (p : Int), iV (pN s : Int), uV, uV]) (by decide +kernel) rfl (Nat.le_of_ble_eq_true rfl) ?_
  have hC := pC_le hV
  have hN := hV.N
  have L : ∀ k : Nat, k ≤ pN s → G M_X3_greatestOrder 1 0 0 5 [rV 25, iV (p : Int), iV (pN s : Int), iV (maxN (fun k => ((pO s p k).natAbs : Int)) k), iV (k : Int)] [] (WC ++ w, m) (fun r h => r = some (iV (maxN (fun k => ((pO s p k).natAbs : Int)) (pN s))) ∧ h = (WC ++ w, m)) := by
    refine loop_up (pN s) _ ?_
    intro k hk ih
    refine G_iload d_X3_greatestOrder_5 rfl ?_
    refine G_iload_n d_X3_greatestOrder_7 rfl ?_
    refine G_icmp_ge 32 d_X3_greatestOrder_8 (by decide) (by omega) (by omega) (fun c8 => ?_) (fun c8 => ?_)
    · refine G_iload_n d_X3_greatestOrder_32 rfl ?_
      refine G_iret (mc := 0) (ms := 0) (st := []) d_X3_greatestOrder_33 rfl ?_
      exact ⟨by rw [show k = pN s by omega], rfl⟩
    · refine G_iload_n d_X3_greatestOrder_11 rfl ?_
      refine G_aload_n d_X3_greatestOrder_12 rfl ?_
      refine G_iload_n d_X3_greatestOrder_13 rfl ?_
      refine G_iload d_X3_greatestOrder_14 rfl ?_
      refine G_callV2 cl_X3_50 rfl d_X3_greatestOrder_16 (wk_25 _) (Nat.le_of_ble_eq_true rfl) (by decide) (sp_Cor s hV hL p k hp (by omega)) ?_
      rintro _ _ ⟨rfl, rfl⟩
      have hor := pO_rng hV p k
      refine G_callS1 cl_X3_57 d_X3_greatestOrder_19 (Nat.le_of_ble_eq_true rfl) (by decide) (sp_abs (by omega)) ?_
      rintro _ _ ⟨rfl, rfl⟩
      have hmx := maxN_rng (f := (fun k => ((pO s p k).natAbs : Int))) (B := 3) (by decide) (n := k) (fun i _ => by have := pO_rng hV p i; omega)
      refine G_callS2 cl_X3_70 d_X3_greatestOrder_22 (Nat.le_of_ble_eq_true rfl) (by decide) (sp_max (by omega) (by omega)) ?_
      rintro _ _ ⟨rfl, rfl⟩
      refine G_istore_n d_X3_greatestOrder_25 (by decide) rfl ?_
      refine G_iinc d_X3_greatestOrder_26 rfl (by decide) rfl ?_
      refine G_goto 5 d_X3_greatestOrder_29 (by decide) ?_
      have e1 : max (maxN (fun k => ((pO s p k).natAbs : Int)) k) ((pO s p k).natAbs : Int) = maxN (fun k => ((pO s p k).natAbs : Int)) (k + 1) := rfl
      rw [e1]
      exact ih (by omega)
  refine G_iconst d_X3_greatestOrder_0 ?_
  refine G_istore_n d_X3_greatestOrder_1 (by decide) rfl ?_
  refine G_iconst d_X3_greatestOrder_2 ?_
  refine G_istore d_X3_greatestOrder_3 (by decide) rfl ?_
  exact L 0 (by omega)
