theorem sp_Cwould {w : List KD} {m : Nat → Nat → Int} (s : Nat → Int) (hV : VS s) (hI : CI s m) (a : Int) (hra : -2147483648 ≤ a ∧ a < 2147483648) (b : Int) (hrb : -2147483648 ≤ b ∧ b < 2147483648) (c : Int) (hrc : -2147483648 ≤ c ∧ c < 2147483648) (e : Int) (hre : -2147483648 ≤ e ∧ e < 2147483648) (g : Int) (hrg : -2147483648 ≤ g ∧ g < 2147483648) : Sp M_X9_would 5 0 0 [rV 0, iV a, iV b, iV c, iV e, iV g] (WC ++ w, m) (fun r h => r = some (iV (vWould s a b c e g)) ∧ ∃ m2, h = (WC ++ w, m2) ∧ CI s m2 ∧ FXo m m2) := by
  refine Sp.ofG (ls := [rV 0, iV a, iV b, iV c, iV e, iV g, uV, uV, uV]) (by decide +kernel) rfl (Nat.le_of_ble_eq_true rfl) ?_
  have hC := pC_le hV
  have hN := hV.N
  have hT := hV.T
  have hSc := hV.Sc
  have hcr0 := pChief_rng s
  have L : pChief s ≠ -1 → ∀ m0, CI s m0 → FXo m m0 → (∀ k, k < 5 → m0 51 k = (arg5 a b c e g k)) → ∀ k : Nat, k ≤ pN s → ∀ u8 : PV, pcat u8 ≠ 2 → allN (fun k => isStp s (arg5 a b c e g k)) k = true → G M_X9_would 5 0 0 46 [rV 0, iV a, iV b, iV c, iV e, iV g, rV 51, iV (k : Int), u8] [] (WC ++ w, m0) (fun r h => r = some (iV (vWould s a b c e g)) ∧ ∃ m2, h = (WC ++ w, m2) ∧ CI s m2 ∧ FXo m m2) := by
    intro hch m0 hI0 hX0 h51
    refine loop_up (pN s) _ ?_
    intro k hk ih u8 hu8 hall
    have hkr : -2147483648 ≤ (arg5 a b c e g k) ∧ (arg5 a b c e g k) < 2147483648 := by
      unfold arg5
      by_cases e0 : k = 0
      · rw [if_pos e0]; omega
      rw [if_neg e0]
      by_cases e1 : k = 1
      · rw [if_pos e1]; omega
      rw [if_neg e1]
      by_cases e2 : k = 2
      · rw [if_pos e2]; omega
      rw [if_neg e2]
      by_cases e3 : k = 3
      · rw [if_pos e3]; omega
      rw [if_neg e3]; omega
    have hnot : k < pN s → ¬ (1 ≤ (arg5 a b c e g k) ∧ (arg5 a b c e g k) ≤ 12 ∧ (pT s : Int) % (arg5 a b c e g k) = 0) → vWould s a b c e g = -1 := fun hk9 hx => by
      unfold vWould
      rw [if_neg (fun h => hx ?_)]
      have h9 := allN_of h.2 k hk9
      unfold isStp at h9
      simp at h9
      exact ⟨h9.1.1, h9.1.2, h9.2⟩
    refine G_iload d_X9_would_46 rfl ?_
    refine G_aload_n d_X9_would_48 rfl ?_
    refine G_getR (r := 1) (fl_X9_12.r) d_X9_would_49 (wk_0 _) rfl rfl ?_
    refine G_getIe (v := (pN s : Int)) (fl_X9_194.r) d_X9_would_52 (wk_1 _) rfl (hI0.1.1.1) ?_
    refine G_icmp_ge 99 d_X9_would_55 (by decide) (by omega) (by omega) (fun c55 => ?_) (fun c55 => ?_)
    · refine G_aload_n d_X9_would_99 rfl ?_
      have hke : k = pN s := by omega
      subst hke
      refine G_callV0 cl_X9_360 rfl d_X9_would_100 (wk_0 _) (Nat.le_of_ble_eq_true rfl) (by decide) (sp_CgatherWants s hV hI0) ?_
      rintro _ _ ⟨rfl, m2, rfl, hI2, hF2, hW2, -, -, -, -⟩
      refine G_aload_n d_X9_would_103 rfl ?_
      refine G_getR (r := 52) (fl_X9_79.r) d_X9_would_104 (wk_0 _) rfl rfl ?_
      refine G_aload_n d_X9_would_107 rfl ?_
      refine G_getR (r := 25) (fl_X9_43.r) d_X9_would_108 (wk_0 _) rfl rfl ?_
      refine G_aload d_X9_would_111 rfl ?_
      have hNN : ∀ k, k < pN s → m2 51 k = (((arg5 a b c e g k).toNat : Nat) : Int) ∧ 1 ≤ (arg5 a b c e g k).toNat ∧ (arg5 a b c e g k).toNat ≤ 12 := fun k hk => by
        have h9 := allN_of hall k hk
        unfold isStp at h9
        simp at h9
        have h8 := hF2.1 51 (by decide) (by decide) (by decide) (by decide) (by decide)
        rw [h8, h51 k (by omega)]
        omega
      refine G_callV2 cl_X9_363 rfl d_X9_would_113 (wk_52 _) (Nat.le_of_ble_eq_true rfl) (by decide) (sp_countLeft s hV hI2.1 hW2 hch (fun k => (arg5 a b c e g k).toNat) hNN) ?_
      rintro _ _ ⟨rfl, rfl⟩
      have hcl := cntB_le (fun p => pOther s p && lft s (fun k => (arg5 a b c e g k).toNat) p) (pC s)
      refine G_iret (mc := 0) (ms := 0) (st := []) d_X9_would_116 rfl ?_
      exact ⟨by unfold vWould; rw [if_pos ⟨hch, hall⟩], m2, rfl, hI2, hX0.trans hF2.x⟩
    · refine G_aload d_X9_would_58 rfl ?_
      refine G_iload d_X9_would_60 rfl ?_
      refine G_ialdj (k) d_X9_would_62 (wk_51 _) (by omega) (by omega) (by decide) ?_
      rw [h51 k (by omega)]
      refine G_istore d_X9_would_63 (by decide) rfl ?_
      refine G_iload d_X9_would_65 rfl ?_
      refine G_iconst d_X9_would_67 ?_
      refine G_icmp_lt 91 d_X9_would_68 (by decide) (by omega) (by omega) (fun c68 => ?_) (fun c68 => ?_)
      · refine G_iconst d_X9_would_91 ?_
        refine G_iret (mc := 0) (ms := 0) (st := []) d_X9_would_92 rfl ?_
        exact ⟨by rw [hnot (by omega) (fun h => by omega)], m0, rfl, hI0, hX0⟩
      · refine G_iload d_X9_would_71 rfl ?_
        refine G_bipush d_X9_would_73 (by decide) ?_
        refine G_icmp_gt 91 d_X9_would_75 (by decide) (by omega) (by omega) (fun c75 => ?_) (fun c75 => ?_)
        · refine G_iconst d_X9_would_91 ?_
          refine G_iret (mc := 0) (ms := 0) (st := []) d_X9_would_92 rfl ?_
          exact ⟨by rw [hnot (by omega) (fun h => by omega)], m0, rfl, hI0, hX0⟩
        · refine G_aload_n d_X9_would_78 rfl ?_
          refine G_getR (r := 6) (fl_X9_19.r) d_X9_would_79 (wk_0 _) rfl rfl ?_
          refine G_getIe (v := (pT s : Int)) (fl_X9_123.r) d_X9_would_82 (wk_6 _) rfl (hI0.1.2.1.1.1) ?_
          refine G_iload d_X9_would_85 rfl ?_
          have hv := Int.toNat_of_nonneg (show 0 ≤ arg5 a b c e g k by omega)
          refine G_iremN (pT s) ((arg5 a b c e g k).toNat) (rfl) (hv.symm) d_X9_would_87 (by omega) (by omega) (by omega) ?_
          have hmm : pT s % (arg5 a b c e g k).toNat ≤ pT s := Nat.mod_le _ _
          have hmd2 : (pT s : Int) % (arg5 a b c e g k) = ((pT s % (arg5 a b c e g k).toNat : Nat) : Int) := by rw [Int.natCast_emod, hv]
          refine G_if_eq 93 d_X9_would_88 (by decide) (by omega) (fun c88 => ?_) (fun c88 => ?_)
          · have hmd : (pT s : Int) % arg5 a b c e g k = 0 := hmd2.trans c88
            refine G_iinc d_X9_would_93 rfl (by decide) rfl ?_
            refine G_goto 46 d_X9_would_96 (by decide) ?_
            exact ih (by omega) _ (by show (1 : Nat) ≠ 2; decide) (allN_s hall (by unfold isStp; simp; exact ⟨⟨by omega, by omega⟩, hmd⟩))
          · refine G_iconst d_X9_would_91 ?_
            refine G_iret (mc := 0) (ms := 0) (st := []) d_X9_would_92 rfl ?_
            exact ⟨by rw [hnot (by omega) (fun h => c88 (hmd2.symm.trans h.2.2))], m0, rfl, hI0, hX0⟩
  refine G_aload_n d_X9_would_0 rfl ?_
  refine G_getR (r := 51) (fl_X9_72.r) d_X9_would_1 (wk_0 _) rfl rfl ?_
  refine G_astore d_X9_would_4 (by decide) rfl ?_
  refine G_aload d_X9_would_6 rfl ?_
  refine G_iconst d_X9_would_8 ?_
  refine G_iload_n d_X9_would_9 rfl ?_
  refine G_iastj (0) d_X9_would_10 (wk_51 _) (by omega) (by omega) (by decide) ?_
  refine G_aload d_X9_would_11 rfl ?_
  refine G_iconst d_X9_would_13 ?_
  refine G_iload_n d_X9_would_14 rfl ?_
  refine G_iastj (1) d_X9_would_15 (wk_51 _) (by omega) (by omega) (by decide) ?_
  refine G_aload d_X9_would_16 rfl ?_
  refine G_iconst d_X9_would_18 ?_
  refine G_iload_n d_X9_would_19 rfl ?_
  refine G_iastj (2) d_X9_would_20 (wk_51 _) (by omega) (by omega) (by decide) ?_
  refine G_aload d_X9_would_21 rfl ?_
  refine G_iconst d_X9_would_23 ?_
  refine G_iload d_X9_would_24 rfl ?_
  refine G_iastj (3) d_X9_would_26 (wk_51 _) (by omega) (by omega) (by decide) ?_
  refine G_aload d_X9_would_27 rfl ?_
  refine G_iconst d_X9_would_29 ?_
  refine G_iload d_X9_would_30 rfl ?_
  refine G_iastj (4) d_X9_would_32 (wk_51 _) (by omega) (by omega) (by decide) ?_
  have ek : ∀ c9, c9 ≠ 51 → (upm (upm (upm (upm (upm m 51 0 a) 51 1 b) 51 2 c) 51 3 e) 51 4 g) c9 = m c9 := fun c9 h => by rw [upm_off _ _ h, upm_off _ _ h, upm_off _ _ h, upm_off _ _ h, upm_off _ _ h]
  have hI0 : CI s (upm (upm (upm (upm (upm m 51 0 a) 51 1 b) 51 2 c) 51 3 e) 51 4 g) := hI.scr (by omega) ek
  have hX0 : FXo m (upm (upm (upm (upm (upm m 51 0 a) 51 1 b) 51 2 c) 51 3 e) 51 4 g) := FXo.scr ek
  have h51 : ∀ k, k < 5 → (upm (upm (upm (upm (upm m 51 0 a) 51 1 b) 51 2 c) 51 3 e) 51 4 g) 51 k = (arg5 a b c e g k) := fun k hk => by
    rcases (show k = 0 ∨ k = 1 ∨ k = 2 ∨ k = 3 ∨ k = 4 by omega) with rfl | rfl | rfl | rfl | rfl <;> simp [upm, arg5]
  generalize (upm (upm (upm (upm (upm m 51 0 a) 51 1 b) 51 2 c) 51 3 e) 51 4 g) = m0 at hI0 hX0 h51 ⊢
  refine G_aload_n d_X9_would_33 rfl ?_
  refine G_getIe (v := pChief s) (fl_X9_47.r) d_X9_would_34 (wk_0 _) rfl (hI0.1.2.2.2.1) ?_
  have hcr := pChief_rng s
  refine G_iconst d_X9_would_37 ?_
  refine G_icmp_ne 43 d_X9_would_38 (by decide) (by omega) (by omega) (fun c38 => ?_) (fun c38 => ?_)
  · refine G_iconst d_X9_would_43 ?_
    refine G_istore d_X9_would_44 (by decide) rfl ?_
    exact L c38 m0 hI0 hX0 h51 0 (by omega) _ (by decide) rfl
  · refine G_iconst d_X9_would_41 ?_
    refine G_iret (mc := 0) (ms := 0) (st := []) d_X9_would_42 rfl ?_
    exact ⟨by unfold vWould; rw [if_neg (fun h => h.1 c38)], m0, rfl, hI0, hX0⟩
/-- the code by Horner -/
def cdF (f : Nat → Nat) (B : Nat) : Nat → Nat
  | 0 => 0
  | k + 1 => cdF f B k * B + f k
theorem cdF_lt {f : Nat → Nat} {B : Nat} : ∀ k : Nat, (∀ i, i < k → f i < B) → cdF f B k < B ^ k
  | 0, _ => by show 0 < 1; decide
  | k + 1, h => by
    have ih := cdF_lt (f := f) (B := B) k (fun i hi => h i (by omega))
    have h1 := h k (by omega)
    have h2 : (cdF f B k + 1) * B ≤ B ^ k * B := Nat.mul_le_mul_right _ ih
    rw [Nat.add_mul, Nat.one_mul] at h2
    show cdF f B k * B + f k < B ^ (k + 1)
    rw [Nat.pow_succ]
    omega
theorem cdF_dg {f : Nat → Nat} {B : Nat} : ∀ k : Nat, (∀ i, i < k → f i < B) → ∀ i, i < k → cdF f B k / B ^ (k - 1 - i) % B = f i
  | 0, _, i, hi => absurd hi (by omega)
  | k + 1, h, i, hi => by
    have hk := h k (by omega)
    have hB : 0 < B := by omega
    have hd : cdF f B (k + 1) / B = cdF f B k := by
      show (cdF f B k * B + f k) / B = _
      rw [Nat.add_comm, Nat.add_mul_div_right _ _ hB, Nat.div_eq_of_lt hk, Nat.zero_add]
    by_cases e : i = k
    · subst e
      rw [show i + 1 - 1 - i = 0 by omega, Nat.pow_zero, Nat.div_one]
      show (cdF f B i * B + f i) % B = f i
      rw [Nat.add_comm, Nat.add_mul_mod_self_right, Nat.mod_eq_of_lt hk]
    · have ih := cdF_dg (f := f) (B := B) k (fun i hi => h i (by omega)) i (by omega)
      rw [show k + 1 - 1 - i = (k - 1 - i) + 1 by omega, Nat.pow_succ, Nat.mul_comm, ← Nat.div_div_eq_div_mul, hd]
      exact ih
theorem find_eq {s : Nat → Int} (hV : VS s) {a b c d : Int} {x : Nat} (hx : x < nC (pN s) (pM s)) (hd : ∀ i, i + 1 < pN s → dg (pN s) (pM s) x i = arg4 a b c d i) : vFind s a b c d = if okc (pN s) (pM s) (pK s) x = true then ((kl (pN s) (pM s) (pK s) x).length : Int) else -1 := by
  have hN := hV.N
  have hone : ∀ p, p < pC s → isF s a b c d p = true → (pths s).getD p 0 = x := fun p hp hf => by
    refine dg_inj (n := pN s) (M := pM s) (by omega) (pths_lt hp) hx (fun i hi => ?_)
    have h9 := allN_of hf i (by omega)
    rw [hd i hi]
    have h8 : pO s p i = arg4 a b c d i := by simpa using h9
    exact h8
  unfold vFind
  by_cases ho : okc (pN s) (pM s) (pK s) x = true
  · rw [if_pos ho]
    have h1 := kl_idx ho (nC (pN s) (pM s)) hx
    have h2 : isF s a b c d (kl (pN s) (pM s) (pK s) x).length = true := by
      refine allN_true (fun k hk => ?_)
      have e1 : (pths s).getD (kl (pN s) (pM s) (pK s) x).length 0 = x := h1.2
      unfold pO
      rw [e1, hd k (by omega)]
      simp
    refine firstB_found _ h1.1 (fun j hj => ?_) h2
    cases hf : isF s a b c d j with
    | false => rfl
    | true =>
      have hjc : j < pC s := Nat.lt_trans hj h1.1
      have h3 := hone j hjc hf
      have h4 := kl_back (n := pN s) (M := pM s) (K := pK s) (nC (pN s) (pM s)) j hjc
      have e3 : (kl (pN s) (pM s) (pK s) (nC (pN s) (pM s))).getD j 0 = x := h3
      rw [e3] at h4
      omega
  · rw [if_neg ho]
    refine firstB_none (fun j hj => ?_)
    cases hf : isF s a b c d j with
    | false => rfl
    | true =>
      have h3 := hone j hj hf
      have h4 := (kl_get_lt (n := pN s) (M := pM s) (K := pK s) (C := nC (pN s) (pM s)) hj).2
      have e3 : (kl (pN s) (pM s) (pK s) (nC (pN s) (pM s))).getD j 0 = x := h3
      rw [e3] at h4
      exact absurd h4 ho
theorem find_no {s : Nat → Int} (hV : VS s) {a b c d : Int} {k : Nat} (hk : k + 1 < pN s) (h : arg4 a b c d k < -(pM s : Int) ∨ (pM s : Int) < arg4 a b c d k) : vFind s a b c d = -1 := by
  have hM := hV.M
  refine firstB_none (fun j hj => allN_false k (by omega) ?_)
  have h1 := dg_rng (pN s) (pM s) ((pths s).getD j 0) k hM.1
  have h2 : ¬ pO s j k = arg4 a b c d k := fun e => by
    unfold pO at e
    omega
  simp [h2]
theorem sp_Cfind {w : List KD} {m : Nat → Nat → Int} (s : Nat → Int) (hV : VS s) (hI : CI s m) (a : Int) (hra : -2147483648 ≤ a ∧ a < 2147483648) (b : Int) (hrb : -2147483648 ≤ b ∧ b < 2147483648) (c : Int) (hrc : -2147483648 ≤ c ∧ c < 2147483648) (d : Int) (hrd : -2147483648 ≤ d ∧ d < 2147483648) : Sp M_X9_find 0 0 0 [rV 0, iV a, iV b, iV c, iV d] (WC ++ w, m) (fun r h => r = some (iV (vFind s a b c d)) ∧ ∃ m2, h = (WC ++ w, m2) ∧ CI s m2 ∧ FXo m m2) := by
  refine Sp.ofG (ls := [rV 0, iV a, iV b, iV c, iV d, uV, uV, uV]) (by decide +kernel) rfl (Nat.le_of_ble_eq_true rfl) ?_
  have hC := pC_le hV
  have hN := hV.N
  have hT := hV.T
  have hSc := hV.Sc
  have hM := hV.M
  have L : ∀ k : Nat, k ≤ pN s - 1 → ∀ u7 : PV, pcat u7 ≠ 2 → (∀ i, i < k → -(pM s : Int) ≤ arg4 a b c d i ∧ arg4 a b c d i ≤ (pM s : Int)) → G M_X9_find 0 0 0 6 [rV 0, iV a, iV b, iV c, iV d, iV ((cdF (fun i => (arg4 a b c d i + (pM s : Int)).toNat) (bs (pM s)) k : Nat) : Int), iV (k : Int), u7] [] (WC ++ w, m) (fun r h => r = some (iV (vFind s a b c d)) ∧ ∃ m2, h = (WC ++ w, m2) ∧ CI s m2 ∧ FXo m m2) := by
    refine loop_up (pN s - 1) _ ?_
    intro k hk ih u7 hu7 hall
    have hkr : -2147483648 ≤ (arg4 a b c d k) ∧ (arg4 a b c d k) < 2147483648 := by
      unfold arg4
      by_cases e0 : k = 0
      · rw [if_pos e0]; omega
      rw [if_neg e0]
      by_cases e1 : k = 1
      · rw [if_pos e1]; omega
      rw [if_neg e1]
      by_cases e2 : k = 2
      · rw [if_pos e2]; omega
      rw [if_neg e2]; omega
    have hfl : ∀ i, i < k → (fun i => (arg4 a b c d i + (pM s : Int)).toNat) i < (bs (pM s)) := fun i hi => by
      have h9 := hall i hi
      show (arg4 a b c d i + (pM s : Int)).toNat < bs (pM s)
      unfold bs
      omega
    have hlt := cdF_lt k hfl
    have hpw := pw_le (pM s) ⟨hM.1, hM.2.1⟩ k (by omega)
    have hpw2 : cdF (fun i => (arg4 a b c d i + (pM s : Int)).toNat) (bs (pM s)) k < 2401 := by unfold bs at hlt ⊢; unfold bs at hpw; omega
    have K51 : k + 1 < pN s → ∀ x : Int, x = (arg4 a b c d k) → G M_X9_find 0 0 0 51 [rV 0, iV a, iV b, iV c, iV d, iV ((cdF (fun i => (arg4 a b c d i + (pM s : Int)).toNat) (bs (pM s)) k : Nat) : Int), iV (k : Int), u7] [iV x] (WC ++ w, m) (fun r h => r = some (iV (vFind s a b c d)) ∧ ∃ m2, h = (WC ++ w, m2) ∧ CI s m2 ∧ FXo m m2) := by
      intro hk1 x hx
      have hbd : ((bs (pM s) : Nat) : Int) = 2 * (pM s : Int) + 1 := by unfold bs; omega
      refine G_istore d_X9_find_51 (by decide) rfl ?_
      refine G_iload d_X9_find_53 rfl ?_
      refine G_aload_n d_X9_find_55 rfl ?_
      refine G_getR (r := 1) (fl_X9_12.r) d_X9_find_56 (wk_0 _) rfl rfl ?_
      refine G_getIe (v := (pM s : Int)) (fl_X9_171.r) d_X9_find_59 (wk_1 _) rfl (hI.1.1.2.1) ?_
      refine G_ineg d_X9_find_62 ?_
      refine G_icmp_lt 78 d_X9_find_63 (by decide) (by omega) (by omega) (fun c63 => ?_) (fun c63 => ?_)
      · refine G_iconst d_X9_find_78 ?_
        refine G_iret (mc := 0) (ms := 0) (st := []) d_X9_find_79 rfl ?_
        exact ⟨by rw [find_no hV hk1 (Or.inl (by omega))], m, rfl, hI, FXo.refl m⟩
      · refine G_iload d_X9_find_66 rfl ?_
        refine G_aload_n d_X9_find_68 rfl ?_
        refine G_getR (r := 1) (fl_X9_12.r) d_X9_find_69 (wk_0 _) rfl rfl ?_
        refine G_getIe (v := (pM s : Int)) (fl_X9_171.r) d_X9_find_72 (wk_1 _) rfl (hI.1.1.2.1) ?_
        refine G_icmp_le 80 d_X9_find_75 (by decide) (by omega) (by omega) (fun c75 => ?_) (fun c75 => ?_)
        · refine G_iload d_X9_find_80 rfl ?_
          refine G_iconst d_X9_find_82 ?_
          refine G_aload_n d_X9_find_83 rfl ?_
          refine G_getR (r := 1) (fl_X9_12.r) d_X9_find_84 (wk_0 _) rfl rfl ?_
          refine G_getIe (v := (pM s : Int)) (fl_X9_171.r) d_X9_find_87 (wk_1 _) rfl (hI.1.1.2.1) ?_
          refine G_imul d_X9_find_90 ?_
          refine G_iconst d_X9_find_91 ?_
          refine G_iadd d_X9_find_92 ?_
          refine G_imul d_X9_find_93 ?_
          refine G_iload d_X9_find_94 rfl ?_
          refine G_iadd d_X9_find_96 ?_
          refine G_aload_n d_X9_find_97 rfl ?_
          refine G_getR (r := 1) (fl_X9_12.r) d_X9_find_98 (wk_0 _) rfl rfl ?_
          refine G_getIe (v := (pM s : Int)) (fl_X9_171.r) d_X9_find_101 (wk_1 _) rfl (hI.1.1.2.1) ?_
          refine G_iadd d_X9_find_104 ?_
          refine G_istore d_X9_find_105 (by decide) rfl ?_
          refine G_iinc d_X9_find_107 rfl (by decide) rfl ?_
          refine G_goto 6 d_X9_find_110 (by decide) ?_
          have e9 : ((cdF (fun i => (arg4 a b c d i + (pM s : Int)).toNat) (bs (pM s)) (k + 1) : Nat) : Int) = ((cdF (fun i => (arg4 a b c d i + (pM s : Int)).toNat) (bs (pM s)) k : Nat) : Int) * (2 * (pM s : Int) + 1) + x + (pM s : Int) := by
            show ((cdF (fun i => (arg4 a b c d i + (pM s : Int)).toNat) (bs (pM s)) k * (bs (pM s)) + (arg4 a b c d k + (pM s : Int)).toNat : Nat) : Int) = _
            rw [Int.natCast_add, Int.natCast_mul, hbd, Int.toNat_of_nonneg (by omega), hx, Int.add_assoc]
          have h9 := ih (by omega) (iV x) (by show (1 : Nat) ≠ 2; decide) (fun i hi => by
            by_cases e : i = k
            · rw [e]; omega
            · exact hall i (by omega))
          rw [e9] at h9
          exact h9
        · refine G_iconst d_X9_find_78 ?_
          refine G_iret (mc := 0) (ms := 0) (st := []) d_X9_find_79 rfl ?_
          exact ⟨by rw [find_no hV hk1 (Or.inr (by omega))], m, rfl, hI, FXo.refl m⟩
    refine G_iload d_X9_find_6 rfl ?_
    refine G_aload_n d_X9_find_8 rfl ?_
    refine G_getR (r := 1) (fl_X9_12.r) d_X9_find_9 (wk_0 _) rfl rfl ?_
    refine G_getIe (v := (pN s : Int)) (fl_X9_194.r) d_X9_find_12 (wk_1 _) rfl (hI.1.1.1) ?_
    refine G_iconst d_X9_find_15 ?_
    refine G_isub d_X9_find_16 ?_
    refine G_icmp_ge 113 d_X9_find_17 (by decide) (by omega) (by omega) (fun c17 => ?_) (fun c17 => ?_)
    · refine G_aload_n d_X9_find_113 rfl ?_
      refine G_getR (r := 25) (fl_X9_43.r) d_X9_find_114 (wk_0 _) rfl rfl ?_
      refine G_getR (r := 27) fl_X9_241 d_X9_find_117 (wk_25 _) rfl rfl ?_
      refine G_iload d_X9_find_120 rfl ?_
      refine G_saldj (cdF (fun i => (arg4 a b c d i + (pM s : Int)).toNat) (bs (pM s)) k) d_X9_find_122 (wk_27 _) (by omega) (by omega) (by decide) ?_
      refine G_iret (mc := 0) (ms := 0) (st := []) d_X9_find_123 rfl ?_
      have hke : k = pN s - 1 := by omega
      have hxc : cdF (fun i => (arg4 a b c d i + (pM s : Int)).toNat) (bs (pM s)) k < nC (pN s) (pM s) := by unfold nC; rw [← hke]; exact hlt
      have hdg := cdF_dg k hfl
      refine ⟨?_, m, rfl, hI, FXo.refl m⟩
      rw [hI.1.2.2.1.2.2 _ hxc, find_eq hV hxc (fun i hi => ?_)]
      have h9 := hdg i (by omega)
      unfold dg
      rw [if_neg (by omega), show pN s - 2 - i = k - 1 - i by omega, h9]
      have h8 := hall i (by omega)
      show (((arg4 a b c d i + (pM s : Int)).toNat : Nat) : Int) - (pM s : Int) = _
      omega
    · refine G_iload d_X9_find_20 rfl ?_
      refine G_if_ne 29 d_X9_find_22 (by decide) (by omega) (fun c22 => ?_) (fun c22 => ?_)
      · refine G_iload d_X9_find_29 rfl ?_
        refine G_iconst d_X9_find_31 ?_
        refine G_icmp_ne 39 d_X9_find_32 (by decide) (by omega) (by omega) (fun c32 => ?_) (fun c32 => ?_)
        · refine G_iload d_X9_find_39 rfl ?_
          refine G_iconst d_X9_find_41 ?_
          refine G_icmp_ne 49 d_X9_find_42 (by decide) (by omega) (by omega) (fun c42 => ?_) (fun c42 => ?_)
          · refine G_iload d_X9_find_49 rfl ?_
            exact K51 (by omega) d (by unfold arg4; rw [if_neg (by omega), if_neg (by omega), if_neg (by omega)])
          · refine G_iload_n d_X9_find_45 rfl ?_
            refine G_goto 51 d_X9_find_46 (by decide) ?_
            exact K51 (by omega) c (by rw [show k = 2 by omega]; rfl)
        · refine G_iload_n d_X9_find_35 rfl ?_
          refine G_goto 51 d_X9_find_36 (by decide) ?_
          exact K51 (by omega) b (by rw [show k = 1 by omega]; rfl)
      · refine G_iload_n d_X9_find_25 rfl ?_
        refine G_goto 51 d_X9_find_26 (by decide) ?_
        exact K51 (by omega) a (by rw [show k = 0 by omega]; rfl)
  refine G_iconst d_X9_find_0 ?_
  refine G_istore d_X9_find_1 (by decide) rfl ?_
  refine G_iconst d_X9_find_3 ?_
  refine G_istore d_X9_find_4 (by decide) rfl ?_
  exact L 0 (by omega) uV (by decide) (fun i hi => absurd hi (by omega))
