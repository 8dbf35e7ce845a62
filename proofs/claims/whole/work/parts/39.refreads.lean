/-! the reference's reader: its place, what it reads, the rows so far -/
def RS (B : Nat → Int) (z p : Nat) (m : Nat → Nat → Int) : Prop := m 64 9 = (p : Int) ∧ m 64 10 = (z : Int) ∧ ∀ j, j < z → m 67 j = B j
def RdL (L : Nat → Nat) (V : Nat → Int) (m : Nat → Nat → Int) : Prop := (∀ k, k < 6 → m 68 k = (L k : Int)) ∧ ∀ k, k < 6 → ∀ i, i < L k → m 69 (24 * k + i) = V (24 * k + i)
/-- all but what the reader writes -/
def FR (m m2 : Nat → Nat → Int) : Prop := (∀ a, a ≠ 64 → a ≠ 68 → a ≠ 69 → m2 a = m a) ∧ ∀ j, j ≠ 7 → j ≠ 8 → j ≠ 9 → m2 64 j = m 64 j
theorem FR.refl (m : Nat → Nat → Int) : FR m m := ⟨fun _ _ _ _ => rfl, fun _ _ _ _ => rfl⟩
theorem FR.trans {m m1 m2 : Nat → Nat → Int} (h : FR m m1) (k : FR m1 m2) : FR m m2 := ⟨fun a h1 h2 h3 => (k.1 a h1 h2 h3).trans (h.1 a h1 h2 h3), fun j h1 h2 h3 => (k.2 j h1 h2 h3).trans (h.2 j h1 h2 h3)⟩
theorem FR.at (m : Nat → Nat → Int) (x : Int) : FR m (upm m 64 9 x) := ⟨fun a h1 _ _ => upm_off _ _ h1, fun j _ _ h3 => upm_ne _ _ (fun _ => h3)⟩
theorem RS.at {B : Nat → Int} {z p : Nat} {m : Nat → Nat → Int} (h : RS B z p m) (q : Nat) : RS B z q (upm m 64 9 (q : Int)) := ⟨upm_same _ _ _ _, by rw [upm_ne _ _ (fun _ => by decide)]; exact h.2.1, fun j hj => by rw [upm_off _ _ (by decide)]; exact h.2.2 j hj⟩
theorem RdL.at {L : Nat → Nat} {V : Nat → Int} {m : Nat → Nat → Int} (h : RdL L V m) (j : Nat) (x : Int) : RdL L V (upm m 64 j x) := ⟨fun k hk => by rw [upm_off _ _ (by decide)]; exact h.1 k hk, fun k hk i hi => by rw [upm_off _ _ (by decide)]; exact h.2 k hk i hi⟩
/-- what moves the place alone -/
def AT (m m2 : Nat → Nat → Int) : Prop := ∃ x : Int, m2 = upm m 64 9 x
theorem AT.fr {m m2 : Nat → Nat → Int} (h : AT m m2) : FR m m2 := by obtain ⟨x, rfl⟩ := h; exact FR.at m x
theorem AT.rl {L : Nat → Nat} {V : Nat → Int} {m m2 : Nat → Nat → Int} (h : AT m m2) (k : RdL L V m) : RdL L V m2 := by obtain ⟨x, rfl⟩ := h; exact k.at 9 x
theorem AT.fk {m m2 : Nat → Nat → Int} (h : AT m m2) : m2 64 7 = m 64 7 ∧ m2 64 8 = m 64 8 := by obtain ⟨x, rfl⟩ := h; exact ⟨upm_ne _ _ (fun _ => by decide), upm_ne _ _ (fun _ => by decide)⟩
theorem upm_id (m : Nat → Nat → Int) (a k : Nat) : upm m a k (m a k) = m := by
  funext a' j
  unfold upm
  by_cases h : a' = a ∧ j = k
  · rw [if_pos h, h.1, h.2]
  · rw [if_neg h]
theorem upm_upm (m : Nat → Nat → Int) (a k : Nat) (x y : Int) : upm (upm m a k x) a k y = upm m a k y := by
  funext a' j
  unfold upm
  by_cases h : a' = a ∧ j = k
  · rw [if_pos h, if_pos h]
  · rw [if_neg h, if_neg h, if_neg h]
theorem AT.trans {m m1 m2 : Nat → Nat → Int} (h : AT m m1) (k : AT m1 m2) : AT m m2 := by
  obtain ⟨x, rfl⟩ := h
  obtain ⟨y, rfl⟩ := k
  exact ⟨y, upm_upm _ _ _ _ _⟩
theorem AT.of (m : Nat → Nat → Int) (x : Int) : AT m (upm m 64 9 x) := ⟨x, rfl⟩
theorem RS.lt {B : Nat → Int} {z p : Nat} {m : Nat → Nat → Int} (h : RS B z p m) : m 64 9 = (p : Int) := h.1
theorem sp_Mhere {w : List KD} {m : Nat → Nat → Int} (B : Nat → Int) (z : Nat) (hz : z ≤ 400) (hB : ∀ j, j < z → 0 ≤ B j ∧ B j ≤ 255) (p : Nat) (hp : p ≤ 1000) (hR : RS B z p m) : Sp M_X10_here 0 0 0 [rV 64] (WC ++ (WM ++ w), m) (fun r h => r = some (iV (hbF B z p)) ∧ h = (WC ++ (WM ++ w), m)) := by
  refine Sp.ofG (ls := [rV 64]) (by decide +kernel) rfl (Nat.le_of_ble_eq_true rfl) ?_
  refine G_aload_n d_X10_here_0 rfl ?_
  refine G_getIe (fl_X10_173.r) d_X10_here_1 (wk_64 _) rfl (hR.1) ?_
  refine G_aload_n d_X10_here_4 rfl ?_
  refine G_getIe (fl_X10_176.r) d_X10_here_5 (wk_64 _) rfl (hR.2.1) ?_
  refine G_icmp_ge 23 d_X10_here_8 (by decide) (by omega) (by omega) (fun c8 => ?_) (fun c8 => ?_)
  · rw [show hbF B z p = -1 from hbF_out (by omega)]
    refine G_iconst d_X10_here_23 ?_
    refine G_iret (mc := 0) (ms := 0) (st := []) d_X10_here_24 rfl ?_
    exact ⟨rfl, rfl⟩
  · refine G_aload_n d_X10_here_11 rfl ?_
    refine G_getR (r := 67) (fl_X10_42.r) d_X10_here_12 (wk_64 _) rfl rfl ?_
    refine G_aload_n d_X10_here_15 rfl ?_
    refine G_getIe (fl_X10_173.r) d_X10_here_16 (wk_64 _) rfl (hR.1) ?_
    refine G_ialdj (p) d_X10_here_19 (wk_67 _) (by omega) (by omega) (by decide) ?_
    rw [hR.2.2 p (by omega), ← hbF_in (B := B) (show p < z by omega)]
    refine G_goto 24 d_X10_here_20 (by decide) ?_
    refine G_iret (mc := 0) (ms := 0) (st := []) d_X10_here_24 rfl ?_
    exact ⟨rfl, rfl⟩
theorem sp_MbehindBlanks {w : List KD} {m : Nat → Nat → Int} (B : Nat → Int) (z : Nat) (hz : z ≤ 400) (hB : ∀ j, j < z → 0 ≤ B j ∧ B j ≤ 255) (p : Nat) (hp : p ≤ 1000) (hR : RS B z p m) : Sp M_X10_behindBlanks 1 0 0 [rV 64] (WC ++ (WM ++ w), m) (fun r h => r = some (iV (hbF B z (skF B z p))) ∧ ∃ m2, h = (WC ++ (WM ++ w), m2) ∧ AT m m2 ∧ RS B z (skF B z p) m2) := by
  refine Sp.ofG (ls := [rV 64]) (by decide +kernel) rfl (Nat.le_of_ble_eq_true rfl) ?_
  have L : ∀ d p : Nat, z - p = d → p ≤ 1000 → ∀ m1, RS B z p m1 → G M_X10_behindBlanks 1 0 0 0 [rV 64] [] (WC ++ (WM ++ w), m1) (fun r h => r = some (iV (hbF B z (skF B z p))) ∧ ∃ m2, h = (WC ++ (WM ++ w), m2) ∧ AT m1 m2 ∧ RS B z (skF B z p) m2) := by
    intro d
    induction d with
    | zero =>
      intro p hd hp m1 h1
      have hb := hbF_out (B := B) (z := z) (p := p) (by omega)
      refine G_aload_n d_X10_behindBlanks_0 rfl ?_
      refine G_callV0 cl_X10_179 rfl d_X10_behindBlanks_1 (wk_64 _) (Nat.le_of_ble_eq_true rfl) (by decide) (sp_Mhere B z hz hB p hp h1) ?_
      rintro _ _ ⟨rfl, rfl⟩
      refine G_bipush d_X10_behindBlanks_4 (by decide) ?_
      refine G_icmp_ne 22 d_X10_behindBlanks_6 (by decide) (by omega) (by omega) (fun c6 => ?_) (fun c6 => ?_)
      · refine G_aload_n d_X10_behindBlanks_22 rfl ?_
        refine G_callV0 cl_X10_179 rfl d_X10_behindBlanks_23 (wk_64 _) (Nat.le_of_ble_eq_true rfl) (by decide) (sp_Mhere B z hz hB p hp h1) ?_
        rintro _ _ ⟨rfl, rfl⟩
        refine G_iret (mc := 0) (ms := 0) (st := []) d_X10_behindBlanks_26 rfl ?_
        rw [skF_no (by omega)]
        exact ⟨rfl, m1, rfl, ⟨p, by rw [← h1.1]; exact (upm_id _ _ _).symm⟩, h1⟩
      · omega
    | succ d ih =>
      intro p hd hp m1 h1
      have hb := hbF_rng hB p
      refine G_aload_n d_X10_behindBlanks_0 rfl ?_
      refine G_callV0 cl_X10_179 rfl d_X10_behindBlanks_1 (wk_64 _) (Nat.le_of_ble_eq_true rfl) (by decide) (sp_Mhere B z hz hB p hp h1) ?_
      rintro _ _ ⟨rfl, rfl⟩
      refine G_bipush d_X10_behindBlanks_4 (by decide) ?_
      refine G_icmp_ne 22 d_X10_behindBlanks_6 (by decide) (by omega) (by omega) (fun c6 => ?_) (fun c6 => ?_)
      · refine G_aload_n d_X10_behindBlanks_22 rfl ?_
        refine G_callV0 cl_X10_179 rfl d_X10_behindBlanks_23 (wk_64 _) (Nat.le_of_ble_eq_true rfl) (by decide) (sp_Mhere B z hz hB p hp h1) ?_
        rintro _ _ ⟨rfl, rfl⟩
        refine G_iret (mc := 0) (ms := 0) (st := []) d_X10_behindBlanks_26 rfl ?_
        rw [skF_no c6]
        exact ⟨rfl, m1, rfl, ⟨p, by rw [← h1.1]; exact (upm_id _ _ _).symm⟩, h1⟩
      · refine G_aload_n d_X10_behindBlanks_9 rfl ?_
        refine G_aload_n d_X10_behindBlanks_10 rfl ?_
        refine G_getIe (fl_X10_173.r) d_X10_behindBlanks_11 (wk_64 _) rfl (h1.1) ?_
        refine G_iconst d_X10_behindBlanks_14 ?_
        refine G_iadd d_X10_behindBlanks_15 ?_
        refine G_putII fl_X10_173 d_X10_behindBlanks_16 (wk_64 _) rfl ?_
        refine G_goto 0 d_X10_behindBlanks_19 (by decide) ?_
        have h2 := h1.at (p + 1)
        refine (ih (p + 1) (by omega) (by omega) _ h2).post ?_
        rintro _ _ ⟨rfl, m3, rfl, h3, h4⟩
        rw [skF_yes c6]
        exact ⟨rfl, m3, rfl, (AT.of m1 _).trans h3, h4⟩
  exact L _ p rfl hp m hR
theorem sp_MisDigit {w : List KD} {m : Nat → Nat → Int} (x : Int) (hrx : -2147483648 ≤ x ∧ x < 2147483648) : Sp M_X10_isDigit 0 0 0 [rV 64, iV x] (WC ++ (WM ++ w), m) (fun r h => r = some (iV (if dgF x then 1 else 0)) ∧ h = (WC ++ (WM ++ w), m)) := by
  refine Sp.ofG (ls := [rV 64, iV x]) (by decide +kernel) rfl (Nat.le_of_ble_eq_true rfl) ?_
  refine G_iload_n d_X10_isDigit_0 rfl ?_
  refine G_bipush d_X10_isDigit_1 (by decide) ?_
  refine G_icmp_lt 16 d_X10_isDigit_3 (by decide) (by omega) (by omega) (fun c3 => ?_) (fun c3 => ?_)
  · refine G_iconst d_X10_isDigit_16 ?_
    refine G_zret (mc := 0) (ms := 0) (st := []) d_X10_isDigit_17 rfl (by omega) ?_
    exact ⟨by first | rw [if_pos (by omega)] | rw [if_neg (by omega)], rfl⟩
  · refine G_iload_n d_X10_isDigit_6 rfl ?_
    refine G_bipush d_X10_isDigit_7 (by decide) ?_
    refine G_icmp_gt 16 d_X10_isDigit_9 (by decide) (by omega) (by omega) (fun c9 => ?_) (fun c9 => ?_)
    · refine G_iconst d_X10_isDigit_16 ?_
      refine G_zret (mc := 0) (ms := 0) (st := []) d_X10_isDigit_17 rfl (by omega) ?_
      exact ⟨by first | rw [if_pos (by omega)] | rw [if_neg (by omega)], rfl⟩
    · refine G_iconst d_X10_isDigit_12 ?_
      refine G_goto 17 d_X10_isDigit_13 (by decide) ?_
      refine G_zret (mc := 0) (ms := 0) (st := []) d_X10_isDigit_17 rfl (by omega) ?_
      exact ⟨by first | rw [if_pos (by omega)] | rw [if_neg (by omega)], rfl⟩
theorem sp_Merrs {w : List KD} {m : Nat → Nat → Int} (a b : Int) : Sp M_X10_errs 0 0 0 [rV 64, iV a, iV b] (WC ++ (WM ++ w), m) (fun r h => r = some (iV 0) ∧ h = (WC ++ (WM ++ w), upm (upm m 64 7 a) 64 8 b)) := by
  refine Sp.ofG (ls := [rV 64, iV a, iV b]) (by decide +kernel) rfl (Nat.le_of_ble_eq_true rfl) ?_
  refine G_aload_n d_X10_errs_0 rfl ?_
  refine G_iload_n d_X10_errs_1 rfl ?_
  refine G_putII fl_X10_182 d_X10_errs_2 (wk_64 _) rfl ?_
  refine G_aload_n d_X10_errs_5 rfl ?_
  refine G_iload_n d_X10_errs_6 rfl ?_
  refine G_putII fl_X10_45 d_X10_errs_7 (wk_64 _) rfl ?_
  refine G_iconst d_X10_errs_10 ?_
  refine G_zret (mc := 0) (ms := 0) (st := []) d_X10_errs_11 rfl (by omega) ?_
  exact ⟨rfl, rfl⟩
def naW (o : Option (Nat × Nat)) : Int := match o with
  | none => -1
  | some q => (q.1 : Int)
theorem sp_MreadName {w : List KD} {m : Nat → Nat → Int} (s : Nat → Int) (hV : VS s) (hO : MO s m) (B : Nat → Int) (z : Nat) (hz : z ≤ 400) (hB : ∀ j, j < z → 0 ≤ B j ∧ B j ≤ 255) (p : Nat) (hp : p ≤ 1000) (hR : RS B z p m) (hnb : hbF B z p ≠ 32) : Sp M_X10_readName 2 0 0 [rV 64] (WC ++ (WM ++ w), m) (fun r h => r = some (iV (naW (naF B z (pN s) p))) ∧ ∃ m2, h = (WC ++ (WM ++ w), m2) ∧ AT m m2 ∧ ∀ w p1, naF B z (pN s) p = some (w, p1) → RS B z p1 m2) := by
  refine Sp.ofG (ls := [rV 64, uV, uV]) (by decide +kernel) rfl (Nat.le_of_ble_eq_true rfl) ?_
  have hN := hV.N
  have hb := hbF_rng hB p
  have hb1 := hbF_rng hB (p + 1)
  have hsk := skF_no hnb
  refine G_aload_n d_X10_readName_0 rfl ?_
  refine G_callV0 cl_X10_185 rfl d_X10_readName_1 (wk_64 _) (Nat.le_of_ble_eq_true rfl) (by decide) (sp_MbehindBlanks B z hz hB p hp hR) ?_
  rintro _ _ ⟨rfl, m2, rfl, ha2, h2⟩
  rw [hsk] at h2 ⊢
  have hO2 : MO s m2 := by obtain ⟨x, rfl⟩ := ha2; exact fun j hj => by rw [upm_off _ _ (by decide)]; exact hO j hj
  refine G_istore_n d_X10_readName_4 (by decide) rfl ?_
  refine G_iload_n d_X10_readName_5 rfl ?_
  refine G_bipush d_X10_readName_6 (by decide) ?_
  refine G_icmp_ne 26 d_X10_readName_8 (by decide) (by omega) (by omega) (fun c8 => ?_) (fun c8 => ?_)
  · refine G_iload_n d_X10_readName_26 rfl ?_
    refine G_bipush d_X10_readName_27 (by decide) ?_
    refine G_icmp_ne 62 d_X10_readName_29 (by decide) (by omega) (by omega) (fun c29 => ?_) (fun c29 => ?_)
    · refine G_iconst d_X10_readName_62 ?_
      refine G_istore_n d_X10_readName_63 (by decide) rfl ?_
      refine G_iload_n d_X10_readName_64 rfl ?_
      refine G_iconst d_X10_readName_65 ?_
      refine G_icmp_lt 77 d_X10_readName_66 (by decide) (by decide) (by decide) (fun _ => ?_) (fun hd => absurd hd (by decide))
      refine G_iconst d_X10_readName_77 ?_
      refine G_iret (mc := 0) (ms := 0) (st := []) d_X10_readName_78 rfl ?_
      have hna : naF B z (pN s) p = none := by unfold naF; rw [if_neg c8, if_neg (by omega)]
      exact ⟨by rw [hna]; rfl, m2, rfl, ha2, fun w p1 hw => by rw [hna] at hw; exact absurd hw (by simp)⟩
    · refine G_aload_n d_X10_readName_32 rfl ?_
      refine G_getIe (fl_X10_173.r) d_X10_readName_33 (wk_64 _) rfl (h2.1) ?_
      refine G_iconst d_X10_readName_36 ?_
      refine G_iadd d_X10_readName_37 ?_
      refine G_aload_n d_X10_readName_38 rfl ?_
      refine G_getIe (fl_X10_176.r) d_X10_readName_39 (wk_64 _) rfl (h2.2.1) ?_
      refine G_icmp_ge 62 d_X10_readName_42 (by decide) (by omega) (by omega) (fun c42 => ?_) (fun c42 => ?_)
      · refine G_iconst d_X10_readName_62 ?_
        refine G_istore_n d_X10_readName_63 (by decide) rfl ?_
        refine G_iload_n d_X10_readName_64 rfl ?_
        refine G_iconst d_X10_readName_65 ?_
        refine G_icmp_lt 77 d_X10_readName_66 (by decide) (by decide) (by decide) (fun _ => ?_) (fun hd => absurd hd (by decide))
        refine G_iconst d_X10_readName_77 ?_
        refine G_iret (mc := 0) (ms := 0) (st := []) d_X10_readName_78 rfl ?_
        have hna : naF B z (pN s) p = none := by unfold naF; rw [if_neg c8, if_neg (by rw [hbF_out (show z ≤ p + 1 by omega)]; omega)]
        exact ⟨by rw [hna]; rfl, m2, rfl, ha2, fun w p1 hw => by rw [hna] at hw; exact absurd hw (by simp)⟩
      · refine G_aload_n d_X10_readName_45 rfl ?_
        refine G_getR (r := 67) (fl_X10_42.r) d_X10_readName_46 (wk_64 _) rfl rfl ?_
        refine G_aload_n d_X10_readName_49 rfl ?_
        refine G_getIe (fl_X10_173.r) d_X10_readName_50 (wk_64 _) rfl (h2.1) ?_
        refine G_iconst d_X10_readName_53 ?_
        refine G_iadd d_X10_readName_54 ?_
        refine G_ialdj (p + 1) d_X10_readName_55 (wk_67 _) (by omega) (by omega) (by decide) ?_
        rw [h2.2.2 (p + 1) (by omega), ← hbF_in (B := B) (show p + 1 < z by omega)]
        refine G_bipush d_X10_readName_56 (by decide) ?_
        refine G_isub d_X10_readName_58 ?_
        refine G_goto 63 d_X10_readName_59 (by decide) ?_
        refine G_istore_n d_X10_readName_63 (by decide) rfl ?_
        refine G_iload_n d_X10_readName_64 rfl ?_
        refine G_iconst d_X10_readName_65 ?_
        refine G_icmp_lt 77 d_X10_readName_66 (by decide) (by omega) (by omega) (fun c66 => ?_) (fun c66 => ?_)
        · refine G_iconst d_X10_readName_77 ?_
          refine G_iret (mc := 0) (ms := 0) (st := []) d_X10_readName_78 rfl ?_
          have hna : naF B z (pN s) p = none := by unfold naF; rw [if_neg c8, if_neg (by omega)]
          exact ⟨by rw [hna]; rfl, m2, rfl, ha2, fun w p1 hw => by rw [hna] at hw; exact absurd hw (by simp)⟩
        · refine G_iload_n d_X10_readName_69 rfl ?_
          refine G_aload_n d_X10_readName_70 rfl ?_
          refine G_callV0 cl_X10_11 rfl d_X10_readName_71 (wk_64 _) (Nat.le_of_ble_eq_true rfl) (by decide) (sp_Mn s hV hO2) ?_
          rintro _ _ ⟨rfl, rfl⟩
          refine G_icmp_le 79 d_X10_readName_74 (by decide) (by omega) (by omega) (fun c74 => ?_) (fun c74 => ?_)
          · refine G_aload_n d_X10_readName_79 rfl ?_
            refine G_aload_n d_X10_readName_80 rfl ?_
            refine G_getIe (fl_X10_173.r) d_X10_readName_81 (wk_64 _) rfl (h2.1) ?_
            refine G_iconst d_X10_readName_84 ?_
            refine G_iadd d_X10_readName_85 ?_
            refine G_putII fl_X10_173 d_X10_readName_86 (wk_64 _) rfl ?_
            refine G_iload_n d_X10_readName_89 rfl ?_
            refine G_iconst d_X10_readName_90 ?_
            refine G_isub d_X10_readName_91 ?_
            refine G_iret (mc := 0) (ms := 0) (st := []) d_X10_readName_92 rfl ?_
            have hna : naF B z (pN s) p = some ((hbF B z (p + 1) - 49).toNat, p + 2) := by unfold naF; rw [if_neg c8, if_pos (by omega)]
            exact ⟨by rw [hna]; show _ = some (iV (((hbF B z (p + 1) - 49).toNat : Nat) : Int)); rw [show hbF B z (p + 1) - 48 - 1 = (((hbF B z (p + 1) - 49).toNat : Nat) : Int) by omega], _, rfl, ha2.trans (AT.of m2 _), fun w p1 hw => by
              rw [hna] at hw
              simp only [Option.some.injEq, Prod.mk.injEq] at hw
              rw [← hw.2]
              have h9 := h2.at (p + 2)
              rw [Int.natCast_add] at h9
              exact h9⟩
          · refine G_iconst d_X10_readName_77 ?_
            refine G_iret (mc := 0) (ms := 0) (st := []) d_X10_readName_78 rfl ?_
            have hna : naF B z (pN s) p = none := by unfold naF; rw [if_neg c8, if_neg (by omega)]
            exact ⟨by rw [hna]; rfl, m2, rfl, ha2, fun w p1 hw => by rw [hna] at hw; exact absurd hw (by simp)⟩
  · refine G_aload_n d_X10_readName_11 rfl ?_
    refine G_aload_n d_X10_readName_12 rfl ?_
    refine G_getIe (fl_X10_173.r) d_X10_readName_13 (wk_64 _) rfl (h2.1) ?_
    refine G_iconst d_X10_readName_16 ?_
    refine G_iadd d_X10_readName_17 ?_
    refine G_putII fl_X10_173 d_X10_readName_18 (wk_64 _) rfl ?_
    refine G_aload_n d_X10_readName_21 rfl ?_
    refine G_callV0 cl_X10_11 rfl d_X10_readName_22 (wk_64 _) (Nat.le_of_ble_eq_true rfl) (by decide) (sp_Mn s hV (fun j hj => by rw [upm_off _ _ (by decide)]; exact hO2 j hj)) ?_
    rintro _ _ ⟨rfl, rfl⟩
    refine G_iret (mc := 0) (ms := 0) (st := []) d_X10_readName_25 rfl ?_
    have hna : naF B z (pN s) p = some (pN s, p + 1) := by unfold naF; rw [if_pos c8]
    exact ⟨by rw [hna]; rfl, _, rfl, ha2.trans (AT.of m2 _), fun w p1 hw => by
      rw [hna] at hw
      simp only [Option.some.injEq, Prod.mk.injEq] at hw
      rw [← hw.2]
      exact h2.at (p + 1)⟩
def isRd {α β : Type} (x : α ⊕ β) : Int := match x with
  | .inl _ => 0
  | .inr _ => 1
theorem g_Mnum {w0 : List KD} (s : Nat → Int) (B : Nat → Int) (z : Nat) (hz : z ≤ 400) (hB : ∀ j, j < z → 0 ≤ B j ∧ B j ≤ 255) (w : Nat) (x1 : Int) : ∀ (d q : Nat) (v c : Int), z - q = d → q ≤ 402 → 0 ≤ v → v ≤ 10000 → c = min v 48 → ∀ m1 (u3 : Int), RS B z q m1 → ∀ Q : Ps, (∀ (v2 : Int) m2, 0 ≤ v2 → v2 ≤ 10000 → (nmF B z d q c).1 = min v2 48 → AT m1 m2 → RS B z (nmF B z d q c).2 m2 → G M_X10_readLine 4 0 0 182 [rV 64, iV x1, iV (w : Int), iV u3, iV v2] [] (WC ++ (WM ++ w0), m2) Q) → G M_X10_readLine 4 0 0 130 [rV 64, iV x1, iV (w : Int), iV u3, iV v] [] (WC ++ (WM ++ w0), m1) Q := by
  intro d
  induction d with
  | zero =>
    intro q v c hd hq hv1 hv2 hc m1 u3 h1 Q hK
    have hb := hbF_out (B := B) (z := z) (p := q) (by omega)
    refine G_aload_n d_X10_readLine_130 rfl ?_
    refine G_aload_n d_X10_readLine_131 rfl ?_
    refine G_callV0 cl_X10_179 rfl d_X10_readLine_132 (wk_64 _) (Nat.le_of_ble_eq_true rfl) (by decide) (sp_Mhere B z hz hB q (by omega) h1) ?_
    rintro _ _ ⟨rfl, rfl⟩
    refine G_callV1 cl_X10_195 rfl d_X10_readLine_135 (wk_64 _) (Nat.le_of_ble_eq_true rfl) (by decide) (sp_MisDigit (hbF B z q) (by omega)) ?_
    rintro _ _ ⟨rfl, rfl⟩
    by_cases hdg : dgF (hbF B z q)
    · omega
    · rw [if_neg hdg]
      refine G_if_eq 182 d_X10_readLine_138 (by decide) (by decide) (fun _ => ?_) (fun hd => absurd hd (by decide))
      exact hK v m1 hv1 hv2 hc ⟨q, by rw [← h1.1]; exact (upm_id _ _ _).symm⟩ h1
  | succ d ih =>
    intro q v c hd hq hv1 hv2 hc m1 u3 h1 Q hK
    have hb := hbF_rng hB q
    have hnm : nmF B z (d + 1) q c = if dgF (hbF B z q) then nmF B z d (q + 1) (min (c * 10 + hbF B z q - 48) 48) else (c, q) := rfl
    by_cases hdg : dgF (hbF B z q)
    · rw [if_pos hdg] at hnm
      rw [hnm] at hK
      have hdg1 := hdg.1
      have hdg2 := hdg.2
      refine G_aload_n d_X10_readLine_130 rfl ?_
      refine G_aload_n d_X10_readLine_131 rfl ?_
      refine G_callV0 cl_X10_179 rfl d_X10_readLine_132 (wk_64 _) (Nat.le_of_ble_eq_true rfl) (by decide) (sp_Mhere B z hz hB q (by omega) h1) ?_
      rintro _ _ ⟨rfl, rfl⟩
      refine G_callV1 cl_X10_195 rfl d_X10_readLine_135 (wk_64 _) (Nat.le_of_ble_eq_true rfl) (by decide) (sp_MisDigit (hbF B z q) (by omega)) ?_
      rintro _ _ ⟨rfl, rfl⟩
      rw [if_pos hdg]
      refine G_if_eq 182 d_X10_readLine_138 (by decide) (by decide) (fun hd => absurd hd (by decide)) (fun _ => ?_)
      refine G_iload d_X10_readLine_141 rfl ?_
      refine G_sipush d_X10_readLine_143 (by decide) ?_
      refine G_icmp_le 154 d_X10_readLine_146 (by decide) (by omega) (by omega) (fun c146 => ?_) (fun c146 => ?_)
      · refine G_bipush d_X10_readLine_154 (by decide) ?_
        refine G_iload d_X10_readLine_156 rfl ?_
        refine G_imul d_X10_readLine_158 ?_
        refine G_aload_n d_X10_readLine_159 rfl ?_
        refine G_callV0 cl_X10_179 rfl d_X10_readLine_160 (wk_64 _) (Nat.le_of_ble_eq_true rfl) (by decide) (sp_Mhere B z hz hB q (by omega) h1) ?_
        rintro _ _ ⟨rfl, rfl⟩
        refine G_iadd d_X10_readLine_163 ?_
        refine G_bipush d_X10_readLine_164 (by decide) ?_
        refine G_isub d_X10_readLine_166 ?_
        refine G_istore d_X10_readLine_167 (by decide) rfl ?_
        refine G_aload_n d_X10_readLine_169 rfl ?_
        refine G_aload_n d_X10_readLine_170 rfl ?_
        refine G_getIe (fl_X10_173.r) d_X10_readLine_171 (wk_64 _) rfl (h1.1) ?_
        refine G_iconst d_X10_readLine_174 ?_
        refine G_iadd d_X10_readLine_175 ?_
        refine G_putII fl_X10_173 d_X10_readLine_176 (wk_64 _) rfl ?_
        refine G_goto 130 d_X10_readLine_179 (by decide) ?_
        refine ih (q + 1) _ _ (by omega) (by omega) (by omega) (by omega) ?_ _ u3 (h1.at (q + 1)) Q (fun v2 m2 a1 a2 a3 a4 a5 => hK v2 m2 a1 a2 a3 ((AT.of m1 _).trans a4) a5)
        omega
      · refine G_iload d_X10_readLine_149 rfl ?_
        refine G_goto 167 d_X10_readLine_151 (by decide) ?_
        refine G_istore d_X10_readLine_167 (by decide) rfl ?_
        refine G_aload_n d_X10_readLine_169 rfl ?_
        refine G_aload_n d_X10_readLine_170 rfl ?_
        refine G_getIe (fl_X10_173.r) d_X10_readLine_171 (wk_64 _) rfl (h1.1) ?_
        refine G_iconst d_X10_readLine_174 ?_
        refine G_iadd d_X10_readLine_175 ?_
        refine G_putII fl_X10_173 d_X10_readLine_176 (wk_64 _) rfl ?_
        refine G_goto 130 d_X10_readLine_179 (by decide) ?_
        refine ih (q + 1) _ _ (by omega) (by omega) (by omega) (by omega) ?_ _ u3 (h1.at (q + 1)) Q (fun v2 m2 a1 a2 a3 a4 a5 => hK v2 m2 a1 a2 a3 ((AT.of m1 _).trans a4) a5)
        omega
    · rw [if_neg hdg] at hnm
      rw [hnm] at hK
      refine G_aload_n d_X10_readLine_130 rfl ?_
      refine G_aload_n d_X10_readLine_131 rfl ?_
      refine G_callV0 cl_X10_179 rfl d_X10_readLine_132 (wk_64 _) (Nat.le_of_ble_eq_true rfl) (by decide) (sp_Mhere B z hz hB q (by omega) h1) ?_
      rintro _ _ ⟨rfl, rfl⟩
      refine G_callV1 cl_X10_195 rfl d_X10_readLine_135 (wk_64 _) (Nat.le_of_ble_eq_true rfl) (by decide) (sp_MisDigit (hbF B z q) (by omega)) ?_
      rintro _ _ ⟨rfl, rfl⟩
      rw [if_neg hdg]
      refine G_if_eq 182 d_X10_readLine_138 (by decide) (by decide) (fun _ => ?_) (fun hd => absurd hd (by decide))
      exact hK v m1 hv1 hv2 hc ⟨q, by rw [← h1.1]; exact (upm_id _ _ _).symm⟩ h1
theorem RdL.put {L : Nat → Nat} {V : Nat → Int} {m : Nat → Nat → Int} {w i : Nat} {x : Int} (h : RdL (upN L w i) V m) (hw : w < 6) (hi : i < 24) (hL : ∀ k, L k ≤ 24) : RdL (upN L w (i + 1)) (upV V (24 * w + i) x) (upm (upm m 69 (24 * w + i) x) 68 w ((i : Int) + 1)) := by
  refine ⟨fun k hk => ?_, fun k hk j hj => ?_⟩
  · unfold upN
    by_cases e : k = w
    · rw [if_pos e, e, upm_same]; rfl
    · rw [if_neg e, upm_ne _ _ (fun _ => e), upm_off _ _ (by decide)]
      have := h.1 k hk
      unfold upN at this
      rw [if_neg e] at this
      exact this
  · rw [upm_off _ _ (by decide)]
    have h2 := h.2 k hk j
    have hLk := hL k
    unfold upN at hj h2
    unfold upV
    by_cases e : 24 * k + j = 24 * w + i
    · rw [if_pos e, e, upm_same]
    · rw [if_neg e, upm_ne _ _ (fun _ => e)]
      by_cases x : k = w
      · rw [if_pos x] at hj h2
        exact h2 (by subst x; omega)
      · rw [if_neg x] at hj h2
        exact h2 hj
theorem RdL.w {L : Nat → Nat} {V : Nat → Int} {m : Nat → Nat → Int} {w i : Nat} (h : RdL (upN L w i) V m) (hw : w < 6) : m 68 w = (i : Int) := by
  have := h.1 w hw
  unfold upN at this
  rw [if_pos rfl] at this
  exact this
theorem RS.put {B : Nat → Int} {z p : Nat} {m : Nat → Nat → Int} (h : RS B z p m) (j k : Nat) (x y : Int) : RS B z p (upm (upm m 69 j x) 68 k y) := ⟨by rw [upm_off _ _ (by decide), upm_off _ _ (by decide)]; exact h.1, by rw [upm_off _ _ (by decide), upm_off _ _ (by decide)]; exact h.2.1, fun i hi => by rw [upm_off _ _ (by decide), upm_off _ _ (by decide)]; exact h.2.2 i hi⟩
theorem FR.put (m : Nat → Nat → Int) (j k : Nat) (x y : Int) : FR m (upm (upm m 69 j x) 68 k y) := ⟨fun a _ h2 h3 => by rw [upm_off _ _ h2, upm_off _ _ h3], fun i _ _ _ => by rw [upm_off _ _ (by decide), upm_off _ _ (by decide)]⟩
theorem FR.err (m : Nat → Nat → Int) (x y : Int) : FR m (upm (upm m 64 7 x) 64 8 y) := ⟨fun a h1 _ _ => by rw [upm_off _ _ h1, upm_off _ _ h1], fun i h1 h2 _ => by rw [upm_ne _ _ (fun _ => h2), upm_ne _ _ (fun _ => h1)]⟩
theorem MO.fr {s : Nat → Int} {m m2 : Nat → Nat → Int} (h : MO s m) (k : FR m m2) : MO s m2 := fun j hj => by rw [k.1 65 (by decide) (by decide) (by decide)]; exact h j hj
theorem g_Mnums {w0 : List KD} (s : Nat → Int) (hV : VS s) (B : Nat → Int) (z : Nat) (hz : z ≤ 400) (hB : ∀ j, j < z → 0 ≤ B j ∧ B j ≤ 255) (w : Nat) (hw : w < 6) (L : Nat → Nat) (hL : ∀ k, L k ≤ 24) (m : Nat → Nat → Int) (x1 : Int) : ∀ (f i p : Nat) (V : Nat → Int) (u3 u4 : PV) m1, i + f = 24 → p ≤ 402 → MO s m → FR m m1 → m1 64 7 = m 64 7 → m1 64 8 = m 64 8 → RS B z p m1 → RdL (upN L w i) V m1 → G M_X10_readLine 4 0 0 72 [rV 64, iV x1, iV (w : Int), u3, u4] [] (WC ++ (WM ++ w0), m1) (fun r h => r = some (iV (isRd (nbF B z (pT s) w f i p V))) ∧ ∃ m2, h = (WC ++ (WM ++ w0), m2) ∧ FR m m2 ∧ (∀ e, nbF B z (pT s) w f i p V = .inl e → m2 64 7 = e.1 ∧ m2 64 8 = (e.2 : Int)) ∧ (∀ p2 i2 V2, nbF B z (pT s) w f i p V = .inr (p2, i2, V2) → RS B z p2 m2 ∧ RdL (upN L w i2) V2 m2 ∧ m2 64 7 = m 64 7 ∧ m2 64 8 = m 64 8)) := by
  have hT := hV.T
  intro f
  induction f with
  | zero =>
    intro i p V u3 u4 m1 hif hp hO hF hk7 hk8 h1 hRL
    have hge := skF_ge B z p
    have hRw1 := hRL.w hw
    have hbr := hbF_rng hB (skF B z p)
    have K90 : ∀ p1 m2, skF B z p1 = skF B z p → p1 ≤ 402 → AT m1 m2 → RS B z p1 m2 → ¬ (0 < i ∧ hbF B z (skF B z p) = 59) → G M_X10_readLine 4 0 0 90 [rV 64, iV x1, iV (w : Int), u3, u4] [] (WC ++ (WM ++ w0), m2) (fun r h => r = some (iV (isRd (nbF B z (pT s) w 0 i p V))) ∧ ∃ m2, h = (WC ++ (WM ++ w0), m2) ∧ FR m m2 ∧ (∀ e, nbF B z (pT s) w 0 i p V = .inl e → m2 64 7 = e.1 ∧ m2 64 8 = (e.2 : Int)) ∧ (∀ p2 i2 V2, nbF B z (pT s) w 0 i p V = .inr (p2, i2, V2) → RS B z p2 m2 ∧ RdL (upN L w i2) V2 m2 ∧ m2 64 7 = m 64 7 ∧ m2 64 8 = m 64 8)) := by
      intro p1 m2 hsk hp1 ha2 h2 hno
      refine G_aload_n d_X10_readLine_90 rfl ?_
      refine G_aload_n d_X10_readLine_91 rfl ?_
      refine G_callV0 cl_X10_185 rfl d_X10_readLine_92 (wk_64 _) (Nat.le_of_ble_eq_true rfl) (by decide) (sp_MbehindBlanks B z hz hB p1 (by omega) h2) ?_
      rintro _ _ ⟨rfl, m3, rfl, ha3, h3⟩
      rw [hsk] at h3 ⊢
      have ha13 := ha2.trans ha3
      have hF3 := hF.trans ha13.fr
      have hL3 := ha13.rl hRL
      have hk3 : m3 64 7 = m 64 7 ∧ m3 64 8 = m 64 8 := ⟨ha13.fk.1.trans hk7, ha13.fk.2.trans hk8⟩
      have hRw := hL3.w hw
      have hbr := hbF_rng hB (skF B z p)
      refine G_callV1 cl_X10_195 rfl d_X10_readLine_95 (wk_64 _) (Nat.le_of_ble_eq_true rfl) (by decide) (sp_MisDigit (hbF B z (skF B z p)) (by omega)) ?_
      rintro _ _ ⟨rfl, rfl⟩
      by_cases hdg : dgF (hbF B z (skF B z p))
      · rw [if_pos hdg]
        refine G_if_eq 112 d_X10_readLine_98 (by decide) (by decide) (fun hd => absurd hd (by decide)) (fun _ => ?_)
        refine G_aload_n d_X10_readLine_101 rfl ?_
        refine G_getR (r := 68) (fl_X10_48.r) d_X10_readLine_102 (wk_64 _) rfl rfl ?_
        refine G_iload_n d_X10_readLine_105 rfl ?_
        refine G_ialdj (w) d_X10_readLine_106 (wk_68 _) (by omega) (by omega) (by decide) ?_
        rw [hRw]
        refine G_bipush d_X10_readLine_107 (by decide) ?_
        refine G_icmp_ne 122 d_X10_readLine_109 (by decide) (by omega) (by omega) (fun c109 => ?_) (fun c109 => ?_)
        · omega
        · refine G_aload_n d_X10_readLine_112 rfl ?_
          refine G_iconst d_X10_readLine_113 ?_
          refine G_aload_n d_X10_readLine_114 rfl ?_
          refine G_getIe (fl_X10_173.r) d_X10_readLine_115 (wk_64 _) rfl (h3.1) ?_
          refine G_callV2 cl_X10_191 rfl d_X10_readLine_118 (wk_64 _) (Nat.le_of_ble_eq_true rfl) (by decide) (sp_Merrs 1 ((skF B z p : Nat) : Int)) ?_
          rintro _ _ ⟨rfl, rfl⟩
          refine G_zret (mc := 0) (ms := 0) (st := []) d_X10_readLine_121 rfl (by omega) ?_
          have ht : nbF B z (pT s) w 0 i p V = .inl (1, skF B z p) := by rw [nbF, if_neg hno]
          rw [ht]
          exact ⟨rfl, _, rfl, (hF3).trans (FR.err _ _ _), fun e he => by
            simp only [Sum.inl.injEq] at he
            subst he
            exact ⟨by rw [upm_ne _ _ (fun _ => by decide), upm_same], by rw [upm_same]⟩, fun p2 i2 V2 he => absurd he (by simp)⟩
      · rw [if_neg hdg]
        refine G_if_eq 112 d_X10_readLine_98 (by decide) (by decide) (fun _ => ?_) (fun hd => absurd hd (by decide))
        refine G_aload_n d_X10_readLine_112 rfl ?_
        refine G_iconst d_X10_readLine_113 ?_
        refine G_aload_n d_X10_readLine_114 rfl ?_
        refine G_getIe (fl_X10_173.r) d_X10_readLine_115 (wk_64 _) rfl (h3.1) ?_
        refine G_callV2 cl_X10_191 rfl d_X10_readLine_118 (wk_64 _) (Nat.le_of_ble_eq_true rfl) (by decide) (sp_Merrs 1 ((skF B z p : Nat) : Int)) ?_
        rintro _ _ ⟨rfl, rfl⟩
        refine G_zret (mc := 0) (ms := 0) (st := []) d_X10_readLine_121 rfl (by omega) ?_
        have ht : nbF B z (pT s) w 0 i p V = .inl (1, skF B z p) := by rw [nbF, if_neg hno]
        rw [ht]
        exact ⟨rfl, _, rfl, (hF3).trans (FR.err _ _ _), fun e he => by
          simp only [Sum.inl.injEq] at he
          subst he
          exact ⟨by rw [upm_ne _ _ (fun _ => by decide), upm_same], by rw [upm_same]⟩, fun p2 i2 V2 he => absurd he (by simp)⟩
    refine G_aload_n d_X10_readLine_72 rfl ?_
    refine G_getR (r := 68) (fl_X10_48.r) d_X10_readLine_73 (wk_64 _) rfl rfl ?_
    refine G_iload_n d_X10_readLine_76 rfl ?_
    refine G_ialdj (w) d_X10_readLine_77 (wk_68 _) (by omega) (by omega) (by decide) ?_
    rw [hRw1]
    refine G_if_eq 90 d_X10_readLine_78 (by decide) (by omega) (fun c78 => ?_) (fun c78 => ?_)
    · exact K90 p m1 rfl (by omega) ⟨p, by rw [← h1.1]; exact (upm_id _ _ _).symm⟩ h1 (by omega)
    · refine G_aload_n d_X10_readLine_81 rfl ?_
      refine G_callV0 cl_X10_185 rfl d_X10_readLine_82 (wk_64 _) (Nat.le_of_ble_eq_true rfl) (by decide) (sp_MbehindBlanks B z hz hB p (by omega) h1) ?_
      rintro _ _ ⟨rfl, m2, rfl, ha2, h2⟩
      refine G_bipush d_X10_readLine_85 (by decide) ?_
      refine G_icmp_eq 233 d_X10_readLine_87 (by decide) (by omega) (by omega) (fun c87 => ?_) (fun c87 => ?_)
      · refine G_aload_n d_X10_readLine_233 rfl ?_
        refine G_aload_n d_X10_readLine_234 rfl ?_
        refine G_getIe (fl_X10_173.r) d_X10_readLine_235 (wk_64 _) rfl (h2.1) ?_
        refine G_iconst d_X10_readLine_238 ?_
        refine G_iadd d_X10_readLine_239 ?_
        refine G_putII fl_X10_173 d_X10_readLine_240 (wk_64 _) rfl ?_
        refine G_iconst d_X10_readLine_243 ?_
        refine G_zret (mc := 0) (ms := 0) (st := []) d_X10_readLine_244 rfl (by omega) ?_
        have ht : nbF B z (pT s) w 0 i p V = .inr (skF B z p + 1, i, V) := by rw [nbF, if_pos ⟨by omega, c87⟩]
        rw [ht]
        have ha3 := ha2.trans (AT.of m2 (((skF B z p : Nat) : Int) + 1))
        exact ⟨rfl, _, rfl, hF.trans ha3.fr, fun e he => absurd he (by simp), fun p2 i2 V2 he => by
          simp only [Sum.inr.injEq, Prod.mk.injEq] at he
          obtain ⟨rfl, rfl, rfl⟩ := he
          exact ⟨h2.at (skF B z p + 1), ha3.rl hRL, ha3.fk.1.trans hk7, ha3.fk.2.trans hk8⟩⟩
      · exact K90 (skF B z p) m2 (skF_id B z p) (by omega) ha2 h2 (by omega)
  | succ f ih =>
    intro i p V u3 u4 m1 hif hp hO hF hk7 hk8 h1 hRL
    have hge := skF_ge B z p
    have hRw1 := hRL.w hw
    have hbr := hbF_rng hB (skF B z p)
    have K90 : ∀ p1 m2, skF B z p1 = skF B z p → p1 ≤ 402 → AT m1 m2 → RS B z p1 m2 → ¬ (0 < i ∧ hbF B z (skF B z p) = 59) → G M_X10_readLine 4 0 0 90 [rV 64, iV x1, iV (w : Int), u3, u4] [] (WC ++ (WM ++ w0), m2) (fun r h => r = some (iV (isRd (nbF B z (pT s) w (f + 1) i p V))) ∧ ∃ m2, h = (WC ++ (WM ++ w0), m2) ∧ FR m m2 ∧ (∀ e, nbF B z (pT s) w (f + 1) i p V = .inl e → m2 64 7 = e.1 ∧ m2 64 8 = (e.2 : Int)) ∧ (∀ p2 i2 V2, nbF B z (pT s) w (f + 1) i p V = .inr (p2, i2, V2) → RS B z p2 m2 ∧ RdL (upN L w i2) V2 m2 ∧ m2 64 7 = m 64 7 ∧ m2 64 8 = m 64 8)) := by
      intro p1 m2 hsk hp1 ha2 h2 hno
      refine G_aload_n d_X10_readLine_90 rfl ?_
      refine G_aload_n d_X10_readLine_91 rfl ?_
      refine G_callV0 cl_X10_185 rfl d_X10_readLine_92 (wk_64 _) (Nat.le_of_ble_eq_true rfl) (by decide) (sp_MbehindBlanks B z hz hB p1 (by omega) h2) ?_
      rintro _ _ ⟨rfl, m3, rfl, ha3, h3⟩
      rw [hsk] at h3 ⊢
      have ha13 := ha2.trans ha3
      have hF3 := hF.trans ha13.fr
      have hL3 := ha13.rl hRL
      have hk3 : m3 64 7 = m 64 7 ∧ m3 64 8 = m 64 8 := ⟨ha13.fk.1.trans hk7, ha13.fk.2.trans hk8⟩
      have hRw := hL3.w hw
      have hbr := hbF_rng hB (skF B z p)
      refine G_callV1 cl_X10_195 rfl d_X10_readLine_95 (wk_64 _) (Nat.le_of_ble_eq_true rfl) (by decide) (sp_MisDigit (hbF B z (skF B z p)) (by omega)) ?_
      rintro _ _ ⟨rfl, rfl⟩
      by_cases hdg : dgF (hbF B z (skF B z p))
      · rw [if_pos hdg]
        refine G_if_eq 112 d_X10_readLine_98 (by decide) (by decide) (fun hd => absurd hd (by decide)) (fun _ => ?_)
        refine G_aload_n d_X10_readLine_101 rfl ?_
        refine G_getR (r := 68) (fl_X10_48.r) d_X10_readLine_102 (wk_64 _) rfl rfl ?_
        refine G_iload_n d_X10_readLine_105 rfl ?_
        refine G_ialdj (w) d_X10_readLine_106 (wk_68 _) (by omega) (by omega) (by decide) ?_
        rw [hRw]
        refine G_bipush d_X10_readLine_107 (by decide) ?_
        refine G_icmp_ne 122 d_X10_readLine_109 (by decide) (by omega) (by omega) (fun c109 => ?_) (fun c109 => ?_)
        · refine G_aload_n d_X10_readLine_122 rfl ?_
          refine G_getIe (fl_X10_173.r) d_X10_readLine_123 (wk_64 _) rfl (h3.1) ?_
          refine G_istore_n d_X10_readLine_126 (by decide) rfl ?_
          refine G_iconst d_X10_readLine_127 ?_
          refine G_istore d_X10_readLine_128 (by decide) rfl ?_
          have hO3 := hO.fr hF3
          have hqz : skF B z p < z := by
            by_cases c : skF B z p < z
            · exact c
            · have h9 := hbF_out (B := B) (z := z) (p := skF B z p) (by omega)
              have h8 := hdg.1
              omega
          have hnr := nmF_rng (B := B) (z := z) (z - skF B z p) (skF B z p) 0 ⟨by decide, by decide⟩
          refine g_Mnum s B z hz hB w x1 (z - skF B z p) (skF B z p) 0 0 rfl (by omega) (by decide) (by decide) rfl m3 _ h3 _ (fun v2 m4 b1 b2 b3 ha4 h4 => ?_)
          have hF4 := hF3.trans ha4.fr
          have hO4 := hO.fr hF4
          have hL4 := ha4.rl hL3
          have hk4 : m4 64 7 = m 64 7 ∧ m4 64 8 = m 64 8 := ⟨ha4.fk.1.trans hk3.1, ha4.fk.2.trans hk3.2⟩
          refine G_iload d_X10_readLine_182 rfl ?_
          refine G_aload_n d_X10_readLine_184 rfl ?_
          refine G_callV0 cl_X10_148 rfl d_X10_readLine_185 (wk_64 _) (Nat.le_of_ble_eq_true rfl) (by decide) (sp_Mt s hV hO4) ?_
          rintro _ _ ⟨rfl, rfl⟩
          refine G_icmp_lt 198 d_X10_readLine_188 (by decide) (by omega) (by omega) (fun c188 => ?_) (fun c188 => ?_)
          · refine G_aload_n d_X10_readLine_198 rfl ?_
            refine G_getR (r := 69) (fl_X10_51.r) d_X10_readLine_199 (wk_64 _) rfl rfl ?_
            refine G_bipush d_X10_readLine_202 (by decide) ?_
            refine G_iload_n d_X10_readLine_204 rfl ?_
            refine G_imul d_X10_readLine_205 ?_
            refine G_aload_n d_X10_readLine_206 rfl ?_
            refine G_getR (r := 68) (fl_X10_48.r) d_X10_readLine_207 (wk_64 _) rfl rfl ?_
            refine G_iload_n d_X10_readLine_210 rfl ?_
            refine G_ialdj (w) d_X10_readLine_211 (wk_68 _) (by omega) (by omega) (by decide) ?_
            have hRw4 := hL4.w hw
            rw [hRw4]
            refine G_iadd d_X10_readLine_212 ?_
            refine G_iload d_X10_readLine_213 rfl ?_
            refine G_iastj (24 * w + i) d_X10_readLine_215 (wk_69 _) (by omega) (by omega) (by decide) ?_
            refine G_aload_n d_X10_readLine_216 rfl ?_
            refine G_getR (r := 68) (fl_X10_48.r) d_X10_readLine_217 (wk_64 _) rfl rfl ?_
            refine G_iload_n d_X10_readLine_220 rfl ?_
            refine G_aload_n d_X10_readLine_221 rfl ?_
            refine G_getR (r := 68) (fl_X10_48.r) d_X10_readLine_222 (wk_64 _) rfl rfl ?_
            refine G_iload_n d_X10_readLine_225 rfl ?_
            refine G_ialdj (w) d_X10_readLine_226 (wk_68 _) (by omega) (by omega) (by decide) ?_
            rw [upm_off _ _ (by decide), hRw4]
            refine G_iconst d_X10_readLine_227 ?_
            refine G_iadd d_X10_readLine_228 ?_
            refine G_iastj (w) d_X10_readLine_229 (wk_68 _) (by omega) (by omega) (by decide) ?_
            refine G_goto 72 d_X10_readLine_230 (by decide) ?_
            have ht : nbF B z (pT s) w (f + 1) i p V = nbF B z (pT s) w f (i + 1) (nmF B z (z - skF B z p) (skF B z p) 0).2 (upV V (24 * w + i) v2) := by
              rw [nbF, if_neg hno, if_neg (fun e => e hdg), if_neg (by omega), show (nmF B z (z - skF B z p) (skF B z p) 0).1 = v2 by omega]
            rw [ht]
            have hF5 := hF4.trans (FR.put m4 (24 * w + i) w v2 ((i : Int) + 1))
            exact ih (i + 1) _ _ _ _ _ (by omega) (by omega) hO hF5 (by rw [upm_off _ _ (by decide), upm_off _ _ (by decide)]; exact hk4.1) (by rw [upm_off _ _ (by decide), upm_off _ _ (by decide)]; exact hk4.2) (h4.put _ _ _ _) (hL4.put hw (by omega) hL)
          · refine G_aload_n d_X10_readLine_191 rfl ?_
            refine G_iconst d_X10_readLine_192 ?_
            refine G_iload_n d_X10_readLine_193 rfl ?_
            refine G_callV2 cl_X10_191 rfl d_X10_readLine_194 (wk_64 _) (Nat.le_of_ble_eq_true rfl) (by decide) (sp_Merrs 2 ((skF B z p : Nat) : Int)) ?_
            rintro _ _ ⟨rfl, rfl⟩
            refine G_zret (mc := 0) (ms := 0) (st := []) d_X10_readLine_197 rfl (by omega) ?_
            have ht : nbF B z (pT s) w (f + 1) i p V = .inl (2, skF B z p) := by rw [nbF, if_neg hno, if_neg (fun e => e hdg), if_pos (by omega)]
            rw [ht]
            exact ⟨rfl, _, rfl, hF4.trans (FR.err _ _ _), fun e he => by
              simp only [Sum.inl.injEq] at he
              subst he
              exact ⟨by rw [upm_ne _ _ (fun _ => by decide), upm_same], by rw [upm_same]⟩, fun p2 i2 V2 he => absurd he (by simp)⟩
        · omega
      · rw [if_neg hdg]
        refine G_if_eq 112 d_X10_readLine_98 (by decide) (by decide) (fun _ => ?_) (fun hd => absurd hd (by decide))
        refine G_aload_n d_X10_readLine_112 rfl ?_
        refine G_iconst d_X10_readLine_113 ?_
        refine G_aload_n d_X10_readLine_114 rfl ?_
        refine G_getIe (fl_X10_173.r) d_X10_readLine_115 (wk_64 _) rfl (h3.1) ?_
        refine G_callV2 cl_X10_191 rfl d_X10_readLine_118 (wk_64 _) (Nat.le_of_ble_eq_true rfl) (by decide) (sp_Merrs 1 ((skF B z p : Nat) : Int)) ?_
        rintro _ _ ⟨rfl, rfl⟩
        refine G_zret (mc := 0) (ms := 0) (st := []) d_X10_readLine_121 rfl (by omega) ?_
        have ht : nbF B z (pT s) w (f + 1) i p V = .inl (1, skF B z p) := by rw [nbF, if_neg hno, if_pos hdg]
        rw [ht]
        exact ⟨rfl, _, rfl, (hF3).trans (FR.err _ _ _), fun e he => by
          simp only [Sum.inl.injEq] at he
          subst he
          exact ⟨by rw [upm_ne _ _ (fun _ => by decide), upm_same], by rw [upm_same]⟩, fun p2 i2 V2 he => absurd he (by simp)⟩
    refine G_aload_n d_X10_readLine_72 rfl ?_
    refine G_getR (r := 68) (fl_X10_48.r) d_X10_readLine_73 (wk_64 _) rfl rfl ?_
    refine G_iload_n d_X10_readLine_76 rfl ?_
    refine G_ialdj (w) d_X10_readLine_77 (wk_68 _) (by omega) (by omega) (by decide) ?_
    rw [hRw1]
    refine G_if_eq 90 d_X10_readLine_78 (by decide) (by omega) (fun c78 => ?_) (fun c78 => ?_)
    · exact K90 p m1 rfl (by omega) ⟨p, by rw [← h1.1]; exact (upm_id _ _ _).symm⟩ h1 (by omega)
    · refine G_aload_n d_X10_readLine_81 rfl ?_
      refine G_callV0 cl_X10_185 rfl d_X10_readLine_82 (wk_64 _) (Nat.le_of_ble_eq_true rfl) (by decide) (sp_MbehindBlanks B z hz hB p (by omega) h1) ?_
      rintro _ _ ⟨rfl, m2, rfl, ha2, h2⟩
      refine G_bipush d_X10_readLine_85 (by decide) ?_
      refine G_icmp_eq 233 d_X10_readLine_87 (by decide) (by omega) (by omega) (fun c87 => ?_) (fun c87 => ?_)
      · refine G_aload_n d_X10_readLine_233 rfl ?_
        refine G_aload_n d_X10_readLine_234 rfl ?_
        refine G_getIe (fl_X10_173.r) d_X10_readLine_235 (wk_64 _) rfl (h2.1) ?_
        refine G_iconst d_X10_readLine_238 ?_
        refine G_iadd d_X10_readLine_239 ?_
        refine G_putII fl_X10_173 d_X10_readLine_240 (wk_64 _) rfl ?_
        refine G_iconst d_X10_readLine_243 ?_
        refine G_zret (mc := 0) (ms := 0) (st := []) d_X10_readLine_244 rfl (by omega) ?_
        have ht : nbF B z (pT s) w (f + 1) i p V = .inr (skF B z p + 1, i, V) := by rw [nbF, if_pos ⟨by omega, c87⟩]
        rw [ht]
        have ha3 := ha2.trans (AT.of m2 (((skF B z p : Nat) : Int) + 1))
        exact ⟨rfl, _, rfl, hF.trans ha3.fr, fun e he => absurd he (by simp), fun p2 i2 V2 he => by
          simp only [Sum.inr.injEq, Prod.mk.injEq] at he
          obtain ⟨rfl, rfl, rfl⟩ := he
          exact ⟨h2.at (skF B z p + 1), ha3.rl hRL, ha3.fk.1.trans hk7, ha3.fk.2.trans hk8⟩⟩
      · exact K90 (skF B z p) m2 (skF_id B z p) (by omega) ha2 h2 (by omega)
theorem sp_MreadLine {w : List KD} {m : Nat → Nat → Int} (s : Nat → Int) (hV : VS s) (hO : MO s m) (B : Nat → Int) (z : Nat) (hz : z ≤ 400) (hB : ∀ j, j < z → 0 ≤ B j ∧ B j ≤ 255) (p : Nat) (hp : p ≤ 402) (hR : RS B z p m) (L : Nat → Nat) (V : Nat → Int) (hL : ∀ k, L k ≤ 24) (hRL : RdL L V m) : Sp M_X10_readLine 4 0 0 [rV 64] (WC ++ (WM ++ w), m) (fun r h => r = some (iV (isRd (lnF B z (pN s) (pT s) (skF B z p) L V))) ∧ ∃ m2, h = (WC ++ (WM ++ w), m2) ∧ FR m m2 ∧ (∀ e, lnF B z (pN s) (pT s) (skF B z p) L V = .inl e → m2 64 7 = e.1 ∧ m2 64 8 = (e.2 : Int)) ∧ (∀ p2 L2 V2, lnF B z (pN s) (pT s) (skF B z p) L V = .inr (p2, L2, V2) → RS B z p2 m2 ∧ RdL L2 V2 m2 ∧ m2 64 7 = m 64 7 ∧ m2 64 8 = m 64 8)) := by
  refine Sp.ofG (ls := [rV 64, uV, uV, uV, uV]) (by decide +kernel) rfl (Nat.le_of_ble_eq_true rfl) ?_
  have hN := hV.N
  have hge := skF_ge B z p
  refine G_aload_n d_X10_readLine_0 rfl ?_
  refine G_callV0 cl_X10_185 rfl d_X10_readLine_1 (wk_64 _) (Nat.le_of_ble_eq_true rfl) (by decide) (sp_MbehindBlanks B z hz hB p (by omega) hR) ?_
  rintro _ _ ⟨rfl, m1, rfl, ha1, h1⟩
  have hO1 := hO.fr ha1.fr
  refine G_pop d_X10_readLine_4 rfl ?_
  refine G_aload_n d_X10_readLine_5 rfl ?_
  refine G_getIe (fl_X10_173.r) d_X10_readLine_6 (wk_64 _) rfl (h1.1) ?_
  refine G_istore_n d_X10_readLine_9 (by decide) rfl ?_
  refine G_aload_n d_X10_readLine_10 rfl ?_
  refine G_callV0 cl_X10_188 rfl d_X10_readLine_11 (wk_64 _) (Nat.le_of_ble_eq_true rfl) (by decide) (sp_MreadName s hV hO1 B z hz hB (skF B z p) (by omega) h1 (skF_nb B z _ p rfl)) ?_
  rintro _ _ ⟨rfl, m2, rfl, ha2, hn2⟩
  have ha12 := ha1.trans ha2
  by_cases hna : naF B z (pN s) (skF B z p) = none
  · refine G_istore_n d_X10_readLine_14 (by decide) rfl ?_
    rw [show naW (naF B z (pN s) (skF B z p)) = -1 by rw [hna]; rfl]
    refine G_iload_n d_X10_readLine_15 rfl ?_
    refine G_iconst d_X10_readLine_16 ?_
    refine G_icmp_ne 27 d_X10_readLine_17 (by decide) (by omega) (by omega) (fun c17 => ?_) (fun c17 => ?_)
    · omega
    · refine G_aload_n d_X10_readLine_20 rfl ?_
      refine G_iconst d_X10_readLine_21 ?_
      refine G_iload_n d_X10_readLine_22 rfl ?_
      refine G_callV2 cl_X10_191 rfl d_X10_readLine_23 (wk_64 _) (Nat.le_of_ble_eq_true rfl) (by decide) (sp_Merrs 1 ((skF B z p : Nat) : Int)) ?_
      rintro _ _ ⟨rfl, rfl⟩
      refine G_zret (mc := 0) (ms := 0) (st := []) d_X10_readLine_26 rfl (by omega) ?_
      have ht : lnF B z (pN s) (pT s) (skF B z p) L V = .inl (1, skF B z p) := by unfold lnF; rw [hna]
      rw [ht]
      exact ⟨rfl, _, rfl, ha12.fr.trans (FR.err _ _ _), fun e he => by
        simp only [Sum.inl.injEq] at he
        subst he
        exact ⟨by rw [upm_ne _ _ (fun _ => by decide), upm_same], by rw [upm_same]⟩, fun p2 L2 V2 he => absurd he (by simp)⟩
  · refine G_istore_n d_X10_readLine_14 (by decide) rfl ?_
    obtain ⟨⟨w, p1⟩, hw⟩ := Option.ne_none_iff_exists'.mp hna
    have hwn := naF_w hw
    have h2 := hn2 w p1 hw
    rw [show naW (naF B z (pN s) (skF B z p)) = (w : Int) by rw [hw]; rfl]
    have hL2 := ha12.rl hRL
    have hLw := hL w
    refine G_iload_n d_X10_readLine_15 rfl ?_
    refine G_iconst d_X10_readLine_16 ?_
    refine G_icmp_ne 27 d_X10_readLine_17 (by decide) (by omega) (by omega) (fun c17 => ?_) (fun c17 => ?_)
    · refine G_aload_n d_X10_readLine_27 rfl ?_
      refine G_getR (r := 68) (fl_X10_48.r) d_X10_readLine_28 (wk_64 _) rfl rfl ?_
      refine G_iload_n d_X10_readLine_31 rfl ?_
      refine G_ialdj (w) d_X10_readLine_32 (wk_68 _) (by omega) (by omega) (by decide) ?_
      rw [hL2.1 w (by omega)]
      refine G_if_le 43 d_X10_readLine_33 (by decide) (by omega) (fun c33 => ?_) (fun c33 => ?_)
      · refine G_aload_n d_X10_readLine_43 rfl ?_
        refine G_callV0 cl_X10_185 rfl d_X10_readLine_44 (wk_64 _) (Nat.le_of_ble_eq_true rfl) (by decide) (sp_MbehindBlanks B z hz hB p1 (by omega) h2) ?_
        rintro _ _ ⟨rfl, m3, rfl, ha3, h3⟩
        have ha13 := ha12.trans ha3
        have hge1 := skF_ge B z p1
        have hbr := hbF_rng hB (skF B z p1)
        refine G_bipush d_X10_readLine_47 (by decide) ?_
        refine G_icmp_eq 62 d_X10_readLine_49 (by decide) (by omega) (by omega) (fun c49 => ?_) (fun c49 => ?_)
        · refine G_aload_n d_X10_readLine_62 rfl ?_
          refine G_aload_n d_X10_readLine_63 rfl ?_
          refine G_getIe (fl_X10_173.r) d_X10_readLine_64 (wk_64 _) rfl (h3.1) ?_
          refine G_iconst d_X10_readLine_67 ?_
          refine G_iadd d_X10_readLine_68 ?_
          refine G_putII fl_X10_173 d_X10_readLine_69 (wk_64 _) rfl ?_
          have ha4 := ha13.trans (AT.of m3 (((skF B z p1 : Nat) : Int) + 1))
          have hLw0 : L w = 0 := by omega
          have hq1z : skF B z p1 < z := by
            by_cases c : skF B z p1 < z
            · exact c
            · have h9 := hbF_out (B := B) (z := z) (p := skF B z p1) (by omega)
              omega
          refine (g_Mnums s hV B z hz hB w (by omega) L hL m _ 24 0 (skF B z p1 + 1) V _ _ _ rfl (by omega) hO ha4.fr ha4.fk.1 ha4.fk.2 (h3.at (skF B z p1 + 1)) (by rw [upN_self hLw0]; exact ha4.rl hRL)).post ?_
          rintro _ _ ⟨rfl, m5, rfl, hF5, hl5, hr5⟩
          cases hnb : nbF B z (pT s) w 24 0 (skF B z p1 + 1) V with
          | inl e =>
            have hln : lnF B z (pN s) (pT s) (skF B z p) L V = .inl e := by unfold lnF; rw [hw]; simp only; rw [if_neg (by omega), if_neg (fun e => e c49), hnb]
            rw [hln]
            exact ⟨rfl, m5, rfl, hF5, fun e2 he => by simp only [Sum.inl.injEq] at he; subst he; exact hl5 e hnb, fun p2 L2 V2 he => absurd he (by simp)⟩
          | inr t =>
            obtain ⟨p2, i2, V2⟩ := t
            have hln : lnF B z (pN s) (pT s) (skF B z p) L V = .inr (p2, upN L w i2, V2) := by unfold lnF; rw [hw]; simp only; rw [if_neg (by omega), if_neg (fun e => e c49), hnb]
            rw [hln]
            exact ⟨rfl, m5, rfl, hF5, fun e he => absurd he (by simp), fun p3 L3 V3 he => by
              simp only [Sum.inr.injEq, Prod.mk.injEq] at he
              obtain ⟨rfl, rfl, rfl⟩ := he
              exact hr5 _ _ _ hnb⟩
        · refine G_aload_n d_X10_readLine_52 rfl ?_
          refine G_iconst d_X10_readLine_53 ?_
          refine G_aload_n d_X10_readLine_54 rfl ?_
          refine G_getIe (fl_X10_173.r) d_X10_readLine_55 (wk_64 _) rfl (h3.1) ?_
          refine G_callV2 cl_X10_191 rfl d_X10_readLine_58 (wk_64 _) (Nat.le_of_ble_eq_true rfl) (by decide) (sp_Merrs 1 ((skF B z p1 : Nat) : Int)) ?_
          rintro _ _ ⟨rfl, rfl⟩
          refine G_zret (mc := 0) (ms := 0) (st := []) d_X10_readLine_61 rfl (by omega) ?_
          have ht : lnF B z (pN s) (pT s) (skF B z p) L V = .inl (1, skF B z p1) := by unfold lnF; rw [hw]; simp only; rw [if_neg (by omega), if_pos c49]
          rw [ht]
          exact ⟨rfl, _, rfl, ha13.fr.trans (FR.err _ _ _), fun e he => by
            simp only [Sum.inl.injEq] at he
            subst he
            exact ⟨by rw [upm_ne _ _ (fun _ => by decide), upm_same], by rw [upm_same]⟩, fun p2 L2 V2 he => absurd he (by simp)⟩
      · refine G_aload_n d_X10_readLine_36 rfl ?_
        refine G_iconst d_X10_readLine_37 ?_
        refine G_iload_n d_X10_readLine_38 rfl ?_
        refine G_callV2 cl_X10_191 rfl d_X10_readLine_39 (wk_64 _) (Nat.le_of_ble_eq_true rfl) (by decide) (sp_Merrs 3 ((skF B z p : Nat) : Int)) ?_
        rintro _ _ ⟨rfl, rfl⟩
        refine G_zret (mc := 0) (ms := 0) (st := []) d_X10_readLine_42 rfl (by omega) ?_
        have ht : lnF B z (pN s) (pT s) (skF B z p) L V = .inl (3, skF B z p) := by unfold lnF; rw [hw]; simp only; rw [if_pos (by omega)]
        rw [ht]
        exact ⟨rfl, _, rfl, ha12.fr.trans (FR.err _ _ _), fun e he => by
          simp only [Sum.inl.injEq] at he
          subst he
          exact ⟨by rw [upm_ne _ _ (fun _ => by decide), upm_same], by rw [upm_same]⟩, fun p2 L2 V2 he => absurd he (by simp)⟩
    · omega
