theorem ln_1 {B : Nat → Int} {z n T p : Nat} {L : Nat → Nat} {V : Nat → Int} (h : naF B z n p = none) : lnF B z n T p L V = .inl (1, p) := by
  unfold lnF
  rw [h]
theorem ln_2 {B : Nat → Int} {z n T p ro p1 : Nat} {L : Nat → Nat} {V : Nat → Int} (h : naF B z n p = some (ro, p1)) (h2 : 0 < L ro) : lnF B z n T p L V = .inl (3, p) := by
  unfold lnF
  rw [h]
  exact if_pos h2
theorem ln_3 {B : Nat → Int} {z n T p ro p1 : Nat} {L : Nat → Nat} {V : Nat → Int} (h : naF B z n p = some (ro, p1)) (h2 : ¬ 0 < L ro) (h3 : ¬ hbF B z (skF B z p1) = 61) : lnF B z n T p L V = .inl (1, skF B z p1) := by
  unfold lnF
  rw [h]
  show (if _ then _ else _) = _
  rw [if_neg h2, if_pos h3]
def lnW (L : Nat → Nat) (ro : Nat) (Y : (Int × Nat) ⊕ (Nat × Nat × (Nat → Int))) : (Int × Nat) ⊕ (Nat × (Nat → Nat) × (Nat → Int)) := match Y with
  | .inl e => .inl e
  | .inr (p2, i, V2) => .inr (p2, upN L ro i, V2)
theorem ln_4 {B : Nat → Int} {z n T p ro p1 : Nat} {L : Nat → Nat} {V : Nat → Int} (h : naF B z n p = some (ro, p1)) (h2 : ¬ 0 < L ro) (h3 : hbF B z (skF B z p1) = 61) : lnF B z n T p L V = lnW L ro (nbF B z T ro 24 0 (skF B z p1 + 1) V) := by
  unfold lnF
  rw [h]
  show (if _ then _ else _) = _
  rw [if_neg h2, if_neg (fun e => e h3)]
  unfold lnW
  rfl
theorem PL.of {B : Nat → Int} {z ro : Nat} {L : Nat → Nat} {Y : (Int × Nat) ⊕ (Nat × Nat × (Nat → Int))} {m m1 m2 : Nat → Nat → Int} (h : PN B z ro L Y m1 m2) (hF : FRc m m1) (h1 : m1 21 1 = m 21 1) (h2 : m1 21 2 = m 21 2) : isRd Y = isRd (lnW L ro Y) ∧ PL B z (lnW L ro Y) m m2 := by
  cases Y with
  | inl e => exact ⟨rfl, hF.trans h.1, fun e9 he => by obtain rfl : e = e9 := Sum.inl.inj he; exact h.2.1 e rfl, fun _ _ _ he => nomatch he⟩
  | inr q =>
    obtain ⟨p2, i, V2⟩ := q
    obtain ⟨g1, g2, g3, g4, g5⟩ := h.2.2 p2 i V2 rfl
    refine ⟨rfl, hF.trans h.1, fun e9 he => (by cases he), fun p3 L3 V3 he => ?_⟩
    have he2 : (p2, upN L ro i, V2) = (p3, L3, V3) := Sum.inr.inj he
    obtain ⟨rfl, rfl, rfl⟩ : p2 = p3 ∧ upN L ro i = L3 ∧ V2 = V3 := by simpa using he2
    exact ⟨g1.trans h1, g2.trans h2, g3, g4, g5⟩
theorem sp_readRow {w : List KD} {m : Nat → Nat → Int} (B : Nat → Int) (z : Nat) (hz : z ≤ 400) (hB : ∀ j, j < z → 0 ≤ B j ∧ B j ≤ 255) (p n T : Nat) (hn : n ≤ 5) (hT : T ≤ 48) (L : Nat → Nat) (V : Nat → Int) (hp : p ≤ 400) (hR : RC B z p m) (hNU : NU V m) (hS : SZ L m) (hL : ∀ k, L k ≤ 24) (Y : (Int × Nat) ⊕ (Nat × (Nat → Nat) × (Nat → Int))) (hY : Y = lnF B z n T p L V) : Sp M_X7_readRow 4 0 0 [rV 21, iV (n : Int), iV (T : Int)] (WC ++ w, m) (fun r h => r = some (iV (isRd Y)) ∧ ∃ m2, h = (WC ++ w, m2) ∧ PL B z Y m m2) := by
  refine Sp.ofG (ls := [rV 21, iV (n : Int), iV (T : Int), uV, uV]) (by decide +kernel) rfl (Nat.le_of_ble_eq_true rfl) ?_
  refine G_aload_n d_X7_readRow_0 rfl ?_
  refine G_getIe (v := (p : Int)) (fl_X7_21.r) d_X7_readRow_1 (wk_21 _) rfl (hR.2.1) ?_
  refine G_istore_n d_X7_readRow_4 (by decide) rfl ?_
  refine G_aload_n d_X7_readRow_5 rfl ?_
  refine G_iload_n d_X7_readRow_6 rfl ?_
  refine G_callV1 cl_X7_48 rfl d_X7_readRow_7 (wk_21 _) (Nat.le_of_ble_eq_true rfl) (by decide) (sp_readName B z hz hB p (by omega) hR n hn) ?_
  rintro _ _ ⟨rfl, rfl⟩
  have hnw := naW_rng (B := B) (z := z) (p := p) hn
  refine G_istore d_X7_readRow_10 (by decide) rfl ?_
  refine G_iload d_X7_readRow_12 rfl ?_
  refine G_iconst d_X7_readRow_14 ?_
  refine G_icmp_ne 25 d_X7_readRow_15 (by decide) (by omega) (by omega) (fun c15 => ?_) (fun c15 => ?_)
  · obtain ⟨ro, p1, hw⟩ := naW_yes c15
    have hww : naW (naF B z n p) = (ro : Int) := by rw [hw]; rfl
    have hro := naF_w hw
    rw [hww, ← naF_p1 hw]
    have hR1 := hR.at p1
    have hF1 : FRc m (upm m 21 3 (p1 : Int)) := FRc.at _ _ (Or.inr (Or.inr rfl))
    have hLr := hL ro
    refine G_aload_n d_X7_readRow_25 rfl ?_
    refine G_getR (r := 24) (fl_X7_32.r) d_X7_readRow_26 (wk_21 _) rfl rfl ?_
    refine G_iload d_X7_readRow_29 rfl ?_
    refine G_ialdj (ro) d_X7_readRow_31 (wk_24 _) (by omega) (by omega) (by decide) ?_
    rw [show upm m 21 3 (p1 : Int) 24 ro = (L ro : Int) from (hS.at 3 _) ro (by omega)]
    refine G_if_le 42 d_X7_readRow_32 (by decide) (by omega) (fun c32 => ?_) (fun c32 => ?_)
    · refine G_aload_n d_X7_readRow_42 rfl ?_
      refine G_callV0 cl_X7_41 rfl d_X7_readRow_43 (wk_21 _) (Nat.le_of_ble_eq_true rfl) (by decide) (sp_skipBlanks B z hz hB p1 (by omega) hR1) ?_
      rintro _ _ ⟨rfl, rfl⟩
      have hsg := skF_ge B z p1
      rw [upm_upm]
      have hR2 := hR.at (skF B z p1)
      have hF2 : FRc m (upm m 21 3 ((skF B z p1 : Nat) : Int)) := FRc.at _ _ (Or.inr (Or.inr rfl))
      refine G_aload_n d_X7_readRow_46 rfl ?_
      refine G_callV0 cl_X7_55 rfl d_X7_readRow_47 (wk_21 _) (Nat.le_of_ble_eq_true rfl) (by decide) (sp_byteHere B z hz hB (skF B z p1) (by omega) hR2) ?_
      rintro _ _ ⟨rfl, rfl⟩
      have hbr := hbF_rng (z := z) hB (skF B z p1)
      refine G_bipush d_X7_readRow_50 (by decide) ?_
      refine G_icmp_eq 65 d_X7_readRow_52 (by decide) (by omega) (by omega) (fun c52 => ?_) (fun c52 => ?_)
      · refine G_aload_n d_X7_readRow_65 rfl ?_
        refine G_dup d_X7_readRow_66 rfl ?_
        refine G_getIe (v := ((skF B z p1 : Nat) : Int)) (fl_X7_21.r) d_X7_readRow_67 (wk_21 _) rfl (hR2.2.1) ?_
        refine G_iconst d_X7_readRow_70 ?_
        refine G_iadd d_X7_readRow_71 ?_
        refine G_putII fl_X7_21 d_X7_readRow_72 (wk_21 _) rfl ?_
        refine G_aload_n d_X7_readRow_75 rfl ?_
        refine G_iload d_X7_readRow_76 rfl ?_
        refine G_iload_n d_X7_readRow_78 rfl ?_
        have hlt : skF B z p1 < z := by
          by_cases c : skF B z p1 < z
          · exact c
          · rw [hbF_out (by omega)] at c52; exact absurd c52 (by decide)
        rw [upm_upm, show ((skF B z p1 : Nat) : Int) + 1 = ((skF B z p1 + 1 : Nat) : Int) by omega]
        refine G_callV2 cl_X7_59 rfl d_X7_readRow_79 (wk_21 _) (Nat.le_of_ble_eq_true rfl) (by decide) (sp_readNumbers B z hz hB (skF B z p1 + 1) ro T (by omega) hT L V (by omega) (hR.at (skF B z p1 + 1)) (hNU.at 3 _) (hS.at 3 _) (by omega) _ rfl) ?_
        rintro _ _ ⟨rfl, m2, rfl, hPN⟩
        have hir := isRd_rng (nbF B z T ro 24 0 (skF B z p1 + 1) V)
        refine G_zret (mc := 0) (ms := 0) (st := []) d_X7_readRow_82 rfl (by omega) ?_
        have hy := hY.trans (ln_4 hw (by omega) c52)
        obtain ⟨e1, e2⟩ := PL.of hPN (m := m) (FRc.at _ _ (Or.inr (Or.inr rfl))) (upm_ne _ _ (fun _ => by decide)) (upm_ne _ _ (fun _ => by decide))
        rw [hy]
        exact ⟨by rw [e1], m2, rfl, e2⟩
      · refine G_aload_n d_X7_readRow_55 rfl ?_
        refine G_iconst d_X7_readRow_56 ?_
        refine G_aload_n d_X7_readRow_57 rfl ?_
        refine G_getIe (v := ((skF B z p1 : Nat) : Int)) (fl_X7_21.r) d_X7_readRow_58 (wk_21 _) rfl (hR2.2.1) ?_
        refine G_callV2 cl_X7_52 rfl d_X7_readRow_61 (wk_21 _) (Nat.le_of_ble_eq_true rfl) (by decide) (sp_fail _ _) ?_
        rintro _ _ ⟨rfl, rfl⟩
        refine G_zret (mc := 0) (ms := 0) (st := []) d_X7_readRow_64 rfl (by omega) ?_
        have hy := hY.trans (ln_3 hw (by omega) c52)
        rw [hy]
        exact ⟨rfl, _, rfl, PL.bad (hF2)⟩
    · refine G_aload_n d_X7_readRow_35 rfl ?_
      refine G_iconst d_X7_readRow_36 ?_
      refine G_iload_n d_X7_readRow_37 rfl ?_
      refine G_callV2 cl_X7_52 rfl d_X7_readRow_38 (wk_21 _) (Nat.le_of_ble_eq_true rfl) (by decide) (sp_fail _ _) ?_
      rintro _ _ ⟨rfl, rfl⟩
      refine G_zret (mc := 0) (ms := 0) (st := []) d_X7_readRow_41 rfl (by omega) ?_
      have hy := hY.trans (ln_2 hw (by omega))
      rw [hy]
      exact ⟨rfl, _, rfl, PL.bad (hF1)⟩
  · refine G_aload_n d_X7_readRow_18 rfl ?_
    refine G_iconst d_X7_readRow_19 ?_
    refine G_iload_n d_X7_readRow_20 rfl ?_
    refine G_callV2 cl_X7_52 rfl d_X7_readRow_21 (wk_21 _) (Nat.le_of_ble_eq_true rfl) (by decide) (sp_fail _ _) ?_
    rintro _ _ ⟨rfl, rfl⟩
    refine G_zret (mc := 0) (ms := 0) (st := []) d_X7_readRow_24 rfl (by omega) ?_
    have hy := hY.trans (ln_1 (naW_no c15))
    rw [hy]
    exact ⟨rfl, _, rfl, PL.bad (FRc.at _ _ (Or.inr (Or.inr rfl)))⟩
theorem isRd_no {α β : Type} {x : α ⊕ β} (h : isRd x = 0) : ∃ e, x = .inl e := by
  cases x with
  | inl e => exact ⟨e, rfl⟩
  | inr q => exact absurd h (by show ¬ (1 : Int) = 0; decide)
theorem isRd_yes {α β : Type} {x : α ⊕ β} (h : isRd x ≠ 0) : ∃ q, x = .inr q := by
  cases x with
  | inl e => exact absurd rfl h
  | inr q => exact ⟨q, rfl⟩
def cZ (Z : (Int × Nat) ⊕ (Nat × (Nat → Nat) × (Nat → Int))) : Int := match Z with
  | .inl _ => -1
  | .inr (c, _, _) => (c : Int)
theorem cZ_no {Z : (Int × Nat) ⊕ (Nat × (Nat → Nat) × (Nat → Int))} (h : cZ Z = -1) : ∃ e, Z = .inl e := by
  cases Z with
  | inl e => exact ⟨e, rfl⟩
  | inr q => exact absurd (show ((q.1 : Nat) : Int) = -1 from h) (by omega)
theorem cZ_yes {Z : (Int × Nat) ⊕ (Nat × (Nat → Nat) × (Nat → Int))} (h : cZ Z ≠ -1) : ∃ c L V, Z = .inr (c, L, V) := by
  cases Z with
  | inl e => exact absurd rfl h
  | inr q => exact ⟨q.1, q.2.1, q.2.2, rfl⟩
theorem ls_end {B : Nat → Int} {z n T f p c : Nat} {L : Nat → Nat} {V : Nat → Int} (h : f = 0 ∨ z ≤ skF B z p) : lsF B z n T f p c L V = .inr (c, L, V) := by
  cases f with
  | zero => rfl
  | succ f =>
    unfold lsF
    rw [if_pos (by omega)]
theorem ls_bad {B : Nat → Int} {z n T f p c : Nat} {L : Nat → Nat} {V : Nat → Int} {e : Int × Nat} (hf : 1 ≤ f) (h : ¬ z ≤ skF B z p) (he : lnF B z n T (skF B z p) L V = .inl e) : lsF B z n T f p c L V = .inl e := by
  cases f with
  | zero => omega
  | succ f =>
    unfold lsF
    rw [if_neg h, he]
theorem ls_go {B : Nat → Int} {z n T f p c p2 : Nat} {L L2 : Nat → Nat} {V V2 : Nat → Int} (hf : 1 ≤ f) (h : ¬ z ≤ skF B z p) (he : lnF B z n T (skF B z p) L V = .inr (p2, L2, V2)) : lsF B z n T f p c L V = lsF B z n T (f - 1) p2 (c + 1) L2 V2 := by
  cases f with
  | zero => omega
  | succ f =>
    rw [Nat.add_sub_cancel]
    show (if _ then _ else _) = _
    rw [if_neg h, he]
theorem cZ_rng {B : Nat → Int} {z n T : Nat} : ∀ (f p c : Nat) (L : Nat → Nat) (V : Nat → Int), -1 ≤ cZ (lsF B z n T f p c L V) ∧ cZ (lsF B z n T f p c L V) ≤ (c : Int) + f
  | 0, p, c, L, V => by
    show -1 ≤ ((c : Nat) : Int) ∧ ((c : Nat) : Int) ≤ (c : Int) + ((0 : Nat) : Int)
    omega
  | f + 1, p, c, L, V => by
    by_cases h : z ≤ skF B z p
    · rw [ls_end (Or.inr h)]
      show -1 ≤ ((c : Nat) : Int) ∧ ((c : Nat) : Int) ≤ (c : Int) + ((f + 1 : Nat) : Int)
      omega
    · cases he : lnF B z n T (skF B z p) L V with
      | inl e =>
        rw [ls_bad (by omega) h he]
        show (-1 : Int) ≤ -1 ∧ (-1 : Int) ≤ (c : Int) + ((f + 1 : Nat) : Int)
        omega
      | inr q =>
        obtain ⟨p2, L2, V2⟩ := q
        rw [ls_go (by omega) h he]
        have ih := cZ_rng (B := B) (z := z) (n := n) (T := T) f p2 (c + 1) L2 V2
        rw [Nat.add_sub_cancel]
        omega
/-- what read leaves -/
def PS (Z : (Int × Nat) ⊕ (Nat × (Nat → Nat) × (Nat → Int))) (m m2 : Nat → Nat → Int) : Prop := FRc m m2 ∧ (∀ e, Z = .inl e → m2 21 1 = e.1 ∧ m2 21 2 = (e.2 : Int)) ∧ ∀ c L2 V2, Z = .inr (c, L2, V2) → m2 21 1 = 0 ∧ m2 21 2 = -1 ∧ NU V2 m2 ∧ SZ L2 m2
theorem PS.ok {c : Nat} {L : Nat → Nat} {V : Nat → Int} {m m2 : Nat → Nat → Int} (h : FRc m m2) (h1 : m2 21 1 = 0) (h2 : m2 21 2 = -1) (h3 : NU V m2) (h4 : SZ L m2) : PS (.inr (c, L, V)) m m2 := by
  refine ⟨h, fun e he => (by cases he), fun c3 L3 V3 he => ?_⟩
  have he2 : (c, L, V) = (c3, L3, V3) := Sum.inr.inj he
  obtain ⟨rfl, rfl, rfl⟩ : c = c3 ∧ L = L3 ∧ V = V3 := by simpa using he2
  exact ⟨h1, h2, h3, h4⟩
theorem sp_read {w : List KD} {m : Nat → Nat → Int} (B : Nat → Int) (z : Nat) (hz : z ≤ 400) (hB : ∀ j, j < z → 0 ≤ B j ∧ B j ≤ 255) (n T : Nat) (hn : n ≤ 5) (hT : 1 ≤ T ∧ T ≤ 48) (h0 : m 21 0 = (z : Int)) (h22 : ∀ j, j < z → m 22 j = (B j).bmod 256) (Z : (Int × Nat) ⊕ (Nat × (Nat → Nat) × (Nat → Int))) (hZ : Z = lsF B z n T 400 0 0 (fun _ => 0) (fun _ => 0)) : Sp M_X7_read 5 0 0 [rV 21, iV (n : Int), iV (T : Int)] (WC ++ w, m) (fun r h => r = some (iV (cZ Z)) ∧ ∃ m2, h = (WC ++ w, m2) ∧ PS Z m m2) := by
  refine Sp.ofG (ls := [rV 21, iV (n : Int), iV (T : Int), uV, uV]) (by decide +kernel) rfl (Nat.le_of_ble_eq_true rfl) ?_
  have hT1 := hT.1
  have hT := hT.2
  have L9 : ∀ i : Nat, i ≤ 400 → ∀ (p : Nat) (L : Nat → Nat) (V : Nat → Int) (m1 : Nat → Nat → Int), p ≤ 400 → FRc m m1 → m1 21 1 = 0 → m1 21 2 = -1 → RC B z p m1 → NU V m1 → SZ L m1 → RdP T L V → Z = lsF B z n T (400 - i) p i L V → G M_X7_read 5 0 0 36 [rV 21, iV (n : Int), iV (T : Int), iV (i : Int), iV (i : Int)] [] (WC ++ w, m1) (fun r h => r = some (iV (cZ Z)) ∧ ∃ m2, h = (WC ++ w, m2) ∧ PS Z m m2) := by
    refine loop_up (400) _ ?_
    intro i hi ih p L V m1 hp hF hk1 hk2 hR hNU hS hP hZ
    refine G_iload d_X7_read_36 rfl ?_
    refine G_sipush d_X7_read_38 (by decide) ?_
    refine G_icmp_ge 81 d_X7_read_41 (by decide) (by omega) (by omega) (fun c41 => ?_) (fun c41 => ?_)
    · refine G_iload_n d_X7_read_81 rfl ?_
      refine G_iret (mc := 0) (ms := 0) (st := []) d_X7_read_82 rfl ?_
      have hy := hZ.trans (ls_end (Or.inl (by omega)))
      rw [hy]
      exact ⟨rfl, _, rfl, PS.ok (hF) (hk1) (hk2) (hNU) (hS)⟩
    · refine G_aload_n d_X7_read_44 rfl ?_
      refine G_callV0 cl_X7_41 rfl d_X7_read_45 (wk_21 _) (Nat.le_of_ble_eq_true rfl) (by decide) (sp_skipBlanks B z hz hB p (by omega) hR) ?_
      rintro _ _ ⟨rfl, rfl⟩
      have hsg := skF_ge B z p
      have hR2 := hR.at (skF B z p)
      have hF2 := hF.trans (FRc.at m1 ((skF B z p : Nat) : Int) (Or.inr (Or.inr rfl)))
      refine G_aload_n d_X7_read_48 rfl ?_
      refine G_getIe (v := ((skF B z p : Nat) : Int)) (fl_X7_21.r) d_X7_read_49 (wk_21 _) rfl (hR2.2.1) ?_
      refine G_aload_n d_X7_read_52 rfl ?_
      refine G_getIe (v := (z : Int)) (fl_X7_9.r) d_X7_read_53 (wk_21 _) rfl (hR2.1) ?_
      refine G_icmp_lt 61 d_X7_read_56 (by decide) (by omega) (by omega) (fun c56 => ?_) (fun c56 => ?_)
      · refine G_aload_n d_X7_read_61 rfl ?_
        refine G_iload_n d_X7_read_62 rfl ?_
        refine G_iload_n d_X7_read_63 rfl ?_
        refine G_callV2 cl_X7_44 rfl d_X7_read_64 (wk_21 _) (Nat.le_of_ble_eq_true rfl) (by decide) (sp_readRow B z hz hB (skF B z p) n T hn hT L V (by omega) hR2 (hNU.at 3 _) (hS.at 3 _) hP.1 _ rfl) ?_
        rintro _ _ ⟨rfl, m2, rfl, hPL⟩
        have hir := isRd_rng (lnF B z n T (skF B z p) L V)
        refine G_if_ne 72 d_X7_read_67 (by decide) (by omega) (fun c67 => ?_) (fun c67 => ?_)
        · refine G_iinc d_X7_read_72 rfl (by decide) rfl ?_
          refine G_iinc d_X7_read_75 rfl (by decide) rfl ?_
          refine G_goto 36 d_X7_read_78 (by decide) ?_
          obtain ⟨⟨p2, L2, V2⟩, hq⟩ := isRd_yes c67
          obtain ⟨g1, g2, g3, g4, g5⟩ := hPL.2.2 p2 L2 V2 hq
          have hgo := ls_go (f := 400 - i) (c := i) (by omega) (show ¬ z ≤ skF B z p by omega) hq
          rw [show 400 - i - 1 = 400 - (i + 1) by omega] at hgo
          have hle := lnF_le hq
          exact ih (by omega) p2 L2 V2 m2 (by omega) (hF2.trans hPL.1) (by rw [g1, upm_ne _ _ (fun _ => by decide)]; exact hk1) (by rw [g2, upm_ne _ _ (fun _ => by decide)]; exact hk2) g3 g4 g5 (lnF_ok hn hP hq).1 (hZ.trans hgo)
        · refine G_iconst d_X7_read_70 ?_
          refine G_iret (mc := 0) (ms := 0) (st := []) d_X7_read_71 rfl ?_
          obtain ⟨e, he⟩ := isRd_no c67
          have hy := hZ.trans (ls_bad (f := 400 - i) (c := i) (by omega) (show ¬ z ≤ skF B z p by omega) he)
          rw [hy]
          exact ⟨rfl, m2, rfl, hF2.trans hPL.1, fun e9 h9 => by obtain rfl : e = e9 := Sum.inl.inj h9; exact hPL.2.1 e he, fun _ _ _ h9 => nomatch h9⟩
      · refine G_iload_n d_X7_read_59 rfl ?_
        refine G_iret (mc := 0) (ms := 0) (st := []) d_X7_read_60 rfl ?_
        have hy := hZ.trans (ls_end (Or.inr (by omega)))
        rw [hy]
        exact ⟨rfl, _, rfl, PS.ok (hF2) ((upm_ne _ _ (fun _ => by decide)).trans hk1) ((upm_ne _ _ (fun _ => by decide)).trans hk2) (hNU.at 3 _) (hS.at 3 _)⟩
  refine G_aload_n d_X7_read_0 rfl ?_
  refine G_iconst d_X7_read_1 ?_
  refine G_putII fl_X7_15 d_X7_read_2 (wk_21 _) rfl ?_
  refine G_aload_n d_X7_read_5 rfl ?_
  refine G_iconst d_X7_read_6 ?_
  refine G_putII fl_X7_18 d_X7_read_7 (wk_21 _) rfl ?_
  refine G_aload_n d_X7_read_10 rfl ?_
  refine G_iconst d_X7_read_11 ?_
  refine G_putII fl_X7_21 d_X7_read_12 (wk_21 _) rfl ?_
  refine G_aload_n d_X7_read_15 rfl ?_
  refine G_getR (r := 23) (fl_X7_28.r) d_X7_read_16 (wk_21 _) rfl rfl ?_
  refine G_iconst d_X7_read_19 ?_
  refine G_callS2 cl_X7_35 d_X7_read_20 (Nat.le_of_ble_eq_true rfl) (by decide) (sp_fillI (wk_23 _) (by decide)) ?_
  rintro _ _ ⟨rfl, rfl⟩
  refine G_aload_n d_X7_read_23 rfl ?_
  refine G_getR (r := 24) (fl_X7_32.r) d_X7_read_24 (wk_21 _) rfl rfl ?_
  refine G_iconst d_X7_read_27 ?_
  refine G_callS2 cl_X7_35 d_X7_read_28 (Nat.le_of_ble_eq_true rfl) (by decide) (sp_fillI (wk_24 _) (by decide)) ?_
  rintro _ _ ⟨rfl, rfl⟩
  refine G_iconst d_X7_read_31 ?_
  refine G_istore_n d_X7_read_32 (by decide) rfl ?_
  refine G_iconst d_X7_read_33 ?_
  refine G_istore d_X7_read_34 (by decide) rfl ?_
  have e21 : ∀ j, (flm (flm (upm (upm (upm m 21 1 0) 21 2 (-1)) 21 3 0) 23 0 144 0) 24 0 6 0) 21 j = upm (upm (upm m 21 1 0) 21 2 (-1)) 21 3 0 21 j := fun j => by rw [flm_off _ _ _ _ (by decide), flm_off _ _ _ _ (by decide)]
  have hFa : FRc m (flm (flm (upm (upm (upm m 21 1 0) 21 2 (-1)) 21 3 0) 23 0 144 0) 24 0 6 0) := ⟨fun a a1 a2 a3 => by rw [flm_off _ _ _ _ a3, flm_off _ _ _ _ a2, upm_off _ _ a1, upm_off _ _ a1, upm_off _ _ a1], fun j j1 j2 j3 => by rw [e21, upm_ne _ _ (fun _ => j3), upm_ne _ _ (fun _ => j2), upm_ne _ _ (fun _ => j1)]⟩
  exact L9 0 (by omega) 0 (fun _ => 0) (fun _ => 0) (flm (flm (upm (upm (upm m 21 1 0) 21 2 (-1)) 21 3 0) 23 0 144 0) 24 0 6 0) (by omega) hFa (by rw [e21, upm_ne _ _ (fun _ => by decide), upm_ne _ _ (fun _ => by decide), upm_same]) (by rw [e21, upm_ne _ _ (fun _ => by decide), upm_same]) ⟨by rw [hFa.2 0 (by decide) (by decide) (by decide)]; exact h0, by rw [e21, upm_same]; rfl, fun j hj => by rw [hFa.1 22 (by decide) (by decide) (by decide)]; exact h22 j hj⟩ (fun j hj => by rw [flm_off _ _ _ _ (by decide), flm_in _ _ (by omega) (by omega)]) (fun k hk => by rw [flm_in _ _ (by omega) (by omega)]; rfl) ⟨fun _ => Nat.zero_le _, fun _ => ⟨Int.le_refl 0, by show (0 : Int) < (T : Int); omega⟩, fun _ _ _ _ _ => rfl⟩ hZ
