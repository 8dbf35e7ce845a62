def FRc (m m2 : Nat → Nat → Int) : Prop := (∀ a, a ≠ 21 → a ≠ 23 → a ≠ 24 → m2 a = m a) ∧ ∀ j, j ≠ 1 → j ≠ 2 → j ≠ 3 → m2 21 j = m 21 j
theorem FRc.refl (m : Nat → Nat → Int) : FRc m m := ⟨fun _ _ _ _ => rfl, fun _ _ _ _ => rfl⟩
theorem FRc.trans {m m1 m2 : Nat → Nat → Int} (h : FRc m m1) (k : FRc m1 m2) : FRc m m2 := ⟨fun a h1 h2 h3 => (k.1 a h1 h2 h3).trans (h.1 a h1 h2 h3), fun j h1 h2 h3 => (k.2 j h1 h2 h3).trans (h.2 j h1 h2 h3)⟩
theorem FRc.at (m : Nat → Nat → Int) {j : Nat} (x : Int) (hj : j = 1 ∨ j = 2 ∨ j = 3) : FRc m (upm m 21 j x) := ⟨fun a h1 _ _ => upm_off _ _ h1, fun i h1 h2 h3 => upm_ne _ _ (fun _ => by omega)⟩
theorem FRc.nu (m : Nat → Nat → Int) (j k : Nat) (x y : Int) : FRc m (upm (upm m 23 j x) 24 k y) := ⟨fun a _ h2 h3 => by rw [upm_off _ _ h3, upm_off _ _ h2], fun i _ _ _ => by rw [upm_off _ _ (by decide), upm_off _ _ (by decide)]⟩
def NU (V : Nat → Int) (m : Nat → Nat → Int) : Prop := ∀ j, j < 144 → m 23 j = V j
def SZ (L : Nat → Nat) (m : Nat → Nat → Int) : Prop := ∀ k, k < 6 → m 24 k = (L k : Int)
theorem NU.at {V : Nat → Int} {m : Nat → Nat → Int} (h : NU V m) (j : Nat) (x : Int) : NU V (upm m 21 j x) := fun k hk => by rw [upm_off _ _ (by decide)]; exact h k hk
theorem SZ.at {L : Nat → Nat} {m : Nat → Nat → Int} (h : SZ L m) (j : Nat) (x : Int) : SZ L (upm m 21 j x) := fun k hk => by rw [upm_off _ _ (by decide)]; exact h k hk
theorem NU.put {V : Nat → Int} {m : Nat → Nat → Int} (h : NU V m) (j k : Nat) (x y : Int) : NU (upV V j x) (upm (upm m 23 j x) 24 k y) := fun i hi => by
  rw [upm_off _ _ (by decide)]
  unfold upV
  by_cases e : i = j
  · rw [if_pos e, e, upm_same]
  · rw [if_neg e, upm_ne _ _ (fun _ => e)]; exact h i hi
theorem SZ.put {L : Nat → Nat} {m : Nat → Nat → Int} {w i : Nat} (h : SZ (upN L w i) m) (j : Nat) (x : Int) : SZ (upN L w (i + 1)) (upm (upm m 23 j x) 24 w ((i : Int) + 1)) := fun k hk => by
  unfold upN
  by_cases e : k = w
  · rw [if_pos e, e, upm_same]; omega
  · rw [if_neg e, upm_ne _ _ (fun _ => e), upm_off _ _ (by decide), h k hk]
    unfold upN
    rw [if_neg e]
theorem RC.put {B : Nat → Int} {z p : Nat} {m : Nat → Nat → Int} (h : RC B z p m) (j k : Nat) (x y : Int) : RC B z p (upm (upm m 23 j x) 24 k y) := ⟨by rw [upm_off _ _ (by decide), upm_off _ _ (by decide)]; exact h.1, by rw [upm_off _ _ (by decide), upm_off _ _ (by decide)]; exact h.2.1, fun i hi => by rw [upm_off _ _ (by decide), upm_off _ _ (by decide)]; exact h.2.2 i hi⟩
theorem nb_59 {B : Nat → Int} {z T w f i p : Nat} {V : Nat → Int} (h : 0 < i ∧ hbF B z (skF B z p) = 59) : nbF B z T w f i p V = .inr (skF B z p + 1, i, V) := by
  cases f <;> (unfold nbF; rw [if_pos h])
theorem nb_nd {B : Nat → Int} {z T w f i p : Nat} {V : Nat → Int} (h : ¬ (0 < i ∧ hbF B z (skF B z p) = 59)) (h2 : ¬ dgF (hbF B z (skF B z p)) ∨ f = 0) : nbF B z T w f i p V = .inl (1, skF B z p) := by
  cases f with
  | zero => unfold nbF; rw [if_neg h]
  | succ f =>
    unfold nbF
    rw [if_neg h, if_pos]
    rcases h2 with h2 | h2
    · exact h2
    · omega
theorem nb_big {B : Nat → Int} {z T w f i p : Nat} {V : Nat → Int} (h : ¬ (0 < i ∧ hbF B z (skF B z p) = 59)) (h2 : dgF (hbF B z (skF B z p))) (hf : 1 ≤ f) (h3 : (T : Int) ≤ (nmF B z (z - skF B z p) (skF B z p) 0).1) : nbF B z T w f i p V = .inl (2, skF B z p) := by
  cases f with
  | zero => omega
  | succ f =>
    unfold nbF
    rw [if_neg h, if_neg (fun e => e h2), if_pos h3]
theorem nb_go {B : Nat → Int} {z T w f i p : Nat} {V : Nat → Int} (h : ¬ (0 < i ∧ hbF B z (skF B z p) = 59)) (h2 : dgF (hbF B z (skF B z p))) (hf : 1 ≤ f) (h3 : ¬ (T : Int) ≤ (nmF B z (z - skF B z p) (skF B z p) 0).1) : nbF B z T w f i p V = nbF B z T w (f - 1) (i + 1) (nmF B z (z - skF B z p) (skF B z p) 0).2 (upV V (24 * w + i) (nmF B z (z - skF B z p) (skF B z p) 0).1) := by
  cases f with
  | zero => omega
  | succ f =>
    rw [Nat.add_sub_cancel]
    show (if _ then _ else _) = _
    rw [if_neg h, if_neg (fun e => e h2), if_neg h3]
/-- what readNumbers leaves -/
def PN (B : Nat → Int) (z w : Nat) (L : Nat → Nat) (Y : (Int × Nat) ⊕ (Nat × Nat × (Nat → Int))) (m m2 : Nat → Nat → Int) : Prop := FRc m m2 ∧ (∀ e, Y = .inl e → m2 21 1 = e.1 ∧ m2 21 2 = (e.2 : Int)) ∧ ∀ p2 i2 V2, Y = .inr (p2, i2, V2) → m2 21 1 = m 21 1 ∧ m2 21 2 = m 21 2 ∧ RC B z p2 m2 ∧ NU V2 m2 ∧ SZ (upN L w i2) m2
theorem PN.bad {B : Nat → Int} {z w : Nat} {L : Nat → Nat} {a : Int} {q : Nat} {m m1 : Nat → Nat → Int} (h : FRc m m1) : PN B z w L (.inl (a, q)) m (upm (upm m1 21 1 a) 21 2 (q : Int)) :=
  ⟨(h.trans (FRc.at m1 a (Or.inl rfl))).trans (FRc.at _ (q : Int) (Or.inr (Or.inl rfl))), fun e he => by
    obtain rfl : (a, q) = e := Sum.inl.inj he
    exact ⟨by rw [upm_ne _ _ (fun _ => by decide), upm_same], upm_same _ _ _ _⟩, fun _ _ _ he => nomatch he⟩
theorem sp_readNumbers {w : List KD} {m : Nat → Nat → Int} (B : Nat → Int) (z : Nat) (hz : z ≤ 400) (hB : ∀ j, j < z → 0 ≤ B j ∧ B j ≤ 255) (p ro T : Nat) (hw : ro < 6) (hT : T ≤ 48) (L : Nat → Nat) (V : Nat → Int) (hp : p ≤ 402) (hR : RC B z p m) (hNU : NU V m) (hS : SZ L m) (hLw : L ro = 0) (Y : (Int × Nat) ⊕ (Nat × Nat × (Nat → Int))) (hY : Y = nbF B z T ro 24 0 p V) : Sp M_X7_readNumbers 3 0 0 [rV 21, iV (ro : Int), iV (T : Int)] (WC ++ w, m) (fun r h => r = some (iV (isRd Y)) ∧ ∃ m2, h = (WC ++ w, m2) ∧ PN B z ro L Y m m2) := by
  refine Sp.ofG (ls := [rV 21, iV (ro : Int), iV (T : Int), uV, uV, uV]) (by decide +kernel) rfl (Nat.le_of_ble_eq_true rfl) ?_
  have L9 : ∀ i : Nat, i ≤ 24 → ∀ (p : Nat) (V : Nat → Int) (m1 : Nat → Nat → Int) (u4 u5 : PV), pcat u4 ≠ 2 → pcat u5 ≠ 2 → p ≤ 402 → FRc m m1 → m1 21 1 = m 21 1 → m1 21 2 = m 21 2 → RC B z p m1 → NU V m1 → SZ (upN L ro i) m1 → Y = nbF B z T ro (24 - i) i p V → G M_X7_readNumbers 3 0 0 2 [rV 21, iV (ro : Int), iV (T : Int), iV (i : Int), u4, u5] [] (WC ++ w, m1) (fun r h => r = some (iV (isRd Y)) ∧ ∃ m2, h = (WC ++ w, m2) ∧ PN B z ro L Y m m2) := by
    refine loop_up (24) _ ?_
    intro i hi ih p V m1 u4 u5 hu4 hu5 hp hF hk1 hk2 hR hNU hS hY
    refine G_iload_n d_X7_readNumbers_2 rfl ?_
    refine G_bipush d_X7_readNumbers_3 (by decide) ?_
    refine G_icmp_gt 114 d_X7_readNumbers_5 (by decide) (by omega) (by omega) (fun c5 => ?_) (fun c5 => ?_)
    · omega
    · refine G_aload_n d_X7_readNumbers_8 rfl ?_
      refine G_callV0 cl_X7_41 rfl d_X7_readNumbers_9 (wk_21 _) (Nat.le_of_ble_eq_true rfl) (by decide) (sp_skipBlanks B z hz hB p (by omega) hR) ?_
      rintro _ _ ⟨rfl, rfl⟩
      have hsg := skF_ge B z p
      have hR2 := hR.at (skF B z p)
      have hF2 := hF.trans (FRc.at m1 ((skF B z p : Nat) : Int) (Or.inr (Or.inr rfl)))
      have hN2 := hNU.at 3 ((skF B z p : Nat) : Int)
      have hS2 := hS.at 3 ((skF B z p : Nat) : Int)
      have hnr := nmF_rng (B := B) (z := z) (z - (skF B z p)) (skF B z p) 0 (by decide)
      refine G_iload_n d_X7_readNumbers_12 rfl ?_
      refine G_if_le 37 d_X7_readNumbers_13 (by decide) (by omega) (fun c13 => ?_) (fun c13 => ?_)
      · have hn : ¬ (0 < i ∧ hbF B z (skF B z p) = 59) := fun h => by omega
        refine G_aload_n d_X7_readNumbers_37 rfl ?_
        refine G_callV0 cl_X7_62 rfl d_X7_readNumbers_38 (wk_21 _) (Nat.le_of_ble_eq_true rfl) (by decide) (sp_digitHere B z hz hB (skF B z p) (by omega) hR2) ?_
        rintro _ _ ⟨rfl, rfl⟩
        by_cases hd : dgF (hbF B z (skF B z p))
        · rw [if_pos hd]
          refine G_if_eq 50 d_X7_readNumbers_41 (by decide) (by decide) (fun hd => absurd hd (by decide)) (fun _ => ?_)
          refine G_iload_n d_X7_readNumbers_44 rfl ?_
          refine G_bipush d_X7_readNumbers_45 (by decide) ?_
          refine G_icmp_ne 60 d_X7_readNumbers_47 (by decide) (by omega) (by omega) (fun c47 => ?_) (fun c47 => ?_)
          · refine G_aload_n d_X7_readNumbers_60 rfl ?_
            refine G_getIe (v := ((skF B z p : Nat) : Int)) (fl_X7_21.r) d_X7_readNumbers_61 (wk_21 _) rfl (hR2.2.1) ?_
            refine G_istore d_X7_readNumbers_64 (by decide) rfl ?_
            refine G_aload_n d_X7_readNumbers_66 rfl ?_
            refine G_callV0 cl_X7_66 rfl d_X7_readNumbers_67 (wk_21 _) (Nat.le_of_ble_eq_true rfl) (by decide) (sp_readNumber B z hz hB (skF B z p) (by omega) hR2) ?_
            rintro _ _ ⟨rfl, rfl⟩
            have hF3 := hF2.trans (FRc.at (upm m1 21 3 ((skF B z p : Nat) : Int)) (((nmF B z (z - skF B z p) (skF B z p) 0).2 : Nat) : Int) (Or.inr (Or.inr rfl)))
            refine G_istore d_X7_readNumbers_70 (by decide) rfl ?_
            refine G_iload d_X7_readNumbers_72 rfl ?_
            refine G_iload_n d_X7_readNumbers_74 rfl ?_
            refine G_icmp_lt 86 d_X7_readNumbers_75 (by decide) (by omega) (by omega) (fun c75 => ?_) (fun c75 => ?_)
            · refine G_aload_n d_X7_readNumbers_86 rfl ?_
              refine G_getR (r := 23) (fl_X7_28.r) d_X7_readNumbers_87 (wk_21 _) rfl rfl ?_
              refine G_iload_n d_X7_readNumbers_90 rfl ?_
              refine G_bipush d_X7_readNumbers_91 (by decide) ?_
              refine G_imul d_X7_readNumbers_93 ?_
              refine G_iload_n d_X7_readNumbers_94 rfl ?_
              refine G_iadd d_X7_readNumbers_95 ?_
              refine G_iload d_X7_readNumbers_96 rfl ?_
              refine G_iastj (24 * ro + i) d_X7_readNumbers_98 (wk_23 _) (by omega) (by omega) (by decide) ?_
              refine G_aload_n d_X7_readNumbers_99 rfl ?_
              refine G_getR (r := 24) (fl_X7_32.r) d_X7_readNumbers_100 (wk_21 _) rfl rfl ?_
              refine G_iload_n d_X7_readNumbers_103 rfl ?_
              refine G_iload_n d_X7_readNumbers_104 rfl ?_
              refine G_iconst d_X7_readNumbers_105 ?_
              refine G_iadd d_X7_readNumbers_106 ?_
              refine G_iastj (ro) d_X7_readNumbers_107 (wk_24 _) (by omega) (by omega) (by decide) ?_
              refine G_iinc d_X7_readNumbers_108 rfl (by decide) rfl ?_
              refine G_goto 2 d_X7_readNumbers_111 (by decide) ?_
              have hgo := nb_go (T := T) (w := ro) (f := 24 - i) (V := V) hn hd (by omega) (by omega)
              rw [show 24 - i - 1 = 24 - (i + 1) by omega] at hgo
              have h9 := ih (by omega) (nmF B z (z - skF B z p) (skF B z p) 0).2 (upV V (24 * ro + i) (nmF B z (z - skF B z p) (skF B z p) 0).1) _ (iV ((skF B z p : Nat) : Int)) (iV (nmF B z (z - skF B z p) (skF B z p) 0).1) (by show (1 : Nat) ≠ 2; decide) (by show (1 : Nat) ≠ 2; decide) (by omega) ((hF3.trans (FRc.nu _ (24 * ro + i) ro (nmF B z (z - skF B z p) (skF B z p) 0).1 ((i : Int) + 1)))) (by rw [upm_off _ _ (by decide), upm_off _ _ (by decide), upm_ne _ _ (fun _ => by decide), upm_ne _ _ (fun _ => by decide)]; exact hk1) (by rw [upm_off _ _ (by decide), upm_off _ _ (by decide), upm_ne _ _ (fun _ => by decide), upm_ne _ _ (fun _ => by decide)]; exact hk2) ((hR2.at (nmF B z (z - skF B z p) (skF B z p) 0).2).put _ _ _ _) ((hN2.at 3 _).put (24 * ro + i) ro _ _) ((hS2.at 3 _).put (24 * ro + i) _) (hY.trans hgo)
              exact h9
            · refine G_aload_n d_X7_readNumbers_78 rfl ?_
              refine G_iconst d_X7_readNumbers_79 ?_
              refine G_iload d_X7_readNumbers_80 rfl ?_
              refine G_callV2 cl_X7_52 rfl d_X7_readNumbers_82 (wk_21 _) (Nat.le_of_ble_eq_true rfl) (by decide) (sp_fail _ _) ?_
              rintro _ _ ⟨rfl, rfl⟩
              refine G_zret (mc := 0) (ms := 0) (st := []) d_X7_readNumbers_85 rfl (by omega) ?_
              have hy := hY.trans (nb_big hn hd (by omega) (by omega))
              rw [hy]
              exact ⟨rfl, _, rfl, PN.bad (hF3)⟩
          · refine G_aload_n d_X7_readNumbers_50 rfl ?_
            refine G_iconst d_X7_readNumbers_51 ?_
            refine G_aload_n d_X7_readNumbers_52 rfl ?_
            refine G_getIe (v := ((skF B z p : Nat) : Int)) (fl_X7_21.r) d_X7_readNumbers_53 (wk_21 _) rfl (hR2.2.1) ?_
            refine G_callV2 cl_X7_52 rfl d_X7_readNumbers_56 (wk_21 _) (Nat.le_of_ble_eq_true rfl) (by decide) (sp_fail _ _) ?_
            rintro _ _ ⟨rfl, rfl⟩
            refine G_zret (mc := 0) (ms := 0) (st := []) d_X7_readNumbers_59 rfl (by omega) ?_
            have hy := hY.trans (nb_nd hn (Or.inr (by omega)))
            rw [hy]
            exact ⟨rfl, _, rfl, PN.bad (hF2)⟩
        · rw [if_neg hd]
          refine G_if_eq 50 d_X7_readNumbers_41 (by decide) (by decide) (fun _ => ?_) (fun hd => absurd hd (by decide))
          refine G_aload_n d_X7_readNumbers_50 rfl ?_
          refine G_iconst d_X7_readNumbers_51 ?_
          refine G_aload_n d_X7_readNumbers_52 rfl ?_
          refine G_getIe (v := ((skF B z p : Nat) : Int)) (fl_X7_21.r) d_X7_readNumbers_53 (wk_21 _) rfl (hR2.2.1) ?_
          refine G_callV2 cl_X7_52 rfl d_X7_readNumbers_56 (wk_21 _) (Nat.le_of_ble_eq_true rfl) (by decide) (sp_fail _ _) ?_
          rintro _ _ ⟨rfl, rfl⟩
          refine G_zret (mc := 0) (ms := 0) (st := []) d_X7_readNumbers_59 rfl (by omega) ?_
          have hy := hY.trans (nb_nd hn (Or.inl hd))
          rw [hy]
          exact ⟨rfl, _, rfl, PN.bad (hF2)⟩
      · refine G_aload_n d_X7_readNumbers_16 rfl ?_
        refine G_callV0 cl_X7_55 rfl d_X7_readNumbers_17 (wk_21 _) (Nat.le_of_ble_eq_true rfl) (by decide) (sp_byteHere B z hz hB (skF B z p) (by omega) hR2) ?_
        rintro _ _ ⟨rfl, rfl⟩
        have hbr := hbF_rng (z := z) hB (skF B z p)
        refine G_bipush d_X7_readNumbers_20 (by decide) ?_
        refine G_icmp_ne 37 d_X7_readNumbers_22 (by decide) (by omega) (by omega) (fun c22 => ?_) (fun c22 => ?_)
        · have hn : ¬ (0 < i ∧ hbF B z (skF B z p) = 59) := fun h => c22 h.2
          refine G_aload_n d_X7_readNumbers_37 rfl ?_
          refine G_callV0 cl_X7_62 rfl d_X7_readNumbers_38 (wk_21 _) (Nat.le_of_ble_eq_true rfl) (by decide) (sp_digitHere B z hz hB (skF B z p) (by omega) hR2) ?_
          rintro _ _ ⟨rfl, rfl⟩
          by_cases hd : dgF (hbF B z (skF B z p))
          · rw [if_pos hd]
            refine G_if_eq 50 d_X7_readNumbers_41 (by decide) (by decide) (fun hd => absurd hd (by decide)) (fun _ => ?_)
            refine G_iload_n d_X7_readNumbers_44 rfl ?_
            refine G_bipush d_X7_readNumbers_45 (by decide) ?_
            refine G_icmp_ne 60 d_X7_readNumbers_47 (by decide) (by omega) (by omega) (fun c47 => ?_) (fun c47 => ?_)
            · refine G_aload_n d_X7_readNumbers_60 rfl ?_
              refine G_getIe (v := ((skF B z p : Nat) : Int)) (fl_X7_21.r) d_X7_readNumbers_61 (wk_21 _) rfl (hR2.2.1) ?_
              refine G_istore d_X7_readNumbers_64 (by decide) rfl ?_
              refine G_aload_n d_X7_readNumbers_66 rfl ?_
              refine G_callV0 cl_X7_66 rfl d_X7_readNumbers_67 (wk_21 _) (Nat.le_of_ble_eq_true rfl) (by decide) (sp_readNumber B z hz hB (skF B z p) (by omega) hR2) ?_
              rintro _ _ ⟨rfl, rfl⟩
              have hF3 := hF2.trans (FRc.at (upm m1 21 3 ((skF B z p : Nat) : Int)) (((nmF B z (z - skF B z p) (skF B z p) 0).2 : Nat) : Int) (Or.inr (Or.inr rfl)))
              refine G_istore d_X7_readNumbers_70 (by decide) rfl ?_
              refine G_iload d_X7_readNumbers_72 rfl ?_
              refine G_iload_n d_X7_readNumbers_74 rfl ?_
              refine G_icmp_lt 86 d_X7_readNumbers_75 (by decide) (by omega) (by omega) (fun c75 => ?_) (fun c75 => ?_)
              · refine G_aload_n d_X7_readNumbers_86 rfl ?_
                refine G_getR (r := 23) (fl_X7_28.r) d_X7_readNumbers_87 (wk_21 _) rfl rfl ?_
                refine G_iload_n d_X7_readNumbers_90 rfl ?_
                refine G_bipush d_X7_readNumbers_91 (by decide) ?_
                refine G_imul d_X7_readNumbers_93 ?_
                refine G_iload_n d_X7_readNumbers_94 rfl ?_
                refine G_iadd d_X7_readNumbers_95 ?_
                refine G_iload d_X7_readNumbers_96 rfl ?_
                refine G_iastj (24 * ro + i) d_X7_readNumbers_98 (wk_23 _) (by omega) (by omega) (by decide) ?_
                refine G_aload_n d_X7_readNumbers_99 rfl ?_
                refine G_getR (r := 24) (fl_X7_32.r) d_X7_readNumbers_100 (wk_21 _) rfl rfl ?_
                refine G_iload_n d_X7_readNumbers_103 rfl ?_
                refine G_iload_n d_X7_readNumbers_104 rfl ?_
                refine G_iconst d_X7_readNumbers_105 ?_
                refine G_iadd d_X7_readNumbers_106 ?_
                refine G_iastj (ro) d_X7_readNumbers_107 (wk_24 _) (by omega) (by omega) (by decide) ?_
                refine G_iinc d_X7_readNumbers_108 rfl (by decide) rfl ?_
                refine G_goto 2 d_X7_readNumbers_111 (by decide) ?_
                have hgo := nb_go (T := T) (w := ro) (f := 24 - i) (V := V) hn hd (by omega) (by omega)
                rw [show 24 - i - 1 = 24 - (i + 1) by omega] at hgo
                have h9 := ih (by omega) (nmF B z (z - skF B z p) (skF B z p) 0).2 (upV V (24 * ro + i) (nmF B z (z - skF B z p) (skF B z p) 0).1) _ (iV ((skF B z p : Nat) : Int)) (iV (nmF B z (z - skF B z p) (skF B z p) 0).1) (by show (1 : Nat) ≠ 2; decide) (by show (1 : Nat) ≠ 2; decide) (by omega) ((hF3.trans (FRc.nu _ (24 * ro + i) ro (nmF B z (z - skF B z p) (skF B z p) 0).1 ((i : Int) + 1)))) (by rw [upm_off _ _ (by decide), upm_off _ _ (by decide), upm_ne _ _ (fun _ => by decide), upm_ne _ _ (fun _ => by decide)]; exact hk1) (by rw [upm_off _ _ (by decide), upm_off _ _ (by decide), upm_ne _ _ (fun _ => by decide), upm_ne _ _ (fun _ => by decide)]; exact hk2) ((hR2.at (nmF B z (z - skF B z p) (skF B z p) 0).2).put _ _ _ _) ((hN2.at 3 _).put (24 * ro + i) ro _ _) ((hS2.at 3 _).put (24 * ro + i) _) (hY.trans hgo)
                exact h9
              · refine G_aload_n d_X7_readNumbers_78 rfl ?_
                refine G_iconst d_X7_readNumbers_79 ?_
                refine G_iload d_X7_readNumbers_80 rfl ?_
                refine G_callV2 cl_X7_52 rfl d_X7_readNumbers_82 (wk_21 _) (Nat.le_of_ble_eq_true rfl) (by decide) (sp_fail _ _) ?_
                rintro _ _ ⟨rfl, rfl⟩
                refine G_zret (mc := 0) (ms := 0) (st := []) d_X7_readNumbers_85 rfl (by omega) ?_
                have hy := hY.trans (nb_big hn hd (by omega) (by omega))
                rw [hy]
                exact ⟨rfl, _, rfl, PN.bad (hF3)⟩
            · refine G_aload_n d_X7_readNumbers_50 rfl ?_
              refine G_iconst d_X7_readNumbers_51 ?_
              refine G_aload_n d_X7_readNumbers_52 rfl ?_
              refine G_getIe (v := ((skF B z p : Nat) : Int)) (fl_X7_21.r) d_X7_readNumbers_53 (wk_21 _) rfl (hR2.2.1) ?_
              refine G_callV2 cl_X7_52 rfl d_X7_readNumbers_56 (wk_21 _) (Nat.le_of_ble_eq_true rfl) (by decide) (sp_fail _ _) ?_
              rintro _ _ ⟨rfl, rfl⟩
              refine G_zret (mc := 0) (ms := 0) (st := []) d_X7_readNumbers_59 rfl (by omega) ?_
              have hy := hY.trans (nb_nd hn (Or.inr (by omega)))
              rw [hy]
              exact ⟨rfl, _, rfl, PN.bad (hF2)⟩
          · rw [if_neg hd]
            refine G_if_eq 50 d_X7_readNumbers_41 (by decide) (by decide) (fun _ => ?_) (fun hd => absurd hd (by decide))
            refine G_aload_n d_X7_readNumbers_50 rfl ?_
            refine G_iconst d_X7_readNumbers_51 ?_
            refine G_aload_n d_X7_readNumbers_52 rfl ?_
            refine G_getIe (v := ((skF B z p : Nat) : Int)) (fl_X7_21.r) d_X7_readNumbers_53 (wk_21 _) rfl (hR2.2.1) ?_
            refine G_callV2 cl_X7_52 rfl d_X7_readNumbers_56 (wk_21 _) (Nat.le_of_ble_eq_true rfl) (by decide) (sp_fail _ _) ?_
            rintro _ _ ⟨rfl, rfl⟩
            refine G_zret (mc := 0) (ms := 0) (st := []) d_X7_readNumbers_59 rfl (by omega) ?_
            have hy := hY.trans (nb_nd hn (Or.inl hd))
            rw [hy]
            exact ⟨rfl, _, rfl, PN.bad (hF2)⟩
        · refine G_aload_n d_X7_readNumbers_25 rfl ?_
          refine G_dup d_X7_readNumbers_26 rfl ?_
          refine G_getIe (v := ((skF B z p : Nat) : Int)) (fl_X7_21.r) d_X7_readNumbers_27 (wk_21 _) rfl (hR2.2.1) ?_
          refine G_iconst d_X7_readNumbers_30 ?_
          refine G_iadd d_X7_readNumbers_31 ?_
          refine G_putII fl_X7_21 d_X7_readNumbers_32 (wk_21 _) rfl ?_
          refine G_iconst d_X7_readNumbers_35 ?_
          refine G_zret (mc := 0) (ms := 0) (st := []) d_X7_readNumbers_36 rfl (by omega) ?_
          have hy := hY.trans (nb_59 ⟨by omega, c22⟩)
          rw [hy]
          refine ⟨rfl, _, rfl, ?_⟩
          refine ⟨hF2.trans (FRc.at _ _ (Or.inr (Or.inr rfl))), fun e he => (by cases he), fun p2 i2 V2 he => ?_⟩
          obtain ⟨rfl, rfl, rfl⟩ : skF B z p + 1 = p2 ∧ i = i2 ∧ V = V2 := by
            have := Sum.inr.inj he
            simpa using this
          exact ⟨by rw [upm_ne _ _ (fun _ => by decide), upm_ne _ _ (fun _ => by decide)]; exact hk1, by rw [upm_ne _ _ (fun _ => by decide), upm_ne _ _ (fun _ => by decide)]; exact hk2, hR2.at (skF B z p + 1), hN2.at 3 _, hS2.at 3 _⟩
  refine G_iconst d_X7_readNumbers_0 ?_
  refine G_istore_n d_X7_readNumbers_1 (by decide) rfl ?_
  exact L9 0 (by omega) p V m uV uV (by decide) (by decide) hp (FRc.refl m) rfl rfl hR hNU (fun k hk => by rw [hS k hk]; unfold upN; by_cases e : k = ro; (· rw [if_pos e, e, hLw]); (· rw [if_neg e])) hY
theorem naW_rng {B : Nat → Int} {z n p : Nat} (hn : n ≤ 5) : -1 ≤ naW (naF B z n p) ∧ naW (naF B z n p) ≤ 5 := by
  cases h : naF B z n p with
  | none => exact ⟨by decide, by decide⟩
  | some q =>
    obtain ⟨w, p1⟩ := q
    have := (naF_w h).1
    show -1 ≤ ((w : Nat) : Int) ∧ ((w : Nat) : Int) ≤ 5
    omega
theorem naW_no {o : Option (Nat × Nat)} (h : naW o = -1) : o = none := by
  cases o with
  | none => rfl
  | some q => exact absurd (show ((q.1 : Nat) : Int) = -1 from h) (by omega)
theorem naW_yes {o : Option (Nat × Nat)} (h : naW o ≠ -1) : ∃ w p1, o = some (w, p1) := by
  cases o with
  | none => exact absurd rfl h
  | some q => exact ⟨q.1, q.2, rfl⟩
theorem naF_p1 {B : Nat → Int} {z n p w p1 : Nat} (h : naF B z n p = some (w, p1)) : p1 = if hbF B z p = 114 then p + 1 else p + 2 := by
  unfold naF at h
  by_cases c : hbF B z p = 114
  · rw [if_pos c] at h
    rw [if_pos c]
    have := Option.some.inj h
    exact (congrArg Prod.snd this).symm
  · rw [if_neg c] at h
    rw [if_neg c]
    by_cases d : hbF B z p = 112 ∧ 49 ≤ hbF B z (p + 1) ∧ hbF B z (p + 1) < 49 + (n : Int)
    · rw [if_pos d] at h
      have := Option.some.inj h
      exact (congrArg Prod.snd this).symm
    · rw [if_neg d] at h
      exact nomatch h
/-- what readRow leaves -/
def PL (B : Nat → Int) (z : Nat) (Y : (Int × Nat) ⊕ (Nat × (Nat → Nat) × (Nat → Int))) (m m2 : Nat → Nat → Int) : Prop := FRc m m2 ∧ (∀ e, Y = .inl e → m2 21 1 = e.1 ∧ m2 21 2 = (e.2 : Int)) ∧ ∀ p2 L2 V2, Y = .inr (p2, L2, V2) → m2 21 1 = m 21 1 ∧ m2 21 2 = m 21 2 ∧ RC B z p2 m2 ∧ NU V2 m2 ∧ SZ L2 m2
theorem PL.bad {B : Nat → Int} {z : Nat} {a : Int} {q : Nat} {m m1 : Nat → Nat → Int} (h : FRc m m1) : PL B z (.inl (a, q)) m (upm (upm m1 21 1 a) 21 2 (q : Int)) :=
  ⟨(h.trans (FRc.at m1 a (Or.inl rfl))).trans (FRc.at _ (q : Int) (Or.inr (Or.inl rfl))), fun e he => by
    obtain rfl : (a, q) = e := Sum.inl.inj he
    exact ⟨by rw [upm_ne _ _ (fun _ => by decide), upm_same], upm_same _ _ _ _⟩, fun _ _ _ he => nomatch he⟩
