/-! what each call that tells leaves, and answers -/
theorem KQ_mut {s s2 : Nat → Int} {m m2 : Nat → Nat → Int} (hV : VS s) (hI : MI s m) (he : EQM m m2) (hO : MO s2 m2) (ap : AP s s2) (hT : s2 2 = s 2) (h66 : m2 66 = m 66) (h72 : m2 72 = m 72) (h3 : m2 64 3 = m 64 3) (h16 : m2 64 16 = m 64 16) (hst : m2 64 2 = 0 ∨ (m2 64 2 = m 64 2 ∧ m2 76 = m 76 ∧ ∀ p, p < pC s → pSt s2 p = pSt s p)) : KQ s2 m m2 := by
  obtain ⟨-, i2, i3, i4⟩ := hI
  refine ⟨he, hO, ap.mp hV ⟨by rw [h3]; exact i2.1, fun p hp k hk => by rw [h66]; exact i2.2 p hp k hk⟩, ?_, ?_⟩
  · have : pT s2 = pT s := by unfold pT; rw [hT]
    rw [this]
    exact ⟨by rw [h16]; exact i3.1, fun j hj => by rw [h72]; exact i3.2 j hj⟩
  · rcases hst with h | ⟨h1, h2, h4⟩
    · exact Or.inl h
    · rw [h1, h2]
      rcases i4 with h | ⟨h5, h6⟩
      · exact Or.inl h
      · exact Or.inr ⟨h5, fun p hp => by rw [ap.C hV] at hp; rw [h4 p hp]; exact h6 p hp⟩
theorem MO.set {s : Nat → Int} {m : Nat → Nat → Int} (h : MO s m) (j : Nat) (x : Int) : MO (sU s j x) (upm m 65 j x) := fun i hi => by
  unfold sU upm
  by_cases e : i = j
  · rw [if_pos e, if_pos ⟨rfl, e⟩]
  · rw [if_neg e, if_neg (fun h => e h.2)]; exact h i hi
theorem EQM.off {m m2 : Nat → Nat → Int} (h : ∀ a, a ≠ 64 → a ≠ 65 → a ≠ 66 → a ≠ 72 → a ≠ 73 → a ≠ 74 → a ≠ 75 → m2 a = m a) (h64 : ∀ j, j ≠ 2 → j ≠ 3 → j ≠ 16 → m2 64 j = m 64 j) : EQM m m2 :=
  ⟨fun a ha => h a (by omega) (by omega) (by omega) (by omega) (by omega) (by omega) (by omega), h 67 (by decide) (by decide) (by decide) (by decide) (by decide) (by decide) (by decide), h 83 (by decide) (by decide) (by decide) (by decide) (by decide) (by decide) (by decide), h64 6 (by decide) (by decide) (by decide), h64 7 (by decide) (by decide) (by decide), h64 8 (by decide) (by decide) (by decide), h64 28 (by decide) (by decide) (by decide)⟩
theorem AP_sU {s : Nat → Int} {j : Nat} {x : Int} (h : 2 ≤ j) (h2 : j < 4 ∨ 9 ≤ j) : AP s (sU s j x) := ⟨sU_ne _ _ (by omega), sU_ne _ _ (by omega), fun k hk => sU_ne _ _ (by omega)⟩
theorem KQ_set {s : Nat → Int} {m : Nat → Nat → Int} (hV : VS s) (hI : MI s m) {j : Nat} {x : Int} (h : 3 ≤ j) (h2 : j < 4 ∨ 9 ≤ j) : KQ (sU s j x) m (upm (upm m 65 j x) 64 2 0) :=
  KQ_mut hV hI (EQM.off (fun a h1 h2 _ _ _ _ _ => by rw [upm_off _ _ h1, upm_off _ _ h2]) (fun j h2 _ _ => by rw [upm_ne _ _ (fun _ => h2), upm_off _ _ (by decide)])) (fun i hi => by rw [upm_off _ _ (by decide)]; exact hI.1.set j x i hi) (AP_sU (by omega) h2) (sU_ne _ _ (by omega)) (by rw [upm_off _ _ (by decide), upm_off _ _ (by decide)]) (by rw [upm_off _ _ (by decide), upm_off _ _ (by decide)]) (by rw [upm_ne _ _ (fun _ => by decide), upm_off _ _ (by decide)]) (by rw [upm_ne _ _ (fun _ => by decide), upm_off _ _ (by decide)]) (Or.inl (upm_same _ _ _ _))
theorem AC_sU {s : Nat → Int} {j : Nat} {x : Int} (h : (4 ≤ j ∧ j < 49) ∨ 227 ≤ j) : AC s (sU s j x) := ⟨sU_ne _ _ (by omega), sU_ne _ _ (by omega), fun i h1 h2 => sU_ne _ _ (by omega)⟩
theorem KQ_set2 {s : Nat → Int} {m : Nat → Nat → Int} (hV : VS s) (hI : MI s m) {j : Nat} {x : Int} (h : 9 ≤ j ∧ j < 49) : KQ (sU s j x) m (upm m 65 j x) :=
  KQ_mut hV hI (EQM.off (fun a _ h2 _ _ _ _ _ => upm_off _ _ h2) (fun j _ _ _ => by rw [upm_off _ _ (by decide)])) (hI.1.set j x) (AP_sU (by omega) (by omega)) (sU_ne _ _ (by omega)) (upm_off _ _ (by decide)) (upm_off _ _ (by decide)) (by rw [upm_off _ _ (by decide)]) (by rw [upm_off _ _ (by decide)]) (Or.inr ⟨by rw [upm_off _ _ (by decide)], upm_off _ _ (by decide), fun p _ => (AC_sU (by omega)).St (AP_sU (by omega) (by omega)) hV (fun _ => (AP_sU (by omega) (by omega)).chief hV (fun q _ => by rw [sU_ne _ _ (by omega)])) p⟩)
abbrev okPulses (a b : Int) : Prop := (1 ≤ a ∧ a ≤ 5) ∧ (1 ≤ b ∧ b ≤ 3)
def nxPulses (s : Nat → Int) (a b : Int) : Nat → Int := if okPulses a b then uPulses s a b else s
def vPulses (s : Nat → Int) (a b : Int) : Int := if okPulses a b then (pC (uPulses s a b) : Int) else -1
abbrev okKind (s : Nat → Int) (a b : Int) : Prop := isPls s a ∧ (0 ≤ b ∧ b ≤ 2)
def nxKind (s : Nat → Int) (a b : Int) : Nat → Int := if okKind s a b then uKind s a.toNat b else s
def vKind (s : Nat → Int) (a b : Int) : Int := if okKind s a b then 1 else 0
abbrev okTurn (a : Int) : Prop := 2 ≤ a ∧ a ≤ 48
def nxTurn (s : Nat → Int) (a : Int) : Nat → Int := if okTurn a then uTurn s a else s
def vTurn (a : Int) : Int := if okTurn a then 1 else 0
abbrev okCtr (a : Int) : Prop := 0 ≤ a ∧ a < 4
abbrev okCounter (s : Nat → Int) (a b : Int) : Prop := okCtr a ∧ (1 ≤ b ∧ b ≤ 12) ∧ (oth s a.toNat : Int) * b ≤ 512
def nxCounter (s : Nat → Int) (a b : Int) : Nat → Int := if okCounter s a b then sU s (49 + a.toNat) (b - 1) else s
def vCounter (s : Nat → Int) (a b : Int) : Int := if okCounter s a b then (pSc (sU s (49 + a.toNat) (b - 1)) : Int) else -1
abbrev okStep (s : Nat → Int) (a b c : Int) : Prop := isSrc s a ∧ okCtr b ∧ (0 ≤ c ∧ c ≤ (pT s : Int) - 1)
def nxStep (s : Nat → Int) (a b c : Int) : Nat → Int := if okStep s a b c then sU s (53 + 4 * a.toNat + b.toNat) c else s
def vStep (s : Nat → Int) (a b c : Int) : Int := if okStep s a b c then 1 else 0
abbrev okGradient (s : Nat → Int) (a b : Int) : Prop := isPls s a ∧ (-9 ≤ b ∧ b ≤ 9)
def nxGradient (s : Nat → Int) (a b : Int) : Nat → Int := if okGradient s a b then sU s (9 + a.toNat) b else s
def vGradient (s : Nat → Int) (a b : Int) : Int := if okGradient s a b then 1 else 0
abbrev okWeight (s : Nat → Int) (a b c : Int) : Prop := isPls s a ∧ (0 ≤ b ∧ b ≤ 6) ∧ (0 ≤ c ∧ c ≤ 9)
def nxWeight (s : Nat → Int) (a b c : Int) : Nat → Int := if okWeight s a b c then sU s (14 + 7 * a.toNat + b.toNat) (c - 1) else s
def vWeight (s : Nat → Int) (a b c : Int) : Int := if okWeight s a b c then 1 else 0
abbrev okSwap (a b : Int) : Prop := okCtr a ∧ okCtr b ∧ a ≠ b
def nxSwap (s : Nat → Int) (a b : Int) : Nat → Int := if okSwap a b then uSwap s a.toNat b.toNat else s
def vSwap (a b : Int) : Int := if okSwap a b then 1 else 0
abbrev okFollow (s : Nat → Int) (x : Int) : Prop := ¬ (if s 3 = 0 then (1 : Int) else 0) = x
def nxFollow (s : Nat → Int) (x : Int) : Nat → Int := if okFollow s x then sU s 3 (1 - x) else s
def vFollow (s : Nat → Int) (x : Int) : Int := if okFollow s x then 1 else 0
abbrev okMark (s : Nat → Int) (v p x : Int) : Prop := isPth s p ∧ ¬ (if pMk s p.toNat = v then (1 : Int) else 0) = x
def nxMark (s : Nat → Int) (v p x : Int) : Nat → Int := if okMark s v p x then sU s (227 + p.toNat) (if x = 1 then v else 0) else s
def vMark (s : Nat → Int) (v p x : Int) : Int := if okMark s v p x then 1 else 0
abbrev okFreeAll (s : Nat → Int) (a b : Int) : Prop := isPls s a ∧ (-(pM s : Int) ≤ b ∧ b ≤ (pM s : Int))
def isFA (s : Nat → Int) (k : Nat) (o : Int) (p : Nat) : Bool := pO s p k == o && pMk s p == 0
def nxFreeAll (s : Nat → Int) (a b : Int) : Nat → Int := if okFreeAll s a b then uFreeAll s a.toNat b else s
def vFreeAll (s : Nat → Int) (a b : Int) : Int := if okFreeAll s a b then ((cntB (isFA s a.toNat b) (pC s) : Nat) : Int) else -1
theorem pT_kind {s : Nat → Int} {p : Nat} {k : Int} (hp : p < 5) : pT (uKind s p k) = pT s := by
  unfold pT uKind
  rw [if_neg (by omega), if_neg (by omega)]
/-- the row that wishesNothing finds -/
def MO4 (s : Nat → Int) (m : Nat → Nat → Int) : Prop := ∀ j, j < 227 → m 65 j = s j
theorem sp_MwishesNothing {w : List KD} {m : Nat → Nat → Int} (s : Nat → Int) (hV : VS s) (hO : MO4 s m) (hz : ∀ p, 227 ≤ p → s p = 0) : Sp M_X10_wishesNothing 3 0 0 [rV 64] (WC ++ (WM ++ w), m) (fun r h => r = none ∧ ∃ m2, h = (WC ++ (WM ++ w), m2) ∧ (∀ a, a ≠ 64 → a ≠ 65 → a ≠ 66 → m2 a = m a) ∧ (∀ j, j ≠ 2 → j ≠ 3 → m2 64 j = m 64 j) ∧ m2 64 2 = 0 ∧ MO s m2 ∧ MP s m2) := by
  refine Sp.ofG (ls := [rV 64, uV]) (by decide +kernel) rfl (Nat.le_of_ble_eq_true rfl) ?_
  have L : ∀ p : Nat, p ≤ 2401 → G M_X10_wishesNothing 3 0 0 2 [rV 64, iV (p : Int)] [] (WC ++ (WM ++ w), flm m 65 227 (227 + p) 0) (fun r h => r = none ∧ ∃ m2, h = (WC ++ (WM ++ w), m2) ∧ (∀ a, a ≠ 64 → a ≠ 65 → a ≠ 66 → m2 a = m a) ∧ (∀ j, j ≠ 2 → j ≠ 3 → m2 64 j = m 64 j) ∧ m2 64 2 = 0 ∧ MO s m2 ∧ MP s m2) := by
    refine loop_up (2401) _ ?_
    intro p hp ih
    refine G_iload_n d_X10_wishesNothing_2 rfl ?_
    refine G_sipush d_X10_wishesNothing_3 (by decide) ?_
    refine G_icmp_ge 26 d_X10_wishesNothing_6 (by decide) (by omega) (by omega) (fun c6 => ?_) (fun c6 => ?_)
    · have hpe : p = 2401 := by omega
      subst hpe
      have hO2 : MO s (flm m 65 227 (227 + 2401) 0) := fun j hj => by
        by_cases e : j < 227
        · rw [flm_out _ _ (Or.inl e)]; exact hO j e
        · rw [flm_in _ _ (by omega) (by omega), hz j (by omega)]
      refine G_aload_n d_X10_wishesNothing_26 rfl ?_
      refine G_callV0 cl_X10_98 rfl d_X10_wishesNothing_27 (wk_64 _) (Nat.le_of_ble_eq_true rfl) (by decide) (sp_MlaysPaths s hV hO2) ?_
      rintro _ _ ⟨rfl, m2, rfl, g1, g2, g3, g4⟩
      refine G_vret (mc := 0) (ms := 0) (st := []) d_X10_wishesNothing_30 rfl ?_
      exact ⟨rfl, m2, rfl, fun a h1 h2 h3 => by rw [g1 a h1 h3, flm_off _ _ _ _ h2], fun j h2 h3 => by rw [g2 j h2 h3, flm_off _ _ _ _ (by decide)], g3, fun j hj => by rw [g1 65 (by decide) (by decide)]; exact hO2 j hj, g4⟩
    · refine G_aload_n d_X10_wishesNothing_9 rfl ?_
      refine G_getR (r := 65) (fl_X10_7.r) d_X10_wishesNothing_10 (wk_64 _) rfl rfl ?_
      refine G_sipush d_X10_wishesNothing_13 (by decide) ?_
      refine G_iload_n d_X10_wishesNothing_16 rfl ?_
      refine G_iadd d_X10_wishesNothing_17 ?_
      refine G_iconst d_X10_wishesNothing_18 ?_
      refine G_iastj (227 + p) d_X10_wishesNothing_19 (wk_65 _) (by omega) (by omega) (by decide) ?_
      refine G_iinc d_X10_wishesNothing_20 rfl (by decide) rfl ?_
      refine G_goto 2 d_X10_wishesNothing_23 (by decide) ?_
      rw [flm_step _ _ _ _ _ (by omega)]
      exact ih (by omega)
  refine G_iconst d_X10_wishesNothing_0 ?_
  refine G_istore_n d_X10_wishesNothing_1 (by decide) rfl ?_
  have h9 := L 0 (by omega)
  rw [Nat.add_zero, flm_nil] at h9
  exact h9
theorem sp_Mpulses {w : List KD} {m : Nat → Nat → Int} (s : Nat → Int) (hV : VS s) (hI : MI s m) (a : Int) (hra : -2147483648 ≤ a ∧ a < 2147483648) (b : Int) (hrb : -2147483648 ≤ b ∧ b < 2147483648) : Sp M_X10_pulses 4 0 0 [rV 64, iV a, iV b] (WC ++ (WM ++ w), m) (fun r h => r = some (iV (vPulses s a b)) ∧ ∃ m2, h = (WC ++ (WM ++ w), m2) ∧ KQ (nxPulses s a b) m m2) := by
  refine Sp.ofG (ls := [rV 64, iV a, iV b, uV]) (by decide +kernel) rfl (Nat.le_of_ble_eq_true rfl) ?_
  have hC := pC_le hV
  have hN := hV.N
  have hT := hV.T
  have hSc := hV.Sc
  have L : (1 ≤ a ∧ a ≤ 5) → (1 ≤ b ∧ b ≤ 3) → ∀ k : Nat, k ≤ 49 → 4 ≤ k → ∀ m0, KQ s m m0 → G M_X10_pulses 4 0 0 29 [rV 64, iV a, iV b, iV (k : Int)] [] (WC ++ (WM ++ w), flm m0 65 4 k 0) (fun r h => r = some (iV (vPulses s a b)) ∧ ∃ m2, h = (WC ++ (WM ++ w), m2) ∧ KQ (nxPulses s a b) m m2) := by
    intro ha hb
    refine loop_up 49 _ ?_
    intro k hk ih hk4 m0 hQ0
    refine G_iload_n d_X10_pulses_29 rfl ?_
    refine G_bipush d_X10_pulses_30 (by decide) ?_
    refine G_icmp_ge 48 d_X10_pulses_32 (by decide) (by omega) (by omega) (fun c32 => ?_) (fun c32 => ?_)
    · have hke : k = 49 := by omega
      subst hke
      refine G_aload_n d_X10_pulses_48 rfl ?_
      refine G_getR (r := 65) (fl_X10_7.r) d_X10_pulses_49 (wk_64 _) rfl rfl ?_
      refine G_iconst d_X10_pulses_52 ?_
      refine G_iload_n d_X10_pulses_53 rfl ?_
      refine G_iconst d_X10_pulses_54 ?_
      refine G_isub d_X10_pulses_55 ?_
      refine G_iastj (0) d_X10_pulses_56 (wk_65 _) (by omega) (by omega) (by decide) ?_
      refine G_aload_n d_X10_pulses_57 rfl ?_
      refine G_getR (r := 65) (fl_X10_7.r) d_X10_pulses_58 (wk_64 _) rfl rfl ?_
      refine G_iconst d_X10_pulses_61 ?_
      refine G_iload_n d_X10_pulses_62 rfl ?_
      refine G_iconst d_X10_pulses_63 ?_
      refine G_isub d_X10_pulses_64 ?_
      refine G_iastj (1) d_X10_pulses_65 (wk_65 _) (by omega) (by omega) (by decide) ?_
      refine G_aload_n d_X10_pulses_66 rfl ?_
      refine G_callV0 cl_X10_127 rfl d_X10_pulses_67 (wk_64 _) (Nat.le_of_ble_eq_true rfl) (by decide) (sp_MclearsCycle) ?_
      rintro _ _ ⟨rfl, rfl⟩
      refine G_aload_n d_X10_pulses_70 rfl ?_
      have hV2 := VS_pulses hV ha hb
      have hO2 : MO4 (uPulses s a b) (upm (flm (upm (upm (flm m0 65 4 49 0) 65 0 (a - 3)) 65 1 (b - 1)) 65 49 227 0) 64 2 0) := fun j hj => by
        rw [upm_off _ _ (by decide)]
        by_cases e49 : 49 ≤ j
        · rw [flm_in _ _ e49 hj]; unfold uPulses; rw [if_neg (by omega), if_neg (by omega), if_pos (by omega)]
        · rw [flm_out _ _ (Or.inl (by omega))]
          by_cases e1 : j = 1
          · subst e1; rw [upm_same]; rfl
          · rw [upm_ne _ _ (fun _ => e1)]
            by_cases e0 : j = 0
            · subst e0; rw [upm_same]; rfl
            · rw [upm_ne _ _ (fun _ => e0)]
              by_cases e4 : 4 ≤ j
              · rw [flm_in _ _ e4 (by omega)]; unfold uPulses; rw [if_neg e0, if_neg e1, if_pos e4]
              · rw [flm_out _ _ (Or.inl (by omega))]; unfold uPulses; rw [if_neg e0, if_neg e1, if_neg e4]; exact hQ0.2.1 j (by omega)
      refine G_callV0 cl_X10_130 rfl d_X10_pulses_71 (wk_64 _) (Nat.le_of_ble_eq_true rfl) (by decide) (sp_MwishesNothing (uPulses s a b) hV2 hO2 (fun p hp => by unfold uPulses; rw [if_neg (by omega), if_neg (by omega), if_pos (by omega)])) ?_
      rintro _ _ ⟨rfl, m2, rfl, g1, g2, g3, g4, g5⟩
      refine G_aload_n d_X10_pulses_74 rfl ?_
      refine G_getIe (fl_X10_25.r) d_X10_pulses_75 (wk_64 _) rfl (g5.1) ?_
      refine G_iret (mc := 0) (ms := 0) (st := []) d_X10_pulses_78 rfl ?_
      refine ⟨by unfold vPulses; rw [if_pos ⟨ha, hb⟩], m2, rfl, ?_⟩
      unfold nxPulses
      rw [if_pos ⟨ha, hb⟩]
      refine hQ0.trans ⟨EQM.off (fun a h1 h2 h3 _ _ _ _ => ?_) (fun j h2 h3 _ => ?_), g4, g5, ?_, Or.inl g3⟩
      · rw [g1 a h1 h2 h3, upm_off _ _ h1, flm_off _ _ _ _ h2, upm_off _ _ h2, upm_off _ _ h2, flm_off _ _ _ _ h2]
      · rw [g2 j h2 h3, upm_ne _ _ (fun _ => h2), flm_off _ _ _ _ (by decide), upm_off _ _ (by decide), upm_off _ _ (by decide), flm_off _ _ _ _ (by decide)]
      · refine ⟨?_, fun j hj => ?_⟩
        · rw [g2 16 (by decide) (by decide), upm_ne _ _ (fun _ => by decide), flm_off _ _ _ _ (by decide), upm_off _ _ (by decide), upm_off _ _ (by decide), flm_off _ _ _ _ (by decide)]
          exact hQ0.2.2.2.1.1
        · rw [g1 72 (by decide) (by decide) (by decide), upm_off _ _ (by decide), flm_off _ _ _ _ (by decide), upm_off _ _ (by decide), upm_off _ _ (by decide), flm_off _ _ _ _ (by decide)]
          exact hQ0.2.2.2.1.2 j hj
    · refine G_aload_n d_X10_pulses_35 rfl ?_
      refine G_getR (r := 65) (fl_X10_7.r) d_X10_pulses_36 (wk_64 _) rfl rfl ?_
      refine G_iload_n d_X10_pulses_39 rfl ?_
      refine G_iconst d_X10_pulses_40 ?_
      refine G_iastj (k) d_X10_pulses_41 (wk_65 _) (by omega) (by omega) (by decide) ?_
      refine G_iinc d_X10_pulses_42 rfl (by decide) rfl ?_
      refine G_goto 29 d_X10_pulses_45 (by decide) ?_
      rw [flm_step _ _ _ _ _ (by omega)]
      exact ih (by omega) (by omega) m0 hQ0
  refine G_aload_n d_X10_pulses_0 rfl ?_
  refine G_iconst d_X10_pulses_1 ?_
  refine G_putII fl_X10_1 d_X10_pulses_2 (wk_64 _) rfl ?_
  have hQ0 : KQ s m (upm m 64 0 0) := (KQ.refl hI).fld rfl
  generalize upm m 64 0 0 = m0 at hQ0 ⊢
  refine G_aload_n d_X10_pulses_5 rfl ?_
  refine G_iload_n d_X10_pulses_6 rfl ?_
  refine G_iconst d_X10_pulses_7 ?_
  refine G_iconst d_X10_pulses_8 ?_
  refine G_callV3 cl_X10_124 rfl d_X10_pulses_9 (wk_64 _) (Nat.le_of_ble_eq_true rfl) (by decide) (sp_MisIn a hra (1) (by omega) (5) (by omega)) ?_
  rintro _ _ ⟨rfl, rfl⟩
  by_cases ha : 1 ≤ a ∧ a ≤ 5
  · rw [if_pos ha]
    refine G_if_eq 25 d_X10_pulses_12 (by decide) (by decide) (fun hd => absurd hd (by decide)) (fun _ => ?_)
    refine G_aload_n d_X10_pulses_15 rfl ?_
    refine G_iload_n d_X10_pulses_16 rfl ?_
    refine G_iconst d_X10_pulses_17 ?_
    refine G_iconst d_X10_pulses_18 ?_
    refine G_callV3 cl_X10_124 rfl d_X10_pulses_19 (wk_64 _) (Nat.le_of_ble_eq_true rfl) (by decide) (sp_MisIn b hrb (1) (by omega) (3) (by omega)) ?_
    rintro _ _ ⟨rfl, rfl⟩
    by_cases hb : 1 ≤ b ∧ b ≤ 3
    · rw [if_pos hb]
      refine G_if_ne 27 d_X10_pulses_22 (by decide) (by decide) (fun _ => ?_) (fun hd => absurd hd (by decide))
      refine G_iconst d_X10_pulses_27 ?_
      refine G_istore_n d_X10_pulses_28 (by decide) rfl ?_
      have h9 := L ha hb 4 (by omega) (by omega) m0 hQ0
      rw [flm_nil] at h9
      exact h9
    · rw [if_neg hb]
      refine G_if_ne 27 d_X10_pulses_22 (by decide) (by decide) (fun hd => absurd hd (by decide)) (fun _ => ?_)
      refine G_iconst d_X10_pulses_25 ?_
      refine G_iret (mc := 0) (ms := 0) (st := []) d_X10_pulses_26 rfl ?_
      exact ⟨by unfold vPulses; rw [if_neg (fun h => hb h.2)], m0, rfl, by unfold nxPulses; rw [if_neg (fun h => hb h.2)]; exact hQ0⟩
  · rw [if_neg ha]
    refine G_if_eq 25 d_X10_pulses_12 (by decide) (by decide) (fun _ => ?_) (fun hd => absurd hd (by decide))
    refine G_iconst d_X10_pulses_25 ?_
    refine G_iret (mc := 0) (ms := 0) (st := []) d_X10_pulses_26 rfl ?_
    exact ⟨by unfold vPulses; rw [if_neg (fun h => ha h.1)], m0, rfl, by unfold nxPulses; rw [if_neg (fun h => ha h.1)]; exact hQ0⟩
theorem sp_Mkind {w : List KD} {m : Nat → Nat → Int} (s : Nat → Int) (hV : VS s) (hI : MI s m) (a : Int) (hra : -2147483648 ≤ a ∧ a < 2147483648) (b : Int) (hrb : -2147483648 ≤ b ∧ b < 2147483648) : Sp M_X10_kind 4 0 0 [rV 64, iV a, iV b] (WC ++ (WM ++ w), m) (fun r h => r = some (iV (vKind s a b)) ∧ ∃ m2, h = (WC ++ (WM ++ w), m2) ∧ KQ (nxKind s a b) m m2) := by
  refine Sp.ofG (ls := [rV 64, iV a, iV b]) (by decide +kernel) rfl (Nat.le_of_ble_eq_true rfl) ?_
  have hC := pC_le hV
  have hN := hV.N
  have hT := hV.T
  have hSc := hV.Sc
  refine G_aload_n d_X10_kind_0 rfl ?_
  refine G_iconst d_X10_kind_1 ?_
  refine G_putII fl_X10_1 d_X10_kind_2 (wk_64 _) rfl ?_
  have hQ0 : KQ s m (upm m 64 0 0) := (KQ.refl hI).fld rfl
  generalize upm m 64 0 0 = m0 at hQ0 ⊢
  refine G_aload_n d_X10_kind_5 rfl ?_
  refine G_iload_n d_X10_kind_6 rfl ?_
  refine G_callV1 cl_X10_133 rfl d_X10_kind_7 (wk_64 _) (Nat.le_of_ble_eq_true rfl) (by decide) (sp_MisPulse s hV hQ0.2.1 a hra) ?_
  rintro _ _ ⟨rfl, rfl⟩
  by_cases hk : 0 ≤ a ∧ a < pN s
  · rw [if_pos hk]
    obtain ⟨k, rfl⟩ : ∃ n : Nat, a = (n : Int) := ⟨a.toNat, by omega⟩
    refine G_if_eq 23 d_X10_kind_10 (by decide) (by decide) (fun hd => absurd hd (by decide)) (fun _ => ?_)
    refine G_aload_n d_X10_kind_13 rfl ?_
    refine G_iload_n d_X10_kind_14 rfl ?_
    refine G_iconst d_X10_kind_15 ?_
    refine G_iconst d_X10_kind_16 ?_
    refine G_callV3 cl_X10_124 rfl d_X10_kind_17 (wk_64 _) (Nat.le_of_ble_eq_true rfl) (by decide) (sp_MisIn b hrb (0) (by omega) (2) (by omega)) ?_
    rintro _ _ ⟨rfl, rfl⟩
    by_cases hb : 0 ≤ b ∧ b ≤ 2
    · rw [if_pos hb]
      refine G_if_ne 25 d_X10_kind_20 (by decide) (by decide) (fun _ => ?_) (fun hd => absurd hd (by decide))
      refine G_aload_n d_X10_kind_25 rfl ?_
      refine G_getR (r := 65) (fl_X10_7.r) d_X10_kind_26 (wk_64 _) rfl rfl ?_
      refine G_iconst d_X10_kind_29 ?_
      refine G_iload_n d_X10_kind_30 rfl ?_
      refine G_iadd d_X10_kind_31 ?_
      refine G_iload_n d_X10_kind_32 rfl ?_
      refine G_iastj (4 + k) d_X10_kind_33 (wk_65 _) (by omega) (by omega) (by decide) ?_
      refine G_aload_n d_X10_kind_34 rfl ?_
      have hV2 := VS_kind hV (p := k) (by omega) hb
      have hO2 : MO4 (uKind s k b) (upm m0 65 (4 + k) b) := fun j hj => by
        by_cases e : j = 4 + k
        · subst e; rw [upm_same]; unfold uKind; rw [if_neg (by omega), if_pos rfl]
        · rw [upm_ne _ _ (fun _ => e)]; unfold uKind; rw [if_neg (by omega), if_neg e]; exact hQ0.2.1 j (by omega)
      refine G_callV0 cl_X10_130 rfl d_X10_kind_35 (wk_64 _) (Nat.le_of_ble_eq_true rfl) (by decide) (sp_MwishesNothing (uKind s k b) hV2 hO2 (fun p hp => by unfold uKind; rw [if_pos hp])) ?_
      rintro _ _ ⟨rfl, m2, rfl, g1, g2, g3, g4, g5⟩
      refine G_iconst d_X10_kind_38 ?_
      refine G_zret (mc := 0) (ms := 0) (st := []) d_X10_kind_39 rfl (by omega) ?_
      refine ⟨by unfold vKind; rw [if_pos ⟨hk, hb⟩], m2, rfl, ?_⟩
      unfold nxKind
      rw [if_pos ⟨hk, hb⟩]
      refine hQ0.trans ⟨EQM.off (fun a h1 h2 h3 _ _ _ _ => ?_) (fun j h2 h3 _ => ?_), g4, g5, ?_, Or.inl g3⟩
      · rw [g1 a h1 h2 h3, upm_off _ _ h2]
      · rw [g2 j h2 h3, upm_off _ _ (by decide)]
      · rw [show pT (uKind s ((k : Int)).toNat b) = pT s from pT_kind (by omega)]
        refine ⟨?_, fun j hj => ?_⟩
        · rw [g2 16 (by decide) (by decide), upm_off _ _ (by decide)]
          exact hQ0.2.2.2.1.1
        · rw [g1 72 (by decide) (by decide) (by decide), upm_off _ _ (by decide)]
          exact hQ0.2.2.2.1.2 j hj
    · rw [if_neg hb]
      refine G_if_ne 25 d_X10_kind_20 (by decide) (by decide) (fun hd => absurd hd (by decide)) (fun _ => ?_)
      refine G_iconst d_X10_kind_23 ?_
      refine G_zret (mc := 0) (ms := 0) (st := []) d_X10_kind_24 rfl (by omega) ?_
      exact ⟨by unfold vKind; rw [if_neg (fun h => hb h.2)], m0, rfl, by unfold nxKind; rw [if_neg (fun h => hb h.2)]; exact hQ0⟩
  · rw [if_neg hk]
    refine G_if_eq 23 d_X10_kind_10 (by decide) (by decide) (fun _ => ?_) (fun hd => absurd hd (by decide))
    refine G_iconst d_X10_kind_23 ?_
    refine G_zret (mc := 0) (ms := 0) (st := []) d_X10_kind_24 rfl (by omega) ?_
    exact ⟨by unfold vKind; rw [if_neg (fun h => hk h.1)], m0, rfl, by unfold nxKind; rw [if_neg (fun h => hk h.1)]; exact hQ0⟩
theorem sp_Mturn {w : List KD} {m : Nat → Nat → Int} (s : Nat → Int) (hV : VS s) (hI : MI s m) (a : Int) (hra : -2147483648 ≤ a ∧ a < 2147483648) : Sp M_X10_turn 3 0 0 [rV 64, iV a] (WC ++ (WM ++ w), m) (fun r h => r = some (iV (vTurn a)) ∧ ∃ m2, h = (WC ++ (WM ++ w), m2) ∧ KQ (nxTurn s a) m m2) := by
  refine Sp.ofG (ls := [rV 64, iV a]) (by decide +kernel) rfl (Nat.le_of_ble_eq_true rfl) ?_
  have hC := pC_le hV
  have hN := hV.N
  have hT := hV.T
  have hSc := hV.Sc
  refine G_aload_n d_X10_turn_0 rfl ?_
  refine G_iconst d_X10_turn_1 ?_
  refine G_putII fl_X10_1 d_X10_turn_2 (wk_64 _) rfl ?_
  have hQ0 : KQ s m (upm m 64 0 0) := (KQ.refl hI).fld rfl
  generalize upm m 64 0 0 = m0 at hQ0 ⊢
  refine G_aload_n d_X10_turn_5 rfl ?_
  refine G_iload_n d_X10_turn_6 rfl ?_
  refine G_iconst d_X10_turn_7 ?_
  refine G_bipush d_X10_turn_8 (by decide) ?_
  refine G_callV3 cl_X10_124 rfl d_X10_turn_10 (wk_64 _) (Nat.le_of_ble_eq_true rfl) (by decide) (sp_MisIn a hra (2) (by omega) (48) (by omega)) ?_
  rintro _ _ ⟨rfl, rfl⟩
  by_cases ha : 2 ≤ a ∧ a ≤ 48
  · rw [if_pos ha]
    refine G_if_ne 18 d_X10_turn_13 (by decide) (by decide) (fun _ => ?_) (fun hd => absurd hd (by decide))
    refine G_aload_n d_X10_turn_18 rfl ?_
    refine G_getR (r := 65) (fl_X10_7.r) d_X10_turn_19 (wk_64 _) rfl rfl ?_
    refine G_iconst d_X10_turn_22 ?_
    refine G_iload_n d_X10_turn_23 rfl ?_
    refine G_bipush d_X10_turn_24 (by decide) ?_
    refine G_isub d_X10_turn_26 ?_
    refine G_iastj (2) d_X10_turn_27 (wk_65 _) (by omega) (by omega) (by decide) ?_
    refine G_aload_n d_X10_turn_28 rfl ?_
    refine G_callV0 cl_X10_127 rfl d_X10_turn_29 (wk_64 _) (Nat.le_of_ble_eq_true rfl) (by decide) (sp_MclearsCycle) ?_
    rintro _ _ ⟨rfl, rfl⟩
    refine G_aload_n d_X10_turn_32 rfl ?_
    have hV2 := VS_turn hV ha
    have hO2 : MO (uTurn s a) (upm (flm (upm m0 65 2 (a - 24)) 65 49 227 0) 64 2 0) := fun j hj => by
      rw [upm_off _ _ (by decide)]
      unfold flm upm uTurn
      by_cases e : j = 2
      · subst e; simp
      · rw [if_neg e]
        by_cases c : 49 ≤ j ∧ j < 227
        · rw [if_pos ⟨rfl, c⟩, if_pos c]
        · rw [if_neg (fun h => c h.2), if_neg c, if_neg (fun h => e h.2)]; exact hQ0.2.1 j hj
    refine G_callV0 cl_X10_101 rfl d_X10_turn_33 (wk_64 _) (Nat.le_of_ble_eq_true rfl) (by decide) (sp_MlaysPrimitive (uTurn s a) hV2 hO2) ?_
    rintro _ _ ⟨rfl, m2, rfl, g1, g2, g3⟩
    refine G_iconst d_X10_turn_36 ?_
    refine G_zret (mc := 0) (ms := 0) (st := []) d_X10_turn_37 rfl (by omega) ?_
    refine ⟨by unfold vTurn; rw [if_pos ha], m2, rfl, ?_⟩
    unfold nxTurn
    rw [if_pos ha]
    have ap : AP s (uTurn s a) := ⟨rfl, rfl, fun k hk => by unfold uTurn; rw [if_neg (by omega), if_neg (by omega)]⟩
    refine hQ0.trans ⟨EQM.off (fun a h1 h2 h3 h4 h5 h6 h7 => ?_) (fun j h2 h3 h4 => ?_), fun j hj => ?_, ap.mp hV ⟨?_, fun p hp k hk => ?_⟩, g3, Or.inl ?_⟩
    · rw [g1 a h1 h4 h5 h6 h7, upm_off _ _ h1, flm_off _ _ _ _ h2, upm_off _ _ h2]
    · rw [g2 j h4, upm_ne _ _ (fun _ => h2), flm_off _ _ _ _ (by decide), upm_off _ _ (by decide)]
    · rw [g1 65 (by decide) (by decide) (by decide) (by decide) (by decide)]; exact hO2 j hj
    · rw [g2 3 (by decide), upm_ne _ _ (fun _ => by decide), flm_off _ _ _ _ (by decide), upm_off _ _ (by decide)]; exact hQ0.2.2.1.1
    · rw [g1 66 (by decide) (by decide) (by decide) (by decide) (by decide), upm_off _ _ (by decide), flm_off _ _ _ _ (by decide), upm_off _ _ (by decide)]; exact hQ0.2.2.1.2 p hp k hk
    · rw [g2 2 (by decide), upm_same]
  · rw [if_neg ha]
    refine G_if_ne 18 d_X10_turn_13 (by decide) (by decide) (fun hd => absurd hd (by decide)) (fun _ => ?_)
    refine G_iconst d_X10_turn_16 ?_
    refine G_zret (mc := 0) (ms := 0) (st := []) d_X10_turn_17 rfl (by omega) ?_
    exact ⟨by unfold vTurn; rw [if_neg (fun h => ha h)], m0, rfl, by unfold nxTurn; rw [if_neg (fun h => ha h)]; exact hQ0⟩
theorem sp_Mcounter {w : List KD} {m : Nat → Nat → Int} (s : Nat → Int) (hV : VS s) (hI : MI s m) (a : Int) (hra : -2147483648 ≤ a ∧ a < 2147483648) (b : Int) (hrb : -2147483648 ≤ b ∧ b < 2147483648) : Sp M_X10_counter 3 0 0 [rV 64, iV a, iV b] (WC ++ (WM ++ w), m) (fun r h => r = some (iV (vCounter s a b)) ∧ ∃ m2, h = (WC ++ (WM ++ w), m2) ∧ KQ (nxCounter s a b) m m2) := by
  refine Sp.ofG (ls := [rV 64, iV a, iV b]) (by decide +kernel) rfl (Nat.le_of_ble_eq_true rfl) ?_
  have hC := pC_le hV
  have hN := hV.N
  have hT := hV.T
  have hSc := hV.Sc
  refine G_aload_n d_X10_counter_0 rfl ?_
  refine G_iconst d_X10_counter_1 ?_
  refine G_putII fl_X10_1 d_X10_counter_2 (wk_64 _) rfl ?_
  have hQ0 : KQ s m (upm m 64 0 0) := (KQ.refl hI).fld rfl
  generalize upm m 64 0 0 = m0 at hQ0 ⊢
  refine G_aload_n d_X10_counter_5 rfl ?_
  refine G_iload_n d_X10_counter_6 rfl ?_
  refine G_callV1 cl_X10_139 rfl d_X10_counter_7 (wk_64 _) (Nat.le_of_ble_eq_true rfl) (by decide) (sp_MisCounter a hra) ?_
  rintro _ _ ⟨rfl, rfl⟩
  by_cases ha : 0 ≤ a ∧ a < 4
  · rw [if_pos ha]
    obtain ⟨j, rfl⟩ : ∃ n : Nat, a = (n : Int) := ⟨a.toNat, by omega⟩
    refine G_if_eq 42 d_X10_counter_10 (by decide) (by decide) (fun hd => absurd hd (by decide)) (fun _ => ?_)
    refine G_aload_n d_X10_counter_13 rfl ?_
    refine G_iload_n d_X10_counter_14 rfl ?_
    refine G_iconst d_X10_counter_15 ?_
    refine G_bipush d_X10_counter_16 (by decide) ?_
    refine G_callV3 cl_X10_124 rfl d_X10_counter_18 (wk_64 _) (Nat.le_of_ble_eq_true rfl) (by decide) (sp_MisIn b hrb (1) (by omega) (12) (by omega)) ?_
    rintro _ _ ⟨rfl, rfl⟩
    by_cases hb : 1 ≤ b ∧ b ≤ 12
    · rw [if_pos hb]
      refine G_if_eq 42 d_X10_counter_21 (by decide) (by decide) (fun hd => absurd hd (by decide)) (fun _ => ?_)
      refine G_aload_n d_X10_counter_24 rfl ?_
      refine G_callV0 cl_X10_142 rfl d_X10_counter_25 (wk_64 _) (Nat.le_of_ble_eq_true rfl) (by decide) (sp_Mscans s hV hQ0.2.1) ?_
      rintro _ _ ⟨rfl, rfl⟩
      refine G_aload_n d_X10_counter_28 rfl ?_
      refine G_iload_n d_X10_counter_29 rfl ?_
      refine G_callV1 cl_X10_136 rfl d_X10_counter_30 (wk_64 _) (Nat.le_of_ble_eq_true rfl) (by decide) (sp_MlengthOf s hV hQ0.2.1 j (by omega)) ?_
      rintro _ _ ⟨rfl, rfl⟩
      have hLj := hV.L j (by omega)
      refine G_idivN (pSc s) (pL s j) (rfl) (rfl) d_X10_counter_33 (by omega) (by omega) (by omega) ?_
      rw [oth_div hV (show j < 4 by omega)]
      have hob := oth_rng hV (show j < 4 by omega)
      have hmb := mulb (a := (oth s j : Int)) (b := b) (A := 512) (B := 12) ⟨by omega, by omega⟩ ⟨by omega, by omega⟩
      refine G_iload_n d_X10_counter_34 rfl ?_
      refine G_imul d_X10_counter_35 ?_
      refine G_sipush d_X10_counter_36 (by decide) ?_
      refine G_icmp_le 44 d_X10_counter_39 (by decide) (by omega) (by omega) (fun c39 => ?_) (fun c39 => ?_)
      · refine G_aload_n d_X10_counter_44 rfl ?_
        refine G_getR (r := 65) (fl_X10_7.r) d_X10_counter_45 (wk_64 _) rfl rfl ?_
        refine G_bipush d_X10_counter_48 (by decide) ?_
        refine G_iload_n d_X10_counter_50 rfl ?_
        refine G_iadd d_X10_counter_51 ?_
        refine G_iload_n d_X10_counter_52 rfl ?_
        refine G_iconst d_X10_counter_53 ?_
        refine G_isub d_X10_counter_54 ?_
        have hle : (oth s ((j : Int).toNat) : Int) * b ≤ 512 := c39
        refine G_iastj (49 + j) d_X10_counter_55 (wk_65 _) (by omega) (by omega) (by decide) ?_
        refine G_aload_n d_X10_counter_56 rfl ?_
        refine G_iconst d_X10_counter_57 ?_
        refine G_putZ fl_X10_32 d_X10_counter_58 (wk_64 _) rfl (by omega) ?_
        refine G_aload_n d_X10_counter_61 rfl ?_
        have hV2 : VS (sU s (49 + j) (b - 1)) := by
          obtain ⟨l, rfl⟩ : ∃ l : Nat, b = (l : Int) := ⟨b.toNat, by omega⟩
          refine VS_sU hV _ _ (by omega) (fun h => absurd h (by omega)) ⟨fun h1 h2 => absurd h2 (by omega), fun h1 h2 => absurd h2 (by omega), fun h1 h2 => absurd h2 (by omega), fun h1 h2 => by omega, fun h1 h2 => absurd h1 (by omega), fun h1 h2 => absurd h1 (by omega), fun h1 h2 => absurd h1 (by omega), fun h1 => absurd h1 (by omega)⟩ ?_
          rw [oth_len (by omega) (by omega)]
          exact Int.ofNat_le.mp (by rw [Int.natCast_mul]; exact hle)
        have hQ2 : KQ (sU s (49 + j) (b - 1)) m (upm (upm m0 65 (49 + j) (b - 1)) 64 2 0) := hQ0.trans (KQ_set hV hQ0.2 (by omega) (by omega))
        refine G_callV0 cl_X10_142 rfl d_X10_counter_62 (wk_64 _) (Nat.le_of_ble_eq_true rfl) (by decide) (sp_Mscans (sU s (49 + j) (b - 1)) hV2 hQ2.2.1) ?_
        rintro _ _ ⟨rfl, rfl⟩
        refine G_iret (mc := 0) (ms := 0) (st := []) d_X10_counter_65 rfl ?_
        exact ⟨by unfold vCounter; rw [if_pos ⟨ha, hb, hle⟩]; rfl, _, rfl, by unfold nxCounter; rw [if_pos ⟨ha, hb, hle⟩]; exact hQ2⟩
      · refine G_iconst d_X10_counter_42 ?_
        refine G_iret (mc := 0) (ms := 0) (st := []) d_X10_counter_43 rfl ?_
        exact ⟨by unfold vCounter; rw [if_neg (fun h => Int.not_le.mpr c39 h.2.2)], m0, rfl, by unfold nxCounter; rw [if_neg (fun h => Int.not_le.mpr c39 h.2.2)]; exact hQ0⟩
    · rw [if_neg hb]
      refine G_if_eq 42 d_X10_counter_21 (by decide) (by decide) (fun _ => ?_) (fun hd => absurd hd (by decide))
      refine G_iconst d_X10_counter_42 ?_
      refine G_iret (mc := 0) (ms := 0) (st := []) d_X10_counter_43 rfl ?_
      exact ⟨by unfold vCounter; rw [if_neg (fun h => hb h.2.1)], m0, rfl, by unfold nxCounter; rw [if_neg (fun h => hb h.2.1)]; exact hQ0⟩
  · rw [if_neg ha]
    refine G_if_eq 42 d_X10_counter_10 (by decide) (by decide) (fun _ => ?_) (fun hd => absurd hd (by decide))
    refine G_iconst d_X10_counter_42 ?_
    refine G_iret (mc := 0) (ms := 0) (st := []) d_X10_counter_43 rfl ?_
    exact ⟨by unfold vCounter; rw [if_neg (fun h => ha h.1)], m0, rfl, by unfold nxCounter; rw [if_neg (fun h => ha h.1)]; exact hQ0⟩
theorem sp_Mstep {w : List KD} {m : Nat → Nat → Int} (s : Nat → Int) (hV : VS s) (hI : MI s m) (a : Int) (hra : -2147483648 ≤ a ∧ a < 2147483648) (b : Int) (hrb : -2147483648 ≤ b ∧ b < 2147483648) (c : Int) (hrc : -2147483648 ≤ c ∧ c < 2147483648) : Sp M_X10_step 3 0 0 [rV 64, iV a, iV b, iV c] (WC ++ (WM ++ w), m) (fun r h => r = some (iV (vStep s a b c)) ∧ ∃ m2, h = (WC ++ (WM ++ w), m2) ∧ KQ (nxStep s a b c) m m2) := by
  refine Sp.ofG (ls := [rV 64, iV a, iV b, iV c]) (by decide +kernel) rfl (Nat.le_of_ble_eq_true rfl) ?_
  have hC := pC_le hV
  have hN := hV.N
  have hT := hV.T
  have hSc := hV.Sc
  refine G_aload_n d_X10_step_0 rfl ?_
  refine G_iconst d_X10_step_1 ?_
  refine G_putII fl_X10_1 d_X10_step_2 (wk_64 _) rfl ?_
  have hQ0 : KQ s m (upm m 64 0 0) := (KQ.refl hI).fld rfl
  generalize upm m 64 0 0 = m0 at hQ0 ⊢
  refine G_aload_n d_X10_step_5 rfl ?_
  refine G_iload_n d_X10_step_6 rfl ?_
  refine G_callV1 cl_X10_145 rfl d_X10_step_7 (wk_64 _) (Nat.le_of_ble_eq_true rfl) (by decide) (sp_MisSource s hV hQ0.2.1 a hra) ?_
  rintro _ _ ⟨rfl, rfl⟩
  by_cases hk : 0 ≤ a ∧ a ≤ pN s
  · rw [if_pos hk]
    obtain ⟨k, rfl⟩ : ∃ n : Nat, a = (n : Int) := ⟨a.toNat, by omega⟩
    refine G_if_eq 36 d_X10_step_10 (by decide) (by decide) (fun hd => absurd hd (by decide)) (fun _ => ?_)
    refine G_aload_n d_X10_step_13 rfl ?_
    refine G_iload_n d_X10_step_14 rfl ?_
    refine G_callV1 cl_X10_139 rfl d_X10_step_15 (wk_64 _) (Nat.le_of_ble_eq_true rfl) (by decide) (sp_MisCounter b hrb) ?_
    rintro _ _ ⟨rfl, rfl⟩
    by_cases hb : 0 ≤ b ∧ b < 4
    · rw [if_pos hb]
      obtain ⟨j, rfl⟩ : ∃ n : Nat, b = (n : Int) := ⟨b.toNat, by omega⟩
      refine G_if_eq 36 d_X10_step_18 (by decide) (by decide) (fun hd => absurd hd (by decide)) (fun _ => ?_)
      refine G_aload_n d_X10_step_21 rfl ?_
      refine G_iload_n d_X10_step_22 rfl ?_
      refine G_iconst d_X10_step_23 ?_
      refine G_aload_n d_X10_step_24 rfl ?_
      refine G_callV0 cl_X10_148 rfl d_X10_step_25 (wk_64 _) (Nat.le_of_ble_eq_true rfl) (by decide) (sp_Mt s hV hQ0.2.1) ?_
      rintro _ _ ⟨rfl, rfl⟩
      refine G_iconst d_X10_step_28 ?_
      refine G_isub d_X10_step_29 ?_
      refine G_callV3 cl_X10_124 rfl d_X10_step_30 (wk_64 _) (Nat.le_of_ble_eq_true rfl) (by decide) (sp_MisIn c hrc (0) (by omega) ((pT s : Int) - 1) (by omega)) ?_
      rintro _ _ ⟨rfl, rfl⟩
      by_cases hc : 0 ≤ c ∧ c ≤ (pT s : Int) - 1
      · rw [if_pos hc]
        refine G_if_ne 38 d_X10_step_33 (by decide) (by decide) (fun _ => ?_) (fun hd => absurd hd (by decide))
        refine G_aload_n d_X10_step_38 rfl ?_
        refine G_getR (r := 65) (fl_X10_7.r) d_X10_step_39 (wk_64 _) rfl rfl ?_
        refine G_bipush d_X10_step_42 (by decide) ?_
        refine G_iconst d_X10_step_44 ?_
        refine G_iload_n d_X10_step_45 rfl ?_
        refine G_imul d_X10_step_46 ?_
        refine G_iadd d_X10_step_47 ?_
        refine G_iload_n d_X10_step_48 rfl ?_
        refine G_iadd d_X10_step_49 ?_
        refine G_iload_n d_X10_step_50 rfl ?_
        refine G_iastj (53 + 4 * k + j) d_X10_step_51 (wk_65 _) (by omega) (by omega) (by decide) ?_
        refine G_aload_n d_X10_step_52 rfl ?_
        refine G_iconst d_X10_step_53 ?_
        refine G_putZ fl_X10_32 d_X10_step_54 (wk_64 _) rfl (by omega) ?_
        refine G_iconst d_X10_step_57 ?_
        refine G_zret (mc := 0) (ms := 0) (st := []) d_X10_step_58 rfl (by omega) ?_
        exact ⟨by unfold vStep; rw [if_pos ⟨hk, hb, hc⟩], _, rfl, by unfold nxStep; rw [if_pos ⟨hk, hb, hc⟩]; exact hQ0.trans (KQ_set hV hQ0.2 (by omega) (by omega))⟩
      · rw [if_neg hc]
        refine G_if_ne 38 d_X10_step_33 (by decide) (by decide) (fun hd => absurd hd (by decide)) (fun _ => ?_)
        refine G_iconst d_X10_step_36 ?_
        refine G_zret (mc := 0) (ms := 0) (st := []) d_X10_step_37 rfl (by omega) ?_
        exact ⟨by unfold vStep; rw [if_neg (fun h => hc h.2.2)], m0, rfl, by unfold nxStep; rw [if_neg (fun h => hc h.2.2)]; exact hQ0⟩
    · rw [if_neg hb]
      refine G_if_eq 36 d_X10_step_18 (by decide) (by decide) (fun _ => ?_) (fun hd => absurd hd (by decide))
      refine G_iconst d_X10_step_36 ?_
      refine G_zret (mc := 0) (ms := 0) (st := []) d_X10_step_37 rfl (by omega) ?_
      exact ⟨by unfold vStep; rw [if_neg (fun h => hb h.2.1)], m0, rfl, by unfold nxStep; rw [if_neg (fun h => hb h.2.1)]; exact hQ0⟩
  · rw [if_neg hk]
    refine G_if_eq 36 d_X10_step_10 (by decide) (by decide) (fun _ => ?_) (fun hd => absurd hd (by decide))
    refine G_iconst d_X10_step_36 ?_
    refine G_zret (mc := 0) (ms := 0) (st := []) d_X10_step_37 rfl (by omega) ?_
    exact ⟨by unfold vStep; rw [if_neg (fun h => hk h.1)], m0, rfl, by unfold nxStep; rw [if_neg (fun h => hk h.1)]; exact hQ0⟩
theorem sp_Mgradient {w : List KD} {m : Nat → Nat → Int} (s : Nat → Int) (hV : VS s) (hI : MI s m) (a : Int) (hra : -2147483648 ≤ a ∧ a < 2147483648) (b : Int) (hrb : -2147483648 ≤ b ∧ b < 2147483648) : Sp M_X10_gradient 2 0 0 [rV 64, iV a, iV b] (WC ++ (WM ++ w), m) (fun r h => r = some (iV (vGradient s a b)) ∧ ∃ m2, h = (WC ++ (WM ++ w), m2) ∧ KQ (nxGradient s a b) m m2) := by
  refine Sp.ofG (ls := [rV 64, iV a, iV b]) (by decide +kernel) rfl (Nat.le_of_ble_eq_true rfl) ?_
  have hC := pC_le hV
  have hN := hV.N
  have hT := hV.T
  have hSc := hV.Sc
  refine G_aload_n d_X10_gradient_0 rfl ?_
  refine G_iconst d_X10_gradient_1 ?_
  refine G_putII fl_X10_1 d_X10_gradient_2 (wk_64 _) rfl ?_
  have hQ0 : KQ s m (upm m 64 0 0) := (KQ.refl hI).fld rfl
  generalize upm m 64 0 0 = m0 at hQ0 ⊢
  refine G_aload_n d_X10_gradient_5 rfl ?_
  refine G_iload_n d_X10_gradient_6 rfl ?_
  refine G_callV1 cl_X10_133 rfl d_X10_gradient_7 (wk_64 _) (Nat.le_of_ble_eq_true rfl) (by decide) (sp_MisPulse s hV hQ0.2.1 a hra) ?_
  rintro _ _ ⟨rfl, rfl⟩
  by_cases hk : 0 ≤ a ∧ a < pN s
  · rw [if_pos hk]
    obtain ⟨k, rfl⟩ : ∃ n : Nat, a = (n : Int) := ⟨a.toNat, by omega⟩
    refine G_if_eq 25 d_X10_gradient_10 (by decide) (by decide) (fun hd => absurd hd (by decide)) (fun _ => ?_)
    refine G_aload_n d_X10_gradient_13 rfl ?_
    refine G_iload_n d_X10_gradient_14 rfl ?_
    refine G_bipush d_X10_gradient_15 (by decide) ?_
    refine G_bipush d_X10_gradient_17 (by decide) ?_
    refine G_callV3 cl_X10_124 rfl d_X10_gradient_19 (wk_64 _) (Nat.le_of_ble_eq_true rfl) (by decide) (sp_MisIn b hrb (-9) (by omega) (9) (by omega)) ?_
    rintro _ _ ⟨rfl, rfl⟩
    by_cases hb : -9 ≤ b ∧ b ≤ 9
    · rw [if_pos hb]
      refine G_if_ne 27 d_X10_gradient_22 (by decide) (by decide) (fun _ => ?_) (fun hd => absurd hd (by decide))
      refine G_aload_n d_X10_gradient_27 rfl ?_
      refine G_getR (r := 65) (fl_X10_7.r) d_X10_gradient_28 (wk_64 _) rfl rfl ?_
      refine G_bipush d_X10_gradient_31 (by decide) ?_
      refine G_iload_n d_X10_gradient_33 rfl ?_
      refine G_iadd d_X10_gradient_34 ?_
      refine G_iload_n d_X10_gradient_35 rfl ?_
      refine G_iastj (9 + k) d_X10_gradient_36 (wk_65 _) (by omega) (by omega) (by decide) ?_
      refine G_iconst d_X10_gradient_37 ?_
      refine G_zret (mc := 0) (ms := 0) (st := []) d_X10_gradient_38 rfl (by omega) ?_
      exact ⟨by unfold vGradient; rw [if_pos ⟨hk, hb⟩], _, rfl, by unfold nxGradient; rw [if_pos ⟨hk, hb⟩]; exact hQ0.trans (KQ_set2 hV hQ0.2 (by omega))⟩
    · rw [if_neg hb]
      refine G_if_ne 27 d_X10_gradient_22 (by decide) (by decide) (fun hd => absurd hd (by decide)) (fun _ => ?_)
      refine G_iconst d_X10_gradient_25 ?_
      refine G_zret (mc := 0) (ms := 0) (st := []) d_X10_gradient_26 rfl (by omega) ?_
      exact ⟨by unfold vGradient; rw [if_neg (fun h => hb h.2)], m0, rfl, by unfold nxGradient; rw [if_neg (fun h => hb h.2)]; exact hQ0⟩
  · rw [if_neg hk]
    refine G_if_eq 25 d_X10_gradient_10 (by decide) (by decide) (fun _ => ?_) (fun hd => absurd hd (by decide))
    refine G_iconst d_X10_gradient_25 ?_
    refine G_zret (mc := 0) (ms := 0) (st := []) d_X10_gradient_26 rfl (by omega) ?_
    exact ⟨by unfold vGradient; rw [if_neg (fun h => hk h.1)], m0, rfl, by unfold nxGradient; rw [if_neg (fun h => hk h.1)]; exact hQ0⟩
theorem sp_Mweight {w : List KD} {m : Nat → Nat → Int} (s : Nat → Int) (hV : VS s) (hI : MI s m) (a : Int) (hra : -2147483648 ≤ a ∧ a < 2147483648) (b : Int) (hrb : -2147483648 ≤ b ∧ b < 2147483648) (c : Int) (hrc : -2147483648 ≤ c ∧ c < 2147483648) : Sp M_X10_weight 2 0 0 [rV 64, iV a, iV b, iV c] (WC ++ (WM ++ w), m) (fun r h => r = some (iV (vWeight s a b c)) ∧ ∃ m2, h = (WC ++ (WM ++ w), m2) ∧ KQ (nxWeight s a b c) m m2) := by
  refine Sp.ofG (ls := [rV 64, iV a, iV b, iV c]) (by decide +kernel) rfl (Nat.le_of_ble_eq_true rfl) ?_
  have hC := pC_le hV
  have hN := hV.N
  have hT := hV.T
  have hSc := hV.Sc
  refine G_aload_n d_X10_weight_0 rfl ?_
  refine G_iconst d_X10_weight_1 ?_
  refine G_putII fl_X10_1 d_X10_weight_2 (wk_64 _) rfl ?_
  have hQ0 : KQ s m (upm m 64 0 0) := (KQ.refl hI).fld rfl
  generalize upm m 64 0 0 = m0 at hQ0 ⊢
  refine G_aload_n d_X10_weight_5 rfl ?_
  refine G_iload_n d_X10_weight_6 rfl ?_
  refine G_callV1 cl_X10_133 rfl d_X10_weight_7 (wk_64 _) (Nat.le_of_ble_eq_true rfl) (by decide) (sp_MisPulse s hV hQ0.2.1 a hra) ?_
  rintro _ _ ⟨rfl, rfl⟩
  by_cases hk : 0 ≤ a ∧ a < pN s
  · rw [if_pos hk]
    obtain ⟨k, rfl⟩ : ∃ n : Nat, a = (n : Int) := ⟨a.toNat, by omega⟩
    refine G_if_eq 35 d_X10_weight_10 (by decide) (by decide) (fun hd => absurd hd (by decide)) (fun _ => ?_)
    refine G_aload_n d_X10_weight_13 rfl ?_
    refine G_iload_n d_X10_weight_14 rfl ?_
    refine G_iconst d_X10_weight_15 ?_
    refine G_bipush d_X10_weight_16 (by decide) ?_
    refine G_callV3 cl_X10_124 rfl d_X10_weight_18 (wk_64 _) (Nat.le_of_ble_eq_true rfl) (by decide) (sp_MisIn b hrb (0) (by omega) (6) (by omega)) ?_
    rintro _ _ ⟨rfl, rfl⟩
    by_cases hb : 0 ≤ b ∧ b ≤ 6
    · rw [if_pos hb]
      obtain ⟨j, rfl⟩ : ∃ n : Nat, b = (n : Int) := ⟨b.toNat, by omega⟩
      refine G_if_eq 35 d_X10_weight_21 (by decide) (by decide) (fun hd => absurd hd (by decide)) (fun _ => ?_)
      refine G_aload_n d_X10_weight_24 rfl ?_
      refine G_iload_n d_X10_weight_25 rfl ?_
      refine G_iconst d_X10_weight_26 ?_
      refine G_bipush d_X10_weight_27 (by decide) ?_
      refine G_callV3 cl_X10_124 rfl d_X10_weight_29 (wk_64 _) (Nat.le_of_ble_eq_true rfl) (by decide) (sp_MisIn c hrc (0) (by omega) (9) (by omega)) ?_
      rintro _ _ ⟨rfl, rfl⟩
      by_cases hc : 0 ≤ c ∧ c ≤ 9
      · rw [if_pos hc]
        refine G_if_ne 37 d_X10_weight_32 (by decide) (by decide) (fun _ => ?_) (fun hd => absurd hd (by decide))
        refine G_aload_n d_X10_weight_37 rfl ?_
        refine G_getR (r := 65) (fl_X10_7.r) d_X10_weight_38 (wk_64 _) rfl rfl ?_
        refine G_bipush d_X10_weight_41 (by decide) ?_
        refine G_bipush d_X10_weight_43 (by decide) ?_
        refine G_iload_n d_X10_weight_45 rfl ?_
        refine G_imul d_X10_weight_46 ?_
        refine G_iadd d_X10_weight_47 ?_
        refine G_iload_n d_X10_weight_48 rfl ?_
        refine G_iadd d_X10_weight_49 ?_
        refine G_iload_n d_X10_weight_50 rfl ?_
        refine G_iconst d_X10_weight_51 ?_
        refine G_isub d_X10_weight_52 ?_
        refine G_iastj (14 + 7 * k + j) d_X10_weight_53 (wk_65 _) (by omega) (by omega) (by decide) ?_
        refine G_iconst d_X10_weight_54 ?_
        refine G_zret (mc := 0) (ms := 0) (st := []) d_X10_weight_55 rfl (by omega) ?_
        exact ⟨by unfold vWeight; rw [if_pos ⟨hk, hb, hc⟩], _, rfl, by unfold nxWeight; rw [if_pos ⟨hk, hb, hc⟩]; exact hQ0.trans (KQ_set2 hV hQ0.2 (by omega))⟩
      · rw [if_neg hc]
        refine G_if_ne 37 d_X10_weight_32 (by decide) (by decide) (fun hd => absurd hd (by decide)) (fun _ => ?_)
        refine G_iconst d_X10_weight_35 ?_
        refine G_zret (mc := 0) (ms := 0) (st := []) d_X10_weight_36 rfl (by omega) ?_
        exact ⟨by unfold vWeight; rw [if_neg (fun h => hc h.2.2)], m0, rfl, by unfold nxWeight; rw [if_neg (fun h => hc h.2.2)]; exact hQ0⟩
    · rw [if_neg hb]
      refine G_if_eq 35 d_X10_weight_21 (by decide) (by decide) (fun _ => ?_) (fun hd => absurd hd (by decide))
      refine G_iconst d_X10_weight_35 ?_
      refine G_zret (mc := 0) (ms := 0) (st := []) d_X10_weight_36 rfl (by omega) ?_
      exact ⟨by unfold vWeight; rw [if_neg (fun h => hb h.2.1)], m0, rfl, by unfold nxWeight; rw [if_neg (fun h => hb h.2.1)]; exact hQ0⟩
  · rw [if_neg hk]
    refine G_if_eq 35 d_X10_weight_10 (by decide) (by decide) (fun _ => ?_) (fun hd => absurd hd (by decide))
    refine G_iconst d_X10_weight_35 ?_
    refine G_zret (mc := 0) (ms := 0) (st := []) d_X10_weight_36 rfl (by omega) ?_
    exact ⟨by unfold vWeight; rw [if_neg (fun h => hk h.1)], m0, rfl, by unfold nxWeight; rw [if_neg (fun h => hk h.1)]; exact hQ0⟩
theorem sp_Mswaps {w : List KD} {m : Nat → Nat → Int} (a b : Nat) (ha : a < 2628) (hb : b < 2628) : Sp M_X10_swaps 0 0 0 [rV 64, iV (a : Int), iV (b : Int)] (WC ++ (WM ++ w), m) (fun r h => r = none ∧ h = (WC ++ (WM ++ w), upm (upm m 65 a (m 65 b)) 65 b (m 65 a))) := by
  refine Sp.ofG (ls := [rV 64, iV (a : Int), iV (b : Int), uV]) (by decide +kernel) rfl (Nat.le_of_ble_eq_true rfl) ?_
  refine G_aload_n d_X10_swaps_0 rfl ?_
  refine G_getR (r := 65) (fl_X10_7.r) d_X10_swaps_1 (wk_64 _) rfl rfl ?_
  refine G_iload_n d_X10_swaps_4 rfl ?_
  refine G_ialdj (a) d_X10_swaps_5 (wk_65 _) (by omega) (by omega) (by decide) ?_
  refine G_istore_n d_X10_swaps_6 (by decide) rfl ?_
  refine G_aload_n d_X10_swaps_7 rfl ?_
  refine G_getR (r := 65) (fl_X10_7.r) d_X10_swaps_8 (wk_64 _) rfl rfl ?_
  refine G_iload_n d_X10_swaps_11 rfl ?_
  refine G_aload_n d_X10_swaps_12 rfl ?_
  refine G_getR (r := 65) (fl_X10_7.r) d_X10_swaps_13 (wk_64 _) rfl rfl ?_
  refine G_iload_n d_X10_swaps_16 rfl ?_
  refine G_ialdj (b) d_X10_swaps_17 (wk_65 _) (by omega) (by omega) (by decide) ?_
  refine G_iastj (a) d_X10_swaps_18 (wk_65 _) (by omega) (by omega) (by decide) ?_
  refine G_aload_n d_X10_swaps_19 rfl ?_
  refine G_getR (r := 65) (fl_X10_7.r) d_X10_swaps_20 (wk_64 _) rfl rfl ?_
  refine G_iload_n d_X10_swaps_23 rfl ?_
  refine G_iload_n d_X10_swaps_24 rfl ?_
  refine G_iastj (b) d_X10_swaps_25 (wk_65 _) (by omega) (by omega) (by decide) ?_
  refine G_vret (mc := 0) (ms := 0) (st := []) d_X10_swaps_26 rfl ?_
  exact ⟨rfl, rfl⟩
def swR (m : Nat → Nat → Int) (a b k : Nat) : Nat → Nat → Int := fun c i => if c = 65 then (if i = 49 + a then m 65 (49 + b) else if i = 49 + b then m 65 (49 + a) else if 53 ≤ i ∧ i < 53 + 4 * k ∧ (i - 53) % 4 = a then m 65 (i - a + b) else if 53 ≤ i ∧ i < 53 + 4 * k ∧ (i - 53) % 4 = b then m 65 (i - b + a) else m 65 i) else m c i
theorem swR_0 (m : Nat → Nat → Int) {a b : Nat} (ha : a < 4) (hb : b < 4) (hab : a ≠ b) : upm (upm m 65 (49 + a) (m 65 (49 + b))) 65 (49 + b) (m 65 (49 + a)) = swR m a b 0 := by
  funext c i
  unfold upm swR
  by_cases hc : c = 65
  · subst hc
    rw [if_pos rfl]
    by_cases h1 : i = 49 + a
    · rw [if_neg (by omega), if_pos ⟨rfl, h1⟩, if_pos h1]
    · rw [if_neg h1]
      by_cases h2 : i = 49 + b
      · rw [if_pos ⟨rfl, h2⟩, if_pos h2]
      · rw [if_neg (by omega), if_neg (by omega), if_neg h2, if_neg (by omega), if_neg (by omega)]
  · rw [if_neg (fun h => hc h.1), if_neg (fun h => hc h.1), if_neg hc]
theorem swR_step (m : Nat → Nat → Int) {a b k : Nat} (ha : a < 4) (hb : b < 4) (hab : a ≠ b) : upm (upm (swR m a b k) 65 (53 + 4 * k + a) (swR m a b k 65 (53 + 4 * k + b))) 65 (53 + 4 * k + b) (swR m a b k 65 (53 + 4 * k + a)) = swR m a b (k + 1) := by
  have e1 : swR m a b k 65 (53 + 4 * k + b) = m 65 (53 + 4 * k + b) := by unfold swR; rw [if_pos rfl, if_neg (by omega), if_neg (by omega), if_neg (by omega), if_neg (by omega)]
  have e2 : swR m a b k 65 (53 + 4 * k + a) = m 65 (53 + 4 * k + a) := by unfold swR; rw [if_pos rfl, if_neg (by omega), if_neg (by omega), if_neg (by omega), if_neg (by omega)]
  rw [e1, e2]
  funext c i
  by_cases hc : c = 65
  · subst hc
    by_cases h1 : i = 53 + 4 * k + b
    · rw [show swR m a b (k + 1) 65 i = m 65 (i - b + a) by unfold swR; rw [if_pos rfl, if_neg (by omega), if_neg (by omega), if_neg (by omega), if_pos (by omega)]]
      unfold upm
      rw [if_pos ⟨rfl, h1⟩]
      congr 1
      omega
    · by_cases h2 : i = 53 + 4 * k + a
      · rw [show swR m a b (k + 1) 65 i = m 65 (i - a + b) by unfold swR; rw [if_pos rfl, if_neg (by omega), if_neg (by omega), if_pos (by omega)]]
        unfold upm
        rw [if_neg (by omega), if_pos ⟨rfl, h2⟩]
        congr 1
        omega
      · unfold upm
        rw [if_neg (by omega), if_neg (by omega)]
        unfold swR
        rw [if_pos rfl, if_pos rfl]
        by_cases h3 : i = 49 + a
        · rw [if_pos h3, if_pos h3]
        rw [if_neg h3, if_neg h3]
        by_cases h4 : i = 49 + b
        · rw [if_pos h4, if_pos h4]
        rw [if_neg h4, if_neg h4]
        by_cases h5 : 53 ≤ i ∧ i < 53 + 4 * k ∧ (i - 53) % 4 = a
        · rw [if_pos h5, if_pos (by omega)]
        have h5' : ¬ (53 ≤ i ∧ i < 53 + 4 * (k + 1) ∧ (i - 53) % 4 = a) := by omega
        rw [if_neg h5, if_neg h5']
        by_cases h6 : 53 ≤ i ∧ i < 53 + 4 * k ∧ (i - 53) % 4 = b
        · rw [if_pos h6, if_pos (by omega)]
        have h6' : ¬ (53 ≤ i ∧ i < 53 + 4 * (k + 1) ∧ (i - 53) % 4 = b) := by omega
        rw [if_neg h6, if_neg h6']
  · unfold upm swR
    rw [if_neg (fun h => hc h.1), if_neg (fun h => hc h.1), if_neg hc, if_neg hc]
theorem MO_swap {s : Nat → Int} {m : Nat → Nat → Int} (h : MO s m) {a b : Nat} (ha : a < 4) (hb : b < 4) : MO (uSwap s a b) (swR m a b 6) := fun i hi => by
  unfold swR uSwap
  rw [if_pos rfl, h (49 + b) (by omega), h (49 + a) (by omega), h i hi]
  by_cases h3 : i = 49 + a
  · rw [if_pos h3, if_pos h3]
  rw [if_neg h3, if_neg h3]
  by_cases h4 : i = 49 + b
  · rw [if_pos h4, if_pos h4]
  rw [if_neg h4, if_neg h4]
  by_cases h5 : 53 ≤ i ∧ i < 77 ∧ (i - 53) % 4 = a
  · rw [if_pos h5, if_pos h5]; exact h _ (by omega)
  rw [if_neg h5, if_neg h5]
  by_cases h6 : 53 ≤ i ∧ i < 77 ∧ (i - 53) % 4 = b
  · rw [if_pos h6, if_pos h6]; exact h _ (by omega)
  rw [if_neg h6, if_neg h6]
theorem swR_off (m : Nat → Nat → Int) {a b k c : Nat} (h : c ≠ 65) : swR m a b k c = m c := by
  funext i
  unfold swR
  rw [if_neg h]
theorem KQ_swap {s : Nat → Int} {m : Nat → Nat → Int} (hV : VS s) (hI : MI s m) {a b : Nat} (ha : a < 4) (hb : b < 4) : KQ (uSwap s a b) m (upm (swR m a b 6) 64 2 0) :=
  KQ_mut hV hI (EQM.off (fun c h1 h2 _ _ _ _ _ => by rw [upm_off _ _ h1, swR_off _ h2]) (fun j h2 _ _ => by rw [upm_ne _ _ (fun _ => h2), swR_off _ (by decide)])) (fun i hi => by rw [upm_off _ _ (by decide)]; exact MO_swap hI.1 ha hb i hi) ⟨uSwap_off ha hb (by omega), uSwap_off ha hb (by omega), fun k hk => uSwap_off ha hb (by omega)⟩ (uSwap_off ha hb (by omega)) (by rw [upm_off _ _ (by decide), swR_off _ (by decide)]) (by rw [upm_off _ _ (by decide), swR_off _ (by decide)]) (by rw [upm_ne _ _ (fun _ => by decide), swR_off _ (by decide)]) (by rw [upm_ne _ _ (fun _ => by decide), swR_off _ (by decide)]) (Or.inl (upm_same _ _ _ _))
theorem sp_Mswap {w : List KD} {m : Nat → Nat → Int} (s : Nat → Int) (hV : VS s) (hI : MI s m) (a : Int) (hra : -2147483648 ≤ a ∧ a < 2147483648) (b : Int) (hrb : -2147483648 ≤ b ∧ b < 2147483648) : Sp M_X10_swap 3 0 0 [rV 64, iV a, iV b] (WC ++ (WM ++ w), m) (fun r h => r = some (iV (vSwap a b)) ∧ ∃ m2, h = (WC ++ (WM ++ w), m2) ∧ KQ (nxSwap s a b) m m2) := by
  refine Sp.ofG (ls := [rV 64, iV a, iV b, uV]) (by decide +kernel) rfl (Nat.le_of_ble_eq_true rfl) ?_
  have hC := pC_le hV
  have hN := hV.N
  have hT := hV.T
  have hSc := hV.Sc
  have L : ∀ i j : Nat, i < 4 → j < 4 → i ≠ j → ∀ m0, KQ s m m0 → ∀ k : Nat, k ≤ 6 → G M_X10_swap 3 0 0 42 [rV 64, iV (i : Int), iV (j : Int), iV (k : Int)] [] (WC ++ (WM ++ w), swR m0 i j k) (fun r h => r = some (iV (vSwap (i : Int) (j : Int))) ∧ ∃ m2, h = (WC ++ (WM ++ w), m2) ∧ KQ (nxSwap s (i : Int) (j : Int)) m m2) := by
    intro i j hi hj hij m0 hQ0
    refine loop_up 6 _ ?_
    intro k hk ih
    refine G_iload_n d_X10_swap_42 rfl ?_
    refine G_iconst d_X10_swap_43 ?_
    refine G_icmp_gt 73 d_X10_swap_44 (by decide) (by omega) (by omega) (fun c44 => ?_) (fun c44 => ?_)
    · have hk6 : k = 6 := by omega
      subst hk6
      refine G_aload_n d_X10_swap_73 rfl ?_
      refine G_iconst d_X10_swap_74 ?_
      refine G_putZ fl_X10_32 d_X10_swap_75 (wk_64 _) rfl (by omega) ?_
      refine G_iconst d_X10_swap_78 ?_
      refine G_zret (mc := 0) (ms := 0) (st := []) d_X10_swap_79 rfl (by omega) ?_
      exact ⟨by unfold vSwap; rw [if_pos ⟨⟨by omega, by omega⟩, ⟨by omega, by omega⟩, by omega⟩], _, rfl, by unfold nxSwap; rw [if_pos ⟨⟨by omega, by omega⟩, ⟨by omega, by omega⟩, by omega⟩]; exact hQ0.trans (KQ_swap hV hQ0.2 hi hj)⟩
    · refine G_aload_n d_X10_swap_47 rfl ?_
      refine G_bipush d_X10_swap_48 (by decide) ?_
      refine G_iconst d_X10_swap_50 ?_
      refine G_iload_n d_X10_swap_51 rfl ?_
      refine G_imul d_X10_swap_52 ?_
      refine G_iadd d_X10_swap_53 ?_
      refine G_iload_n d_X10_swap_54 rfl ?_
      refine G_iadd d_X10_swap_55 ?_
      refine G_bipush d_X10_swap_56 (by decide) ?_
      refine G_iconst d_X10_swap_58 ?_
      refine G_iload_n d_X10_swap_59 rfl ?_
      refine G_imul d_X10_swap_60 ?_
      refine G_iadd d_X10_swap_61 ?_
      refine G_iload_n d_X10_swap_62 rfl ?_
      refine G_iadd d_X10_swap_63 ?_
      rw [show (53 : Int) + 4 * (k : Int) + (i : Int) = ((53 + 4 * k + i : Nat) : Int) by omega, show (53 : Int) + 4 * (k : Int) + (j : Int) = ((53 + 4 * k + j : Nat) : Int) by omega]
      refine G_callV2 cl_X10_151 rfl d_X10_swap_64 (wk_64 _) (Nat.le_of_ble_eq_true rfl) (by decide) (sp_Mswaps (53 + 4 * k + i) (53 + 4 * k + j) (by omega) (by omega)) ?_
      rintro _ _ ⟨rfl, rfl⟩
      refine G_iinc d_X10_swap_67 rfl (by decide) rfl ?_
      refine G_goto 42 d_X10_swap_70 (by decide) ?_
      rw [swR_step _ hi hj hij]
      exact ih (by omega)
  refine G_aload_n d_X10_swap_0 rfl ?_
  refine G_iconst d_X10_swap_1 ?_
  refine G_putII fl_X10_1 d_X10_swap_2 (wk_64 _) rfl ?_
  have hQ0 : KQ s m (upm m 64 0 0) := (KQ.refl hI).fld rfl
  generalize upm m 64 0 0 = m0 at hQ0 ⊢
  refine G_aload_n d_X10_swap_5 rfl ?_
  refine G_iload_n d_X10_swap_6 rfl ?_
  refine G_callV1 cl_X10_139 rfl d_X10_swap_7 (wk_64 _) (Nat.le_of_ble_eq_true rfl) (by decide) (sp_MisCounter a hra) ?_
  rintro _ _ ⟨rfl, rfl⟩
  by_cases ha : 0 ≤ a ∧ a < 4
  · rw [if_pos ha]
    obtain ⟨i, rfl⟩ : ∃ n : Nat, a = (n : Int) := ⟨a.toNat, by omega⟩
    refine G_if_eq 26 d_X10_swap_10 (by decide) (by decide) (fun hd => absurd hd (by decide)) (fun _ => ?_)
    refine G_aload_n d_X10_swap_13 rfl ?_
    refine G_iload_n d_X10_swap_14 rfl ?_
    refine G_callV1 cl_X10_139 rfl d_X10_swap_15 (wk_64 _) (Nat.le_of_ble_eq_true rfl) (by decide) (sp_MisCounter b hrb) ?_
    rintro _ _ ⟨rfl, rfl⟩
    by_cases hb : 0 ≤ b ∧ b < 4
    · rw [if_pos hb]
      obtain ⟨j, rfl⟩ : ∃ n : Nat, b = (n : Int) := ⟨b.toNat, by omega⟩
      refine G_if_eq 26 d_X10_swap_18 (by decide) (by decide) (fun hd => absurd hd (by decide)) (fun _ => ?_)
      refine G_iload_n d_X10_swap_21 rfl ?_
      refine G_iload_n d_X10_swap_22 rfl ?_
      refine G_icmp_ne 28 d_X10_swap_23 (by decide) (by omega) (by omega) (fun c23 => ?_) (fun c23 => ?_)
      · refine G_aload_n d_X10_swap_28 rfl ?_
        refine G_bipush d_X10_swap_29 (by decide) ?_
        refine G_iload_n d_X10_swap_31 rfl ?_
        refine G_iadd d_X10_swap_32 ?_
        refine G_bipush d_X10_swap_33 (by decide) ?_
        refine G_iload_n d_X10_swap_35 rfl ?_
        refine G_iadd d_X10_swap_36 ?_
        rw [show (49 : Int) + (i : Int) = ((49 + i : Nat) : Int) by omega, show (49 : Int) + (j : Int) = ((49 + j : Nat) : Int) by omega]
        refine G_callV2 cl_X10_151 rfl d_X10_swap_37 (wk_64 _) (Nat.le_of_ble_eq_true rfl) (by decide) (sp_Mswaps (49 + i) (49 + j) (by omega) (by omega)) ?_
        rintro _ _ ⟨rfl, rfl⟩
        rw [swR_0 _ (show i < 4 by omega) (show j < 4 by omega) (by omega)]
        refine G_iconst d_X10_swap_40 ?_
        refine G_istore_n d_X10_swap_41 (by decide) rfl ?_
        exact L i j (by omega) (by omega) (by omega) m0 hQ0 0 (by omega)
      · refine G_iconst d_X10_swap_26 ?_
        refine G_zret (mc := 0) (ms := 0) (st := []) d_X10_swap_27 rfl (by omega) ?_
        exact ⟨by unfold vSwap; rw [if_neg (fun h => h.2.2 c23)], m0, rfl, by unfold nxSwap; rw [if_neg (fun h => h.2.2 c23)]; exact hQ0⟩
    · rw [if_neg hb]
      refine G_if_eq 26 d_X10_swap_18 (by decide) (by decide) (fun _ => ?_) (fun hd => absurd hd (by decide))
      refine G_iconst d_X10_swap_26 ?_
      refine G_zret (mc := 0) (ms := 0) (st := []) d_X10_swap_27 rfl (by omega) ?_
      exact ⟨by unfold vSwap; rw [if_neg (fun h => hb h.2.1)], m0, rfl, by unfold nxSwap; rw [if_neg (fun h => hb h.2.1)]; exact hQ0⟩
  · rw [if_neg ha]
    refine G_if_eq 26 d_X10_swap_10 (by decide) (by decide) (fun _ => ?_) (fun hd => absurd hd (by decide))
    refine G_iconst d_X10_swap_26 ?_
    refine G_zret (mc := 0) (ms := 0) (st := []) d_X10_swap_27 rfl (by omega) ?_
    exact ⟨by unfold vSwap; rw [if_neg (fun h => ha h.1)], m0, rfl, by unfold nxSwap; rw [if_neg (fun h => ha h.1)]; exact hQ0⟩
theorem sp_Mfollow {w : List KD} {m : Nat → Nat → Int} (s : Nat → Int) (hV : VS s) (hI : MI s m) (x : Int) (hx : x = 0 ∨ x = 1) : Sp M_X10_follow 2 0 0 [rV 64, iV x] (WC ++ (WM ++ w), m) (fun r h => r = some (iV (vFollow s x)) ∧ ∃ m2, h = (WC ++ (WM ++ w), m2) ∧ KQ (nxFollow s x) m m2) := by
  refine Sp.ofG (ls := [rV 64, iV x]) (by decide +kernel) rfl (Nat.le_of_ble_eq_true rfl) ?_
  have hF := hV.F
  refine G_aload_n d_X10_follow_0 rfl ?_
  refine G_iconst d_X10_follow_1 ?_
  refine G_putII fl_X10_1 d_X10_follow_2 (wk_64 _) rfl ?_
  have hQ0 : KQ s m (upm m 64 0 0) := (KQ.refl hI).fld rfl
  generalize upm m 64 0 0 = m0 at hQ0 ⊢
  refine G_aload_n d_X10_follow_5 rfl ?_
  refine G_callV0 cl_X10_155 rfl d_X10_follow_6 (wk_64 _) (Nat.le_of_ble_eq_true rfl) (by decide) (sp_Mfollows s hV hQ0.2.1) ?_
  rintro _ _ ⟨rfl, rfl⟩
  refine G_iload_n d_X10_follow_9 rfl ?_
  refine G_icmp_ne 15 d_X10_follow_10 (by decide) (by first | omega | (split <;> omega)) (by first | omega | (split <;> omega)) (fun c10 => ?_) (fun c10 => ?_)
  · refine G_aload_n d_X10_follow_15 rfl ?_
    refine G_getR (r := 65) (fl_X10_7.r) d_X10_follow_16 (wk_64 _) rfl rfl ?_
    refine G_iconst d_X10_follow_19 ?_
    refine G_iload_n d_X10_follow_20 rfl ?_
    refine G_if_eq 28 d_X10_follow_21 (by decide) (by omega) (fun c21 => ?_) (fun c21 => ?_)
    · refine G_iconst d_X10_follow_28 ?_
      refine G_iastj (3) d_X10_follow_29 (wk_65 _) (by omega) (by omega) (by decide) ?_
      refine G_aload_n d_X10_follow_30 rfl ?_
      refine G_iconst d_X10_follow_31 ?_
      refine G_putZ fl_X10_32 d_X10_follow_32 (wk_64 _) rfl (by omega) ?_
      refine G_iconst d_X10_follow_35 ?_
      refine G_zret (mc := 0) (ms := 0) (st := []) d_X10_follow_36 rfl (by omega) ?_
      have hx1 : x = 0 := by omega
      subst hx1
      exact ⟨by unfold vFollow; rw [if_pos c10], _, rfl, by unfold nxFollow; rw [if_pos c10]; exact hQ0.trans (KQ_set hV hQ0.2 (by omega) (by omega))⟩
    · refine G_iconst d_X10_follow_24 ?_
      refine G_goto 29 d_X10_follow_25 (by decide) ?_
      refine G_iastj (3) d_X10_follow_29 (wk_65 _) (by omega) (by omega) (by decide) ?_
      refine G_aload_n d_X10_follow_30 rfl ?_
      refine G_iconst d_X10_follow_31 ?_
      refine G_putZ fl_X10_32 d_X10_follow_32 (wk_64 _) rfl (by omega) ?_
      refine G_iconst d_X10_follow_35 ?_
      refine G_zret (mc := 0) (ms := 0) (st := []) d_X10_follow_36 rfl (by omega) ?_
      have hx1 : x = 1 := by omega
      subst hx1
      exact ⟨by unfold vFollow; rw [if_pos c10], _, rfl, by unfold nxFollow; rw [if_pos c10]; exact hQ0.trans (KQ_set hV hQ0.2 (by omega) (by omega))⟩
  · refine G_iconst d_X10_follow_13 ?_
    refine G_zret (mc := 0) (ms := 0) (st := []) d_X10_follow_14 rfl (by omega) ?_
    exact ⟨by unfold vFollow; rw [if_neg (fun h => h c10)], m0, rfl, by unfold nxFollow; rw [if_neg (fun h => h c10)]; exact hQ0⟩
theorem sp_Mbecomes {w : List KD} {m : Nat → Nat → Int} (s : Nat → Int) (hV : VS s) (hI : MI s m) (v : Int) (hv : 1 ≤ v ∧ v ≤ 2) (a : Int) (hra : -2147483648 ≤ a ∧ a < 2147483648) (x : Int) (hx : x = 0 ∨ x = 1) : Sp M_X10_becomes 2 0 0 [rV 64, iV a, iV v, iV x] (WC ++ (WM ++ w), m) (fun r h => r = some (iV (vMark s v a x)) ∧ ∃ m2, h = (WC ++ (WM ++ w), m2) ∧ KQ (nxMark s v a x) m m2) := by
  refine Sp.ofG (ls := [rV 64, iV a, iV v, iV x]) (by decide +kernel) rfl (Nat.le_of_ble_eq_true rfl) ?_
  have hC := pC_le hV
  have hN := hV.N
  have hT := hV.T
  have hSc := hV.Sc
  refine G_aload_n d_X10_becomes_0 rfl ?_
  refine G_iload_n d_X10_becomes_1 rfl ?_
  refine G_callV1 cl_X10_159 rfl d_X10_becomes_2 (wk_64 _) (Nat.le_of_ble_eq_true rfl) (by decide) (sp_MisPath s hV hI.1 hI.2.1 a hra) ?_
  rintro _ _ ⟨rfl, rfl⟩
  by_cases hp : 0 ≤ a ∧ a < pC s
  · rw [if_pos hp]
    obtain ⟨p, rfl⟩ : ∃ n : Nat, a = (n : Int) := ⟨a.toNat, by omega⟩
    refine G_if_eq 31 d_X10_becomes_5 (by decide) (by decide) (fun hd => absurd hd (by decide)) (fun _ => ?_)
    refine G_aload_n d_X10_becomes_8 rfl ?_
    refine G_getR (r := 65) (fl_X10_7.r) d_X10_becomes_9 (wk_64 _) rfl rfl ?_
    refine G_sipush d_X10_becomes_12 (by decide) ?_
    refine G_iload_n d_X10_becomes_15 rfl ?_
    refine G_iadd d_X10_becomes_16 ?_
    refine G_ialdj (227 + p) d_X10_becomes_17 (wk_65 _) (by omega) (by omega) (by decide) ?_
    rw [hI.1 (227 + p) (by omega)]
    have hMk := hV.Mk p (by omega)
    have hMk2 : pMk s ((p : Int).toNat) = s (227 + p) := rfl
    have hMk3 : pMk s p = s (227 + p) := rfl
    refine G_iload_n d_X10_becomes_18 rfl ?_
    refine G_icmp_ne 26 d_X10_becomes_19 (by decide) (by omega) (by omega) (fun c19 => ?_) (fun c19 => ?_)
    · refine G_iconst d_X10_becomes_26 ?_
      have c28x : (if pMk s ((p : Int).toNat) = v then (1 : Int) else 0) = 0 := if_neg (by rw [hMk2]; exact c19)
      refine G_iload_n d_X10_becomes_27 rfl ?_
      refine G_icmp_ne 33 d_X10_becomes_28 (by decide) (by omega) (by omega) (fun c28y => ?_) (fun c28y => ?_)
      · have c28 : ¬ (if pMk s ((p : Int).toNat) = v then (1 : Int) else 0) = x := fun h => c28y (c28x.symm.trans h)
        refine G_aload_n d_X10_becomes_33 rfl ?_
        refine G_getR (r := 65) (fl_X10_7.r) d_X10_becomes_34 (wk_64 _) rfl rfl ?_
        refine G_sipush d_X10_becomes_37 (by decide) ?_
        refine G_iload_n d_X10_becomes_40 rfl ?_
        refine G_iadd d_X10_becomes_41 ?_
        refine G_iload_n d_X10_becomes_42 rfl ?_
        refine G_if_eq 50 d_X10_becomes_43 (by decide) (by omega) (fun c43 => ?_) (fun c43 => ?_)
        · refine G_iconst d_X10_becomes_50 ?_
          refine G_iastj (227 + p) d_X10_becomes_51 (wk_65 _) (by omega) (by omega) (by decide) ?_
          refine G_aload_n d_X10_becomes_52 rfl ?_
          refine G_iconst d_X10_becomes_53 ?_
          refine G_putZ fl_X10_32 d_X10_becomes_54 (wk_64 _) rfl (by omega) ?_
          refine G_iconst d_X10_becomes_57 ?_
          refine G_zret (mc := 0) (ms := 0) (st := []) d_X10_becomes_58 rfl (by omega) ?_
          have hx0 : x = 0 := by omega
          subst hx0
          have hok : okMark s v (p : Int) 0 := ⟨hp, c28⟩
          exact ⟨by unfold vMark; rw [if_pos hok], _, rfl, by unfold nxMark; rw [if_pos hok]; exact KQ_set hV hI (by omega) (by omega)⟩
        · refine G_iload_n d_X10_becomes_46 rfl ?_
          refine G_goto 51 d_X10_becomes_47 (by decide) ?_
          refine G_iastj (227 + p) d_X10_becomes_51 (wk_65 _) (by omega) (by omega) (by decide) ?_
          refine G_aload_n d_X10_becomes_52 rfl ?_
          refine G_iconst d_X10_becomes_53 ?_
          refine G_putZ fl_X10_32 d_X10_becomes_54 (wk_64 _) rfl (by omega) ?_
          refine G_iconst d_X10_becomes_57 ?_
          refine G_zret (mc := 0) (ms := 0) (st := []) d_X10_becomes_58 rfl (by omega) ?_
          have hx1 : x = 1 := by omega
          subst hx1
          have hok : okMark s v (p : Int) 1 := ⟨hp, c28⟩
          exact ⟨by unfold vMark; rw [if_pos hok], _, rfl, by unfold nxMark; rw [if_pos hok]; exact KQ_set hV hI (by omega) (by omega)⟩
      · refine G_iconst d_X10_becomes_31 ?_
        refine G_zret (mc := 0) (ms := 0) (st := []) d_X10_becomes_32 rfl (by omega) ?_
        exact ⟨by unfold vMark; rw [if_neg (fun h => h.2 (c28x.trans c28y))], m, rfl, by unfold nxMark; rw [if_neg (fun h => h.2 (c28x.trans c28y))]; exact KQ.refl hI⟩
    · refine G_iconst d_X10_becomes_22 ?_
      refine G_goto 27 d_X10_becomes_23 (by decide) ?_
      have c28x : (if pMk s ((p : Int).toNat) = v then (1 : Int) else 0) = 1 := if_pos (by rw [hMk2]; exact c19)
      refine G_iload_n d_X10_becomes_27 rfl ?_
      refine G_icmp_ne 33 d_X10_becomes_28 (by decide) (by omega) (by omega) (fun c28y => ?_) (fun c28y => ?_)
      · have c28 : ¬ (if pMk s ((p : Int).toNat) = v then (1 : Int) else 0) = x := fun h => c28y (c28x.symm.trans h)
        refine G_aload_n d_X10_becomes_33 rfl ?_
        refine G_getR (r := 65) (fl_X10_7.r) d_X10_becomes_34 (wk_64 _) rfl rfl ?_
        refine G_sipush d_X10_becomes_37 (by decide) ?_
        refine G_iload_n d_X10_becomes_40 rfl ?_
        refine G_iadd d_X10_becomes_41 ?_
        refine G_iload_n d_X10_becomes_42 rfl ?_
        refine G_if_eq 50 d_X10_becomes_43 (by decide) (by omega) (fun c43 => ?_) (fun c43 => ?_)
        · refine G_iconst d_X10_becomes_50 ?_
          refine G_iastj (227 + p) d_X10_becomes_51 (wk_65 _) (by omega) (by omega) (by decide) ?_
          refine G_aload_n d_X10_becomes_52 rfl ?_
          refine G_iconst d_X10_becomes_53 ?_
          refine G_putZ fl_X10_32 d_X10_becomes_54 (wk_64 _) rfl (by omega) ?_
          refine G_iconst d_X10_becomes_57 ?_
          refine G_zret (mc := 0) (ms := 0) (st := []) d_X10_becomes_58 rfl (by omega) ?_
          have hx0 : x = 0 := by omega
          subst hx0
          have hok : okMark s v (p : Int) 0 := ⟨hp, c28⟩
          exact ⟨by unfold vMark; rw [if_pos hok], _, rfl, by unfold nxMark; rw [if_pos hok]; exact KQ_set hV hI (by omega) (by omega)⟩
        · refine G_iload_n d_X10_becomes_46 rfl ?_
          refine G_goto 51 d_X10_becomes_47 (by decide) ?_
          refine G_iastj (227 + p) d_X10_becomes_51 (wk_65 _) (by omega) (by omega) (by decide) ?_
          refine G_aload_n d_X10_becomes_52 rfl ?_
          refine G_iconst d_X10_becomes_53 ?_
          refine G_putZ fl_X10_32 d_X10_becomes_54 (wk_64 _) rfl (by omega) ?_
          refine G_iconst d_X10_becomes_57 ?_
          refine G_zret (mc := 0) (ms := 0) (st := []) d_X10_becomes_58 rfl (by omega) ?_
          have hx1 : x = 1 := by omega
          subst hx1
          have hok : okMark s v (p : Int) 1 := ⟨hp, c28⟩
          exact ⟨by unfold vMark; rw [if_pos hok], _, rfl, by unfold nxMark; rw [if_pos hok]; exact KQ_set hV hI (by omega) (by omega)⟩
      · refine G_iconst d_X10_becomes_31 ?_
        refine G_zret (mc := 0) (ms := 0) (st := []) d_X10_becomes_32 rfl (by omega) ?_
        exact ⟨by unfold vMark; rw [if_neg (fun h => h.2 (c28x.trans c28y))], m, rfl, by unfold nxMark; rw [if_neg (fun h => h.2 (c28x.trans c28y))]; exact KQ.refl hI⟩
  · rw [if_neg hp]
    refine G_if_eq 31 d_X10_becomes_5 (by decide) (by decide) (fun _ => ?_) (fun hd => absurd hd (by decide))
    refine G_iconst d_X10_becomes_31 ?_
    refine G_zret (mc := 0) (ms := 0) (st := []) d_X10_becomes_32 rfl (by omega) ?_
    exact ⟨by unfold vMark; rw [if_neg (fun h => hp h.1)], m, rfl, by unfold nxMark; rw [if_neg (fun h => hp h.1)]; exact KQ.refl hI⟩
theorem sp_Mwish {w : List KD} {m : Nat → Nat → Int} (s : Nat → Int) (hV : VS s) (hI : MI s m) (a : Int) (hra : -2147483648 ≤ a ∧ a < 2147483648) (x : Int) (hx : x = 0 ∨ x = 1) : Sp M_X10_wish 3 0 0 [rV 64, iV a, iV x] (WC ++ (WM ++ w), m) (fun r h => r = some (iV (vMark s 1 a x)) ∧ ∃ m2, h = (WC ++ (WM ++ w), m2) ∧ KQ (nxMark s 1 a x) m m2) := by
  refine Sp.ofG (ls := [rV 64, iV a, iV x]) (by decide +kernel) rfl (Nat.le_of_ble_eq_true rfl) ?_
  refine G_aload_n d_X10_wish_0 rfl ?_
  refine G_iconst d_X10_wish_1 ?_
  refine G_putII fl_X10_1 d_X10_wish_2 (wk_64 _) rfl ?_
  have hQ0 : KQ s m (upm m 64 0 0) := (KQ.refl hI).fld rfl
  generalize upm m 64 0 0 = m0 at hQ0 ⊢
  refine G_aload_n d_X10_wish_5 rfl ?_
  refine G_iload_n d_X10_wish_6 rfl ?_
  refine G_iconst d_X10_wish_7 ?_
  refine G_iload_n d_X10_wish_8 rfl ?_
  refine G_callV3 cl_X10_162 rfl d_X10_wish_9 (wk_64 _) (Nat.le_of_ble_eq_true rfl) (by decide) (sp_Mbecomes s hV hQ0.2 1 (by decide) a hra x hx) ?_
  rintro _ _ ⟨rfl, m2, rfl, h2⟩
  refine G_zret (mc := 0) (ms := 0) (st := []) d_X10_wish_12 rfl (by unfold vMark; split <;> omega) ?_
  exact ⟨rfl, m2, rfl, hQ0.trans h2⟩
theorem sp_Mfree {w : List KD} {m : Nat → Nat → Int} (s : Nat → Int) (hV : VS s) (hI : MI s m) (a : Int) (hra : -2147483648 ≤ a ∧ a < 2147483648) (x : Int) (hx : x = 0 ∨ x = 1) : Sp M_X10_free 3 0 0 [rV 64, iV a, iV x] (WC ++ (WM ++ w), m) (fun r h => r = some (iV (vMark s 2 a x)) ∧ ∃ m2, h = (WC ++ (WM ++ w), m2) ∧ KQ (nxMark s 2 a x) m m2) := by
  refine Sp.ofG (ls := [rV 64, iV a, iV x]) (by decide +kernel) rfl (Nat.le_of_ble_eq_true rfl) ?_
  refine G_aload_n d_X10_free_0 rfl ?_
  refine G_iconst d_X10_free_1 ?_
  refine G_putII fl_X10_1 d_X10_free_2 (wk_64 _) rfl ?_
  have hQ0 : KQ s m (upm m 64 0 0) := (KQ.refl hI).fld rfl
  generalize upm m 64 0 0 = m0 at hQ0 ⊢
  refine G_aload_n d_X10_free_5 rfl ?_
  refine G_iload_n d_X10_free_6 rfl ?_
  refine G_iconst d_X10_free_7 ?_
  refine G_iload_n d_X10_free_8 rfl ?_
  refine G_callV3 cl_X10_162 rfl d_X10_free_9 (wk_64 _) (Nat.le_of_ble_eq_true rfl) (by decide) (sp_Mbecomes s hV hQ0.2 2 (by decide) a hra x hx) ?_
  rintro _ _ ⟨rfl, m2, rfl, h2⟩
  refine G_zret (mc := 0) (ms := 0) (st := []) d_X10_free_12 rfl (by unfold vMark; split <;> omega) ?_
  exact ⟨rfl, m2, rfl, hQ0.trans h2⟩
def faM (s : Nat → Int) (m : Nat → Nat → Int) (k : Nat) (o : Int) (n : Nat) : Nat → Nat → Int := fun a i => if a = 65 ∧ 227 ≤ i ∧ i < 227 + n ∧ pO s (i - 227) k = o ∧ m 65 i = 0 then 2 else m a i
theorem faM_0 (s : Nat → Int) (m : Nat → Nat → Int) (k : Nat) (o : Int) : faM s m k o 0 = m := by
  funext a i
  unfold faM
  rw [if_neg (by omega)]
theorem faM_at (s : Nat → Int) (m : Nat → Nat → Int) (k : Nat) (o : Int) (n : Nat) : faM s m k o n 65 (227 + n) = m 65 (227 + n) := by
  unfold faM
  rw [if_neg (by omega)]
theorem faM_off (s : Nat → Int) (m : Nat → Nat → Int) (k : Nat) (o : Int) {a : Nat} (n : Nat) (h : a ≠ 65) : faM s m k o n a = m a := by
  funext i
  unfold faM
  rw [if_neg (fun e => h e.1)]
theorem faM_no {s : Nat → Int} {m : Nat → Nat → Int} {k : Nat} {o : Int} {n : Nat} (h : ¬ (pO s n k = o ∧ m 65 (227 + n) = 0)) : faM s m k o (n + 1) = faM s m k o n := by
  funext a i
  unfold faM
  by_cases c : a = 65 ∧ 227 ≤ i ∧ i < 227 + n ∧ pO s (i - 227) k = o ∧ m 65 i = 0
  · rw [if_pos c, if_pos ⟨c.1, c.2.1, by omega, c.2.2.2.1, c.2.2.2.2⟩]
  · rw [if_neg c, if_neg (fun e => ?_)]
    by_cases d : i = 227 + n
    · subst d
      exact h ⟨by rw [show n = 227 + n - 227 by omega]; exact e.2.2.2.1, e.2.2.2.2⟩
    · exact c ⟨e.1, e.2.1, by omega, e.2.2.2.1, e.2.2.2.2⟩
theorem faM_yes {s : Nat → Int} {m : Nat → Nat → Int} {k : Nat} {o : Int} {n : Nat} (h : pO s n k = o) (h2 : m 65 (227 + n) = 0) : upm (faM s m k o n) 65 (227 + n) 2 = faM s m k o (n + 1) := by
  funext a i
  unfold upm faM
  by_cases d : a = 65 ∧ i = 227 + n
  · obtain ⟨rfl, rfl⟩ := d
    rw [if_pos ⟨rfl, rfl⟩, if_pos ⟨rfl, by omega, by omega, by rw [show 227 + n - 227 = n by omega]; exact h, h2⟩]
  · rw [if_neg d]
    by_cases c : a = 65 ∧ 227 ≤ i ∧ i < 227 + n ∧ pO s (i - 227) k = o ∧ m 65 i = 0
    · rw [if_pos c, if_pos ⟨c.1, c.2.1, by omega, c.2.2.2.1, c.2.2.2.2⟩]
    · rw [if_neg c, if_neg (fun e => c ⟨e.1, e.2.1, by omega, e.2.2.2.1, e.2.2.2.2⟩)]
theorem AP_fa (s : Nat → Int) (k : Nat) (o : Int) : AP s (uFreeAll s k o) := ⟨by unfold uFreeAll; rw [if_neg (by omega)], by unfold uFreeAll; rw [if_neg (by omega)], fun j hj => by unfold uFreeAll; rw [if_neg (by omega)]⟩
theorem AC_fa (s : Nat → Int) (k : Nat) (o : Int) : AC s (uFreeAll s k o) := ⟨by unfold uFreeAll; rw [if_neg (by omega)], by unfold uFreeAll; rw [if_neg (by omega)], fun i h1 h2 => by unfold uFreeAll; rw [if_neg (by omega)]⟩
theorem chief_fa {s : Nat → Int} (hV : VS s) (k : Nat) (o : Int) : pChief (uFreeAll s k o) = pChief s := (AP_fa s k o).chief hV (fun p _ => by
  unfold uFreeAll
  by_cases c : 227 ≤ 227 + p ∧ 227 + p < 227 + pC s ∧ pO s (227 + p - 227) k = o ∧ s (227 + p) = 0
  · rw [if_pos c, c.2.2.2]; rfl
  · rw [if_neg c])
theorem KQ_fa {s : Nat → Int} {m : Nat → Nat → Int} (hV : VS s) (hI : MI s m) (k : Nat) (o : Int) : KQ (uFreeAll s k o) m (faM s m k o (pC s)) :=
  KQ_mut hV hI (EQM.off (fun c h1 h2 _ _ _ _ _ => faM_off _ _ _ _ _ h2) (fun j h2 _ _ => by rw [faM_off _ _ _ _ _ (by decide)])) (fun i hi => by
    have h0 := hI.1 i hi
    unfold faM uFreeAll
    rw [h0]
    by_cases c : 227 ≤ i ∧ i < 227 + pC s ∧ pO s (i - 227) k = o ∧ s i = 0
    · rw [if_pos ⟨rfl, c⟩, if_pos c]
    · rw [if_neg (fun e => c e.2), if_neg c]) (AP_fa s k o) (AC_fa s k o).1 (faM_off _ _ _ _ _ (by decide)) (faM_off _ _ _ _ _ (by decide)) (by rw [faM_off _ _ _ _ _ (by decide)]) (by rw [faM_off _ _ _ _ _ (by decide)]) (Or.inr ⟨by rw [faM_off _ _ _ _ _ (by decide)], faM_off _ _ _ _ _ (by decide), fun p _ => (AC_fa s k o).St (AP_fa s k o) hV (fun _ => chief_fa hV k o) p⟩)
theorem sp_MfreeAll {w : List KD} {m : Nat → Nat → Int} (s : Nat → Int) (hV : VS s) (hI : MI s m) (a : Int) (hra : -2147483648 ≤ a ∧ a < 2147483648) (b : Int) (hrb : -2147483648 ≤ b ∧ b < 2147483648) : Sp M_X10_freeAll 2 0 0 [rV 64, iV a, iV b] (WC ++ (WM ++ w), m) (fun r h => r = some (iV (vFreeAll s a b)) ∧ ∃ m2, h = (WC ++ (WM ++ w), m2) ∧ KQ (nxFreeAll s a b) m m2) := by
  refine Sp.ofG (ls := [rV 64, iV a, iV b, uV, uV]) (by decide +kernel) rfl (Nat.le_of_ble_eq_true rfl) ?_
  have hC := pC_le hV
  have hN := hV.N
  have hT := hV.T
  have hSc := hV.Sc
  have hM := hV.M
  have L : ∀ k : Nat, k < pN s → (-(pM s : Int) ≤ b ∧ b ≤ (pM s : Int)) → ∀ m0, KQ s m m0 → ∀ p : Nat, p ≤ pC s → G M_X10_freeAll 2 0 0 37 [rV 64, iV (k : Int), iV b, iV ((cntB (isFA s k b) p : Nat) : Int), iV (p : Int)] [] (WC ++ (WM ++ w), faM s m0 k b p) (fun r h => r = some (iV (vFreeAll s (k : Int) b)) ∧ ∃ m2, h = (WC ++ (WM ++ w), m2) ∧ KQ (nxFreeAll s (k : Int) b) m m2) := by
    intro k hk hb m0 hQ0
    refine loop_up (pC s) _ ?_
    intro p hp ih
    have hO9 : MP s (faM s m0 k b p) := ⟨by rw [faM_off _ _ _ _ _ (by decide)]; exact hQ0.2.2.1.1, fun q hq k2 hk2 => by rw [faM_off _ _ _ _ _ (by decide)]; exact hQ0.2.2.1.2 q hq k2 hk2⟩
    have hcl := cntB_le (isFA s k b) p
    have hMkp : pMk s p = s (227 + p) := rfl
    refine G_iload d_X10_freeAll_37 rfl ?_
    refine G_aload_n d_X10_freeAll_39 rfl ?_
    refine G_getIe (fl_X10_25.r) d_X10_freeAll_40 (wk_64 _) rfl (hO9.1) ?_
    refine G_icmp_ge 96 d_X10_freeAll_43 (by decide) (by omega) (by omega) (fun c43 => ?_) (fun c43 => ?_)
    · refine G_iload_n d_X10_freeAll_96 rfl ?_
      refine G_iret (mc := 0) (ms := 0) (st := []) d_X10_freeAll_97 rfl ?_
      have hpe : p = pC s := by omega
      subst hpe
      have hok : okFreeAll s (k : Int) b := ⟨⟨by omega, by omega⟩, hb⟩
      exact ⟨by unfold vFreeAll; rw [if_pos hok]; rfl, _, rfl, by unfold nxFreeAll; rw [if_pos hok]; exact hQ0.trans (KQ_fa hV hQ0.2 k b)⟩
    · refine G_aload_n d_X10_freeAll_46 rfl ?_
      refine G_iload d_X10_freeAll_47 rfl ?_
      refine G_iload_n d_X10_freeAll_49 rfl ?_
      have hor := pO_rng hV p k
      refine G_callV2 cl_X10_18 rfl d_X10_freeAll_50 (wk_64 _) (Nat.le_of_ble_eq_true rfl) (by decide) (sp_Mord0 p k (by omega) (by omega)) ?_
      rintro _ _ ⟨rfl, rfl⟩
      rw [hO9.2 p (by omega) k hk]
      refine G_iload_n d_X10_freeAll_53 rfl ?_
      refine G_icmp_ne 90 d_X10_freeAll_54 (by decide) (by omega) (by omega) (fun c54 => ?_) (fun c54 => ?_)
      · refine G_iinc d_X10_freeAll_90 rfl (by decide) rfl ?_
        refine G_goto 37 d_X10_freeAll_93 (by decide) ?_
        rw [faM_no (fun e => c54 e.1)] at ih
        rw [cntB_f (show isFA s k b p = false by unfold isFA; simp [c54])] at ih
        exact ih (by omega)
      · refine G_aload_n d_X10_freeAll_57 rfl ?_
        refine G_getR (r := 65) (fl_X10_7.r) d_X10_freeAll_58 (wk_64 _) rfl rfl ?_
        refine G_sipush d_X10_freeAll_61 (by decide) ?_
        refine G_iload d_X10_freeAll_64 rfl ?_
        refine G_iadd d_X10_freeAll_66 ?_
        refine G_ialdj (227 + p) d_X10_freeAll_67 (wk_65 _) (by omega) (by omega) (by decide) ?_
        rw [faM_at, hQ0.2.1 (227 + p) (by omega)]
        have hMk := hV.Mk p (by omega)
        refine G_if_eq 74 d_X10_freeAll_68 (by decide) (by omega) (fun c68 => ?_) (fun c68 => ?_)
        · refine G_aload_n d_X10_freeAll_74 rfl ?_
          refine G_getR (r := 65) (fl_X10_7.r) d_X10_freeAll_75 (wk_64 _) rfl rfl ?_
          refine G_sipush d_X10_freeAll_78 (by decide) ?_
          refine G_iload d_X10_freeAll_81 rfl ?_
          refine G_iadd d_X10_freeAll_83 ?_
          refine G_iconst d_X10_freeAll_84 ?_
          refine G_iastj (227 + p) d_X10_freeAll_85 (wk_65 _) (by omega) (by omega) (by decide) ?_
          refine G_iload_n d_X10_freeAll_86 rfl ?_
          refine G_iconst d_X10_freeAll_87 ?_
          refine G_iadd d_X10_freeAll_88 ?_
          refine G_istore_n d_X10_freeAll_89 (by decide) rfl ?_
          refine G_iinc d_X10_freeAll_90 rfl (by decide) rfl ?_
          refine G_goto 37 d_X10_freeAll_93 (by decide) ?_
          rw [faM_yes c54 (by rw [hQ0.2.1 (227 + p) (by omega)]; exact c68)]
          rw [cntB_t (show isFA s k b p = true by unfold isFA; rw [hMkp]; simp [c68, c54])] at ih
          exact ih (by omega)
        · refine G_goto 90 d_X10_freeAll_71 (by decide) ?_
          refine G_iinc d_X10_freeAll_90 rfl (by decide) rfl ?_
          refine G_goto 37 d_X10_freeAll_93 (by decide) ?_
          rw [faM_no (fun e => c68 (by rw [hQ0.2.1 (227 + p) (by omega)] at e; exact e.2))] at ih
          rw [cntB_f (show isFA s k b p = false by unfold isFA; rw [hMkp]; simp [c68])] at ih
          exact ih (by omega)
  refine G_aload_n d_X10_freeAll_0 rfl ?_
  refine G_iconst d_X10_freeAll_1 ?_
  refine G_putII fl_X10_1 d_X10_freeAll_2 (wk_64 _) rfl ?_
  have hQ0 : KQ s m (upm m 64 0 0) := (KQ.refl hI).fld rfl
  generalize upm m 64 0 0 = m0 at hQ0 ⊢
  refine G_aload_n d_X10_freeAll_5 rfl ?_
  refine G_iload_n d_X10_freeAll_6 rfl ?_
  refine G_callV1 cl_X10_133 rfl d_X10_freeAll_7 (wk_64 _) (Nat.le_of_ble_eq_true rfl) (by decide) (sp_MisPulse s hV hQ0.2.1 a hra) ?_
  rintro _ _ ⟨rfl, rfl⟩
  by_cases hk : 0 ≤ a ∧ a < pN s
  · rw [if_pos hk]
    obtain ⟨k, rfl⟩ : ∃ n : Nat, a = (n : Int) := ⟨a.toNat, by omega⟩
    refine G_if_eq 30 d_X10_freeAll_10 (by decide) (by decide) (fun hd => absurd hd (by decide)) (fun _ => ?_)
    refine G_aload_n d_X10_freeAll_13 rfl ?_
    refine G_iload_n d_X10_freeAll_14 rfl ?_
    refine G_aload_n d_X10_freeAll_15 rfl ?_
    refine G_callV0 cl_X10_22 rfl d_X10_freeAll_16 (wk_64 _) (Nat.le_of_ble_eq_true rfl) (by decide) (sp_Mm s hV hQ0.2.1) ?_
    rintro _ _ ⟨rfl, rfl⟩
    refine G_ineg d_X10_freeAll_19 ?_
    refine G_aload_n d_X10_freeAll_20 rfl ?_
    refine G_callV0 cl_X10_22 rfl d_X10_freeAll_21 (wk_64 _) (Nat.le_of_ble_eq_true rfl) (by decide) (sp_Mm s hV hQ0.2.1) ?_
    rintro _ _ ⟨rfl, rfl⟩
    refine G_callV3 cl_X10_124 rfl d_X10_freeAll_24 (wk_64 _) (Nat.le_of_ble_eq_true rfl) (by decide) (sp_MisIn b hrb (-(pM s : Int)) (by omega) (pM s : Int) (by omega)) ?_
    rintro _ _ ⟨rfl, rfl⟩
    by_cases hb : -(pM s : Int) ≤ b ∧ b ≤ (pM s : Int)
    · rw [if_pos hb]
      refine G_if_ne 32 d_X10_freeAll_27 (by decide) (by decide) (fun _ => ?_) (fun hd => absurd hd (by decide))
      refine G_iconst d_X10_freeAll_32 ?_
      refine G_istore_n d_X10_freeAll_33 (by decide) rfl ?_
      refine G_iconst d_X10_freeAll_34 ?_
      refine G_istore d_X10_freeAll_35 (by decide) rfl ?_
      have h9 := L k (by omega) hb m0 hQ0 0 (by omega)
      rw [faM_0] at h9
      exact h9
    · rw [if_neg hb]
      refine G_if_ne 32 d_X10_freeAll_27 (by decide) (by decide) (fun hd => absurd hd (by decide)) (fun _ => ?_)
      refine G_iconst d_X10_freeAll_30 ?_
      refine G_iret (mc := 0) (ms := 0) (st := []) d_X10_freeAll_31 rfl ?_
      exact ⟨by unfold vFreeAll; rw [if_neg (fun h => hb h.2)], m0, rfl, by unfold nxFreeAll; rw [if_neg (fun h => hb h.2)]; exact hQ0⟩
  · rw [if_neg hk]
    refine G_if_eq 30 d_X10_freeAll_10 (by decide) (by decide) (fun _ => ?_) (fun hd => absurd hd (by decide))
    refine G_iconst d_X10_freeAll_30 ?_
    refine G_iret (mc := 0) (ms := 0) (st := []) d_X10_freeAll_31 rfl ?_
    exact ⟨by unfold vFreeAll; rw [if_neg (fun h => hk h.1)], m0, rfl, by unfold nxFreeAll; rw [if_neg (fun h => hk h.1)]; exact hQ0⟩
