theorem cntB_le2 (f : Nat → Bool) (n : Nat) : (cntB f n : Int) ≤ n := by have := cntB_le f n; omega
theorem pCnt_rng (s : Nat → Int) (p n r : Nat) : 0 ≤ pCnt s p n r ∧ pCnt s p n r ≤ n := by
  have := cntB_le (fun t => pRes s p t == r) n
  unfold pCnt
  omega
/-- what the reference may write while it only looks -/
def okA (a : Nat) : Bool := [68, 69, 70, 71, 73, 74, 75, 77, 78, 79, 80, 81, 82].contains a
def EQM (m m2 : Nat → Nat → Int) : Prop := (∀ a, a < 64 → m2 a = m a) ∧ m2 67 = m 67 ∧ m2 83 = m 83 ∧ m2 64 6 = m 64 6 ∧ m2 64 7 = m 64 7 ∧ m2 64 8 = m 64 8 ∧ m2 64 28 = m 64 28
theorem EQM.refl (m : Nat → Nat → Int) : EQM m m := ⟨fun _ _ => rfl, rfl, rfl, rfl, rfl, rfl, rfl⟩
theorem EQM.trans {m m1 m2 : Nat → Nat → Int} (h : EQM m m1) (k : EQM m1 m2) : EQM m m2 :=
  ⟨fun a ha => (k.1 a ha).trans (h.1 a ha), k.2.1.trans h.2.1, k.2.2.1.trans h.2.2.1, k.2.2.2.1.trans h.2.2.2.1, k.2.2.2.2.1.trans h.2.2.2.2.1, k.2.2.2.2.2.1.trans h.2.2.2.2.2.1, k.2.2.2.2.2.2.trans h.2.2.2.2.2.2⟩
def MI (s : Nat → Int) (m : Nat → Nat → Int) : Prop := MO s m ∧ MP s m ∧ PRI (pT s) m ∧ (m 64 2 = 0 ∨ (m 64 2 = 1 ∧ ∀ p, p < pC s → m 76 p = pSt s p))
def KQ (s : Nat → Int) (m m2 : Nat → Nat → Int) : Prop := EQM m m2 ∧ MI s m2
theorem KQ.refl {s : Nat → Int} {m : Nat → Nat → Int} (h : MI s m) : KQ s m m := ⟨EQM.refl m, h⟩
theorem KQ.trans {s s2 : Nat → Int} {m m1 m2 : Nat → Nat → Int} (h : KQ s2 m m1) (k : KQ s m1 m2) : KQ s m m2 := ⟨h.1.trans k.1, k.2⟩
theorem MI.congr {s : Nat → Int} {m m2 : Nat → Nat → Int} (h : MI s m) (h65 : m2 65 = m 65) (h66 : m2 66 = m 66) (h72 : m2 72 = m 72) (h76 : m2 76 = m 76) (h2 : m2 64 2 = m 64 2) (h3 : m2 64 3 = m 64 3) (h16 : m2 64 16 = m 64 16) : MI s m2 := by
  obtain ⟨a1, a2, a3, a4⟩ := h
  refine ⟨fun j hj => by rw [h65]; exact a1 j hj, ⟨by rw [h3]; exact a2.1, fun p hp k hk => by rw [h66]; exact a2.2 p hp k hk⟩, ⟨by rw [h16]; exact a3.1, fun j hj => by rw [h72]; exact a3.2 j hj⟩, ?_⟩
  rw [h2, h76]
  exact a4
theorem EQM.scr {m m1 m2 : Nat → Nat → Int} (h : EQM m m1) (k : ∀ a, okA a = false → m2 a = m1 a) : EQM m m2 :=
  h.trans ⟨fun a ha => k a (by
    have h3 : ∀ b, b < 64 → okA b = false := by decide
    exact h3 a ha), k 67 (by decide), k 83 (by decide), congrFun (k 64 (by decide)) 6, congrFun (k 64 (by decide)) 7, congrFun (k 64 (by decide)) 8, congrFun (k 64 (by decide)) 28⟩
theorem KQ.scr {s : Nat → Int} {m m1 m2 : Nat → Nat → Int} (h : KQ s m m1) (k : ∀ a, okA a = false → m2 a = m1 a) : KQ s m m2 :=
  ⟨h.1.scr k, h.2.congr (k 65 (by decide)) (k 66 (by decide)) (k 72 (by decide)) (k 76 (by decide)) (congrFun (k 64 (by decide)) 2) (congrFun (k 64 (by decide)) 3) (congrFun (k 64 (by decide)) 16)⟩
theorem KQ.scr1 {s : Nat → Int} {m m1 m2 : Nat → Nat → Int} (b : Nat) (h : KQ s m m1) (hb : okA b = true) (k : ∀ a, a ≠ b → m2 a = m1 a) : KQ s m m2 :=
  h.scr (fun a ha => k a (fun e => by subst e; rw [hb] at ha; exact absurd ha (by decide)))
theorem KQ.up {s : Nat → Int} {m m1 : Nat → Nat → Int} {a j : Nat} {x : Int} (h : KQ s m m1) (ha : okA a = true) : KQ s m (upm m1 a j x) :=
  h.scr1 a ha (fun b hb => upm_off _ _ hb)
theorem KQ.fld {s : Nat → Int} {m m1 : Nat → Nat → Int} {j : Nat} {x : Int} (h : KQ s m m1) (hj : [2, 3, 6, 7, 8, 16, 28].contains j = false) : KQ s m (upm m1 64 j x) := by
  have k : ∀ i, [2, 3, 6, 7, 8, 16, 28].contains i = true → upm m1 64 j x 64 i = m1 64 i := fun i hi => upm_ne _ _ (fun _ e => by subst e; rw [hi] at hj; exact absurd hj (by decide))
  refine ⟨h.1.trans ⟨fun a ha => upm_off _ _ (by omega), upm_off _ _ (by decide), upm_off _ _ (by decide), k 6 rfl, k 7 rfl, k 8 rfl, k 28 rfl⟩, ?_⟩
  exact h.2.congr (upm_off _ _ (by decide)) (upm_off _ _ (by decide)) (upm_off _ _ (by decide)) (upm_off _ _ (by decide)) (k 2 rfl) (k 3 rfl) (k 16 rfl)
theorem MI.fl (s : Nat → Int) {m : Nat → Nat → Int} (h : MI s m) : 0 ≤ m 64 2 ∧ m 64 2 ≤ 1 := by
  rcases h.2.2.2 with h1 | h1
  · omega
  · have := h1.1; omega
def maxN (f : Nat → Int) : Nat → Int
  | 0 => 0
  | n + 1 => max (maxN f n) (f n)
def pGood (s : Nat → Int) : Bool := decide (pChief s ≠ -1) && allN (fun p => !pLeak s p && !pLost s p) (pC s)
def pKept (s : Nat → Int) (p : Nat) : Bool := pMk s p == 1 && !pLost s p
theorem stB_rng (T : Nat) (f : Nat → Int) : 0 ≤ stB T f ∧ stB T f ≤ 2 := by
  unfold stB
  by_cases h : allN (fun a => Bf T f a == 0) T = true
  · rw [if_pos h]; omega
  · rw [if_neg h]
    by_cases h2 : cntB (fun r => decide (f r > 0)) T = 1
    · rw [if_pos h2]; omega
    · rw [if_neg h2]; omega
theorem pSt_rng (s : Nat → Int) (p : Nat) : 0 ≤ pSt s p ∧ pSt s p ≤ 2 := stB_rng _ _
theorem sp_MisOther {w : List KD} {m : Nat → Nat → Int} (s : Nat → Int) (hV : VS s) (hO : MO s m) (hP : MP s m) (p : Nat) (hp : p < pC s) : Sp M_X10_isOther 4 0 0 [rV 64, iV (p : Int)] (WC ++ (WM ++ w), m) (fun r h => r = some (iV (if pOther s p = true then 1 else 0)) ∧ h = (WC ++ (WM ++ w), m)) := by
  refine Sp.ofG (ls := [rV 64, iV (p : Int)]) (by decide +kernel) rfl (Nat.le_of_ble_eq_true rfl) ?_
  have hC := pC_le hV
  have hN := hV.N
  have hmk := hV.Mk p (by omega)
  refine G_aload_n d_X10_isOther_0 rfl ?_
  refine G_getR (r := 65) (fl_X10_7.r) d_X10_isOther_1 (wk_64 _) rfl rfl ?_
  refine G_sipush d_X10_isOther_4 (by decide) ?_
  refine G_iload_n d_X10_isOther_7 rfl ?_
  refine G_iadd d_X10_isOther_8 ?_
  refine G_ialdj (227 + p) d_X10_isOther_9 (wk_65 _) (by omega) (by omega) (by decide) ?_
  rw [show m 65 (227 + p) = pMk s p from hO (227 + p) (by omega)]
  refine G_if_ne 25 d_X10_isOther_10 (by decide) (by omega) (fun c10 => ?_) (fun c10 => ?_)
  · have e : ¬ pOther s p = true := fun h => c10 (by simpa using (Bool.and_eq_true_iff.mp h).1)
    refine G_iconst d_X10_isOther_25 ?_
    refine G_zret (mc := 0) (ms := 0) (st := []) d_X10_isOther_26 rfl (by omega) ?_
    exact ⟨by rw [if_neg e], rfl⟩
  · have e0 : (pMk s p == 0) = true := by simpa using c10
    refine G_aload_n d_X10_isOther_13 rfl ?_
    refine G_iload_n d_X10_isOther_14 rfl ?_
    refine G_callV1 cl_X10_245 rfl d_X10_isOther_15 (wk_64 _) (Nat.le_of_ble_eq_true rfl) (by decide) (sp_MisGone s hV hO hP p hp) ?_
    rintro _ _ ⟨rfl, rfl⟩
    by_cases hg : pGone s p = true
    · rw [if_pos hg]
      refine G_if_ne 25 d_X10_isOther_18 (by decide) (by decide) (fun _ => ?_) (fun hd => absurd hd (by decide))
      refine G_iconst d_X10_isOther_25 ?_
      refine G_zret (mc := 0) (ms := 0) (st := []) d_X10_isOther_26 rfl (by omega) ?_
      exact ⟨by rw [if_neg (fun h => by have := (Bool.and_eq_true_iff.mp h).2; rw [hg] at this; exact absurd this (by decide))], rfl⟩
    · rw [if_neg hg]
      refine G_if_ne 25 d_X10_isOther_18 (by decide) (by decide) (fun hd => absurd hd (by decide)) (fun _ => ?_)
      refine G_iconst d_X10_isOther_21 ?_
      refine G_goto 26 d_X10_isOther_22 (by decide) ?_
      refine G_zret (mc := 0) (ms := 0) (st := []) d_X10_isOther_26 rfl (by omega) ?_
      exact ⟨by rw [if_pos (by unfold pOther; simp [c10, hg])], rfl⟩
theorem KQ_states {s : Nat → Int} {m m1 : Nat → Nat → Int} (hI : MI s m) (hm : ∀ a, a ≠ 70 → a ≠ 71 → a ≠ 73 → a ≠ 76 → m1 a = m a) (hst : ∀ i, i < pC s → m1 76 i = pSt s i) : KQ s m (upm m1 64 2 1) := by
  have k : ∀ a, a ≠ 64 → a ≠ 70 → a ≠ 71 → a ≠ 73 → a ≠ 76 → upm m1 64 2 1 a = m a := fun a h0 h1 h2 h3 h4 => by rw [upm_off _ _ h0]; exact hm a h1 h2 h3 h4
  have k4 : ∀ j, j ≠ 2 → upm m1 64 2 1 64 j = m 64 j := fun j hj => by rw [upm_ne _ _ (fun _ => hj)]; exact congrFun (hm 64 (by decide) (by decide) (by decide) (by decide)) j
  refine ⟨⟨fun a ha => k a (by omega) (by omega) (by omega) (by omega) (by omega), k 67 (by decide) (by decide) (by decide) (by decide) (by decide), k 83 (by decide) (by decide) (by decide) (by decide) (by decide), k4 6 (by decide), k4 7 (by decide), k4 8 (by decide), k4 28 (by decide)⟩, ?_⟩
  obtain ⟨a1, a2, a3, -⟩ := hI
  refine ⟨fun j hj => by rw [k 65 (by decide) (by decide) (by decide) (by decide) (by decide)]; exact a1 j hj, ⟨by rw [k4 3 (by decide)]; exact a2.1, fun p hp q hq => by rw [k 66 (by decide) (by decide) (by decide) (by decide) (by decide)]; exact a2.2 p hp q hq⟩, ⟨by rw [k4 16 (by decide)]; exact a3.1, fun j hj => by rw [k 72 (by decide) (by decide) (by decide) (by decide) (by decide)]; exact a3.2 j hj⟩, Or.inr ⟨upm_same _ _ _ _, fun p hp => by rw [upm_off _ _ (by decide)]; exact hst p hp⟩⟩
theorem sp_MstateOf1 {w : List KD} {m : Nat → Nat → Int} (s : Nat → Int) (hV : VS s) (hI : MI s m) (p : Nat) (hp : p < pC s) : Sp M_X10_stateOf 4 0 0 [rV 64, iV (p : Int)] (WC ++ (WM ++ w), m) (fun r h => r = some (iV (pSt s p)) ∧ ∃ m2, h = (WC ++ (WM ++ w), m2) ∧ KQ s m m2 ∧ m2 81 = m 81) := by
  refine Sp.ofG (ls := [rV 64, iV (p : Int), uV, uV]) (by decide +kernel) rfl (Nat.le_of_ble_eq_true rfl) ?_
  have hC := pC_le hV
  have hN := hV.N
  have hSc := hV.Sc
  have hfl := hI.fl
  have L : ∀ q : Nat, q ≤ pC s → ∀ m1, (∀ a, a ≠ 70 → a ≠ 71 → a ≠ 73 → a ≠ 76 → m1 a = m a) → PH s (pSc s) m1 → (∀ i, i < q → m1 76 i = pSt s i) → G M_X10_stateOf 4 0 0 18 [rV 64, iV (p : Int), iV (pSc s : Int), iV (q : Int)] [] (WC ++ (WM ++ w), m1) (fun r h => r = some (iV (pSt s p)) ∧ ∃ m2, h = (WC ++ (WM ++ w), m2) ∧ KQ s m m2 ∧ m2 81 = m 81) := by
    refine loop_up (pC s) _ ?_
    intro q hq ih m1 hm hH hst
    refine G_iload_n d_X10_stateOf_18 rfl ?_
    refine G_aload_n d_X10_stateOf_19 rfl ?_
    refine G_getIe (fl_X10_25.r) d_X10_stateOf_20 (wk_64 _) rfl ((congrFun (hm 64 (by decide) (by decide) (by decide) (by decide)) 3).trans hI.2.1.1) ?_
    refine G_icmp_ge 48 d_X10_stateOf_23 (by decide) (by omega) (by omega) (fun c23 => ?_) (fun c23 => ?_)
    · refine G_aload_n d_X10_stateOf_48 rfl ?_
      refine G_iconst d_X10_stateOf_49 ?_
      refine G_putZ fl_X10_32 d_X10_stateOf_50 (wk_64 _) rfl (by omega) ?_
      refine G_aload_n d_X10_stateOf_53 rfl ?_
      refine G_getR (r := 76) (fl_X10_73.r) d_X10_stateOf_54 (wk_64 _) rfl rfl ?_
      refine G_iload_n d_X10_stateOf_57 rfl ?_
      refine G_ialdj (p) d_X10_stateOf_58 (wk_76 _) (by omega) (by omega) (by decide) ?_
      rw [upm_off _ _ (by decide)]
      refine G_iret (mc := 0) (ms := 0) (st := []) d_X10_stateOf_59 rfl ?_
      refine ⟨by rw [hst p (by omega)], _, rfl, ?_⟩
      have hqe : q = pC s := by omega
      subst hqe
      exact ⟨KQ_states hI (fun a h1 h2 h3 h4 => hm a h1 h2 h3 h4) hst, by rw [upm_off _ _ (by decide)]; exact hm 81 (by decide) (by decide) (by decide) (by decide)⟩
    · refine G_aload_n d_X10_stateOf_26 rfl ?_
      refine G_iload_n d_X10_stateOf_27 rfl ?_
      refine G_iload_n d_X10_stateOf_28 rfl ?_
      refine G_callV2 cl_X10_239 rfl d_X10_stateOf_29 (wk_64 _) (Nat.le_of_ble_eq_true rfl) (by decide) (sp_McountsFirst s hV (fun j hj => (congrFun (hm 65 (by decide) (by decide) (by decide) (by decide)) j).trans (hI.1 j hj)) ⟨(congrFun (hm 64 (by decide) (by decide) (by decide) (by decide)) 3).trans hI.2.1.1, fun p hp k hk => (congrFun (hm 66 (by decide) (by decide) (by decide) (by decide)) _).trans (hI.2.1.2 p hp k hk)⟩ (pSc s) q (pSc s) hH (by omega) (Nat.le_refl _) (by omega)) ?_
      rintro _ _ ⟨rfl, m2, rfl, hm20, hc2⟩
      have hm2 : (∀ a, a ≠ 70 → a ≠ 71 → a ≠ 73 → a ≠ 76 → m2 a = m a) := fun a h1 h2 h3 h4 => (hm20 a h2).trans (hm a h1 h2 h3 h4)
      have hH2 : PH s (pSc s) m2 := fun t ht k hk => (congrFun (hm20 70 (by decide)) _).trans (hH t ht k hk)
      have hst2 : ∀ i, i < q → m2 76 i = pSt s i := fun i hi => (congrFun (hm20 76 (by decide)) i).trans (hst i hi)
      refine G_aload_n d_X10_stateOf_32 rfl ?_
      refine G_getR (r := 76) (fl_X10_73.r) d_X10_stateOf_33 (wk_64 _) rfl rfl ?_
      refine G_iload_n d_X10_stateOf_36 rfl ?_
      refine G_aload_n d_X10_stateOf_37 rfl ?_
      refine G_callV0 cl_X10_242 rfl d_X10_stateOf_38 (wk_64 _) (Nat.le_of_ble_eq_true rfl) (by decide) (sp_MstateNow s hV (fun j hj => (congrFun (hm2 65 (by decide) (by decide) (by decide) (by decide)) j).trans (hI.1 j hj)) (pCnt s q (pSc s)) ⟨(congrFun (hm2 64 (by decide) (by decide) (by decide) (by decide)) 16).trans hI.2.2.1.1, fun j hj => (congrFun (hm2 72 (by decide) (by decide) (by decide) (by decide)) j).trans (hI.2.2.1.2 j hj)⟩ hc2 (fun r _ => by have := pCnt_rng s q (pSc s) r; omega)) ?_
      rintro _ _ ⟨rfl, m3, rfl, hm3⟩
      rw [show stB (pT s) (pCnt s q (pSc s)) = pSt s q from rfl]
      refine G_iastj (q) d_X10_stateOf_41 (wk_76 _) (by omega) (by omega) (by decide) ?_
      refine G_iinc d_X10_stateOf_42 rfl (by decide) rfl ?_
      refine G_goto 18 d_X10_stateOf_45 (by decide) ?_
      exact ih (by omega) _ (fun a h1 h2 h3 h4 => by rw [upm_off _ _ h4, hm3 a h3]; exact hm2 a h1 h2 h3 h4) (fun t ht k hk => by rw [upm_off _ _ (by decide), hm3 70 (by decide)]; exact hH2 t ht k hk) (fun i hi => by
        by_cases e : i = q
        · rw [e, upm_same]
        · rw [upm_ne _ _ (fun _ => e), hm3 76 (by decide)]; exact hst2 i (by omega))
  refine G_aload_n d_X10_stateOf_0 rfl ?_
  refine G_getI (fl_X10_32.r) d_X10_stateOf_1 (wk_64 _) rfl ?_
  refine G_if_ne 53 d_X10_stateOf_4 (by decide) (by omega) (fun c4 => ?_) (fun c4 => ?_)
  · refine G_aload_n d_X10_stateOf_53 rfl ?_
    refine G_getR (r := 76) (fl_X10_73.r) d_X10_stateOf_54 (wk_64 _) rfl rfl ?_
    refine G_iload_n d_X10_stateOf_57 rfl ?_
    refine G_ialdj (p) d_X10_stateOf_58 (wk_76 _) (by omega) (by omega) (by decide) ?_
    refine G_iret (mc := 0) (ms := 0) (st := []) d_X10_stateOf_59 rfl ?_
    have h1 : ∀ p, p < pC s → m 76 p = pSt s p := by
      rcases hI.2.2.2 with h | h
      · exact absurd h c4
      · exact h.2
    exact ⟨by rw [h1 p hp], m, rfl, KQ.refl hI, rfl⟩
  · refine G_aload_n d_X10_stateOf_7 rfl ?_
    refine G_callV0 cl_X10_236 rfl d_X10_stateOf_8 (wk_64 _) (Nat.le_of_ble_eq_true rfl) (by decide) (sp_MlaysPhases s hV hI.1 hI.2.1) ?_
    rintro _ _ ⟨rfl, m1, rfl, hm1, hH⟩
    refine G_aload_n d_X10_stateOf_11 rfl ?_
    refine G_callV0 cl_X10_142 rfl d_X10_stateOf_12 (wk_64 _) (Nat.le_of_ble_eq_true rfl) (by decide) (sp_Mscans s hV (fun j hj => (congrFun (hm1 65 (by decide)) j).trans (hI.1 j hj))) ?_
    rintro _ _ ⟨rfl, rfl⟩
    refine G_istore_n d_X10_stateOf_15 (by decide) rfl ?_
    refine G_iconst d_X10_stateOf_16 ?_
    refine G_istore_n d_X10_stateOf_17 (by decide) rfl ?_
    exact L 0 (by omega) m1 (fun a h1 _ _ _ => hm1 a h1) hH (fun i hi => absurd hi (by omega))
theorem sp_MstateOf {w : List KD} {m : Nat → Nat → Int} (s : Nat → Int) (hV : VS s) (hI : MI s m) (p : Nat) (hp : p < pC s) : Sp M_X10_stateOf 4 0 0 [rV 64, iV (p : Int)] (WC ++ (WM ++ w), m) (fun r h => r = some (iV (pSt s p)) ∧ ∃ m2, h = (WC ++ (WM ++ w), m2) ∧ KQ s m m2) :=
  (sp_MstateOf1 s hV hI p hp).post (fun r h k => by
    obtain ⟨rfl, m2, rfl, h2, -⟩ := k
    exact ⟨rfl, m2, rfl, h2⟩)
theorem sp_MisLeak1 {w : List KD} {m : Nat → Nat → Int} (s : Nat → Int) (hV : VS s) (hI : MI s m) (p : Nat) (hp : p < pC s) : Sp M_X10_isLeak 5 0 0 [rV 64, iV (p : Int)] (WC ++ (WM ++ w), m) (fun r h => r = some (iV (if pLeak s p = true then 1 else 0)) ∧ ∃ m2, h = (WC ++ (WM ++ w), m2) ∧ KQ s m m2 ∧ m2 81 = m 81) := by
  refine Sp.ofG (ls := [rV 64, iV (p : Int)]) (by decide +kernel) rfl (Nat.le_of_ble_eq_true rfl) ?_
  have hC := pC_le hV
  have hN := hV.N
  have hst := pSt_rng s p
  refine G_aload_n d_X10_isLeak_0 rfl ?_
  refine G_iload_n d_X10_isLeak_1 rfl ?_
  refine G_callV1 cl_X10_248 rfl d_X10_isLeak_2 (wk_64 _) (Nat.le_of_ble_eq_true rfl) (by decide) (sp_MisOther s hV hI.1 hI.2.1 p hp) ?_
  rintro _ _ ⟨rfl, rfl⟩
  by_cases ho : pOther s p = true
  · rw [if_pos ho]
    refine G_if_eq 20 d_X10_isLeak_5 (by decide) (by decide) (fun hd => absurd hd (by decide)) (fun _ => ?_)
    refine G_aload_n d_X10_isLeak_8 rfl ?_
    refine G_iload_n d_X10_isLeak_9 rfl ?_
    refine G_callV1 cl_X10_251 rfl d_X10_isLeak_10 (wk_64 _) (Nat.le_of_ble_eq_true rfl) (by decide) (sp_MstateOf1 s hV hI p hp) ?_
    rintro _ _ ⟨rfl, m2, rfl, ⟨h2, h81⟩⟩
    refine G_if_eq 20 d_X10_isLeak_13 (by decide) (by omega) (fun c13 => ?_) (fun c13 => ?_)
    · refine G_iconst d_X10_isLeak_20 ?_
      refine G_zret (mc := 0) (ms := 0) (st := []) d_X10_isLeak_21 rfl (by omega) ?_
      exact ⟨by rw [if_neg (by unfold pLeak; simp [c13])], m2, rfl, h2, h81⟩
    · refine G_iconst d_X10_isLeak_16 ?_
      refine G_goto 21 d_X10_isLeak_17 (by decide) ?_
      refine G_zret (mc := 0) (ms := 0) (st := []) d_X10_isLeak_21 rfl (by omega) ?_
      exact ⟨by rw [if_pos (by unfold pLeak; simp [ho, c13])], m2, rfl, h2, h81⟩
  · rw [if_neg ho]
    refine G_if_eq 20 d_X10_isLeak_5 (by decide) (by decide) (fun _ => ?_) (fun hd => absurd hd (by decide))
    refine G_iconst d_X10_isLeak_20 ?_
    refine G_zret (mc := 0) (ms := 0) (st := []) d_X10_isLeak_21 rfl (by omega) ?_
    exact ⟨by rw [if_neg (by unfold pLeak; simp [ho])], m, rfl, KQ.refl hI, rfl⟩
theorem sp_MisLeak {w : List KD} {m : Nat → Nat → Int} (s : Nat → Int) (hV : VS s) (hI : MI s m) (p : Nat) (hp : p < pC s) : Sp M_X10_isLeak 5 0 0 [rV 64, iV (p : Int)] (WC ++ (WM ++ w), m) (fun r h => r = some (iV (if pLeak s p = true then 1 else 0)) ∧ ∃ m2, h = (WC ++ (WM ++ w), m2) ∧ KQ s m m2) :=
  (sp_MisLeak1 s hV hI p hp).post (fun r h k => by
    obtain ⟨rfl, m2, rfl, h2, -⟩ := k
    exact ⟨rfl, m2, rfl, h2⟩)
theorem sp_MisLost {w : List KD} {m : Nat → Nat → Int} (s : Nat → Int) (hV : VS s) (hI : MI s m) (p : Nat) (hp : p < pC s) : Sp M_X10_isLost 5 0 0 [rV 64, iV (p : Int)] (WC ++ (WM ++ w), m) (fun r h => r = some (iV (if pLost s p = true then 1 else 0)) ∧ ∃ m2, h = (WC ++ (WM ++ w), m2) ∧ KQ s m m2) := by
  refine Sp.ofG (ls := [rV 64, iV (p : Int)]) (by decide +kernel) rfl (Nat.le_of_ble_eq_true rfl) ?_
  have hC := pC_le hV
  have hN := hV.N
  have hst := pSt_rng s p
  refine G_aload_n d_X10_isLost_0 rfl ?_
  refine G_iload_n d_X10_isLost_1 rfl ?_
  refine G_callV1 cl_X10_104 rfl d_X10_isLost_2 (wk_64 _) (Nat.le_of_ble_eq_true rfl) (by decide) (sp_MisWished s hV hI.1 hI.2.1 p hp) ?_
  rintro _ _ ⟨rfl, rfl⟩
  by_cases hw : pMk s p = 1
  · rw [if_pos hw]
    refine G_if_eq 28 d_X10_isLost_5 (by decide) (by decide) (fun hd => absurd hd (by decide)) (fun _ => ?_)
    refine G_aload_n d_X10_isLost_8 rfl ?_
    refine G_iload_n d_X10_isLost_9 rfl ?_
    refine G_callV1 cl_X10_245 rfl d_X10_isLost_10 (wk_64 _) (Nat.le_of_ble_eq_true rfl) (by decide) (sp_MisGone s hV hI.1 hI.2.1 p hp) ?_
    rintro _ _ ⟨rfl, rfl⟩
    by_cases hg : pGone s p = true
    · rw [if_pos hg]
      refine G_if_ne 24 d_X10_isLost_13 (by decide) (by decide) (fun _ => ?_) (fun hd => absurd hd (by decide))
      refine G_iconst d_X10_isLost_24 ?_
      refine G_goto 29 d_X10_isLost_25 (by decide) ?_
      refine G_zret (mc := 0) (ms := 0) (st := []) d_X10_isLost_29 rfl (by omega) ?_
      exact ⟨by rw [if_pos (by unfold pLost; simp [hw, hg])], m, rfl, KQ.refl hI⟩
    · rw [if_neg hg]
      refine G_if_ne 24 d_X10_isLost_13 (by decide) (by decide) (fun hd => absurd hd (by decide)) (fun _ => ?_)
      refine G_aload_n d_X10_isLost_16 rfl ?_
      refine G_iload_n d_X10_isLost_17 rfl ?_
      refine G_callV1 cl_X10_251 rfl d_X10_isLost_18 (wk_64 _) (Nat.le_of_ble_eq_true rfl) (by decide) (sp_MstateOf s hV hI p hp) ?_
      rintro _ _ ⟨rfl, m2, rfl, h2⟩
      refine G_if_ne 28 d_X10_isLost_21 (by decide) (by omega) (fun c21 => ?_) (fun c21 => ?_)
      · refine G_iconst d_X10_isLost_28 ?_
        refine G_zret (mc := 0) (ms := 0) (st := []) d_X10_isLost_29 rfl (by omega) ?_
        exact ⟨by rw [if_neg (by unfold pLost; simp [hw, hg, c21])], m2, rfl, h2⟩
      · refine G_iconst d_X10_isLost_24 ?_
        refine G_goto 29 d_X10_isLost_25 (by decide) ?_
        refine G_zret (mc := 0) (ms := 0) (st := []) d_X10_isLost_29 rfl (by omega) ?_
        exact ⟨by rw [if_pos (by unfold pLost; simp [hw, c21])], m2, rfl, h2⟩
  · rw [if_neg hw]
    refine G_if_eq 28 d_X10_isLost_5 (by decide) (by decide) (fun _ => ?_) (fun hd => absurd hd (by decide))
    refine G_iconst d_X10_isLost_28 ?_
    refine G_zret (mc := 0) (ms := 0) (st := []) d_X10_isLost_29 rfl (by omega) ?_
    exact ⟨by rw [if_neg (fun h => by have := (Bool.and_eq_true_iff.mp h).1; simp [hw] at this)], m, rfl, KQ.refl hI⟩
theorem sp_Mleaks {w : List KD} {m : Nat → Nat → Int} (s : Nat → Int) (hV : VS s) (hI : MI s m) : Sp M_X10_leaks 6 0 0 [rV 64] (WC ++ (WM ++ w), m) (fun r h => r = some (iV (cntB (pLeak s) (pC s) : Nat)) ∧ ∃ m2, h = (WC ++ (WM ++ w), m2) ∧ KQ s m m2) := by
  refine Sp.ofG (ls := [rV 64, uV, uV]) (by decide +kernel) rfl (Nat.le_of_ble_eq_true rfl) ?_
  have hC := pC_le hV
  have hN := hV.N
  have L : ∀ p : Nat, p ≤ pC s → ∀ m1, KQ s m m1 → G M_X10_leaks 6 0 0 4 [rV 64, iV (cntB (pLeak s) p : Nat), iV (p : Int)] [] (WC ++ (WM ++ w), m1) (fun r h => r = some (iV (cntB (pLeak s) (pC s) : Nat)) ∧ ∃ m2, h = (WC ++ (WM ++ w), m2) ∧ KQ s m m2) := by
    refine loop_up (pC s) _ ?_
    intro p hp ih m1 h1
    refine G_iload_n d_X10_leaks_4 rfl ?_
    refine G_aload_n d_X10_leaks_5 rfl ?_
    refine G_getIe (fl_X10_25.r) d_X10_leaks_6 (wk_64 _) rfl (h1.2.2.1.1) ?_
    refine G_icmp_ge 30 d_X10_leaks_9 (by decide) (by omega) (by omega) (fun c9 => ?_) (fun c9 => ?_)
    · refine G_iload_n d_X10_leaks_30 rfl ?_
      refine G_iret (mc := 0) (ms := 0) (st := []) d_X10_leaks_31 rfl ?_
      exact ⟨by rw [show p = pC s by omega], m1, rfl, h1⟩
    · refine G_aload_n d_X10_leaks_12 rfl ?_
      refine G_iload_n d_X10_leaks_13 rfl ?_
      refine G_callV1 cl_X10_254 rfl d_X10_leaks_14 (wk_64 _) (Nat.le_of_ble_eq_true rfl) (by decide) (sp_MisLeak s hV h1.2 p (by omega)) ?_
      rintro _ _ ⟨rfl, m2, rfl, h2⟩
      have h2 := h1.trans h2
      by_cases hl : pLeak s p = true
      · rw [if_pos hl]
        refine G_if_eq 24 d_X10_leaks_17 (by decide) (by decide) (fun hd => absurd hd (by decide)) (fun _ => ?_)
        refine G_iload_n d_X10_leaks_20 rfl ?_
        refine G_iconst d_X10_leaks_21 ?_
        refine G_iadd d_X10_leaks_22 ?_
        refine G_istore_n d_X10_leaks_23 (by decide) rfl ?_
        refine G_iinc d_X10_leaks_24 rfl (by decide) rfl ?_
        refine G_goto 4 d_X10_leaks_27 (by decide) ?_
        rw [cntB_t hl] at ih
        exact ih (by omega) m2 h2
      · rw [if_neg hl]
        refine G_if_eq 24 d_X10_leaks_17 (by decide) (by decide) (fun _ => ?_) (fun hd => absurd hd (by decide))
        refine G_iinc d_X10_leaks_24 rfl (by decide) rfl ?_
        refine G_goto 4 d_X10_leaks_27 (by decide) ?_
        rw [cntB_f (by simpa using hl)] at ih
        exact ih (by omega) m2 h2
  refine G_iconst d_X10_leaks_0 ?_
  refine G_istore_n d_X10_leaks_1 (by decide) rfl ?_
  refine G_iconst d_X10_leaks_2 ?_
  refine G_istore_n d_X10_leaks_3 (by decide) rfl ?_
  exact L 0 (by omega) m (KQ.refl hI)
theorem sp_Mlosts {w : List KD} {m : Nat → Nat → Int} (s : Nat → Int) (hV : VS s) (hI : MI s m) : Sp M_X10_losts 6 0 0 [rV 64] (WC ++ (WM ++ w), m) (fun r h => r = some (iV (cntB (pLost s) (pC s) : Nat)) ∧ ∃ m2, h = (WC ++ (WM ++ w), m2) ∧ KQ s m m2) := by
  refine Sp.ofG (ls := [rV 64, uV, uV]) (by decide +kernel) rfl (Nat.le_of_ble_eq_true rfl) ?_
  have hC := pC_le hV
  have hN := hV.N
  have L : ∀ p : Nat, p ≤ pC s → ∀ m1, KQ s m m1 → G M_X10_losts 6 0 0 4 [rV 64, iV (cntB (pLost s) p : Nat), iV (p : Int)] [] (WC ++ (WM ++ w), m1) (fun r h => r = some (iV (cntB (pLost s) (pC s) : Nat)) ∧ ∃ m2, h = (WC ++ (WM ++ w), m2) ∧ KQ s m m2) := by
    refine loop_up (pC s) _ ?_
    intro p hp ih m1 h1
    refine G_iload_n d_X10_losts_4 rfl ?_
    refine G_aload_n d_X10_losts_5 rfl ?_
    refine G_getIe (fl_X10_25.r) d_X10_losts_6 (wk_64 _) rfl (h1.2.2.1.1) ?_
    refine G_icmp_ge 30 d_X10_losts_9 (by decide) (by omega) (by omega) (fun c9 => ?_) (fun c9 => ?_)
    · refine G_iload_n d_X10_losts_30 rfl ?_
      refine G_iret (mc := 0) (ms := 0) (st := []) d_X10_losts_31 rfl ?_
      exact ⟨by rw [show p = pC s by omega], m1, rfl, h1⟩
    · refine G_aload_n d_X10_losts_12 rfl ?_
      refine G_iload_n d_X10_losts_13 rfl ?_
      refine G_callV1 cl_X10_257 rfl d_X10_losts_14 (wk_64 _) (Nat.le_of_ble_eq_true rfl) (by decide) (sp_MisLost s hV h1.2 p (by omega)) ?_
      rintro _ _ ⟨rfl, m2, rfl, h2⟩
      have h2 := h1.trans h2
      by_cases hl : pLost s p = true
      · rw [if_pos hl]
        refine G_if_eq 24 d_X10_losts_17 (by decide) (by decide) (fun hd => absurd hd (by decide)) (fun _ => ?_)
        refine G_iload_n d_X10_losts_20 rfl ?_
        refine G_iconst d_X10_losts_21 ?_
        refine G_iadd d_X10_losts_22 ?_
        refine G_istore_n d_X10_losts_23 (by decide) rfl ?_
        refine G_iinc d_X10_losts_24 rfl (by decide) rfl ?_
        refine G_goto 4 d_X10_losts_27 (by decide) ?_
        rw [cntB_t hl] at ih
        exact ih (by omega) m2 h2
      · rw [if_neg hl]
        refine G_if_eq 24 d_X10_losts_17 (by decide) (by decide) (fun _ => ?_) (fun hd => absurd hd (by decide))
        refine G_iinc d_X10_losts_24 rfl (by decide) rfl ?_
        refine G_goto 4 d_X10_losts_27 (by decide) ?_
        rw [cntB_f (by simpa using hl)] at ih
        exact ih (by omega) m2 h2
  refine G_iconst d_X10_losts_0 ?_
  refine G_istore_n d_X10_losts_1 (by decide) rfl ?_
  refine G_iconst d_X10_losts_2 ?_
  refine G_istore_n d_X10_losts_3 (by decide) rfl ?_
  exact L 0 (by omega) m (KQ.refl hI)
theorem sp_MmanyOf {w : List KD} {m : Nat → Nat → Int} (s : Nat → Int) (hV : VS s) (hO : MO s m) (hP : MP s m) (v : Int) (hv : 0 ≤ v ∧ v ≤ 2) : Sp M_X10_manyOf 0 0 0 [rV 64, iV v] (WC ++ (WM ++ w), m) (fun r h => r = some (iV (cntB (fun p => pMk s p == v) (pC s) : Nat)) ∧ h = (WC ++ (WM ++ w), m)) := by
  refine Sp.ofG (ls := [rV 64, iV v, uV, uV]) (by decide +kernel) rfl (Nat.le_of_ble_eq_true rfl) ?_
  have hC := pC_le hV
  have hN := hV.N
  have L : ∀ p : Nat, p ≤ pC s → G M_X10_manyOf 0 0 0 4 [rV 64, iV v, iV (cntB (fun p => pMk s p == v) p : Nat), iV (p : Int)] [] (WC ++ (WM ++ w), m) (fun r h => r = some (iV (cntB (fun p => pMk s p == v) (pC s) : Nat)) ∧ h = (WC ++ (WM ++ w), m)) := by
    refine loop_up (pC s) _ ?_
    intro p hp ih
    refine G_iload_n d_X10_manyOf_4 rfl ?_
    refine G_aload_n d_X10_manyOf_5 rfl ?_
    refine G_getIe (fl_X10_25.r) d_X10_manyOf_6 (wk_64 _) rfl (hP.1) ?_
    refine G_icmp_ge 36 d_X10_manyOf_9 (by decide) (by omega) (by omega) (fun c9 => ?_) (fun c9 => ?_)
    · refine G_iload_n d_X10_manyOf_36 rfl ?_
      refine G_iret (mc := 0) (ms := 0) (st := []) d_X10_manyOf_37 rfl ?_
      exact ⟨by rw [show p = pC s by omega], rfl⟩
    · refine G_aload_n d_X10_manyOf_12 rfl ?_
      refine G_getR (r := 65) (fl_X10_7.r) d_X10_manyOf_13 (wk_64 _) rfl rfl ?_
      refine G_sipush d_X10_manyOf_16 (by decide) ?_
      refine G_iload_n d_X10_manyOf_19 rfl ?_
      refine G_iadd d_X10_manyOf_20 ?_
      refine G_ialdj (227 + p) d_X10_manyOf_21 (wk_65 _) (by omega) (by omega) (by decide) ?_
      rw [show m 65 (227 + p) = pMk s p from hO (227 + p) (by omega)]
      have hmk := hV.Mk p (by omega)
      refine G_iload_n d_X10_manyOf_22 rfl ?_
      refine G_icmp_ne 30 d_X10_manyOf_23 (by decide) (by omega) (by omega) (fun c23 => ?_) (fun c23 => ?_)
      · refine G_iinc d_X10_manyOf_30 rfl (by decide) rfl ?_
        refine G_goto 4 d_X10_manyOf_33 (by decide) ?_
        rw [cntB_f (f := fun p => pMk s p == v) (by simpa using c23)] at ih
        exact ih (by omega)
      · refine G_iload_n d_X10_manyOf_26 rfl ?_
        refine G_iconst d_X10_manyOf_27 ?_
        refine G_iadd d_X10_manyOf_28 ?_
        refine G_istore_n d_X10_manyOf_29 (by decide) rfl ?_
        refine G_iinc d_X10_manyOf_30 rfl (by decide) rfl ?_
        refine G_goto 4 d_X10_manyOf_33 (by decide) ?_
        rw [cntB_t (f := fun p => pMk s p == v) (by simpa using c23)] at ih
        exact ih (by omega)
  refine G_iconst d_X10_manyOf_0 ?_
  refine G_istore_n d_X10_manyOf_1 (by decide) rfl ?_
  refine G_iconst d_X10_manyOf_2 ?_
  refine G_istore_n d_X10_manyOf_3 (by decide) rfl ?_
  exact L 0 (by omega)
theorem sp_MchangesOf {w : List KD} {m : Nat → Nat → Int} (s : Nat → Int) (hV : VS s) (hO : MO s m) (hP : MP s m) (p : Nat) (hp : p < pC s) : Sp M_X10_changesOf 2 0 0 [rV 64, iV (p : Int)] (WC ++ (WM ++ w), m) (fun r h => r = some (iV (cntB (fun k => pCh s p k != 0) (pN s) : Nat)) ∧ h = (WC ++ (WM ++ w), m)) := by
  refine Sp.ofG (ls := [rV 64, iV (p : Int), uV, uV]) (by decide +kernel) rfl (Nat.le_of_ble_eq_true rfl) ?_
  have hC := pC_le hV
  have hN := hV.N
  have L : ∀ k : Nat, k ≤ pN s → G M_X10_changesOf 2 0 0 4 [rV 64, iV (p : Int), iV (cntB (fun k => pCh s p k != 0) k : Nat), iV (k : Int)] [] (WC ++ (WM ++ w), m) (fun r h => r = some (iV (cntB (fun k => pCh s p k != 0) (pN s) : Nat)) ∧ h = (WC ++ (WM ++ w), m)) := by
    refine loop_up (pN s) _ ?_
    intro k hk ih
    refine G_iload_n d_X10_changesOf_4 rfl ?_
    refine G_aload_n d_X10_changesOf_5 rfl ?_
    refine G_callV0 cl_X10_11 rfl d_X10_changesOf_6 (wk_64 _) (Nat.le_of_ble_eq_true rfl) (by decide) (sp_Mn s hV hO) ?_
    rintro _ _ ⟨rfl, rfl⟩
    refine G_icmp_ge 31 d_X10_changesOf_9 (by decide) (by omega) (by omega) (fun c9 => ?_) (fun c9 => ?_)
    · refine G_iload_n d_X10_changesOf_31 rfl ?_
      refine G_iret (mc := 0) (ms := 0) (st := []) d_X10_changesOf_32 rfl ?_
      exact ⟨by rw [show k = pN s by omega], rfl⟩
    · refine G_aload_n d_X10_changesOf_12 rfl ?_
      refine G_iload_n d_X10_changesOf_13 rfl ?_
      refine G_iload_n d_X10_changesOf_14 rfl ?_
      refine G_callV2 cl_X10_108 rfl d_X10_changesOf_15 (wk_64 _) (Nat.le_of_ble_eq_true rfl) (by decide) (sp_Mchg s hV hO hP p k hp (by omega)) ?_
      rintro _ _ ⟨rfl, rfl⟩
      have hch := pCh_rng hV p k
      refine G_if_eq 25 d_X10_changesOf_18 (by decide) (by omega) (fun c18 => ?_) (fun c18 => ?_)
      · refine G_iinc d_X10_changesOf_25 rfl (by decide) rfl ?_
        refine G_goto 4 d_X10_changesOf_28 (by decide) ?_
        rw [cntB_f (f := fun k => pCh s p k != 0) (by simpa using c18)] at ih
        exact ih (by omega)
      · refine G_iload_n d_X10_changesOf_21 rfl ?_
        refine G_iconst d_X10_changesOf_22 ?_
        refine G_iadd d_X10_changesOf_23 ?_
        refine G_istore_n d_X10_changesOf_24 (by decide) rfl ?_
        refine G_iinc d_X10_changesOf_25 rfl (by decide) rfl ?_
        refine G_goto 4 d_X10_changesOf_28 (by decide) ?_
        rw [cntB_t (f := fun k => pCh s p k != 0) (by simpa using c18)] at ih
        exact ih (by omega)
  refine G_iconst d_X10_changesOf_0 ?_
  refine G_istore_n d_X10_changesOf_1 (by decide) rfl ?_
  refine G_iconst d_X10_changesOf_2 ?_
  refine G_istore_n d_X10_changesOf_3 (by decide) rfl ?_
  exact L 0 (by omega)
theorem sp_MgreatestOrder {w : List KD} {m : Nat → Nat → Int} (s : Nat → Int) (hV : VS s) (hO : MO s m) (hP : MP s m) (p : Nat) (hp : p < pC s) : Sp M_X10_greatestOrder 2 0 0 [rV 64, iV (p : Int)] (WC ++ (WM ++ w), m) (fun r h => r = some (iV (maxN (fun k => ((pO s p k).natAbs : Int)) (pN s))) ∧ h = (WC ++ (WM ++ w), m)) := by
  refine Sp.ofG (ls := [rV 64, iV (p : Int), uV, uV]) (by decide +kernel) rfl (Nat.le_of_ble_eq_true rfl) ?_
  have hC := pC_le hV
  have hN := hV.N
  have L : ∀ k : Nat, k ≤ pN s → 0 ≤ maxN (fun k => ((pO s p k).natAbs : Int)) k ∧ maxN (fun k => ((pO s p k).natAbs : Int)) k ≤ 3 → G M_X10_greatestOrder 2 0 0 4 [rV 64, iV (p : Int), iV (maxN (fun k => ((pO s p k).natAbs : Int)) k), iV (k : Int)] [] (WC ++ (WM ++ w), m) (fun r h => r = some (iV (maxN (fun k => ((pO s p k).natAbs : Int)) (pN s))) ∧ h = (WC ++ (WM ++ w), m)) := by
    refine loop_up (pN s) _ ?_
    intro k hk ih hmx
    refine G_iload_n d_X10_greatestOrder_4 rfl ?_
    refine G_aload_n d_X10_greatestOrder_5 rfl ?_
    refine G_callV0 cl_X10_11 rfl d_X10_greatestOrder_6 (wk_64 _) (Nat.le_of_ble_eq_true rfl) (by decide) (sp_Mn s hV hO) ?_
    rintro _ _ ⟨rfl, rfl⟩
    refine G_icmp_ge 43 d_X10_greatestOrder_9 (by decide) (by omega) (by omega) (fun c9 => ?_) (fun c9 => ?_)
    · refine G_iload_n d_X10_greatestOrder_43 rfl ?_
      refine G_iret (mc := 0) (ms := 0) (st := []) d_X10_greatestOrder_44 rfl ?_
      exact ⟨by rw [show k = pN s by omega], rfl⟩
    · refine G_aload_n d_X10_greatestOrder_12 rfl ?_
      refine G_aload_n d_X10_greatestOrder_13 rfl ?_
      refine G_iload_n d_X10_greatestOrder_14 rfl ?_
      refine G_iload_n d_X10_greatestOrder_15 rfl ?_
      refine G_callV2 cl_X10_18 rfl d_X10_greatestOrder_16 (wk_64 _) (Nat.le_of_ble_eq_true rfl) (by decide) (sp_Mord s hV hO hP p k hp (by omega)) ?_
      rintro _ _ ⟨rfl, rfl⟩
      have hch := pO_rng hV p k
      refine G_callV1 cl_X10_111 rfl d_X10_greatestOrder_19 (wk_64 _) (Nat.le_of_ble_eq_true rfl) (by decide) (sp_Msize (x := pO s p k) (by omega)) ?_
      rintro _ _ ⟨rfl, rfl⟩
      refine G_iload_n d_X10_greatestOrder_22 rfl ?_
      refine G_icmp_le 37 d_X10_greatestOrder_23 (by decide) (by omega) (by omega) (fun c23 => ?_) (fun c23 => ?_)
      · refine G_iinc d_X10_greatestOrder_37 rfl (by decide) rfl ?_
        refine G_goto 4 d_X10_greatestOrder_40 (by decide) ?_
        rw [show maxN (fun k => ((pO s p k).natAbs : Int)) (k + 1) = max (maxN (fun k => ((pO s p k).natAbs : Int)) k) ((pO s p k).natAbs : Int) from rfl, Int.max_eq_left (by omega)] at ih
        exact ih (by omega) hmx
      · refine G_aload_n d_X10_greatestOrder_26 rfl ?_
        refine G_aload_n d_X10_greatestOrder_27 rfl ?_
        refine G_iload_n d_X10_greatestOrder_28 rfl ?_
        refine G_iload_n d_X10_greatestOrder_29 rfl ?_
        refine G_callV2 cl_X10_18 rfl d_X10_greatestOrder_30 (wk_64 _) (Nat.le_of_ble_eq_true rfl) (by decide) (sp_Mord s hV hO hP p k hp (by omega)) ?_
        rintro _ _ ⟨rfl, rfl⟩
        refine G_callV1 cl_X10_111 rfl d_X10_greatestOrder_33 (wk_64 _) (Nat.le_of_ble_eq_true rfl) (by decide) (sp_Msize (x := pO s p k) (by omega)) ?_
        rintro _ _ ⟨rfl, rfl⟩
        refine G_istore_n d_X10_greatestOrder_36 (by decide) rfl ?_
        refine G_iinc d_X10_greatestOrder_37 rfl (by decide) rfl ?_
        refine G_goto 4 d_X10_greatestOrder_40 (by decide) ?_
        rw [show maxN (fun k => ((pO s p k).natAbs : Int)) (k + 1) = max (maxN (fun k => ((pO s p k).natAbs : Int)) k) ((pO s p k).natAbs : Int) from rfl, Int.max_eq_right (by omega)] at ih
        exact ih (by omega) (by omega)
  refine G_iconst d_X10_greatestOrder_0 ?_
  refine G_istore_n d_X10_greatestOrder_1 (by decide) rfl ?_
  refine G_iconst d_X10_greatestOrder_2 ?_
  refine G_istore_n d_X10_greatestOrder_3 (by decide) rfl ?_
  exact L 0 (by omega) ⟨Int.le_refl 0, show (0 : Int) ≤ 3 by decide⟩
theorem sp_MweightsOfL {w : List KD} {m : Nat → Nat → Int} (s : Nat → Int) (hV : VS s) (hI : MI s m) : Sp M_X10_weightsOf 6 0 0 [rV 64, iV 1] (WC ++ (WM ++ w), m) (fun r h => r = some (iV (sumN (fun p => if pLeak s p = true then pWt s p else 0) (pC s))) ∧ ∃ m2, h = (WC ++ (WM ++ w), m2) ∧ KQ s m m2) := by
  refine Sp.ofG (ls := [rV 64, iV 1, uV, uV]) (by decide +kernel) rfl (Nat.le_of_ble_eq_true rfl) ?_
  have hC := pC_le hV
  have hN := hV.N
  have L : ∀ p : Nat, p ≤ pC s → ∀ m1, KQ s m m1 → G M_X10_weightsOf 6 0 0 4 [rV 64, iV 1, iV (sumN (fun p => if pLeak s p = true then pWt s p else 0) p), iV (p : Int)] [] (WC ++ (WM ++ w), m1) (fun r h => r = some (iV (sumN (fun p => if pLeak s p = true then pWt s p else 0) (pC s))) ∧ ∃ m2, h = (WC ++ (WM ++ w), m2) ∧ KQ s m m2) := by
    refine loop_up (pC s) _ ?_
    intro p hp ih m1 h1
    refine G_iload_n d_X10_weightsOf_4 rfl ?_
    refine G_aload_n d_X10_weightsOf_5 rfl ?_
    refine G_getIe (fl_X10_25.r) d_X10_weightsOf_6 (wk_64 _) rfl (h1.2.2.1.1) ?_
    refine G_icmp_ge 57 d_X10_weightsOf_9 (by decide) (by omega) (by omega) (fun c9 => ?_) (fun c9 => ?_)
    · refine G_iload_n d_X10_weightsOf_57 rfl ?_
      refine G_iret (mc := 0) (ms := 0) (st := []) d_X10_weightsOf_58 rfl ?_
      exact ⟨by rw [show p = pC s by omega], m1, rfl, h1⟩
    · refine G_iload_n d_X10_weightsOf_12 rfl ?_
      refine G_if_eq 27 d_X10_weightsOf_13 (by decide) (by decide) (fun hd => absurd hd (by decide)) (fun _ => ?_)
      refine G_aload_n d_X10_weightsOf_16 rfl ?_
      refine G_iload_n d_X10_weightsOf_17 rfl ?_
      refine G_callV1 cl_X10_254 rfl d_X10_weightsOf_18 (wk_64 _) (Nat.le_of_ble_eq_true rfl) (by decide) (sp_MisLeak s hV h1.2 p (by omega)) ?_
      rintro _ _ ⟨rfl, m2, rfl, h2⟩
      have h2 := h1.trans h2
      by_cases hk : pLeak s p = true
      · rw [if_pos hk]
        refine G_if_eq 51 d_X10_weightsOf_21 (by decide) (by decide) (fun hd => absurd hd (by decide)) (fun _ => ?_)
        refine G_goto 43 d_X10_weightsOf_24 (by decide) ?_
        refine G_iload_n d_X10_weightsOf_43 rfl ?_
        refine G_aload_n d_X10_weightsOf_44 rfl ?_
        refine G_iload_n d_X10_weightsOf_45 rfl ?_
        refine G_callV1 cl_X10_121 rfl d_X10_weightsOf_46 (wk_64 _) (Nat.le_of_ble_eq_true rfl) (by decide) (sp_Mweighs s hV h2.2.1 h2.2.2.1 p (by omega)) ?_
        rintro _ _ ⟨rfl, rfl⟩
        refine G_iadd d_X10_weightsOf_49 ?_
        refine G_istore_n d_X10_weightsOf_50 (by decide) rfl ?_
        refine G_iinc d_X10_weightsOf_51 rfl (by decide) rfl ?_
        refine G_goto 4 d_X10_weightsOf_54 (by decide) ?_
        rw [show sumN (fun p => if pLeak s p = true then pWt s p else 0) (p + 1) = sumN (fun p => if pLeak s p = true then pWt s p else 0) p + pWt s p by show sumN (fun p => if pLeak s p = true then pWt s p else 0) p + (if pLeak s p = true then pWt s p else 0) = _; rw [if_pos hk]] at ih
        exact ih (by omega) m2 h2
      · rw [if_neg hk]
        refine G_if_eq 51 d_X10_weightsOf_21 (by decide) (by decide) (fun _ => ?_) (fun hd => absurd hd (by decide))
        refine G_iinc d_X10_weightsOf_51 rfl (by decide) rfl ?_
        refine G_goto 4 d_X10_weightsOf_54 (by decide) ?_
        rw [show sumN (fun p => if pLeak s p = true then pWt s p else 0) (p + 1) = sumN (fun p => if pLeak s p = true then pWt s p else 0) p by show sumN (fun p => if pLeak s p = true then pWt s p else 0) p + (if pLeak s p = true then pWt s p else 0) = _; rw [if_neg hk, Int.add_zero]] at ih
        exact ih (by omega) m2 h2
  refine G_iconst d_X10_weightsOf_0 ?_
  refine G_istore_n d_X10_weightsOf_1 (by decide) rfl ?_
  refine G_iconst d_X10_weightsOf_2 ?_
  refine G_istore_n d_X10_weightsOf_3 (by decide) rfl ?_
  exact L 0 (by omega) m (KQ.refl hI)
theorem sp_MweightsOfK {w : List KD} {m : Nat → Nat → Int} (s : Nat → Int) (hV : VS s) (hI : MI s m) : Sp M_X10_weightsOf 6 0 0 [rV 64, iV 0] (WC ++ (WM ++ w), m) (fun r h => r = some (iV (sumN (fun p => if pKept s p = true then pWt s p else 0) (pC s))) ∧ ∃ m2, h = (WC ++ (WM ++ w), m2) ∧ KQ s m m2) := by
  refine Sp.ofG (ls := [rV 64, iV 0, uV, uV]) (by decide +kernel) rfl (Nat.le_of_ble_eq_true rfl) ?_
  have hC := pC_le hV
  have hN := hV.N
  have L : ∀ p : Nat, p ≤ pC s → ∀ m1, KQ s m m1 → G M_X10_weightsOf 6 0 0 4 [rV 64, iV 0, iV (sumN (fun p => if pKept s p = true then pWt s p else 0) p), iV (p : Int)] [] (WC ++ (WM ++ w), m1) (fun r h => r = some (iV (sumN (fun p => if pKept s p = true then pWt s p else 0) (pC s))) ∧ ∃ m2, h = (WC ++ (WM ++ w), m2) ∧ KQ s m m2) := by
    refine loop_up (pC s) _ ?_
    intro p hp ih m1 h1
    refine G_iload_n d_X10_weightsOf_4 rfl ?_
    refine G_aload_n d_X10_weightsOf_5 rfl ?_
    refine G_getIe (fl_X10_25.r) d_X10_weightsOf_6 (wk_64 _) rfl (h1.2.2.1.1) ?_
    refine G_icmp_ge 57 d_X10_weightsOf_9 (by decide) (by omega) (by omega) (fun c9 => ?_) (fun c9 => ?_)
    · refine G_iload_n d_X10_weightsOf_57 rfl ?_
      refine G_iret (mc := 0) (ms := 0) (st := []) d_X10_weightsOf_58 rfl ?_
      exact ⟨by rw [show p = pC s by omega], m1, rfl, h1⟩
    · refine G_iload_n d_X10_weightsOf_12 rfl ?_
      refine G_if_eq 27 d_X10_weightsOf_13 (by decide) (by decide) (fun _ => ?_) (fun hd => absurd hd (by decide))
      refine G_aload_n d_X10_weightsOf_27 rfl ?_
      refine G_iload_n d_X10_weightsOf_28 rfl ?_
      refine G_callV1 cl_X10_104 rfl d_X10_weightsOf_29 (wk_64 _) (Nat.le_of_ble_eq_true rfl) (by decide) (sp_MisWished s hV h1.2.1 h1.2.2.1 p (by omega)) ?_
      rintro _ _ ⟨rfl, rfl⟩
      by_cases hw : pMk s p = 1
      · rw [if_pos hw]
        refine G_if_eq 51 d_X10_weightsOf_32 (by decide) (by decide) (fun hd => absurd hd (by decide)) (fun _ => ?_)
        refine G_aload_n d_X10_weightsOf_35 rfl ?_
        refine G_iload_n d_X10_weightsOf_36 rfl ?_
        refine G_callV1 cl_X10_257 rfl d_X10_weightsOf_37 (wk_64 _) (Nat.le_of_ble_eq_true rfl) (by decide) (sp_MisLost s hV h1.2 p (by omega)) ?_
        rintro _ _ ⟨rfl, m2, rfl, h2⟩
        have h2 := h1.trans h2
        by_cases hl : pLost s p = true
        · rw [if_pos hl]
          refine G_if_ne 51 d_X10_weightsOf_40 (by decide) (by decide) (fun _ => ?_) (fun hd => absurd hd (by decide))
          refine G_iinc d_X10_weightsOf_51 rfl (by decide) rfl ?_
          refine G_goto 4 d_X10_weightsOf_54 (by decide) ?_
          have hk : ¬ pKept s p = true := by unfold pKept; simp [hl]
          rw [show sumN (fun p => if pKept s p = true then pWt s p else 0) (p + 1) = sumN (fun p => if pKept s p = true then pWt s p else 0) p by show sumN (fun p => if pKept s p = true then pWt s p else 0) p + (if pKept s p = true then pWt s p else 0) = _; rw [if_neg hk, Int.add_zero]] at ih
          exact ih (by omega) m2 h2
        · rw [if_neg hl]
          refine G_if_ne 51 d_X10_weightsOf_40 (by decide) (by decide) (fun hd => absurd hd (by decide)) (fun _ => ?_)
          refine G_iload_n d_X10_weightsOf_43 rfl ?_
          refine G_aload_n d_X10_weightsOf_44 rfl ?_
          refine G_iload_n d_X10_weightsOf_45 rfl ?_
          refine G_callV1 cl_X10_121 rfl d_X10_weightsOf_46 (wk_64 _) (Nat.le_of_ble_eq_true rfl) (by decide) (sp_Mweighs s hV h2.2.1 h2.2.2.1 p (by omega)) ?_
          rintro _ _ ⟨rfl, rfl⟩
          refine G_iadd d_X10_weightsOf_49 ?_
          refine G_istore_n d_X10_weightsOf_50 (by decide) rfl ?_
          refine G_iinc d_X10_weightsOf_51 rfl (by decide) rfl ?_
          refine G_goto 4 d_X10_weightsOf_54 (by decide) ?_
          have hk : pKept s p = true := by unfold pKept; simp [hl, hw]
          rw [show sumN (fun p => if pKept s p = true then pWt s p else 0) (p + 1) = sumN (fun p => if pKept s p = true then pWt s p else 0) p + pWt s p by show sumN (fun p => if pKept s p = true then pWt s p else 0) p + (if pKept s p = true then pWt s p else 0) = _; rw [if_pos hk]] at ih
          exact ih (by omega) m2 h2
      · rw [if_neg hw]
        refine G_if_eq 51 d_X10_weightsOf_32 (by decide) (by decide) (fun _ => ?_) (fun hd => absurd hd (by decide))
        refine G_iinc d_X10_weightsOf_51 rfl (by decide) rfl ?_
        refine G_goto 4 d_X10_weightsOf_54 (by decide) ?_
        have hk : ¬ pKept s p = true := by unfold pKept; simp [hw]
        rw [show sumN (fun p => if pKept s p = true then pWt s p else 0) (p + 1) = sumN (fun p => if pKept s p = true then pWt s p else 0) p by show sumN (fun p => if pKept s p = true then pWt s p else 0) p + (if pKept s p = true then pWt s p else 0) = _; rw [if_neg hk, Int.add_zero]] at ih
        exact ih (by omega) m1 h1
  refine G_iconst d_X10_weightsOf_0 ?_
  refine G_istore_n d_X10_weightsOf_1 (by decide) rfl ?_
  refine G_iconst d_X10_weightsOf_2 ?_
  refine G_istore_n d_X10_weightsOf_3 (by decide) rfl ?_
  exact L 0 (by omega) m (KQ.refl hI)
