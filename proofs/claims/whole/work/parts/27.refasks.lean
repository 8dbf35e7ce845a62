/-! what each call answers -/
abbrev isPth (s : Nat → Int) (p : Int) : Prop := 0 ≤ p ∧ p < pC s
abbrev isPls (s : Nat → Int) (p : Int) : Prop := 0 ≤ p ∧ p < pN s
abbrev isSrc (s : Nat → Int) (p : Int) : Prop := 0 ≤ p ∧ p ≤ pN s
abbrev isScn (s : Nat → Int) (t : Int) : Prop := 0 ≤ t ∧ t < pSc s
def vOrder (s : Nat → Int) (p k : Int) : Int := if isPth s p ∧ isPls s k then pO s p.toNat k.toNat else -10
def arg4 (a b c d : Int) (k : Nat) : Int := if k = 0 then a else if k = 1 then b else if k = 2 then c else d
def isF (s : Nat → Int) (a b c d : Int) (p : Nat) : Bool := allN (fun k => pO s p k == arg4 a b c d k) (pN s - 1)
def vFind (s : Nat → Int) (a b c d : Int) : Int := firstB (isF s a b c d) (pC s)
def vPhase (s : Nat → Int) (k t : Int) : Int := if isSrc s k ∧ isScn s t then pPh s k.toNat t.toNat else -1
def vRes (s : Nat → Int) (p t : Int) : Int := if isPth s p ∧ isScn s t then ((pRes s p.toNat t.toNat : Nat) : Int) else -1
def vMany (s : Nat → Int) (p r : Int) : Int := if isPth s p ∧ (0 ≤ r ∧ r ≤ (pT s : Int) - 1) then pCnt s p.toNat (pSc s) r.toNat else -1
def b1 (b : Bool) : Int := if b = true then 1 else 0
def vPath (s : Nat → Int) (p w : Int) : Int := if isPth s p then
  if w = 0 then pSt s p.toNat else if w = 1 then b1 (pMk s p.toNat == 1) else if w = 2 then b1 (pMk s p.toNat == 2) else if w = 3 then b1 (pLeak s p.toNat) else if w = 4 then ((cntB (fun k => pCh s p.toNat k != 0) (pN s) : Nat) : Int) else if w = 5 then maxN (fun k => ((pO s p.toNat k).natAbs : Int)) (pN s) else if w = 6 then b1 (pSp s p.toNat != 0) else if w = 7 then pWt s p.toNat else if w = 8 then b1 (pGone s p.toNat) else -1 else -1
def nthB (f : Nat → Bool) (n : Nat) (i : Int) : Int := firstB (fun p => f p && ((cntB f p : Nat) : Int) == i) n
def vMem (f : Nat → Bool) (n : Nat) (i : Int) : Int := if i = -1 then ((cntB f n : Nat) : Int) else nthB f n i
def vEarly (s : Nat → Int) (p n : Int) : Int := if isPth s p ∧ (1 ≤ n ∧ n ≤ pSc s) then stB (pT s) (pCnt s p.toNat n.toNat) else -1
def untB (s : Nat → Int) (p a t : Nat) : Bool := decide (a ≤ t + 1) && stB (pT s) (pCnt s p (t + 1)) == 0
def fst1 (x : Int) : Int := if x = -1 then -1 else x + 1
def vUntil (s : Nat → Int) (p a : Int) : Int := if isPth s p ∧ (1 ≤ a ∧ a ≤ pSc s) then fst1 (firstB (untB s p.toNat a.toNat) (pSc s)) else -1
theorem sp_Morder {w : List KD} {m : Nat → Nat → Int} (s : Nat → Int) (hV : VS s) (hI : MI s m) (a : Int) (hra : -2147483648 ≤ a ∧ a < 2147483648) (b : Int) (hrb : -2147483648 ≤ b ∧ b < 2147483648) : Sp M_X10_order 2 0 0 [rV 64, iV a, iV b] (WC ++ (WM ++ w), m) (fun r h => r = some (iV (vOrder s a b)) ∧ ∃ m2, h = (WC ++ (WM ++ w), m2) ∧ KQ s m m2) := by
  refine Sp.ofG (ls := [rV 64, iV a, iV b]) (by decide +kernel) rfl (Nat.le_of_ble_eq_true rfl) ?_
  have hC := pC_le hV
  have hN := hV.N
  have hT := hV.T
  have hSc := hV.Sc
  refine G_aload_n d_X10_order_0 rfl ?_
  refine G_iconst d_X10_order_1 ?_
  refine G_putII fl_X10_1 d_X10_order_2 (wk_64 _) rfl ?_
  have hQ0 : KQ s m (upm m 64 0 0) := (KQ.refl hI).fld rfl
  generalize upm m 64 0 0 = m0 at hQ0 ⊢
  refine G_aload_n d_X10_order_5 rfl ?_
  refine G_iload_n d_X10_order_6 rfl ?_
  refine G_callV1 cl_X10_159 rfl d_X10_order_7 (wk_64 _) (Nat.le_of_ble_eq_true rfl) (by decide) (sp_MisPath s hV hQ0.2.1 hQ0.2.2.1 a hra) ?_
  rintro _ _ ⟨rfl, rfl⟩
  by_cases hp : 0 ≤ a ∧ a < pC s
  · rw [if_pos hp]
    obtain ⟨p, rfl⟩ : ∃ n : Nat, a = (n : Int) := ⟨a.toNat, by omega⟩
    refine G_if_eq 30 d_X10_order_10 (by decide) (by decide) (fun hd => absurd hd (by decide)) (fun _ => ?_)
    refine G_aload_n d_X10_order_13 rfl ?_
    refine G_iload_n d_X10_order_14 rfl ?_
    refine G_callV1 cl_X10_133 rfl d_X10_order_15 (wk_64 _) (Nat.le_of_ble_eq_true rfl) (by decide) (sp_MisPulse s hV hQ0.2.1 b hrb) ?_
    rintro _ _ ⟨rfl, rfl⟩
    by_cases hk : 0 ≤ b ∧ b < pN s
    · rw [if_pos hk]
      obtain ⟨k, rfl⟩ : ∃ n : Nat, b = (n : Int) := ⟨b.toNat, by omega⟩
      refine G_if_eq 30 d_X10_order_18 (by decide) (by decide) (fun hd => absurd hd (by decide)) (fun _ => ?_)
      refine G_aload_n d_X10_order_21 rfl ?_
      refine G_iload_n d_X10_order_22 rfl ?_
      refine G_iload_n d_X10_order_23 rfl ?_
      refine G_callV2 cl_X10_18 rfl d_X10_order_24 (wk_64 _) (Nat.le_of_ble_eq_true rfl) (by decide) (sp_Mord s hV hQ0.2.1 hQ0.2.2.1 p k (by omega) (by omega)) ?_
      rintro _ _ ⟨rfl, rfl⟩
      refine G_goto 32 d_X10_order_27 (by decide) ?_
      refine G_iret (mc := 0) (ms := 0) (st := []) d_X10_order_32 rfl ?_
      exact ⟨by unfold vOrder; rw [if_pos ⟨hp, hk⟩]; rfl, m0, rfl, hQ0⟩
    · rw [if_neg hk]
      refine G_if_eq 30 d_X10_order_18 (by decide) (by decide) (fun _ => ?_) (fun hd => absurd hd (by decide))
      refine G_bipush d_X10_order_30 (by decide) ?_
      refine G_iret (mc := 0) (ms := 0) (st := []) d_X10_order_32 rfl ?_
      exact ⟨by unfold vOrder; rw [if_neg (fun h => hk h.2)], m0, rfl, hQ0⟩
  · rw [if_neg hp]
    refine G_if_eq 30 d_X10_order_10 (by decide) (by decide) (fun _ => ?_) (fun hd => absurd hd (by decide))
    refine G_bipush d_X10_order_30 (by decide) ?_
    refine G_iret (mc := 0) (ms := 0) (st := []) d_X10_order_32 rfl ?_
    exact ⟨by unfold vOrder; rw [if_neg (fun h => hp h.1)], m0, rfl, hQ0⟩
theorem sp_MisScan {w : List KD} {m : Nat → Nat → Int} (s : Nat → Int) (hV : VS s) (hO : MO s m) (t : Int) (hrt : -2147483648 ≤ t ∧ t < 2147483648) : Sp M_X10_isScan 2 0 0 [rV 64, iV t] (WC ++ (WM ++ w), m) (fun r h => r = some (iV (if 0 ≤ t ∧ t < pSc s then 1 else 0)) ∧ h = (WC ++ (WM ++ w), m)) := by
  refine Sp.ofG (ls := [rV 64, iV t]) (by decide +kernel) rfl (Nat.le_of_ble_eq_true rfl) ?_
  have hSc := hV.Sc
  refine G_iload_n d_X10_isScan_0 rfl ?_
  refine G_if_lt 16 d_X10_isScan_1 (by decide) (by omega) (fun c1 => ?_) (fun c1 => ?_)
  · refine G_iconst d_X10_isScan_16 ?_
    refine G_zret (mc := 0) (ms := 0) (st := []) d_X10_isScan_17 rfl (by omega) ?_
    exact ⟨by first | rw [if_pos (by omega)] | rw [if_neg (by omega)], rfl⟩
  · refine G_iload_n d_X10_isScan_4 rfl ?_
    refine G_aload_n d_X10_isScan_5 rfl ?_
    refine G_callV0 cl_X10_142 rfl d_X10_isScan_6 (wk_64 _) (Nat.le_of_ble_eq_true rfl) (by decide) (sp_Mscans s hV hO) ?_
    rintro _ _ ⟨rfl, rfl⟩
    refine G_icmp_ge 16 d_X10_isScan_9 (by decide) (by omega) (by omega) (fun c9 => ?_) (fun c9 => ?_)
    · refine G_iconst d_X10_isScan_16 ?_
      refine G_zret (mc := 0) (ms := 0) (st := []) d_X10_isScan_17 rfl (by omega) ?_
      exact ⟨by first | rw [if_pos (by omega)] | rw [if_neg (by omega)], rfl⟩
    · refine G_iconst d_X10_isScan_12 ?_
      refine G_goto 17 d_X10_isScan_13 (by decide) ?_
      refine G_zret (mc := 0) (ms := 0) (st := []) d_X10_isScan_17 rfl (by omega) ?_
      exact ⟨by first | rw [if_pos (by omega)] | rw [if_neg (by omega)], rfl⟩
theorem sp_Mphase {w : List KD} {m : Nat → Nat → Int} (s : Nat → Int) (hV : VS s) (hI : MI s m) (a : Int) (hra : -2147483648 ≤ a ∧ a < 2147483648) (b : Int) (hrb : -2147483648 ≤ b ∧ b < 2147483648) : Sp M_X10_phase 4 0 0 [rV 64, iV a, iV b] (WC ++ (WM ++ w), m) (fun r h => r = some (iV (vPhase s a b)) ∧ ∃ m2, h = (WC ++ (WM ++ w), m2) ∧ KQ s m m2) := by
  refine Sp.ofG (ls := [rV 64, iV a, iV b]) (by decide +kernel) rfl (Nat.le_of_ble_eq_true rfl) ?_
  have hC := pC_le hV
  have hN := hV.N
  have hT := hV.T
  have hSc := hV.Sc
  refine G_aload_n d_X10_phase_0 rfl ?_
  refine G_iconst d_X10_phase_1 ?_
  refine G_putII fl_X10_1 d_X10_phase_2 (wk_64 _) rfl ?_
  have hQ0 : KQ s m (upm m 64 0 0) := (KQ.refl hI).fld rfl
  generalize upm m 64 0 0 = m0 at hQ0 ⊢
  refine G_aload_n d_X10_phase_5 rfl ?_
  refine G_iload_n d_X10_phase_6 rfl ?_
  refine G_callV1 cl_X10_145 rfl d_X10_phase_7 (wk_64 _) (Nat.le_of_ble_eq_true rfl) (by decide) (sp_MisSource s hV hQ0.2.1 a hra) ?_
  rintro _ _ ⟨rfl, rfl⟩
  by_cases hk : 0 ≤ a ∧ a ≤ pN s
  · rw [if_pos hk]
    obtain ⟨k, rfl⟩ : ∃ n : Nat, a = (n : Int) := ⟨a.toNat, by omega⟩
    refine G_if_eq 21 d_X10_phase_10 (by decide) (by decide) (fun hd => absurd hd (by decide)) (fun _ => ?_)
    refine G_aload_n d_X10_phase_13 rfl ?_
    refine G_iload_n d_X10_phase_14 rfl ?_
    refine G_callV1 cl_X10_307 rfl d_X10_phase_15 (wk_64 _) (Nat.le_of_ble_eq_true rfl) (by decide) (sp_MisScan s hV hQ0.2.1 b hrb) ?_
    rintro _ _ ⟨rfl, rfl⟩
    by_cases ht : 0 ≤ b ∧ b < pSc s
    · rw [if_pos ht]
      obtain ⟨t, rfl⟩ : ∃ n : Nat, b = (n : Int) := ⟨b.toNat, by omega⟩
      refine G_if_ne 23 d_X10_phase_18 (by decide) (by decide) (fun _ => ?_) (fun hd => absurd hd (by decide))
      refine G_aload_n d_X10_phase_23 rfl ?_
      refine G_callV0 cl_X10_236 rfl d_X10_phase_24 (wk_64 _) (Nat.le_of_ble_eq_true rfl) (by decide) (sp_MlaysPhases s hV hQ0.2.1 hQ0.2.2.1) ?_
      rintro _ _ ⟨rfl, m1, rfl, hm1, hH⟩
      have hQ1 := hQ0.scr1 70 rfl hm1
      refine G_aload_n d_X10_phase_27 rfl ?_
      refine G_getR (r := 70) (fl_X10_54.r) d_X10_phase_28 (wk_64 _) rfl rfl ?_
      refine G_bipush d_X10_phase_31 (by decide) ?_
      refine G_iload_n d_X10_phase_33 rfl ?_
      refine G_imul d_X10_phase_34 ?_
      refine G_iload_n d_X10_phase_35 rfl ?_
      refine G_iadd d_X10_phase_36 ?_
      refine G_ialdj (6 * t + k) d_X10_phase_37 (wk_70 _) (by omega) (by omega) (by decide) ?_
      refine G_iret (mc := 0) (ms := 0) (st := []) d_X10_phase_38 rfl ?_
      exact ⟨by rw [hH t (by omega) k (by omega)]; unfold vPhase; rw [if_pos ⟨hk, ht⟩]; rfl, m1, rfl, hQ1⟩
    · rw [if_neg ht]
      refine G_if_ne 23 d_X10_phase_18 (by decide) (by decide) (fun hd => absurd hd (by decide)) (fun _ => ?_)
      refine G_iconst d_X10_phase_21 ?_
      refine G_iret (mc := 0) (ms := 0) (st := []) d_X10_phase_22 rfl ?_
      exact ⟨by unfold vPhase; rw [if_neg (fun h => ht h.2)], m0, rfl, hQ0⟩
  · rw [if_neg hk]
    refine G_if_eq 21 d_X10_phase_10 (by decide) (by decide) (fun _ => ?_) (fun hd => absurd hd (by decide))
    refine G_iconst d_X10_phase_21 ?_
    refine G_iret (mc := 0) (ms := 0) (st := []) d_X10_phase_22 rfl ?_
    exact ⟨by unfold vPhase; rw [if_neg (fun h => hk h.1)], m0, rfl, hQ0⟩
theorem sp_Mresidue {w : List KD} {m : Nat → Nat → Int} (s : Nat → Int) (hV : VS s) (hI : MI s m) (a : Int) (hra : -2147483648 ≤ a ∧ a < 2147483648) (b : Int) (hrb : -2147483648 ≤ b ∧ b < 2147483648) : Sp M_X10_residue 4 0 0 [rV 64, iV a, iV b] (WC ++ (WM ++ w), m) (fun r h => r = some (iV (vRes s a b)) ∧ ∃ m2, h = (WC ++ (WM ++ w), m2) ∧ KQ s m m2) := by
  refine Sp.ofG (ls := [rV 64, iV a, iV b]) (by decide +kernel) rfl (Nat.le_of_ble_eq_true rfl) ?_
  have hC := pC_le hV
  have hN := hV.N
  have hT := hV.T
  have hSc := hV.Sc
  refine G_aload_n d_X10_residue_0 rfl ?_
  refine G_iconst d_X10_residue_1 ?_
  refine G_putII fl_X10_1 d_X10_residue_2 (wk_64 _) rfl ?_
  have hQ0 : KQ s m (upm m 64 0 0) := (KQ.refl hI).fld rfl
  generalize upm m 64 0 0 = m0 at hQ0 ⊢
  refine G_aload_n d_X10_residue_5 rfl ?_
  refine G_iload_n d_X10_residue_6 rfl ?_
  refine G_callV1 cl_X10_159 rfl d_X10_residue_7 (wk_64 _) (Nat.le_of_ble_eq_true rfl) (by decide) (sp_MisPath s hV hQ0.2.1 hQ0.2.2.1 a hra) ?_
  rintro _ _ ⟨rfl, rfl⟩
  by_cases hp : 0 ≤ a ∧ a < pC s
  · rw [if_pos hp]
    obtain ⟨p, rfl⟩ : ∃ n : Nat, a = (n : Int) := ⟨a.toNat, by omega⟩
    refine G_if_eq 21 d_X10_residue_10 (by decide) (by decide) (fun hd => absurd hd (by decide)) (fun _ => ?_)
    refine G_aload_n d_X10_residue_13 rfl ?_
    refine G_iload_n d_X10_residue_14 rfl ?_
    refine G_callV1 cl_X10_307 rfl d_X10_residue_15 (wk_64 _) (Nat.le_of_ble_eq_true rfl) (by decide) (sp_MisScan s hV hQ0.2.1 b hrb) ?_
    rintro _ _ ⟨rfl, rfl⟩
    by_cases ht : 0 ≤ b ∧ b < pSc s
    · rw [if_pos ht]
      obtain ⟨t, rfl⟩ : ∃ n : Nat, b = (n : Int) := ⟨b.toNat, by omega⟩
      refine G_if_ne 23 d_X10_residue_18 (by decide) (by decide) (fun _ => ?_) (fun hd => absurd hd (by decide))
      refine G_aload_n d_X10_residue_23 rfl ?_
      refine G_callV0 cl_X10_236 rfl d_X10_residue_24 (wk_64 _) (Nat.le_of_ble_eq_true rfl) (by decide) (sp_MlaysPhases s hV hQ0.2.1 hQ0.2.2.1) ?_
      rintro _ _ ⟨rfl, m1, rfl, hm1, hH⟩
      have hQ1 := hQ0.scr1 70 rfl hm1
      refine G_aload_n d_X10_residue_27 rfl ?_
      refine G_iload_n d_X10_residue_28 rfl ?_
      refine G_iload_n d_X10_residue_29 rfl ?_
      refine G_callV2 cl_X10_233 rfl d_X10_residue_30 (wk_64 _) (Nat.le_of_ble_eq_true rfl) (by decide) (sp_Mres s hV hQ1.2.1 hQ1.2.2.1 (pSc s) p t hH (by omega) (by omega) (by omega)) ?_
      rintro _ _ ⟨rfl, rfl⟩
      refine G_iret (mc := 0) (ms := 0) (st := []) d_X10_residue_33 rfl ?_
      exact ⟨by unfold vRes; rw [if_pos ⟨hp, ht⟩]; rfl, m1, rfl, hQ1⟩
    · rw [if_neg ht]
      refine G_if_ne 23 d_X10_residue_18 (by decide) (by decide) (fun hd => absurd hd (by decide)) (fun _ => ?_)
      refine G_iconst d_X10_residue_21 ?_
      refine G_iret (mc := 0) (ms := 0) (st := []) d_X10_residue_22 rfl ?_
      exact ⟨by unfold vRes; rw [if_neg (fun h => ht h.2)], m0, rfl, hQ0⟩
  · rw [if_neg hp]
    refine G_if_eq 21 d_X10_residue_10 (by decide) (by decide) (fun _ => ?_) (fun hd => absurd hd (by decide))
    refine G_iconst d_X10_residue_21 ?_
    refine G_iret (mc := 0) (ms := 0) (st := []) d_X10_residue_22 rfl ?_
    exact ⟨by unfold vRes; rw [if_neg (fun h => hp h.1)], m0, rfl, hQ0⟩
theorem sp_Mmany {w : List KD} {m : Nat → Nat → Int} (s : Nat → Int) (hV : VS s) (hI : MI s m) (a : Int) (hra : -2147483648 ≤ a ∧ a < 2147483648) (b : Int) (hrb : -2147483648 ≤ b ∧ b < 2147483648) : Sp M_X10_many 4 0 0 [rV 64, iV a, iV b] (WC ++ (WM ++ w), m) (fun r h => r = some (iV (vMany s a b)) ∧ ∃ m2, h = (WC ++ (WM ++ w), m2) ∧ KQ s m m2) := by
  refine Sp.ofG (ls := [rV 64, iV a, iV b]) (by decide +kernel) rfl (Nat.le_of_ble_eq_true rfl) ?_
  have hC := pC_le hV
  have hN := hV.N
  have hT := hV.T
  have hSc := hV.Sc
  refine G_aload_n d_X10_many_0 rfl ?_
  refine G_iconst d_X10_many_1 ?_
  refine G_putII fl_X10_1 d_X10_many_2 (wk_64 _) rfl ?_
  have hQ0 : KQ s m (upm m 64 0 0) := (KQ.refl hI).fld rfl
  generalize upm m 64 0 0 = m0 at hQ0 ⊢
  refine G_aload_n d_X10_many_5 rfl ?_
  refine G_iload_n d_X10_many_6 rfl ?_
  refine G_callV1 cl_X10_159 rfl d_X10_many_7 (wk_64 _) (Nat.le_of_ble_eq_true rfl) (by decide) (sp_MisPath s hV hQ0.2.1 hQ0.2.2.1 a hra) ?_
  rintro _ _ ⟨rfl, rfl⟩
  by_cases hp : 0 ≤ a ∧ a < pC s
  · rw [if_pos hp]
    obtain ⟨p, rfl⟩ : ∃ n : Nat, a = (n : Int) := ⟨a.toNat, by omega⟩
    refine G_if_eq 28 d_X10_many_10 (by decide) (by decide) (fun hd => absurd hd (by decide)) (fun _ => ?_)
    refine G_aload_n d_X10_many_13 rfl ?_
    refine G_iload_n d_X10_many_14 rfl ?_
    refine G_iconst d_X10_many_15 ?_
    refine G_aload_n d_X10_many_16 rfl ?_
    refine G_callV0 cl_X10_148 rfl d_X10_many_17 (wk_64 _) (Nat.le_of_ble_eq_true rfl) (by decide) (sp_Mt s hV hQ0.2.1) ?_
    rintro _ _ ⟨rfl, rfl⟩
    refine G_iconst d_X10_many_20 ?_
    refine G_isub d_X10_many_21 ?_
    refine G_callV3 cl_X10_124 rfl d_X10_many_22 (wk_64 _) (Nat.le_of_ble_eq_true rfl) (by decide) (sp_MisIn b hrb 0 (by omega) ((pT s : Int) - 1) (by omega)) ?_
    rintro _ _ ⟨rfl, rfl⟩
    by_cases hr : 0 ≤ b ∧ b ≤ (pT s : Int) - 1
    · rw [if_pos hr]
      obtain ⟨r, rfl⟩ : ∃ n : Nat, b = (n : Int) := ⟨b.toNat, by omega⟩
      refine G_if_ne 30 d_X10_many_25 (by decide) (by decide) (fun _ => ?_) (fun hd => absurd hd (by decide))
      refine G_aload_n d_X10_many_30 rfl ?_
      refine G_callV0 cl_X10_236 rfl d_X10_many_31 (wk_64 _) (Nat.le_of_ble_eq_true rfl) (by decide) (sp_MlaysPhases s hV hQ0.2.1 hQ0.2.2.1) ?_
      rintro _ _ ⟨rfl, m1, rfl, hm1, hH⟩
      have hQ1 := hQ0.scr1 70 rfl hm1
      refine G_aload_n d_X10_many_34 rfl ?_
      refine G_iload_n d_X10_many_35 rfl ?_
      refine G_aload_n d_X10_many_36 rfl ?_
      refine G_callV0 cl_X10_142 rfl d_X10_many_37 (wk_64 _) (Nat.le_of_ble_eq_true rfl) (by decide) (sp_Mscans s hV hQ1.2.1) ?_
      rintro _ _ ⟨rfl, rfl⟩
      refine G_callV2 cl_X10_239 rfl d_X10_many_40 (wk_64 _) (Nat.le_of_ble_eq_true rfl) (by decide) (sp_McountsFirst s hV hQ1.2.1 hQ1.2.2.1 (pSc s) p (pSc s) hH (by omega) (by omega) (by omega)) ?_
      rintro _ _ ⟨rfl, m2, rfl, hm2, hc2⟩
      have hQ2 := hQ1.scr1 71 rfl hm2
      refine G_aload_n d_X10_many_43 rfl ?_
      refine G_getR (r := 71) (fl_X10_57.r) d_X10_many_44 (wk_64 _) rfl rfl ?_
      refine G_iload_n d_X10_many_47 rfl ?_
      refine G_ialdj (r) d_X10_many_48 (wk_71 _) (by omega) (by omega) (by decide) ?_
      refine G_iret (mc := 0) (ms := 0) (st := []) d_X10_many_49 rfl ?_
      exact ⟨by rw [hc2 r (by omega)]; unfold vMany; rw [if_pos ⟨hp, hr⟩]; rfl, m2, rfl, hQ2⟩
    · rw [if_neg hr]
      refine G_if_ne 30 d_X10_many_25 (by decide) (by decide) (fun hd => absurd hd (by decide)) (fun _ => ?_)
      refine G_iconst d_X10_many_28 ?_
      refine G_iret (mc := 0) (ms := 0) (st := []) d_X10_many_29 rfl ?_
      exact ⟨by unfold vMany; rw [if_neg (fun h => hr h.2)], m0, rfl, hQ0⟩
  · rw [if_neg hp]
    refine G_if_eq 28 d_X10_many_10 (by decide) (by decide) (fun _ => ?_) (fun hd => absurd hd (by decide))
    refine G_iconst d_X10_many_28 ?_
    refine G_iret (mc := 0) (ms := 0) (st := []) d_X10_many_29 rfl ?_
    exact ⟨by unfold vMany; rw [if_neg (fun h => hp h.1)], m0, rfl, hQ0⟩
theorem sp_Mpath {w : List KD} {m : Nat → Nat → Int} (s : Nat → Int) (hV : VS s) (hI : MI s m) (a : Int) (hra : -2147483648 ≤ a ∧ a < 2147483648) (b : Int) (hrb : -2147483648 ≤ b ∧ b < 2147483648) : Sp M_X10_path 6 0 0 [rV 64, iV a, iV b] (WC ++ (WM ++ w), m) (fun r h => r = some (iV (vPath s a b)) ∧ ∃ m2, h = (WC ++ (WM ++ w), m2) ∧ KQ s m m2) := by
  refine Sp.ofG (ls := [rV 64, iV a, iV b]) (by decide +kernel) rfl (Nat.le_of_ble_eq_true rfl) ?_
  have hC := pC_le hV
  have hN := hV.N
  have hT := hV.T
  have hSc := hV.Sc
  refine G_aload_n d_X10_path_0 rfl ?_
  refine G_iconst d_X10_path_1 ?_
  refine G_putII fl_X10_1 d_X10_path_2 (wk_64 _) rfl ?_
  have hQ0 : KQ s m (upm m 64 0 0) := (KQ.refl hI).fld rfl
  generalize upm m 64 0 0 = m0 at hQ0 ⊢
  refine G_aload_n d_X10_path_5 rfl ?_
  refine G_iload_n d_X10_path_6 rfl ?_
  refine G_callV1 cl_X10_159 rfl d_X10_path_7 (wk_64 _) (Nat.le_of_ble_eq_true rfl) (by decide) (sp_MisPath s hV hQ0.2.1 hQ0.2.2.1 a hra) ?_
  rintro _ _ ⟨rfl, rfl⟩
  by_cases hp : 0 ≤ a ∧ a < pC s
  · rw [if_pos hp]
    obtain ⟨p, rfl⟩ : ∃ n : Nat, a = (n : Int) := ⟨a.toNat, by omega⟩
    refine G_if_ne 15 d_X10_path_10 (by decide) (by decide) (fun _ => ?_) (fun hd => absurd hd (by decide))
    refine G_iload_n d_X10_path_15 rfl ?_
    refine G_if_ne 25 d_X10_path_16 (by decide) (by omega) (fun c16 => ?_) (fun c16 => ?_)
    · refine G_iload_n d_X10_path_25 rfl ?_
      refine G_iconst d_X10_path_26 ?_
      refine G_icmp_ne 40 d_X10_path_27 (by decide) (by omega) (by omega) (fun c27 => ?_) (fun c27 => ?_)
      · refine G_iload_n d_X10_path_40 rfl ?_
        refine G_iconst d_X10_path_41 ?_
        refine G_icmp_ne 55 d_X10_path_42 (by decide) (by omega) (by omega) (fun c42 => ?_) (fun c42 => ?_)
        · refine G_iload_n d_X10_path_55 rfl ?_
          refine G_iconst d_X10_path_56 ?_
          refine G_icmp_ne 70 d_X10_path_57 (by decide) (by omega) (by omega) (fun c57 => ?_) (fun c57 => ?_)
          · refine G_iload_n d_X10_path_70 rfl ?_
            refine G_iconst d_X10_path_71 ?_
            refine G_icmp_ne 81 d_X10_path_72 (by decide) (by omega) (by omega) (fun c72 => ?_) (fun c72 => ?_)
            · refine G_iload_n d_X10_path_81 rfl ?_
              refine G_iconst d_X10_path_82 ?_
              refine G_icmp_ne 92 d_X10_path_83 (by decide) (by omega) (by omega) (fun c83 => ?_) (fun c83 => ?_)
              · refine G_iload_n d_X10_path_92 rfl ?_
                refine G_bipush d_X10_path_93 (by decide) ?_
                refine G_icmp_ne 108 d_X10_path_95 (by decide) (by omega) (by omega) (fun c95 => ?_) (fun c95 => ?_)
                · refine G_iload_n d_X10_path_108 rfl ?_
                  refine G_bipush d_X10_path_109 (by decide) ?_
                  refine G_icmp_ne 122 d_X10_path_111 (by decide) (by omega) (by omega) (fun c111 => ?_) (fun c111 => ?_)
                  · refine G_iload_n d_X10_path_122 rfl ?_
                    refine G_bipush d_X10_path_123 (by decide) ?_
                    refine G_icmp_ne 140 d_X10_path_125 (by decide) (by omega) (by omega) (fun c125 => ?_) (fun c125 => ?_)
                    · refine G_iconst d_X10_path_140 ?_
                      refine G_iret (mc := 0) (ms := 0) (st := []) d_X10_path_141 rfl ?_
                      exact ⟨Eq.symm (by unfold vPath; rw [if_pos hp]; rw [if_neg (by omega)]; rw [if_neg (by omega)]; rw [if_neg (by omega)]; rw [if_neg (by omega)]; rw [if_neg (by omega)]; rw [if_neg (by omega)]; rw [if_neg (by omega)]; rw [if_neg (by omega)]; rw [if_neg (by omega)]; (first | done | rfl | (rfl))), m0, rfl, hQ0⟩
                    · refine G_aload_n d_X10_path_128 rfl ?_
                      refine G_aload_n d_X10_path_129 rfl ?_
                      refine G_iload_n d_X10_path_130 rfl ?_
                      refine G_callV1 cl_X10_245 rfl d_X10_path_131 (wk_64 _) (Nat.le_of_ble_eq_true rfl) (by decide) (sp_MisGone s hV hQ0.2.1 hQ0.2.2.1 p (by omega)) ?_
                      rintro _ _ ⟨rfl, rfl⟩
                      refine G_callV1 cl_X10_310 rfl d_X10_path_134 (wk_64 _) (Nat.le_of_ble_eq_true rfl) (by decide) (sp_Mone (by by_cases hz : pGone s p = true <;> simp [hz])) ?_
                      rintro _ _ ⟨rfl, rfl⟩
                      refine G_goto 141 d_X10_path_137 (by decide) ?_
                      refine G_iret (mc := 0) (ms := 0) (st := []) d_X10_path_141 rfl ?_
                      exact ⟨Eq.symm (by unfold vPath; rw [if_pos hp]; rw [if_neg (by omega)]; rw [if_neg (by omega)]; rw [if_neg (by omega)]; rw [if_neg (by omega)]; rw [if_neg (by omega)]; rw [if_neg (by omega)]; rw [if_neg (by omega)]; rw [if_neg (by omega)]; rw [if_pos (by omega)]; (first | done | rfl | (rfl))), m0, rfl, hQ0⟩
                  · refine G_aload_n d_X10_path_114 rfl ?_
                    refine G_iload_n d_X10_path_115 rfl ?_
                    refine G_callV1 cl_X10_121 rfl d_X10_path_116 (wk_64 _) (Nat.le_of_ble_eq_true rfl) (by decide) (sp_Mweighs s hV hQ0.2.1 hQ0.2.2.1 p (by omega)) ?_
                    rintro _ _ ⟨rfl, rfl⟩
                    refine G_goto 141 d_X10_path_119 (by decide) ?_
                    refine G_iret (mc := 0) (ms := 0) (st := []) d_X10_path_141 rfl ?_
                    exact ⟨Eq.symm (by unfold vPath; rw [if_pos hp]; rw [if_neg (by omega)]; rw [if_neg (by omega)]; rw [if_neg (by omega)]; rw [if_neg (by omega)]; rw [if_neg (by omega)]; rw [if_neg (by omega)]; rw [if_neg (by omega)]; rw [if_pos (by omega)]; (first | done | rfl | (rfl))), m0, rfl, hQ0⟩
                · refine G_aload_n d_X10_path_98 rfl ?_
                  refine G_aload_n d_X10_path_99 rfl ?_
                  refine G_iload_n d_X10_path_100 rfl ?_
                  refine G_callV1 cl_X10_118 rfl d_X10_path_101 (wk_64 _) (Nat.le_of_ble_eq_true rfl) (by decide) (sp_MisSpoiled s hV hQ0.2.1 hQ0.2.2.1 p (by omega)) ?_
                  rintro _ _ ⟨rfl, rfl⟩
                  refine G_callV1 cl_X10_310 rfl d_X10_path_104 (wk_64 _) (Nat.le_of_ble_eq_true rfl) (by decide) (sp_Mone (by by_cases hz : pSp s p = 0 <;> simp [hz])) ?_
                  rintro _ _ ⟨rfl, rfl⟩
                  refine G_iret (mc := 0) (ms := 0) (st := []) d_X10_path_107 rfl ?_
                  exact ⟨Eq.symm (by unfold vPath; rw [if_pos hp]; rw [if_neg (by omega)]; rw [if_neg (by omega)]; rw [if_neg (by omega)]; rw [if_neg (by omega)]; rw [if_neg (by omega)]; rw [if_neg (by omega)]; rw [if_pos (by omega)]; (first | done | rfl | (unfold b1; simp))), m0, rfl, hQ0⟩
              · refine G_aload_n d_X10_path_86 rfl ?_
                refine G_iload_n d_X10_path_87 rfl ?_
                refine G_callV1 cl_X10_320 rfl d_X10_path_88 (wk_64 _) (Nat.le_of_ble_eq_true rfl) (by decide) (sp_MgreatestOrder s hV hQ0.2.1 hQ0.2.2.1 p (by omega)) ?_
                rintro _ _ ⟨rfl, rfl⟩
                refine G_iret (mc := 0) (ms := 0) (st := []) d_X10_path_91 rfl ?_
                exact ⟨Eq.symm (by unfold vPath; rw [if_pos hp]; rw [if_neg (by omega)]; rw [if_neg (by omega)]; rw [if_neg (by omega)]; rw [if_neg (by omega)]; rw [if_neg (by omega)]; rw [if_pos (by omega)]; (first | done | rfl | (rfl))), m0, rfl, hQ0⟩
            · refine G_aload_n d_X10_path_75 rfl ?_
              refine G_iload_n d_X10_path_76 rfl ?_
              refine G_callV1 cl_X10_317 rfl d_X10_path_77 (wk_64 _) (Nat.le_of_ble_eq_true rfl) (by decide) (sp_MchangesOf s hV hQ0.2.1 hQ0.2.2.1 p (by omega)) ?_
              rintro _ _ ⟨rfl, rfl⟩
              refine G_iret (mc := 0) (ms := 0) (st := []) d_X10_path_80 rfl ?_
              exact ⟨Eq.symm (by unfold vPath; rw [if_pos hp]; rw [if_neg (by omega)]; rw [if_neg (by omega)]; rw [if_neg (by omega)]; rw [if_neg (by omega)]; rw [if_pos (by omega)]; (first | done | rfl | (rfl))), m0, rfl, hQ0⟩
          · refine G_aload_n d_X10_path_60 rfl ?_
            refine G_aload_n d_X10_path_61 rfl ?_
            refine G_iload_n d_X10_path_62 rfl ?_
            refine G_callV1 cl_X10_254 rfl d_X10_path_63 (wk_64 _) (Nat.le_of_ble_eq_true rfl) (by decide) (sp_MisLeak s hV hQ0.2 p (by omega)) ?_
            rintro _ _ ⟨rfl, m2, rfl, h2⟩
            refine G_callV1 cl_X10_310 rfl d_X10_path_66 (wk_64 _) (Nat.le_of_ble_eq_true rfl) (by decide) (sp_Mone (by by_cases hz : pLeak s p = true <;> simp [hz])) ?_
            rintro _ _ ⟨rfl, rfl⟩
            refine G_iret (mc := 0) (ms := 0) (st := []) d_X10_path_69 rfl ?_
            exact ⟨Eq.symm (by unfold vPath; rw [if_pos hp]; rw [if_neg (by omega)]; rw [if_neg (by omega)]; rw [if_neg (by omega)]; rw [if_pos (by omega)]; (first | done | rfl | (rfl))), m2, rfl, hQ0.trans h2⟩
        · refine G_aload_n d_X10_path_45 rfl ?_
          refine G_aload_n d_X10_path_46 rfl ?_
          refine G_iload_n d_X10_path_47 rfl ?_
          refine G_callV1 cl_X10_314 rfl d_X10_path_48 (wk_64 _) (Nat.le_of_ble_eq_true rfl) (by decide) (sp_MisFree s hV hQ0.2.1 hQ0.2.2.1 p (by omega)) ?_
          rintro _ _ ⟨rfl, rfl⟩
          refine G_callV1 cl_X10_310 rfl d_X10_path_51 (wk_64 _) (Nat.le_of_ble_eq_true rfl) (by decide) (sp_Mone (by by_cases hz : pMk s p = 2 <;> simp [hz])) ?_
          rintro _ _ ⟨rfl, rfl⟩
          refine G_iret (mc := 0) (ms := 0) (st := []) d_X10_path_54 rfl ?_
          exact ⟨Eq.symm (by unfold vPath; rw [if_pos hp]; rw [if_neg (by omega)]; rw [if_neg (by omega)]; rw [if_pos (by omega)]; (first | done | rfl | (unfold b1; simp))), m0, rfl, hQ0⟩
      · refine G_aload_n d_X10_path_30 rfl ?_
        refine G_aload_n d_X10_path_31 rfl ?_
        refine G_iload_n d_X10_path_32 rfl ?_
        refine G_callV1 cl_X10_104 rfl d_X10_path_33 (wk_64 _) (Nat.le_of_ble_eq_true rfl) (by decide) (sp_MisWished s hV hQ0.2.1 hQ0.2.2.1 p (by omega)) ?_
        rintro _ _ ⟨rfl, rfl⟩
        refine G_callV1 cl_X10_310 rfl d_X10_path_36 (wk_64 _) (Nat.le_of_ble_eq_true rfl) (by decide) (sp_Mone (by by_cases hz : pMk s p = 1 <;> simp [hz])) ?_
        rintro _ _ ⟨rfl, rfl⟩
        refine G_iret (mc := 0) (ms := 0) (st := []) d_X10_path_39 rfl ?_
        exact ⟨Eq.symm (by unfold vPath; rw [if_pos hp]; rw [if_neg (by omega)]; rw [if_pos (by omega)]; (first | done | rfl | (unfold b1; simp))), m0, rfl, hQ0⟩
    · refine G_aload_n d_X10_path_19 rfl ?_
      refine G_iload_n d_X10_path_20 rfl ?_
      refine G_callV1 cl_X10_251 rfl d_X10_path_21 (wk_64 _) (Nat.le_of_ble_eq_true rfl) (by decide) (sp_MstateOf s hV hQ0.2 p (by omega)) ?_
      rintro _ _ ⟨rfl, m2, rfl, h2⟩
      refine G_iret (mc := 0) (ms := 0) (st := []) d_X10_path_24 rfl ?_
      exact ⟨Eq.symm (by unfold vPath; rw [if_pos hp]; rw [if_pos (by omega)]; (first | done | rfl | (rfl))), m2, rfl, hQ0.trans h2⟩
  · rw [if_neg hp]
    refine G_if_ne 15 d_X10_path_10 (by decide) (by decide) (fun hd => absurd hd (by decide)) (fun _ => ?_)
    refine G_iconst d_X10_path_13 ?_
    refine G_iret (mc := 0) (ms := 0) (st := []) d_X10_path_14 rfl ?_
    exact ⟨by unfold vPath; rw [if_neg (fun h => hp h)], m0, rfl, hQ0⟩
theorem cntB_mono (f : Nat → Bool) {j n : Nat} (h : j ≤ n) : cntB f j ≤ cntB f n := by
  induction n with
  | zero => rw [show j = 0 by omega]; exact Nat.le_refl _
  | succ n ih =>
    by_cases e : j = n + 1
    · rw [e]; exact Nat.le_refl _
    · have := ih (by omega)
      show _ ≤ cntB f n + _
      omega
theorem firstB_nthT {f : Nat → Bool} {n p : Nat} {i : Int} (hp : p < n) (hf : f p = true) (hc : ((cntB f p : Nat) : Int) = i) : nthB f n i = p := by
  refine firstB_found p hp (fun j hj => ?_) (by simp [hf, hc])
  by_cases h : f j = true
  · have h1 : cntB f j < cntB f p := by
      have h2 := cntB_mono f (show j + 1 ≤ p by omega)
      rw [cntB_t h] at h2
      omega
    simp only [Bool.and_eq_false_iff]
    right
    simp
    omega
  · simp [h]
theorem nthB_none {f : Nat → Bool} {n : Nat} {i : Int} (h : ∀ p, p < n → f p = true → ((cntB f p : Nat) : Int) ≠ i) : nthB f n i = -1 := by
  refine firstB_none (fun j hj => ?_)
  by_cases hf : f j = true
  · simp only [Bool.and_eq_false_iff]
    right
    have := h j hj hf
    simpa using this
  · simp [hf]
theorem sp_Mleak {w : List KD} {m : Nat → Nat → Int} (s : Nat → Int) (hV : VS s) (hI : MI s m) (a : Int) (hra : -2147483648 ≤ a ∧ a < 2147483648) : Sp M_X10_leak 7 0 0 [rV 64, iV a] (WC ++ (WM ++ w), m) (fun r h => r = some (iV (vMem (pLeak s) (pC s) a)) ∧ ∃ m2, h = (WC ++ (WM ++ w), m2) ∧ KQ s m m2) := by
  refine Sp.ofG (ls := [rV 64, iV a, uV, uV]) (by decide +kernel) rfl (Nat.le_of_ble_eq_true rfl) ?_
  have hC := pC_le hV
  have hN := hV.N
  have hT := hV.T
  have hSc := hV.Sc
  have L : ¬ a = -1 → ∀ p : Nat, p ≤ pC s → ∀ m1, KQ s m m1 → (∀ q, q < p → pLeak s q = true → ((cntB (pLeak s) q : Nat) : Int) ≠ a) → G M_X10_leak 7 0 0 19 [rV 64, iV a, iV (cntB (pLeak s) p : Nat), iV (p : Int)] [] (WC ++ (WM ++ w), m1) (fun r h => r = some (iV (vMem (pLeak s) (pC s) a)) ∧ ∃ m2, h = (WC ++ (WM ++ w), m2) ∧ KQ s m m2) := by
    intro ha1
    refine loop_up (pC s) _ ?_
    intro p hp ih m1 h1 hno
    refine G_iload_n d_X10_leak_19 rfl ?_
    refine G_aload_n d_X10_leak_20 rfl ?_
    refine G_getIe (fl_X10_25.r) d_X10_leak_21 (wk_64 _) rfl (h1.2.2.1.1) ?_
    refine G_icmp_ge 55 d_X10_leak_24 (by decide) (by omega) (by omega) (fun c24 => ?_) (fun c24 => ?_)
    · refine G_iconst d_X10_leak_55 ?_
      refine G_iret (mc := 0) (ms := 0) (st := []) d_X10_leak_56 rfl ?_
      exact ⟨by unfold vMem; rw [if_neg ha1, nthB_none (fun q hq => hno q (by omega))], m1, rfl, h1⟩
    · refine G_aload_n d_X10_leak_27 rfl ?_
      refine G_iload_n d_X10_leak_28 rfl ?_
      refine G_callV1 cl_X10_254 rfl d_X10_leak_29 (wk_64 _) (Nat.le_of_ble_eq_true rfl) (by decide) (sp_MisLeak s hV h1.2 p (by omega)) ?_
      rintro _ _ ⟨rfl, m2, rfl, h2⟩
      have h2 := h1.trans h2
      have hcl := cntB_le (pLeak s) p
      by_cases hl : pLeak s p = true
      · rw [if_pos hl]
        refine G_if_ne 38 d_X10_leak_32 (by decide) (by decide) (fun _ => ?_) (fun hd => absurd hd (by decide))
        refine G_iload_n d_X10_leak_38 rfl ?_
        refine G_iload_n d_X10_leak_39 rfl ?_
        refine G_icmp_ne 45 d_X10_leak_40 (by decide) (by omega) (by omega) (fun c40 => ?_) (fun c40 => ?_)
        · refine G_iload_n d_X10_leak_45 rfl ?_
          refine G_iconst d_X10_leak_46 ?_
          refine G_iadd d_X10_leak_47 ?_
          refine G_istore_n d_X10_leak_48 (by decide) rfl ?_
          refine G_iinc d_X10_leak_49 rfl (by decide) rfl ?_
          refine G_goto 19 d_X10_leak_52 (by decide) ?_
          rw [cntB_t hl] at ih
          exact ih (by omega) m2 h2 (fun q hq hf => by
            by_cases e : q = p
            · subst e; omega
            · exact hno q (by omega) hf)
        · refine G_iload_n d_X10_leak_43 rfl ?_
          refine G_iret (mc := 0) (ms := 0) (st := []) d_X10_leak_44 rfl ?_
          exact ⟨by unfold vMem; rw [if_neg ha1, firstB_nthT (show p < pC s by omega) hl (by omega)], m2, rfl, h2⟩
      · rw [if_neg hl]
        refine G_if_ne 38 d_X10_leak_32 (by decide) (by decide) (fun hd => absurd hd (by decide)) (fun _ => ?_)
        refine G_goto 49 d_X10_leak_35 (by decide) ?_
        refine G_iinc d_X10_leak_49 rfl (by decide) rfl ?_
        refine G_goto 19 d_X10_leak_52 (by decide) ?_
        rw [cntB_f (by simpa using hl)] at ih
        exact ih (by omega) m2 h2 (fun q hq hf => by
          by_cases e : q = p
          · subst e; exact absurd hf hl
          · exact hno q (by omega) hf)
  refine G_aload_n d_X10_leak_0 rfl ?_
  refine G_iconst d_X10_leak_1 ?_
  refine G_putII fl_X10_1 d_X10_leak_2 (wk_64 _) rfl ?_
  have hQ0 : KQ s m (upm m 64 0 0) := (KQ.refl hI).fld rfl
  generalize upm m 64 0 0 = m0 at hQ0 ⊢
  refine G_iload_n d_X10_leak_5 rfl ?_
  refine G_iconst d_X10_leak_6 ?_
  refine G_icmp_ne 15 d_X10_leak_7 (by decide) (by omega) (by omega) (fun c7 => ?_) (fun c7 => ?_)
  · refine G_iconst d_X10_leak_15 ?_
    refine G_istore_n d_X10_leak_16 (by decide) rfl ?_
    refine G_iconst d_X10_leak_17 ?_
    refine G_istore_n d_X10_leak_18 (by decide) rfl ?_
    exact L (by omega) 0 (by omega) m0 hQ0 (fun q hq => absurd hq (by omega))
  · refine G_aload_n d_X10_leak_10 rfl ?_
    refine G_callV0 cl_X10_323 rfl d_X10_leak_11 (wk_64 _) (Nat.le_of_ble_eq_true rfl) (by decide) (sp_Mleaks s hV hQ0.2) ?_
    rintro _ _ ⟨rfl, m2, rfl, h2⟩
    refine G_iret (mc := 0) (ms := 0) (st := []) d_X10_leak_14 rfl ?_
    exact ⟨by unfold vMem; rw [if_pos (by omega)], m2, rfl, hQ0.trans h2⟩
theorem sp_Mlost {w : List KD} {m : Nat → Nat → Int} (s : Nat → Int) (hV : VS s) (hI : MI s m) (a : Int) (hra : -2147483648 ≤ a ∧ a < 2147483648) : Sp M_X10_lost 7 0 0 [rV 64, iV a] (WC ++ (WM ++ w), m) (fun r h => r = some (iV (vMem (pLost s) (pC s) a)) ∧ ∃ m2, h = (WC ++ (WM ++ w), m2) ∧ KQ s m m2) := by
  refine Sp.ofG (ls := [rV 64, iV a, uV, uV]) (by decide +kernel) rfl (Nat.le_of_ble_eq_true rfl) ?_
  have hC := pC_le hV
  have hN := hV.N
  have hT := hV.T
  have hSc := hV.Sc
  have L : ¬ a = -1 → ∀ p : Nat, p ≤ pC s → ∀ m1, KQ s m m1 → (∀ q, q < p → pLost s q = true → ((cntB (pLost s) q : Nat) : Int) ≠ a) → G M_X10_lost 7 0 0 19 [rV 64, iV a, iV (cntB (pLost s) p : Nat), iV (p : Int)] [] (WC ++ (WM ++ w), m1) (fun r h => r = some (iV (vMem (pLost s) (pC s) a)) ∧ ∃ m2, h = (WC ++ (WM ++ w), m2) ∧ KQ s m m2) := by
    intro ha1
    refine loop_up (pC s) _ ?_
    intro p hp ih m1 h1 hno
    refine G_iload_n d_X10_lost_19 rfl ?_
    refine G_aload_n d_X10_lost_20 rfl ?_
    refine G_getIe (fl_X10_25.r) d_X10_lost_21 (wk_64 _) rfl (h1.2.2.1.1) ?_
    refine G_icmp_ge 55 d_X10_lost_24 (by decide) (by omega) (by omega) (fun c24 => ?_) (fun c24 => ?_)
    · refine G_iconst d_X10_lost_55 ?_
      refine G_iret (mc := 0) (ms := 0) (st := []) d_X10_lost_56 rfl ?_
      exact ⟨by unfold vMem; rw [if_neg ha1, nthB_none (fun q hq => hno q (by omega))], m1, rfl, h1⟩
    · refine G_aload_n d_X10_lost_27 rfl ?_
      refine G_iload_n d_X10_lost_28 rfl ?_
      refine G_callV1 cl_X10_257 rfl d_X10_lost_29 (wk_64 _) (Nat.le_of_ble_eq_true rfl) (by decide) (sp_MisLost s hV h1.2 p (by omega)) ?_
      rintro _ _ ⟨rfl, m2, rfl, h2⟩
      have h2 := h1.trans h2
      have hcl := cntB_le (pLost s) p
      by_cases hl : pLost s p = true
      · rw [if_pos hl]
        refine G_if_ne 38 d_X10_lost_32 (by decide) (by decide) (fun _ => ?_) (fun hd => absurd hd (by decide))
        refine G_iload_n d_X10_lost_38 rfl ?_
        refine G_iload_n d_X10_lost_39 rfl ?_
        refine G_icmp_ne 45 d_X10_lost_40 (by decide) (by omega) (by omega) (fun c40 => ?_) (fun c40 => ?_)
        · refine G_iload_n d_X10_lost_45 rfl ?_
          refine G_iconst d_X10_lost_46 ?_
          refine G_iadd d_X10_lost_47 ?_
          refine G_istore_n d_X10_lost_48 (by decide) rfl ?_
          refine G_iinc d_X10_lost_49 rfl (by decide) rfl ?_
          refine G_goto 19 d_X10_lost_52 (by decide) ?_
          rw [cntB_t hl] at ih
          exact ih (by omega) m2 h2 (fun q hq hf => by
            by_cases e : q = p
            · subst e; omega
            · exact hno q (by omega) hf)
        · refine G_iload_n d_X10_lost_43 rfl ?_
          refine G_iret (mc := 0) (ms := 0) (st := []) d_X10_lost_44 rfl ?_
          exact ⟨by unfold vMem; rw [if_neg ha1, firstB_nthT (show p < pC s by omega) hl (by omega)], m2, rfl, h2⟩
      · rw [if_neg hl]
        refine G_if_ne 38 d_X10_lost_32 (by decide) (by decide) (fun hd => absurd hd (by decide)) (fun _ => ?_)
        refine G_goto 49 d_X10_lost_35 (by decide) ?_
        refine G_iinc d_X10_lost_49 rfl (by decide) rfl ?_
        refine G_goto 19 d_X10_lost_52 (by decide) ?_
        rw [cntB_f (by simpa using hl)] at ih
        exact ih (by omega) m2 h2 (fun q hq hf => by
          by_cases e : q = p
          · subst e; exact absurd hf hl
          · exact hno q (by omega) hf)
  refine G_aload_n d_X10_lost_0 rfl ?_
  refine G_iconst d_X10_lost_1 ?_
  refine G_putII fl_X10_1 d_X10_lost_2 (wk_64 _) rfl ?_
  have hQ0 : KQ s m (upm m 64 0 0) := (KQ.refl hI).fld rfl
  generalize upm m 64 0 0 = m0 at hQ0 ⊢
  refine G_iload_n d_X10_lost_5 rfl ?_
  refine G_iconst d_X10_lost_6 ?_
  refine G_icmp_ne 15 d_X10_lost_7 (by decide) (by omega) (by omega) (fun c7 => ?_) (fun c7 => ?_)
  · refine G_iconst d_X10_lost_15 ?_
    refine G_istore_n d_X10_lost_16 (by decide) rfl ?_
    refine G_iconst d_X10_lost_17 ?_
    refine G_istore_n d_X10_lost_18 (by decide) rfl ?_
    exact L (by omega) 0 (by omega) m0 hQ0 (fun q hq => absurd hq (by omega))
  · refine G_aload_n d_X10_lost_10 rfl ?_
    refine G_callV0 cl_X10_326 rfl d_X10_lost_11 (wk_64 _) (Nat.le_of_ble_eq_true rfl) (by decide) (sp_Mlosts s hV hQ0.2) ?_
    rintro _ _ ⟨rfl, m2, rfl, h2⟩
    refine G_iret (mc := 0) (ms := 0) (st := []) d_X10_lost_14 rfl ?_
    exact ⟨by unfold vMem; rw [if_pos (by omega)], m2, rfl, hQ0.trans h2⟩
theorem sp_Mearly {w : List KD} {m : Nat → Nat → Int} (s : Nat → Int) (hV : VS s) (hI : MI s m) (a : Int) (hra : -2147483648 ≤ a ∧ a < 2147483648) (b : Int) (hrb : -2147483648 ≤ b ∧ b < 2147483648) : Sp M_X10_early 4 0 0 [rV 64, iV a, iV b] (WC ++ (WM ++ w), m) (fun r h => r = some (iV (vEarly s a b)) ∧ ∃ m2, h = (WC ++ (WM ++ w), m2) ∧ KQ s m m2) := by
  refine Sp.ofG (ls := [rV 64, iV a, iV b]) (by decide +kernel) rfl (Nat.le_of_ble_eq_true rfl) ?_
  have hC := pC_le hV
  have hN := hV.N
  have hT := hV.T
  have hSc := hV.Sc
  refine G_aload_n d_X10_early_0 rfl ?_
  refine G_iconst d_X10_early_1 ?_
  refine G_putII fl_X10_1 d_X10_early_2 (wk_64 _) rfl ?_
  have hQ0 : KQ s m (upm m 64 0 0) := (KQ.refl hI).fld rfl
  generalize upm m 64 0 0 = m0 at hQ0 ⊢
  refine G_aload_n d_X10_early_5 rfl ?_
  refine G_iload_n d_X10_early_6 rfl ?_
  refine G_callV1 cl_X10_159 rfl d_X10_early_7 (wk_64 _) (Nat.le_of_ble_eq_true rfl) (by decide) (sp_MisPath s hV hQ0.2.1 hQ0.2.2.1 a hra) ?_
  rintro _ _ ⟨rfl, rfl⟩
  by_cases hp : 0 ≤ a ∧ a < pC s
  · rw [if_pos hp]
    obtain ⟨p, rfl⟩ : ∃ n : Nat, a = (n : Int) := ⟨a.toNat, by omega⟩
    refine G_if_eq 26 d_X10_early_10 (by decide) (by decide) (fun hd => absurd hd (by decide)) (fun _ => ?_)
    refine G_aload_n d_X10_early_13 rfl ?_
    refine G_iload_n d_X10_early_14 rfl ?_
    refine G_iconst d_X10_early_15 ?_
    refine G_aload_n d_X10_early_16 rfl ?_
    refine G_callV0 cl_X10_142 rfl d_X10_early_17 (wk_64 _) (Nat.le_of_ble_eq_true rfl) (by decide) (sp_Mscans s hV hQ0.2.1) ?_
    rintro _ _ ⟨rfl, rfl⟩
    refine G_callV3 cl_X10_124 rfl d_X10_early_20 (wk_64 _) (Nat.le_of_ble_eq_true rfl) (by decide) (sp_MisIn b hrb 1 (by omega) (pSc s) (by omega)) ?_
    rintro _ _ ⟨rfl, rfl⟩
    by_cases hr : 1 ≤ b ∧ b ≤ (pSc s : Int)
    · rw [if_pos hr]
      obtain ⟨n, rfl⟩ : ∃ n : Nat, b = (n : Int) := ⟨b.toNat, by omega⟩
      refine G_if_ne 28 d_X10_early_23 (by decide) (by decide) (fun _ => ?_) (fun hd => absurd hd (by decide))
      refine G_aload_n d_X10_early_28 rfl ?_
      refine G_callV0 cl_X10_236 rfl d_X10_early_29 (wk_64 _) (Nat.le_of_ble_eq_true rfl) (by decide) (sp_MlaysPhases s hV hQ0.2.1 hQ0.2.2.1) ?_
      rintro _ _ ⟨rfl, m1, rfl, hm1, hH⟩
      have hQ1 := hQ0.scr1 70 rfl hm1
      refine G_aload_n d_X10_early_32 rfl ?_
      refine G_iload_n d_X10_early_33 rfl ?_
      refine G_iload_n d_X10_early_34 rfl ?_
      refine G_callV2 cl_X10_239 rfl d_X10_early_35 (wk_64 _) (Nat.le_of_ble_eq_true rfl) (by decide) (sp_McountsFirst s hV hQ1.2.1 hQ1.2.2.1 (pSc s) p (n) hH (by omega) (by omega) (by omega)) ?_
      rintro _ _ ⟨rfl, m2, rfl, hm2, hc2⟩
      have hQ2 := hQ1.scr1 71 rfl hm2
      refine G_aload_n d_X10_early_38 rfl ?_
      refine G_callV0 cl_X10_242 rfl d_X10_early_39 (wk_64 _) (Nat.le_of_ble_eq_true rfl) (by decide) (sp_MstateNow s hV hQ2.2.1 (pCnt s p n) hQ2.2.2.2.1 hc2 (fun r _ => by have := pCnt_rng s p n r; omega)) ?_
      rintro _ _ ⟨rfl, m3, rfl, hm3⟩
      refine G_iret (mc := 0) (ms := 0) (st := []) d_X10_early_42 rfl ?_
      exact ⟨by unfold vEarly; rw [if_pos ⟨hp, hr⟩]; rfl, m3, rfl, hQ2.scr1 73 rfl hm3⟩
    · rw [if_neg hr]
      refine G_if_ne 28 d_X10_early_23 (by decide) (by decide) (fun hd => absurd hd (by decide)) (fun _ => ?_)
      refine G_iconst d_X10_early_26 ?_
      refine G_iret (mc := 0) (ms := 0) (st := []) d_X10_early_27 rfl ?_
      exact ⟨by unfold vEarly; rw [if_neg (fun h => hr h.2)], m0, rfl, hQ0⟩
  · rw [if_neg hp]
    refine G_if_eq 26 d_X10_early_10 (by decide) (by decide) (fun _ => ?_) (fun hd => absurd hd (by decide))
    refine G_iconst d_X10_early_26 ?_
    refine G_iret (mc := 0) (ms := 0) (st := []) d_X10_early_27 rfl ?_
    exact ⟨by unfold vEarly; rw [if_neg (fun h => hp h.1)], m0, rfl, hQ0⟩
theorem sp_Muntil {w : List KD} {m : Nat → Nat → Int} (s : Nat → Int) (hV : VS s) (hI : MI s m) (a : Int) (hra : -2147483648 ≤ a ∧ a < 2147483648) (b : Int) (hrb : -2147483648 ≤ b ∧ b < 2147483648) : Sp M_X10_until 4 0 0 [rV 64, iV a, iV b] (WC ++ (WM ++ w), m) (fun r h => r = some (iV (vUntil s a b)) ∧ ∃ m2, h = (WC ++ (WM ++ w), m2) ∧ KQ s m m2) := by
  refine Sp.ofG (ls := [rV 64, iV a, iV b, uV, uV, uV]) (by decide +kernel) rfl (Nat.le_of_ble_eq_true rfl) ?_
  have hC := pC_le hV
  have hN := hV.N
  have hT := hV.T
  have hSc := hV.Sc
  have L : ∀ p n : Nat, p < pC s → 1 ≤ n → n ≤ pSc s → ∀ t : Nat, t ≤ pSc s → n ≤ t + 1 → ∀ m1, KQ s m m1 → PH s (pSc s) m1 → CN (pCnt s p t) m1 → (∀ j, j < t → untB s p n j = false) → G M_X10_until 4 0 0 47 [rV 64, iV (p : Int), iV (n : Int), iV (pSc s : Int), iV (t : Int), uV] [] (WC ++ (WM ++ w), m1) (fun r h => r = some (iV (fst1 (firstB (untB s p n) (pSc s)))) ∧ ∃ m2, h = (WC ++ (WM ++ w), m2) ∧ KQ s m m2) := by
    intro p n hp hn1 hn2
    refine loop_up (pSc s) _ ?_
    intro t ht ih hnt m1 hQ1 hH hc hno
    refine G_iload d_X10_until_47 rfl ?_
    refine G_iload_n d_X10_until_49 rfl ?_
    refine G_icmp_ge 96 d_X10_until_50 (by decide) (by omega) (by omega) (fun c50 => ?_) (fun c50 => ?_)
    · refine G_iconst d_X10_until_96 ?_
      refine G_iret (mc := 0) (ms := 0) (st := []) d_X10_until_97 rfl ?_
      exact ⟨by rw [firstB_none (fun j hj => hno j (by omega))]; rfl, m1, rfl, hQ1⟩
    · refine G_aload_n d_X10_until_53 rfl ?_
      refine G_iload_n d_X10_until_54 rfl ?_
      refine G_iload d_X10_until_55 rfl ?_
      refine G_callV2 cl_X10_233 rfl d_X10_until_57 (wk_64 _) (Nat.le_of_ble_eq_true rfl) (by decide) (sp_Mres s hV hQ1.2.1 hQ1.2.2.1 (pSc s) p t hH (by omega) (by omega) (by omega)) ?_
      rintro _ _ ⟨rfl, rfl⟩
      have hrl := pRes_lt hV p t
      refine G_istore d_X10_until_60 (by decide) rfl ?_
      refine G_aload_n d_X10_until_62 rfl ?_
      refine G_getR (r := 71) (fl_X10_57.r) d_X10_until_63 (wk_64 _) rfl rfl ?_
      refine G_iload d_X10_until_66 rfl ?_
      refine G_aload_n d_X10_until_68 rfl ?_
      refine G_getR (r := 71) (fl_X10_57.r) d_X10_until_69 (wk_64 _) rfl rfl ?_
      refine G_iload d_X10_until_72 rfl ?_
      refine G_ialdj (pRes s p t) d_X10_until_74 (wk_71 _) (by omega) (by omega) (by decide) ?_
      refine G_iconst d_X10_until_75 ?_
      refine G_iadd d_X10_until_76 ?_
      refine G_iastj (pRes s p t) d_X10_until_77 (wk_71 _) (by omega) (by omega) (by decide) ?_
      have hc2 := hc.step hV (p := p) (t := t)
      have hQ2 : KQ s m (upm m1 71 (pRes s p t) (m1 71 (pRes s p t) + 1)) := hQ1.up rfl
      refine G_aload_n d_X10_until_78 rfl ?_
      refine G_callV0 cl_X10_227 rfl d_X10_until_79 (wk_64 _) (Nat.le_of_ble_eq_true rfl) (by decide) (sp_MisNothing s hV hQ2.2.1 (pCnt s p (t + 1)) hQ2.2.2.2.1 hc2 (fun r _ => by have := pCnt_rng s p (t + 1) r; omega)) ?_
      rintro _ _ ⟨rfl, m3, rfl, hm3⟩
      have hQ3 := hQ2.scr1 73 rfl hm3
      by_cases hn : allN (fun a => Bf (pT s) (pCnt s p (t + 1)) a == 0) (pT s) = true
      · rw [if_pos hn]
        refine G_if_eq 90 d_X10_until_82 (by decide) (by decide) (fun hd => absurd hd (by decide)) (fun _ => ?_)
        refine G_iload d_X10_until_85 rfl ?_
        refine G_iconst d_X10_until_87 ?_
        refine G_iadd d_X10_until_88 ?_
        refine G_iret (mc := 0) (ms := 0) (st := []) d_X10_until_89 rfl ?_
        exact ⟨by rw [firstB_found t (by omega) hno (by unfold untB; rw [Bool.and_eq_true_iff]; exact ⟨by simpa using hnt, by simpa using stB_0.mpr hn⟩)]; unfold fst1; rw [if_neg (by omega)], m3, rfl, hQ3⟩
      · rw [if_neg hn]
        refine G_if_eq 90 d_X10_until_82 (by decide) (by decide) (fun _ => ?_) (fun hd => absurd hd (by decide))
        refine G_iinc d_X10_until_90 rfl (by decide) rfl ?_
        refine G_goto 47 d_X10_until_93 (by decide) ?_
        refine G.fg (ih (by omega) (by omega) m3 hQ3 (fun t2 h1 k2 h3 => by rw [hm3 70 (by decide), upm_off _ _ (by decide)]; exact hH t2 h1 k2 h3) (fun r hr => by rw [hm3 71 (by decide)]; exact hc2 r hr) (fun j hj => by
          by_cases e : j = t
          · subst e; unfold untB; simp only [Bool.and_eq_false_iff]; right; simpa using fun h => hn (stB_0.mp h)
          · exact hno j (by omega))) ?_
        repeat (first | exact trivial | refine wkL_cons (Or.inl rfl) ?_ | refine wkL_cons (Or.inr rfl) ?_)
  refine G_aload_n d_X10_until_0 rfl ?_
  refine G_iconst d_X10_until_1 ?_
  refine G_putII fl_X10_1 d_X10_until_2 (wk_64 _) rfl ?_
  have hQ0 : KQ s m (upm m 64 0 0) := (KQ.refl hI).fld rfl
  generalize upm m 64 0 0 = m0 at hQ0 ⊢
  refine G_aload_n d_X10_until_5 rfl ?_
  refine G_callV0 cl_X10_142 rfl d_X10_until_6 (wk_64 _) (Nat.le_of_ble_eq_true rfl) (by decide) (sp_Mscans s hV hQ0.2.1) ?_
  rintro _ _ ⟨rfl, rfl⟩
  refine G_istore_n d_X10_until_9 (by decide) rfl ?_
  refine G_aload_n d_X10_until_10 rfl ?_
  refine G_iload_n d_X10_until_11 rfl ?_
  refine G_callV1 cl_X10_159 rfl d_X10_until_12 (wk_64 _) (Nat.le_of_ble_eq_true rfl) (by decide) (sp_MisPath s hV hQ0.2.1 hQ0.2.2.1 a hra) ?_
  rintro _ _ ⟨rfl, rfl⟩
  by_cases hp : 0 ≤ a ∧ a < pC s
  · rw [if_pos hp]
    obtain ⟨p, rfl⟩ : ∃ n : Nat, a = (n : Int) := ⟨a.toNat, by omega⟩
    refine G_if_eq 28 d_X10_until_15 (by decide) (by decide) (fun hd => absurd hd (by decide)) (fun _ => ?_)
    refine G_aload_n d_X10_until_18 rfl ?_
    refine G_iload_n d_X10_until_19 rfl ?_
    refine G_iconst d_X10_until_20 ?_
    refine G_iload_n d_X10_until_21 rfl ?_
    refine G_callV3 cl_X10_124 rfl d_X10_until_22 (wk_64 _) (Nat.le_of_ble_eq_true rfl) (by decide) (sp_MisIn b hrb 1 (by omega) (pSc s) (by omega)) ?_
    rintro _ _ ⟨rfl, rfl⟩
    by_cases hr : 1 ≤ b ∧ b ≤ (pSc s : Int)
    · rw [if_pos hr]
      obtain ⟨n, rfl⟩ : ∃ n : Nat, b = (n : Int) := ⟨b.toNat, by omega⟩
      refine G_if_ne 30 d_X10_until_25 (by decide) (by decide) (fun _ => ?_) (fun hd => absurd hd (by decide))
      refine G_aload_n d_X10_until_30 rfl ?_
      refine G_callV0 cl_X10_236 rfl d_X10_until_31 (wk_64 _) (Nat.le_of_ble_eq_true rfl) (by decide) (sp_MlaysPhases s hV hQ0.2.1 hQ0.2.2.1) ?_
      rintro _ _ ⟨rfl, m1, rfl, hm1, hH⟩
      have hQ1 := hQ0.scr1 70 rfl hm1
      refine G_aload_n d_X10_until_34 rfl ?_
      refine G_iload_n d_X10_until_35 rfl ?_
      refine G_iload_n d_X10_until_36 rfl ?_
      refine G_iconst d_X10_until_37 ?_
      refine G_isub d_X10_until_38 ?_
      rw [show (n : Int) - 1 = ((n - 1 : Nat) : Int) by omega]
      refine G_callV2 cl_X10_239 rfl d_X10_until_39 (wk_64 _) (Nat.le_of_ble_eq_true rfl) (by decide) (sp_McountsFirst s hV hQ1.2.1 hQ1.2.2.1 (pSc s) p (n - 1) hH (by omega) (by omega) (by omega)) ?_
      rintro _ _ ⟨rfl, m2, rfl, hm2, hc2⟩
      have hQ2 := hQ1.scr1 71 rfl hm2
      have hcn : (n : Int) - 1 = ((n - 1 : Nat) : Int) := by omega
      refine G_iload_n d_X10_until_42 rfl ?_
      refine G_iconst d_X10_until_43 ?_
      refine G_isub d_X10_until_44 ?_
      refine G_istore d_X10_until_45 (by decide) rfl ?_
      rw [hcn]
      refine (L p n (by omega) (by omega) (by omega) (n - 1) (by omega) (by omega) m2 hQ2 (fun t2 h1 k2 h3 => by rw [hm2 70 (by decide)]; exact hH t2 h1 k2 h3) hc2 (fun j hj => by unfold untB; simp only [Bool.and_eq_false_iff]; left; simp; omega)).post ?_
      rintro _ _ ⟨rfl, m5, rfl, h5⟩
      exact ⟨by unfold vUntil; rw [if_pos ⟨hp, hr⟩]; rfl, m5, rfl, h5⟩
    · rw [if_neg hr]
      refine G_if_ne 30 d_X10_until_25 (by decide) (by decide) (fun hd => absurd hd (by decide)) (fun _ => ?_)
      refine G_iconst d_X10_until_28 ?_
      refine G_iret (mc := 0) (ms := 0) (st := []) d_X10_until_29 rfl ?_
      exact ⟨by unfold vUntil; rw [if_neg (fun h => hr h.2)], m0, rfl, hQ0⟩
  · rw [if_neg hp]
    refine G_if_eq 28 d_X10_until_15 (by decide) (by decide) (fun _ => ?_) (fun hd => absurd hd (by decide))
    refine G_iconst d_X10_until_28 ?_
    refine G_iret (mc := 0) (ms := 0) (st := []) d_X10_until_29 rfl ?_
    exact ⟨by unfold vUntil; rw [if_neg (fun h => hp h.1)], m0, rfl, hQ0⟩
