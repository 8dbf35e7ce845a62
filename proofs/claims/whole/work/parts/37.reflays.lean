theorem resF_pr {s : Nat → Int} (hV : VS s) : (resF s).1 ≠ -1 → prN s (resF s).2 = (resF s).1 := by
  unfold resF
  by_cases h : posb s = true
  · rw [if_pos h]
    refine run_inv (pN s) (D1 (pT s)) (stepF s) (fun a => a.1 ≠ -1 → prN s a.2 = a.1) 1 12 (fun d hd => ⟨(D1_mem hd).1, (D1_mem hd).2.1⟩) (fun a N hN ha => ?_) (pN s) (fun _ => 1) (-1, fun _ => 0) (fun k _ => ⟨by decide, by decide⟩) (fun h => absurd rfl h)
    unfold stepF
    by_cases c : (a.1 = -1 ∨ prN s N < a.1) ∧ okL s (lft s N) = true
    · rw [if_pos c]; intro _; rfl
    · rw [if_neg c]; exact ha
  · rw [if_neg h]; exact fun h => absurd rfl h
theorem resC_N {s : Nat → Int} {v : Nat × (Nat → Nat)} (h : resC s = some v) : 1 ≤ v.1 ∧ v.1 ≤ 12 ∧ pT s % v.1 = 0 ∧ ∀ k, k < pN s → v.2 k < v.1 := by
  unfold resC at h
  by_cases c : pC s ≤ 200 ∧ posb s = true
  · rw [if_pos c] at h
    obtain ⟨h1, h2, h3, h4⟩ := fndC_lt h
    refine ⟨h1, h2, h3, ?_⟩
    have key := run_inv (pN s) (D0 v.1) (stepC s v.1) (fun a => ∀ N, a = some N → ∀ k, k < pN s → 0 ≤ N k ∧ N k ≤ v.1 - 1) 0 (v.1 - 1) (fun d hd => by have := List.mem_range.mp hd; omega) (fun a N hN ha => by
      cases a with
      | some y => exact ha
      | none =>
        intro N2 hN2
        unfold stepC at hN2
        by_cases d : okc2 s v.1 N = true
        · simp only [if_pos d, Option.some.injEq] at hN2
          subst hN2
          exact hN
        · simp only [if_neg d] at hN2
          exact absurd hN2 (by simp)) (pN s) (fun _ => 0) none (fun k _ => ⟨Nat.le_refl 0, Nat.zero_le _⟩) (fun N hN => absurd hN (by simp))
    intro k hk
    have := key v.2 h4 k hk
    omega
  · rw [if_neg c] at h
    exact absurd h (by simp)
/-! what lay leaves -/
def jxN (N : Nat → Nat) (k : Nat) : Nat := cntB (fun i => N i != 1) k
def layFk (s : Nat → Int) (N : Nat → Nat) : Nat → (Nat → Int)
  | 0 => uClr s
  | k + 1 => if N k = 1 then layFk s N k else sU (sU (layFk s N k) (49 + jxN N k) ((N k : Int) - 1)) (53 + 4 * k + jxN N k) ((pT s / N k : Nat) : Int)
def layCk (s : Nat → Int) (l : Nat) (N : Nat → Nat) : Nat → (Nat → Int)
  | 0 => sU (uClr s) 49 ((l : Int) - 1)
  | k + 1 => sU (layCk s l N k) (53 + 4 * k) ((N k : Int) * ((pT s / l : Nat) : Int))
abbrev okLayF (s : Nat → Int) : Prop := (resF s).1 ≠ -1 ∧ jxN (resF s).2 (pN s) ≤ 4 ∧ (resF s).1 ≤ 512
def nxLay (s : Nat → Int) (w : Int) : Nat → Int := if w = 0 then (if okLayF s then layFk s (resF s).2 (pN s) else s) else if w = 1 then (if lC (resC s) ≠ -1 then layCk s (lC (resC s)).toNat (nCg (resC s)) (pN s) else s) else s
def vLay (s : Nat → Int) (w : Int) : Int := if w = 0 then (if okLayF s then (pSc (nxLay s w) : Int) else -1) else if w = 1 then (if lC (resC s) ≠ -1 then (pSc (nxLay s w) : Int) else -1) else -1
/-- what stays when a cycle is laid -/
def AL (s s2 : Nat → Int) : Prop := AP s s2 ∧ s2 2 = s 2 ∧ s2 3 = 0 ∧ ∀ i, (i < 49 ∧ i ≠ 3) ∨ 227 ≤ i → s2 i = s i
theorem AL_clr (s : Nat → Int) : AL s (uClr s) := by
  have e : ∀ i, (i < 49 ∧ i ≠ 3) ∨ 227 ≤ i → uClr s i = s i := fun i hi => by unfold uClr; rw [if_neg (by omega), if_neg (by omega)]
  exact ⟨⟨e 0 (by omega), e 1 (by omega), fun k hk => e _ (by omega)⟩, e 2 (by omega), rfl, e⟩
theorem AL.u {s s2 : Nat → Int} (h : AL s s2) {j : Nat} (x : Int) (h1 : 49 ≤ j) (h2 : j < 227) : AL s (sU s2 j x) := by
  obtain ⟨⟨a0, a1, a2⟩, a3, a4, a5⟩ := h
  exact ⟨⟨by rw [sU_ne _ _ (by omega)]; exact a0, by rw [sU_ne _ _ (by omega)]; exact a1, fun k hk => by rw [sU_ne _ _ (by omega)]; exact a2 k hk⟩, by rw [sU_ne _ _ (by omega)]; exact a3, by rw [sU_ne _ _ (by omega)]; exact a4, fun i hi => by rw [sU_ne _ _ (by omega)]; exact a5 i hi⟩
theorem AL.T {s s2 : Nat → Int} (h : AL s s2) : pT s2 = pT s := by unfold pT; rw [h.2.1]
theorem jxN_t {N : Nat → Nat} {k : Nat} (h : N k ≠ 1) : jxN N (k + 1) = jxN N k + 1 := cntB_t (f := fun i => N i != 1) (by simpa using h)
theorem jxN_f {N : Nat → Nat} {k : Nat} (h : N k = 1) : jxN N (k + 1) = jxN N k := cntB_f (f := fun i => N i != 1) (by simpa using h)
theorem jxN_mono {N : Nat → Nat} {j k : Nat} (h : j ≤ k) : jxN N j ≤ jxN N k := cntB_mono _ h
theorem prodN_mono {N : Nat → Nat} {n : Nat} (h : ∀ k, k < n → 1 ≤ N k) : ∀ j, j ≤ n → 1 ≤ prodN (fun k => (N k : Int)) j ∧ ∀ d, j + d ≤ n → prodN (fun k => (N k : Int)) j ≤ prodN (fun k => (N k : Int)) (j + d) := by
  have h1 : ∀ j, j ≤ n → 1 ≤ prodN (fun k => (N k : Int)) j := by
    intro j
    induction j with
    | zero => intro _; exact Int.le_refl 1
    | succ j ih =>
      intro hj
      have h2 := ih (by omega)
      have h3 := h j (by omega)
      have h4 := Int.mul_le_mul h2 (show (1 : Int) ≤ (N j : Int) by omega) (by decide) (by omega)
      unfold prodN
      simpa using h4
  refine fun j hj => ⟨h1 j hj, fun d => ?_⟩
  induction d with
  | zero => intro _; exact Int.le_refl _
  | succ d ih =>
    intro hd
    have h2 := ih (by omega)
    have h3 := h (j + d) (by omega)
    have h4 := h1 (j + d) (by omega)
    have h5 := Int.mul_le_mul_of_nonneg_left (show (1 : Int) ≤ (N (j + d) : Int) by omega) (show 0 ≤ prodN (fun k => (N k : Int)) (j + d) by omega)
    rw [← Nat.add_assoc]
    show _ ≤ prodN (fun k => (N k : Int)) (j + d) * (N (j + d) : Int)
    omega
theorem layFk_ok {s : Nat → Int} (hV : VS s) {N : Nat → Nat} (hN : ∀ k, k < pN s → 1 ≤ N k ∧ N k ≤ 12) (hj : jxN N (pN s) ≤ 4) (hp : prN s N ≤ 512) : ∀ k, k ≤ pN s → VS (layFk s N k) ∧ AL s (layFk s N k) ∧ (pSc (layFk s N k) : Int) = prodN (fun k => (N k : Int)) k ∧ ∀ j, jxN N k ≤ j → j < 4 → layFk s N k (49 + j) = 0 := by
  intro k
  have hNn := hV.N
  have hT := hV.T
  induction k with
  | zero =>
    intro _
    have e : ∀ j, j < 4 → uClr s (49 + j) = 0 := fun j hj => by unfold uClr; rw [if_neg (by omega), if_pos (by omega)]
    exact ⟨VS_clr hV, AL_clr s, by show ((pSc (uClr s) : Nat) : Int) = 1; rw [pSc_one e]; rfl, fun j _ hj => e j hj⟩
  | succ k ih =>
    intro hk
    obtain ⟨i1, i2, i3, i4⟩ := ih (by omega)
    have hNk := hN k (by omega)
    have hmono := prodN_mono (fun k hk => (hN k hk).1) (k + 1) hk
    have hle := hmono.2 (pN s - (k + 1)) (by omega)
    rw [show k + 1 + (pN s - (k + 1)) = pN s by omega] at hle
    unfold layFk
    by_cases c : N k = 1
    · rw [if_pos c]
      exact ⟨i1, i2, by rw [i3]; show _ = prodN (fun k => (N k : Int)) k * (N k : Int); rw [c]; simp, fun j h1 h2 => i4 j (by rw [jxN_f c] at h1; exact h1) h2⟩
    · rw [if_neg c]
      have hjk : jxN N k + 1 ≤ 4 := by
        have h9 := jxN_mono (N := N) hk
        rw [jxN_t c] at h9
        omega
      have hl0 : pL (layFk s N k) (jxN N k) = 1 := by
        unfold pL
        rw [i4 _ (Nat.le_refl _) (by omega)]
        rfl
      have ho := oth_mul (s := layFk s N k) (j := jxN N k) (by omega)
      rw [hl0, Nat.mul_one] at ho
      have hlen := oth_len (s := layFk s N k) (j := jxN N k) (l := N k) (by omega) (by omega)
      have hpe : ((oth (layFk s N k) (jxN N k) * N k : Nat) : Int) = prodN (fun k => (N k : Int)) (k + 1) := by
        rw [Int.natCast_mul, ← ho, i3]
        rfl
      have hV1 := VS_len i1 (j := jxN N k) (l := N k) (by omega) ⟨by omega, by omega⟩ (by
        have : prN s N = prodN (fun k => (N k : Int)) (pN s) := rfl
        omega)
      have hT1 : (i2.u ((N k : Int) - 1) (show 49 ≤ 49 + jxN N k by omega) (by omega)).T = (i2.u ((N k : Int) - 1) (show 49 ≤ 49 + jxN N k by omega) (by omega)).T := rfl
      have hTe := (i2.u ((N k : Int) - 1) (show 49 ≤ 49 + jxN N k by omega) (by omega)).2.1
      have hdv : pT s / N k < pT s := Nat.div_lt_self (by omega) (by omega)
      refine ⟨VS_sU hV1 _ _ (by omega) (fun h => absurd h (by omega)) ⟨fun h1 h2 => absurd h2 (by omega), fun h1 h2 => absurd h2 (by omega), fun h1 h2 => absurd h2 (by omega), fun h1 h2 => absurd h2 (by omega), fun h1 h2 => ⟨Int.natCast_nonneg _, by rw [hTe]; omega⟩, fun h1 h2 => absurd h1 (by omega), fun h1 h2 => absurd h1 (by omega), fun h1 => absurd h1 (by omega)⟩ (by rw [pSc_sU (by omega)]; exact hV1.Sc.2), (i2.u _ (by omega) (by omega)).u _ (by omega) (by omega), ?_, fun j h1 h2 => ?_⟩
      · rw [pSc_sU (by omega), hlen, hpe]
      · rw [jxN_t c] at h1
        rw [sU_ne _ _ (by omega), sU_ne _ _ (by omega)]
        exact i4 j (by omega) h2
theorem layCk_ok {s : Nat → Int} (hV : VS s) {l : Nat} {N : Nat → Nat} (hl : 1 ≤ l ∧ l ≤ 12) (hT0 : pT s % l = 0) (hN : ∀ k, k < pN s → N k < l) : ∀ k, k ≤ pN s → VS (layCk s l N k) ∧ AL s (layCk s l N k) := by
  intro k
  have hNn := hV.N
  have hT := hV.T
  induction k with
  | zero =>
    intro _
    have e : ∀ j, j < 4 → uClr s (49 + j) = 0 := fun j hj => by unfold uClr; rw [if_neg (by omega), if_pos (by omega)]
    have ho := oth_mul (s := uClr s) (j := 0) (by decide)
    rw [pSc_one e, show pL (uClr s) 0 = 1 by unfold pL; rw [e 0 (by decide)]; rfl] at ho
    rw [Nat.mul_one] at ho
    exact ⟨VS_len (VS_clr hV) (j := 0) (by decide) hl (by rw [← ho]; omega), (AL_clr s).u _ (by decide) (by decide)⟩
  | succ k ih =>
    intro hk
    obtain ⟨i1, i2⟩ := ih (by omega)
    have hNk := hN k (by omega)
    have hb : (N k : Int) * ((pT s / l : Nat) : Int) < (pT s : Int) := by
      have h1 : N k * (pT s / l) < pT s := by
        have h2 := Nat.div_add_mod (pT s) l
        have h3 : 0 < pT s / l := Nat.div_pos (Nat.le_of_not_lt (fun h => by rw [Nat.mod_eq_of_lt h] at hT0; omega)) (by omega)
        have h4 : N k * (pT s / l) < l * (pT s / l) := Nat.mul_lt_mul_of_pos_right hNk h3
        omega
      have h5 := Int.ofNat_lt.mpr h1
      rw [Int.natCast_mul] at h5
      exact h5
    unfold layCk
    refine ⟨VS_sU i1 _ _ (by omega) (fun h => absurd h (by omega)) ⟨fun h1 h2 => absurd h2 (by omega), fun h1 h2 => absurd h2 (by omega), fun h1 h2 => absurd h2 (by omega), fun h1 h2 => absurd h2 (by omega), fun h1 h2 => ⟨Int.mul_nonneg (Int.natCast_nonneg _) (Int.natCast_nonneg _), by rw [i2.2.1]; omega⟩, fun h1 h2 => absurd h1 (by omega), fun h1 h2 => absurd h1 (by omega), fun h1 => absurd h1 (by omega)⟩ (by rw [pSc_sU (by omega)]; exact i1.Sc.2), i2.u _ (by omega) (by omega)⟩
theorem KQ_set3 {s : Nat → Int} {m : Nat → Nat → Int} (hV : VS s) (hI : MI s m) (h0 : m 64 2 = 0) {j : Nat} {x : Int} (h : 9 ≤ j) : KQ (sU s j x) m (upm m 65 j x) :=
  KQ_mut hV hI (EQM.off (fun a _ h2 _ _ _ _ _ => upm_off _ _ h2) (fun j _ _ _ => by rw [upm_off _ _ (by decide)])) (hI.1.set j x) (AP_sU (by omega) (by omega)) (sU_ne _ _ (by omega)) (upm_off _ _ (by decide)) (upm_off _ _ (by decide)) (by rw [upm_off _ _ (by decide)]) (by rw [upm_off _ _ (by decide)]) (Or.inl (by rw [upm_off _ _ (by decide)]; exact h0))
theorem KQ_clr {s : Nat → Int} {m : Nat → Nat → Int} (hV : VS s) (hI : MI s m) : KQ (uClr s) m (upm (upm (flm m 65 49 227 0) 64 2 0) 65 3 0) :=
  KQ_mut hV hI (EQM.off (fun c h1 h2 _ _ _ _ _ => by rw [upm_off _ _ h2, upm_off _ _ h1, flm_off _ _ _ _ h2]) (fun j h2 _ _ => by rw [upm_off _ _ (by decide), upm_ne _ _ (fun _ => h2), flm_off _ _ _ _ (by decide)])) (fun i hi => by
    unfold uClr
    by_cases e : i = 3
    · subst e; rw [upm_same]; rfl
    · rw [upm_ne _ _ (fun _ => e), upm_off _ _ (by decide), if_neg e]
      by_cases c : 49 ≤ i ∧ i < 227
      · rw [if_pos c, flm_in _ _ c.1 c.2]
      · rw [if_neg c, flm_out _ _ (by omega)]; exact hI.1 i hi) (AL_clr s).1 (AL_clr s).2.1 (by rw [upm_off _ _ (by decide), upm_off _ _ (by decide), flm_off _ _ _ _ (by decide)]) (by rw [upm_off _ _ (by decide), upm_off _ _ (by decide), flm_off _ _ _ _ (by decide)]) (by rw [upm_off _ _ (by decide), upm_ne _ _ (fun _ => by decide), flm_off _ _ _ _ (by decide)]) (by rw [upm_off _ _ (by decide), upm_ne _ _ (fun _ => by decide), flm_off _ _ _ _ (by decide)]) (Or.inl (by rw [upm_off _ _ (by decide), upm_same]))
theorem sp_MlayFewest {w : List KD} {m : Nat → Nat → Int} (s : Nat → Int) (hV : VS s) (hI : MI s m) : Sp M_X10_layFewest 7 0 0 [rV 64] (WC ++ (WM ++ w), m) (fun r h => r = some (iV (vLay s 0)) ∧ ∃ m2, h = (WC ++ (WM ++ w), m2) ∧ KQ (nxLay s 0) m m2) := by
  refine Sp.ofG (ls := [rV 64, uV, uV, uV, uV]) (by decide +kernel) rfl (Nat.le_of_ble_eq_true rfl) ?_
  have hC := pC_le hV
  have hN := hV.N
  have hT := hV.T
  have hSc := hV.Sc
  have hrr := resF_rng hV
  have L2 : ∀ k : Nat, k ≤ pN s → okLayF s → ∀ m1, KQ (layFk s (resF s).2 k) m m1 → m1 64 2 = 0 → (∀ k, k < pN s → m1 80 k = ((resF s).2 k : Int)) → G M_X10_layFewest 7 0 0 77 [rV 64, iV (resF s).1, iV (jxN (resF s).2 (pN s) : Int), iV (jxN (resF s).2 k : Int), iV (k : Int)] [] (WC ++ (WM ++ w), m1) (fun r h => r = some (iV (vLay s 0)) ∧ ∃ m2, h = (WC ++ (WM ++ w), m2) ∧ KQ (nxLay s 0) m m2) := by
    refine loop_up (pN s) _ ?_
    intro k hk ih hok m1 h1 h2 h80
    have hkey := layFk_ok hV (N := (resF s).2) (fun k hk => ⟨((hrr.2.2.2 k hk).2 hok.1).1, (hrr.2.2.2 k hk).1⟩) hok.2.1 (by rw [resF_pr hV hok.1]; exact hok.2.2)
    have hVk := (hkey k hk).1
    have hALk := (hkey k hk).2.1
    have hNk : pN (layFk s (resF s).2 k) = pN s := hALk.1.N
    have hTk : pT (layFk s (resF s).2 k) = pT s := hALk.T
    have hjk := jxN_mono (N := (resF s).2) hk
    have hj5 := hok.2.1
    refine G_iload d_X10_layFewest_77 rfl ?_
    refine G_aload_n d_X10_layFewest_79 rfl ?_
    refine G_callV0 cl_X10_11 rfl d_X10_layFewest_80 (wk_64 _) (Nat.le_of_ble_eq_true rfl) (by decide) (sp_Mn (layFk s (resF s).2 k) hVk h1.2.1) ?_
    rintro _ _ ⟨rfl, rfl⟩
    rw [hNk]
    refine G_icmp_ge 154 d_X10_layFewest_83 (by decide) (by omega) (by omega) (fun c83 => ?_) (fun c83 => ?_)
    · refine G_aload_n d_X10_layFewest_154 rfl ?_
      refine G_callV0 cl_X10_142 rfl d_X10_layFewest_155 (wk_64 _) (Nat.le_of_ble_eq_true rfl) (by decide) (sp_Mscans (layFk s (resF s).2 k) hVk h1.2.1) ?_
      rintro _ _ ⟨rfl, rfl⟩
      refine G_iret (mc := 0) (ms := 0) (st := []) d_X10_layFewest_158 rfl ?_
      have hke : k = pN s := by omega
      subst hke
      have hv : vLay s 0 = (pSc (layFk s (resF s).2 (pN s)) : Int) := by unfold vLay nxLay; rw [if_pos rfl, if_pos hok, if_pos rfl, if_pos hok]
      exact ⟨congrArg (fun x => some (iV x)) hv.symm, m1, rfl, by unfold nxLay; rw [if_pos rfl, if_pos hok]; exact h1⟩
    · refine G_aload_n d_X10_layFewest_86 rfl ?_
      refine G_getR (r := 80) (fl_X10_86.r) d_X10_layFewest_87 (wk_64 _) rfl rfl ?_
      refine G_iload d_X10_layFewest_90 rfl ?_
      refine G_ialdj (k) d_X10_layFewest_92 (wk_80 _) (by omega) (by omega) (by decide) ?_
      rw [h80 k (by omega)]
      have hNb := hrr.2.2.2 k (by omega)
      have hNb2 := hNb.2 hok.1
      refine G_iconst d_X10_layFewest_93 ?_
      refine G_icmp_ne 100 d_X10_layFewest_94 (by decide) (by omega) (by omega) (fun c94 => ?_) (fun c94 => ?_)
      · refine G_aload_n d_X10_layFewest_100 rfl ?_
        refine G_getR (r := 65) (fl_X10_7.r) d_X10_layFewest_101 (wk_64 _) rfl rfl ?_
        refine G_bipush d_X10_layFewest_104 (by decide) ?_
        refine G_iload_n d_X10_layFewest_106 rfl ?_
        refine G_iadd d_X10_layFewest_107 ?_
        refine G_aload_n d_X10_layFewest_108 rfl ?_
        refine G_getR (r := 80) (fl_X10_86.r) d_X10_layFewest_109 (wk_64 _) rfl rfl ?_
        refine G_iload d_X10_layFewest_112 rfl ?_
        refine G_ialdj (k) d_X10_layFewest_114 (wk_80 _) (by omega) (by omega) (by decide) ?_
        rw [h80 k (by omega)]
        refine G_iconst d_X10_layFewest_115 ?_
        refine G_isub d_X10_layFewest_116 ?_
        refine G_iastj (49 + jxN (resF s).2 k) d_X10_layFewest_117 (wk_65 _) (by omega) (by omega) (by decide) ?_
        have hN1 : ¬ (resF s).2 k = 1 := by omega
        have e1 : layFk s (resF s).2 (k + 1) = sU (sU (layFk s (resF s).2 k) (49 + jxN (resF s).2 k) (((resF s).2 k : Int) - 1)) (53 + 4 * k + jxN (resF s).2 k) ((pT s / (resF s).2 k : Nat) : Int) := by show (if _ then _ else _) = _; rw [if_neg hN1]
        have hjk1 : jxN (resF s).2 k + 1 ≤ 4 := by
          have h9 := jxN_mono (N := (resF s).2) (show k + 1 ≤ pN s by omega)
          rw [jxN_t hN1] at h9
          omega
        have q1 := KQ_set3 (x := ((resF s).2 k : Int) - 1) hVk h1.2 h2 (j := 49 + jxN (resF s).2 k) (by omega)
        have hV1 := VS_len hVk (j := jxN (resF s).2 k) (l := (resF s).2 k) (by omega) ⟨by omega, by omega⟩ (by
          have h9 := (hkey (k + 1) (by omega)).2.2.1
          have h8 := oth_len (s := layFk s (resF s).2 k) (j := jxN (resF s).2 k) (l := (resF s).2 k) (by omega) (by omega)
          rw [e1, pSc_sU (by omega), h8] at h9
          have h7 := (prodN_mono (N := (resF s).2) (fun k hk => ((hrr.2.2.2 k hk).2 hok.1).1) (k + 1) (by omega)).2 (pN s - (k + 1)) (by omega)
          rw [show k + 1 + (pN s - (k + 1)) = pN s by omega] at h7
          have h6 := resF_pr hV hok.1
          unfold prN at h6
          have h5 := hok.2.2
          omega)
        have hT1 : pT (sU (layFk s (resF s).2 k) (49 + jxN (resF s).2 k) (((resF s).2 k : Int) - 1)) = pT s := (hALk.u _ (by omega) (by omega)).T
        refine G_aload_n d_X10_layFewest_118 rfl ?_
        refine G_getR (r := 65) (fl_X10_7.r) d_X10_layFewest_119 (wk_64 _) rfl rfl ?_
        refine G_bipush d_X10_layFewest_122 (by decide) ?_
        refine G_iconst d_X10_layFewest_124 ?_
        refine G_iload d_X10_layFewest_125 rfl ?_
        refine G_imul d_X10_layFewest_127 ?_
        refine G_iadd d_X10_layFewest_128 ?_
        refine G_iload_n d_X10_layFewest_129 rfl ?_
        refine G_iadd d_X10_layFewest_130 ?_
        refine G_aload_n d_X10_layFewest_131 rfl ?_
        refine G_callV0 cl_X10_148 rfl d_X10_layFewest_132 (wk_64 _) (Nat.le_of_ble_eq_true rfl) (by decide) (sp_Mt (sU (layFk s (resF s).2 k) (49 + jxN (resF s).2 k) (((resF s).2 k : Int) - 1)) hV1 q1.2.1) ?_
        rintro _ _ ⟨rfl, rfl⟩
        refine G_aload_n d_X10_layFewest_135 rfl ?_
        refine G_getR (r := 80) (fl_X10_86.r) d_X10_layFewest_136 (wk_64 _) rfl rfl ?_
        refine G_iload d_X10_layFewest_139 rfl ?_
        refine G_ialdj (k) d_X10_layFewest_141 (wk_80 _) (by omega) (by omega) (by decide) ?_
        rw [upm_off _ _ (by decide), h80 k (by omega), hT1]
        refine G_idivN (pT s) ((resF s).2 k) (rfl) (rfl) d_X10_layFewest_142 (by omega) (by omega) (by omega) ?_
        refine G_iastj (53 + 4 * k + jxN (resF s).2 k) d_X10_layFewest_143 (wk_65 _) (by omega) (by omega) (by decide) ?_
        refine G_iload_n d_X10_layFewest_144 rfl ?_
        refine G_iconst d_X10_layFewest_145 ?_
        refine G_iadd d_X10_layFewest_146 ?_
        refine G_istore_n d_X10_layFewest_147 (by decide) rfl ?_
        refine G_iinc d_X10_layFewest_148 rfl (by decide) rfl ?_
        refine G_goto 77 d_X10_layFewest_151 (by decide) ?_
        rw [e1, jxN_t hN1] at ih
        have q2 := KQ_set3 (x := ((pT s / (resF s).2 k : Nat) : Int)) hV1 q1.2 (by rw [upm_off _ _ (by decide)]; exact h2) (j := 53 + 4 * k + jxN (resF s).2 k) (by omega)
        exact ih (by omega) hok _ (h1.trans (q1.trans q2)) (by rw [upm_off _ _ (by decide), upm_off _ _ (by decide)]; exact h2) (fun i hi => by rw [upm_off _ _ (by decide), upm_off _ _ (by decide)]; exact h80 i hi)
      · refine G_goto 148 d_X10_layFewest_97 (by decide) ?_
        refine G_iinc d_X10_layFewest_148 rfl (by decide) rfl ?_
        refine G_goto 77 d_X10_layFewest_151 (by decide) ?_
        have hN1 : (resF s).2 k = 1 := by omega
        have e1 : layFk s (resF s).2 (k + 1) = layFk s (resF s).2 k := by show (if _ then _ else _) = _; rw [if_pos hN1]
        rw [e1, jxN_f hN1] at ih
        exact ih (by omega) hok m1 h1 h2 h80
  have L1 : ∀ k : Nat, k ≤ pN s → ∀ m1, KQ s m m1 → ((resF s).1 ≠ -1 → ∀ k, k < pN s → m1 80 k = ((resF s).2 k : Int)) → ((resF s).1 = -1 → k = 0) → G M_X10_layFewest 7 0 0 9 [rV 64, iV (resF s).1, iV (jxN (resF s).2 k : Int), iV (k : Int), uV] [] (WC ++ (WM ++ w), m1) (fun r h => r = some (iV (vLay s 0)) ∧ ∃ m2, h = (WC ++ (WM ++ w), m2) ∧ KQ (nxLay s 0) m m2) := by
    refine loop_up (pN s) _ ?_
    intro k hk ih m1 h1 h80 hz
    have hjb := cntB_le (fun i => (resF s).2 i != 1) k
    have hjb2 : jxN (resF s).2 k ≤ k := hjb
    refine G_iload_n d_X10_layFewest_9 rfl ?_
    refine G_aload_n d_X10_layFewest_10 rfl ?_
    refine G_callV0 cl_X10_11 rfl d_X10_layFewest_11 (wk_64 _) (Nat.le_of_ble_eq_true rfl) (by decide) (sp_Mn s hV h1.2.1) ?_
    rintro _ _ ⟨rfl, rfl⟩
    refine G_icmp_ge 42 d_X10_layFewest_14 (by decide) (by omega) (by omega) (fun c14 => ?_) (fun c14 => ?_)
    · refine G_iload_n d_X10_layFewest_42 rfl ?_
      refine G_iconst d_X10_layFewest_43 ?_
      refine G_icmp_eq 59 d_X10_layFewest_44 (by decide) (by omega) (by omega) (fun c44 => ?_) (fun c44 => ?_)
      · refine G_iconst d_X10_layFewest_59 ?_
        refine G_iret (mc := 0) (ms := 0) (st := []) d_X10_layFewest_60 rfl ?_
        exact ⟨by unfold vLay; rw [if_pos rfl, if_neg (fun h => h.1 c44)], m1, rfl, by unfold nxLay; rw [if_pos rfl, if_neg (fun h => h.1 c44)]; exact h1⟩
      · refine G_iload_n d_X10_layFewest_47 rfl ?_
        refine G_iconst d_X10_layFewest_48 ?_
        refine G_icmp_gt 59 d_X10_layFewest_49 (by decide) (by omega) (by omega) (fun c49 => ?_) (fun c49 => ?_)
        · refine G_iconst d_X10_layFewest_59 ?_
          refine G_iret (mc := 0) (ms := 0) (st := []) d_X10_layFewest_60 rfl ?_
          have hke : k = pN s := by omega
          subst hke
          exact ⟨by unfold vLay; rw [if_pos rfl, if_neg (fun h => absurd h.2.1 (by omega))], m1, rfl, by unfold nxLay; rw [if_pos rfl, if_neg (fun h => absurd h.2.1 (by omega))]; exact h1⟩
        · refine G_iload_n d_X10_layFewest_52 rfl ?_
          refine G_sipush d_X10_layFewest_53 (by decide) ?_
          refine G_icmp_le 61 d_X10_layFewest_56 (by decide) (by omega) (by omega) (fun c56 => ?_) (fun c56 => ?_)
          · refine G_aload_n d_X10_layFewest_61 rfl ?_
            have hke : k = pN s := by omega
            subst hke
            have hok : okLayF s := ⟨by omega, by omega, by omega⟩
            refine G_callV0 cl_X10_127 rfl d_X10_layFewest_62 (wk_64 _) (Nat.le_of_ble_eq_true rfl) (by decide) (sp_MclearsCycle) ?_
            rintro _ _ ⟨rfl, rfl⟩
            refine G_aload_n d_X10_layFewest_65 rfl ?_
            refine G_getR (r := 65) (fl_X10_7.r) d_X10_layFewest_66 (wk_64 _) rfl rfl ?_
            refine G_iconst d_X10_layFewest_69 ?_
            refine G_iconst d_X10_layFewest_70 ?_
            refine G_iastj (3) d_X10_layFewest_71 (wk_65 _) (by omega) (by omega) (by decide) ?_
            refine G_iconst d_X10_layFewest_72 ?_
            refine G_istore_n d_X10_layFewest_73 (by decide) rfl ?_
            refine G_iconst d_X10_layFewest_74 ?_
            refine G_istore d_X10_layFewest_75 (by decide) rfl ?_
            exact L2 0 (by omega) hok _ (h1.trans (KQ_clr hV h1.2)) (by rw [upm_off _ _ (by decide), upm_same]) (fun i hi => by rw [upm_off _ _ (by decide), upm_off _ _ (by decide), flm_off _ _ _ _ (by decide)]; exact h80 hok.1 i hi)
          · refine G_iconst d_X10_layFewest_59 ?_
            refine G_iret (mc := 0) (ms := 0) (st := []) d_X10_layFewest_60 rfl ?_
            exact ⟨by unfold vLay; rw [if_pos rfl, if_neg (fun h => absurd h.2.2 (by omega))], m1, rfl, by unfold nxLay; rw [if_pos rfl, if_neg (fun h => absurd h.2.2 (by omega))]; exact h1⟩
    · refine G_iload_n d_X10_layFewest_17 rfl ?_
      refine G_iconst d_X10_layFewest_18 ?_
      refine G_icmp_eq 42 d_X10_layFewest_19 (by decide) (by omega) (by omega) (fun c19 => ?_) (fun c19 => ?_)
      · refine G_iload_n d_X10_layFewest_42 rfl ?_
        refine G_iconst d_X10_layFewest_43 ?_
        refine G_icmp_eq 59 d_X10_layFewest_44 (by decide) (by omega) (by omega) (fun c44 => ?_) (fun c44 => ?_)
        · refine G_iconst d_X10_layFewest_59 ?_
          refine G_iret (mc := 0) (ms := 0) (st := []) d_X10_layFewest_60 rfl ?_
          exact ⟨by unfold vLay; rw [if_pos rfl, if_neg (fun h => h.1 c44)], m1, rfl, by unfold nxLay; rw [if_pos rfl, if_neg (fun h => h.1 c44)]; exact h1⟩
        · refine G_iload_n d_X10_layFewest_47 rfl ?_
          refine G_iconst d_X10_layFewest_48 ?_
          refine G_icmp_gt 59 d_X10_layFewest_49 (by decide) (by omega) (by omega) (fun c49 => ?_) (fun c49 => ?_)
          · refine G_iconst d_X10_layFewest_59 ?_
            refine G_iret (mc := 0) (ms := 0) (st := []) d_X10_layFewest_60 rfl ?_
            have hke : k = pN s := by omega
            subst hke
            exact ⟨by unfold vLay; rw [if_pos rfl, if_neg (fun h => absurd h.2.1 (by omega))], m1, rfl, by unfold nxLay; rw [if_pos rfl, if_neg (fun h => absurd h.2.1 (by omega))]; exact h1⟩
          · refine G_iload_n d_X10_layFewest_52 rfl ?_
            refine G_sipush d_X10_layFewest_53 (by decide) ?_
            refine G_icmp_le 61 d_X10_layFewest_56 (by decide) (by omega) (by omega) (fun c56 => ?_) (fun c56 => ?_)
            · refine G_aload_n d_X10_layFewest_61 rfl ?_
              have hke : k = pN s := by omega
              subst hke
              have hok : okLayF s := ⟨by omega, by omega, by omega⟩
              refine G_callV0 cl_X10_127 rfl d_X10_layFewest_62 (wk_64 _) (Nat.le_of_ble_eq_true rfl) (by decide) (sp_MclearsCycle) ?_
              rintro _ _ ⟨rfl, rfl⟩
              refine G_aload_n d_X10_layFewest_65 rfl ?_
              refine G_getR (r := 65) (fl_X10_7.r) d_X10_layFewest_66 (wk_64 _) rfl rfl ?_
              refine G_iconst d_X10_layFewest_69 ?_
              refine G_iconst d_X10_layFewest_70 ?_
              refine G_iastj (3) d_X10_layFewest_71 (wk_65 _) (by omega) (by omega) (by decide) ?_
              refine G_iconst d_X10_layFewest_72 ?_
              refine G_istore_n d_X10_layFewest_73 (by decide) rfl ?_
              refine G_iconst d_X10_layFewest_74 ?_
              refine G_istore d_X10_layFewest_75 (by decide) rfl ?_
              exact L2 0 (by omega) hok _ (h1.trans (KQ_clr hV h1.2)) (by rw [upm_off _ _ (by decide), upm_same]) (fun i hi => by rw [upm_off _ _ (by decide), upm_off _ _ (by decide), flm_off _ _ _ _ (by decide)]; exact h80 hok.1 i hi)
            · refine G_iconst d_X10_layFewest_59 ?_
              refine G_iret (mc := 0) (ms := 0) (st := []) d_X10_layFewest_60 rfl ?_
              exact ⟨by unfold vLay; rw [if_pos rfl, if_neg (fun h => absurd h.2.2 (by omega))], m1, rfl, by unfold nxLay; rw [if_pos rfl, if_neg (fun h => absurd h.2.2 (by omega))]; exact h1⟩
      · refine G_aload_n d_X10_layFewest_22 rfl ?_
        refine G_getR (r := 80) (fl_X10_86.r) d_X10_layFewest_23 (wk_64 _) rfl rfl ?_
        refine G_iload_n d_X10_layFewest_26 rfl ?_
        refine G_ialdj (k) d_X10_layFewest_27 (wk_80 _) (by omega) (by omega) (by decide) ?_
        rw [h80 (by omega) k (by omega)]
        have hNb := hrr.2.2.2 k (by omega)
        have hNb2 := hNb.2 (by omega)
        refine G_iconst d_X10_layFewest_28 ?_
        refine G_icmp_le 36 d_X10_layFewest_29 (by decide) (by omega) (by omega) (fun c29 => ?_) (fun c29 => ?_)
        · refine G_iinc d_X10_layFewest_36 rfl (by decide) rfl ?_
          refine G_goto 9 d_X10_layFewest_39 (by decide) ?_
          have hN1 : (resF s).2 k = 1 := by omega
          rw [jxN_f hN1] at ih
          exact ih (by omega) m1 h1 h80 (fun h => absurd h (by omega))
        · refine G_iload_n d_X10_layFewest_32 rfl ?_
          refine G_iconst d_X10_layFewest_33 ?_
          refine G_iadd d_X10_layFewest_34 ?_
          refine G_istore_n d_X10_layFewest_35 (by decide) rfl ?_
          refine G_iinc d_X10_layFewest_36 rfl (by decide) rfl ?_
          refine G_goto 9 d_X10_layFewest_39 (by decide) ?_
          have hN1 : ¬ (resF s).2 k = 1 := by omega
          rw [jxN_t hN1] at ih
          exact ih (by omega) m1 h1 h80 (fun h => absurd h (by omega))
  refine G_aload_n d_X10_layFewest_0 rfl ?_
  refine G_callV0 cl_X10_292 rfl d_X10_layFewest_1 (wk_64 _) (Nat.le_of_ble_eq_true rfl) (by decide) (sp_MlaysFewest s hV hI) ?_
  rintro _ _ ⟨rfl, m1, rfl, h1, hbs⟩
  refine G_istore_n d_X10_layFewest_4 (by decide) rfl ?_
  refine G_iconst d_X10_layFewest_5 ?_
  refine G_istore_n d_X10_layFewest_6 (by decide) rfl ?_
  refine G_iconst d_X10_layFewest_7 ?_
  refine G_istore_n d_X10_layFewest_8 (by decide) rfl ?_
  exact L1 0 (by omega) m1 h1 hbs (fun _ => rfl)
theorem sp_MlayCogs {w : List KD} {m : Nat → Nat → Int} (s : Nat → Int) (hV : VS s) (hI : MI s m) : Sp M_X10_layCogs 7 0 0 [rV 64] (WC ++ (WM ++ w), m) (fun r h => r = some (iV (vLay s 1)) ∧ ∃ m2, h = (WC ++ (WM ++ w), m2) ∧ KQ (nxLay s 1) m m2) := by
  refine Sp.ofG (ls := [rV 64, uV, uV]) (by decide +kernel) rfl (Nat.le_of_ble_eq_true rfl) ?_
  have hC := pC_le hV
  have hN := hV.N
  have hT := hV.T
  have hSc := hV.Sc
  have L : ∀ k : Nat, k ≤ pN s → ∀ (l : Nat), (lC (resC s)) = (l : Int) → 1 ≤ l → l ≤ 12 → pT s % l = 0 → (∀ k, k < pN s → (nCg (resC s)) k < l) → ∀ m1, KQ (layCk s l (nCg (resC s)) k) m m1 → m1 64 2 = 0 → (∀ k, k < pN s → m1 80 k = ((nCg (resC s)) k : Int)) → G M_X10_layCogs 7 0 0 35 [rV 64, iV (l : Int), iV (k : Int)] [] (WC ++ (WM ++ w), m1) (fun r h => r = some (iV (vLay s 1)) ∧ ∃ m2, h = (WC ++ (WM ++ w), m2) ∧ KQ (nxLay s 1) m m2) := by
    refine loop_up (pN s) _ ?_
    intro k hk ih l hlC hl1 hl2 hT0 hNl m1 h1 h2 h80
    have hkey := layCk_ok hV ⟨hl1, hl2⟩ hT0 hNl
    have hVk := (hkey k hk).1
    have hALk := (hkey k hk).2
    have hNk : pN (layCk s l (nCg (resC s)) k) = pN s := hALk.1.N
    have hTk : pT (layCk s l (nCg (resC s)) k) = pT s := hALk.T
    refine G_iload_n d_X10_layCogs_35 rfl ?_
    refine G_aload_n d_X10_layCogs_36 rfl ?_
    refine G_callV0 cl_X10_11 rfl d_X10_layCogs_37 (wk_64 _) (Nat.le_of_ble_eq_true rfl) (by decide) (sp_Mn (layCk s l (nCg (resC s)) k) hVk h1.2.1) ?_
    rintro _ _ ⟨rfl, rfl⟩
    rw [hNk]
    refine G_icmp_ge 73 d_X10_layCogs_40 (by decide) (by omega) (by omega) (fun c40 => ?_) (fun c40 => ?_)
    · refine G_aload_n d_X10_layCogs_73 rfl ?_
      refine G_callV0 cl_X10_142 rfl d_X10_layCogs_74 (wk_64 _) (Nat.le_of_ble_eq_true rfl) (by decide) (sp_Mscans (layCk s l (nCg (resC s)) k) hVk h1.2.1) ?_
      rintro _ _ ⟨rfl, rfl⟩
      refine G_iret (mc := 0) (ms := 0) (st := []) d_X10_layCogs_77 rfl ?_
      have hke : k = pN s := by omega
      subst hke
      have hne : lC (resC s) ≠ -1 := by omega
      have hnx : nxLay s 1 = layCk s l (nCg (resC s)) (pN s) := by unfold nxLay; rw [if_neg (by decide), if_pos rfl, if_pos hne, hlC]; rfl
      exact ⟨by unfold vLay; rw [if_neg (by decide), if_pos rfl, if_pos hne, hnx], m1, rfl, by rw [hnx]; exact h1⟩
    · refine G_aload_n d_X10_layCogs_43 rfl ?_
      refine G_getR (r := 65) (fl_X10_7.r) d_X10_layCogs_44 (wk_64 _) rfl rfl ?_
      refine G_bipush d_X10_layCogs_47 (by decide) ?_
      refine G_iconst d_X10_layCogs_49 ?_
      refine G_iload_n d_X10_layCogs_50 rfl ?_
      refine G_imul d_X10_layCogs_51 ?_
      refine G_iadd d_X10_layCogs_52 ?_
      refine G_aload_n d_X10_layCogs_53 rfl ?_
      refine G_getR (r := 80) (fl_X10_86.r) d_X10_layCogs_54 (wk_64 _) rfl rfl ?_
      refine G_iload_n d_X10_layCogs_57 rfl ?_
      refine G_ialdj (k) d_X10_layCogs_58 (wk_80 _) (by omega) (by omega) (by decide) ?_
      rw [h80 k (by omega)]
      refine G_aload_n d_X10_layCogs_59 rfl ?_
      refine G_callV0 cl_X10_148 rfl d_X10_layCogs_60 (wk_64 _) (Nat.le_of_ble_eq_true rfl) (by decide) (sp_Mt (layCk s l (nCg (resC s)) k) hVk h1.2.1) ?_
      rintro _ _ ⟨rfl, rfl⟩
      refine G_iload_n d_X10_layCogs_63 rfl ?_
      rw [hTk]
      refine G_idivN (pT s) (l) (rfl) (rfl) d_X10_layCogs_64 (by omega) (by omega) (by omega) ?_
      refine G_imul d_X10_layCogs_65 ?_
      refine G_iastj (53 + 4 * k) d_X10_layCogs_66 (wk_65 _) (by omega) (by omega) (by decide) ?_
      refine G_iinc d_X10_layCogs_67 rfl (by decide) rfl ?_
      refine G_goto 35 d_X10_layCogs_70 (by decide) ?_
      exact ih (by omega) l hlC hl1 hl2 hT0 hNl _ (h1.trans (KQ_set3 hVk h1.2 h2 (j := 53 + 4 * k) (by omega))) (by rw [upm_off _ _ (by decide)]; exact h2) (fun i hi => by rw [upm_off _ _ (by decide)]; exact h80 i hi)
  refine G_aload_n d_X10_layCogs_0 rfl ?_
  refine G_callV0 cl_X10_295 rfl d_X10_layCogs_1 (wk_64 _) (Nat.le_of_ble_eq_true rfl) (by decide) (sp_MlaysCogs s hV hI) ?_
  rintro _ _ ⟨rfl, m1, rfl, h1, hbs⟩
  have hlr := lC_rng s
  refine G_istore_n d_X10_layCogs_4 (by decide) rfl ?_
  refine G_iload_n d_X10_layCogs_5 rfl ?_
  refine G_iconst d_X10_layCogs_6 ?_
  refine G_icmp_ne 12 d_X10_layCogs_7 (by decide) (by omega) (by omega) (fun c7 => ?_) (fun c7 => ?_)
  · refine G_aload_n d_X10_layCogs_12 rfl ?_
    obtain ⟨v, hv⟩ : ∃ v, resC s = some v := by
      cases hx : resC s with
      | none => rw [hx] at c7; exact absurd rfl c7
      | some v => exact ⟨v, rfl⟩
    obtain ⟨hl1, hl2, hT0, hNl⟩ := resC_N hv
    have hlC : lC (resC s) = (v.1 : Int) := by rw [hv]; rfl
    have hNl2 : ∀ k, k < pN s → nCg (resC s) k < v.1 := by rw [hv]; exact hNl
    have h80 := hbs c7
    rw [hlC]
    refine G_callV0 cl_X10_127 rfl d_X10_layCogs_13 (wk_64 _) (Nat.le_of_ble_eq_true rfl) (by decide) (sp_MclearsCycle) ?_
    rintro _ _ ⟨rfl, rfl⟩
    refine G_aload_n d_X10_layCogs_16 rfl ?_
    refine G_getR (r := 65) (fl_X10_7.r) d_X10_layCogs_17 (wk_64 _) rfl rfl ?_
    refine G_iconst d_X10_layCogs_20 ?_
    refine G_iconst d_X10_layCogs_21 ?_
    refine G_iastj (3) d_X10_layCogs_22 (wk_65 _) (by omega) (by omega) (by decide) ?_
    refine G_aload_n d_X10_layCogs_23 rfl ?_
    refine G_getR (r := 65) (fl_X10_7.r) d_X10_layCogs_24 (wk_64 _) rfl rfl ?_
    refine G_bipush d_X10_layCogs_27 (by decide) ?_
    refine G_iload_n d_X10_layCogs_29 rfl ?_
    refine G_iconst d_X10_layCogs_30 ?_
    refine G_isub d_X10_layCogs_31 ?_
    refine G_iastj (49) d_X10_layCogs_32 (wk_65 _) (by omega) (by omega) (by decide) ?_
    refine G_iconst d_X10_layCogs_33 ?_
    refine G_istore_n d_X10_layCogs_34 (by decide) rfl ?_
    exact L 0 (by omega) v.1 hlC hl1 hl2 hT0 hNl2 _ (h1.trans ((KQ_clr hV h1.2).trans (KQ_set3 (VS_clr hV) (KQ_clr hV h1.2).2 (by rw [upm_off _ _ (by decide), upm_same]) (j := 49) (by decide)))) (by rw [upm_off _ _ (by decide), upm_off _ _ (by decide), upm_same]) (fun i hi => by rw [upm_off _ _ (by decide), upm_off _ _ (by decide), upm_off _ _ (by decide), flm_off _ _ _ _ (by decide)]; exact h80 i hi)
  · refine G_iconst d_X10_layCogs_10 ?_
    refine G_iret (mc := 0) (ms := 0) (st := []) d_X10_layCogs_11 rfl ?_
    exact ⟨by unfold vLay; rw [if_neg (by decide), if_pos rfl, if_neg (fun h => h (by omega))], m1, rfl, by unfold nxLay; rw [if_neg (by decide), if_pos rfl, if_neg (fun h => h (by omega))]; exact h1⟩
theorem sp_Mlay {w : List KD} {m : Nat → Nat → Int} (s : Nat → Int) (hV : VS s) (hI : MI s m) (a : Int) (hra : -2147483648 ≤ a ∧ a < 2147483648) : Sp M_X10_lay 8 0 0 [rV 64, iV a] (WC ++ (WM ++ w), m) (fun r h => r = some (iV (vLay s a)) ∧ ∃ m2, h = (WC ++ (WM ++ w), m2) ∧ KQ (nxLay s a) m m2) := by
  refine Sp.ofG (ls := [rV 64, iV a]) (by decide +kernel) rfl (Nat.le_of_ble_eq_true rfl) ?_
  have hC := pC_le hV
  have hN := hV.N
  have hT := hV.T
  have hSc := hV.Sc
  refine G_aload_n d_X10_lay_0 rfl ?_
  refine G_iconst d_X10_lay_1 ?_
  refine G_putII fl_X10_1 d_X10_lay_2 (wk_64 _) rfl ?_
  have hQ0 : KQ s m (upm m 64 0 0) := (KQ.refl hI).fld rfl
  generalize upm m 64 0 0 = m0 at hQ0 ⊢
  refine G_iload_n d_X10_lay_5 rfl ?_
  refine G_if_ne 16 d_X10_lay_6 (by decide) (by omega) (fun c6 => ?_) (fun c6 => ?_)
  · refine G_iload_n d_X10_lay_16 rfl ?_
    refine G_iconst d_X10_lay_17 ?_
    refine G_icmp_ne 28 d_X10_lay_18 (by decide) (by omega) (by omega) (fun c18 => ?_) (fun c18 => ?_)
    · refine G_iconst d_X10_lay_28 ?_
      refine G_iret (mc := 0) (ms := 0) (st := []) d_X10_lay_29 rfl ?_
      exact ⟨by unfold vLay; rw [if_neg (by omega), if_neg (by omega)], m0, rfl, by unfold nxLay; rw [if_neg (by omega), if_neg (by omega)]; exact hQ0⟩
    · refine G_aload_n d_X10_lay_21 rfl ?_
      refine G_callV0 cl_X10_301 rfl d_X10_lay_22 (wk_64 _) (Nat.le_of_ble_eq_true rfl) (by decide) (sp_MlayCogs s hV hQ0.2) ?_
      rintro _ _ ⟨rfl, m2, rfl, h2⟩
      refine G_goto 29 d_X10_lay_25 (by decide) ?_
      refine G_iret (mc := 0) (ms := 0) (st := []) d_X10_lay_29 rfl ?_
      have ha1 : a = 1 := by omega
      subst ha1
      exact ⟨rfl, m2, rfl, hQ0.trans h2⟩
  · refine G_aload_n d_X10_lay_9 rfl ?_
    refine G_callV0 cl_X10_298 rfl d_X10_lay_10 (wk_64 _) (Nat.le_of_ble_eq_true rfl) (by decide) (sp_MlayFewest s hV hQ0.2) ?_
    rintro _ _ ⟨rfl, m2, rfl, h2⟩
    refine G_goto 29 d_X10_lay_13 (by decide) ?_
    refine G_iret (mc := 0) (ms := 0) (st := []) d_X10_lay_29 rfl ?_
    have ha0 : a = 0 := by omega
    subst ha0
    exact ⟨rfl, m2, rfl, hQ0.trans h2⟩
/-- all but the image -/
def EQI (m m2 : Nat → Nat → Int) : Prop := (∀ a, a < 64 → m2 a = m a) ∧ m2 67 = m 67 ∧ m2 64 6 = m 64 6 ∧ m2 64 7 = m 64 7 ∧ m2 64 8 = m 64 8
def imT (m : Nat → Nat → Int) (k : Nat) : Nat → Nat → Int := fun a j => if a = 83 ∧ j < k then m 65 j else m a j
theorem imT_0 (m : Nat → Nat → Int) : imT m 0 = m := by
  funext a j
  unfold imT
  rw [if_neg (by omega)]
theorem imT_off (m : Nat → Nat → Int) {k a : Nat} (h : a ≠ 83) : imT m k a = m a := by
  funext j
  unfold imT
  rw [if_neg (fun e => h e.1)]
theorem imT_step (m : Nat → Nat → Int) (k : Nat) : upm (imT m k) 83 k (m 65 k) = imT m (k + 1) := by
  funext a j
  unfold upm imT
  by_cases h : a = 83 ∧ j = k
  · obtain ⟨rfl, rfl⟩ := h
    rw [if_pos ⟨rfl, rfl⟩, if_pos ⟨rfl, by omega⟩]
  · rw [if_neg h]
    by_cases c : a = 83 ∧ j < k
    · rw [if_pos c, if_pos ⟨c.1, by omega⟩]
    · rw [if_neg c, if_neg (fun e => by by_cases d : j = k <;> omega)]
def imB (m : Nat → Nat → Int) (k : Nat) : Nat → Nat → Int := fun a j => if a = 65 ∧ j < k then m 83 j else m a j
theorem imB_0 (m : Nat → Nat → Int) : imB m 0 = m := by
  funext a j
  unfold imB
  rw [if_neg (by omega)]
theorem imB_off (m : Nat → Nat → Int) {k a : Nat} (h : a ≠ 65) : imB m k a = m a := by
  funext j
  unfold imB
  rw [if_neg (fun e => h e.1)]
theorem imB_step (m : Nat → Nat → Int) (k : Nat) : upm (imB m k) 65 k (m 83 k) = imB m (k + 1) := by
  funext a j
  unfold upm imB
  by_cases h : a = 65 ∧ j = k
  · obtain ⟨rfl, rfl⟩ := h
    rw [if_pos ⟨rfl, rfl⟩, if_pos ⟨rfl, by omega⟩]
  · rw [if_neg h]
    by_cases c : a = 65 ∧ j < k
    · rw [if_pos c, if_pos ⟨c.1, by omega⟩]
    · rw [if_neg c, if_neg (fun e => by by_cases d : j = k <;> omega)]
theorem MI.fld28 {s : Nat → Int} {m : Nat → Nat → Int} (h : MI s m) (x : Int) : MI s (upm m 64 28 x) :=
  h.congr (upm_off _ _ (by decide)) (upm_off _ _ (by decide)) (upm_off _ _ (by decide)) (upm_off _ _ (by decide)) (upm_ne _ _ (fun _ => by decide)) (upm_ne _ _ (fun _ => by decide)) (upm_ne _ _ (fun _ => by decide))
theorem sp_MimageT {w : List KD} {m : Nat → Nat → Int} (s : Nat → Int) (hV : VS s) (hI : MI s m) : Sp M_X10_image 3 0 0 [rV 64, iV 1] (WC ++ (WM ++ w), m) (fun r h => r = some (iV 1) ∧ ∃ m2, h = (WC ++ (WM ++ w), m2) ∧ MI s m2 ∧ EQI m m2 ∧ m2 64 28 = 1 ∧ ∀ j, j < 2628 → m2 83 j = s j) := by
  refine Sp.ofG (ls := [rV 64, iV 1, uV]) (by decide +kernel) rfl (Nat.le_of_ble_eq_true rfl) ?_
  have hI1 : MI s (upm (upm m 64 0 0) 64 28 1) := ((KQ.refl hI).fld (j := 0) (x := 0) rfl).2.fld28 1
  have L : ∀ k : Nat, k ≤ 2628 → G M_X10_image 3 0 0 25 [rV 64, iV 1, iV (k : Int)] [] (WC ++ (WM ++ w), imT (upm (upm m 64 0 0) 64 28 1) k) (fun r h => r = some (iV 1) ∧ ∃ m2, h = (WC ++ (WM ++ w), m2) ∧ MI s m2 ∧ EQI m m2 ∧ m2 64 28 = 1 ∧ ∀ j, j < 2628 → m2 83 j = s j) := by
    refine loop_up (2628) _ ?_
    intro k hk ih
    refine G_iload_n d_X10_image_25 rfl ?_
    refine G_sipush d_X10_image_26 (by decide) ?_
    refine G_icmp_ge 69 d_X10_image_29 (by decide) (by omega) (by omega) (fun c29 => ?_) (fun c29 => ?_)
    · refine G_iload_n d_X10_image_69 rfl ?_
      refine G_if_eq 75 d_X10_image_70 (by decide) (by decide) (fun hd => absurd hd (by decide)) (fun _ => ?_)
      refine G_iconst d_X10_image_73 ?_
      refine G_zret (mc := 0) (ms := 0) (st := []) d_X10_image_74 rfl (by omega) ?_
      have hke : k = 2628 := by omega
      subst hke
      exact ⟨rfl, _, rfl, hI1.congr (imT_off _ (by decide)) (imT_off _ (by decide)) (imT_off _ (by decide)) (imT_off _ (by decide)) (by rw [imT_off _ (by decide)]) (by rw [imT_off _ (by decide)]) (by rw [imT_off _ (by decide)]), ⟨fun c hc => by rw [imT_off _ (by omega), upm_off _ _ (by omega), upm_off _ _ (by omega)], by rw [imT_off _ (by decide), upm_off _ _ (by decide), upm_off _ _ (by decide)], by rw [imT_off _ (by decide)]; rfl, by rw [imT_off _ (by decide)]; rfl, by rw [imT_off _ (by decide)]; rfl⟩, by rw [imT_off _ (by decide)]; rfl, fun j hj => by unfold imT; rw [if_pos ⟨rfl, hj⟩]; exact hI1.1 j hj⟩
    · refine G_iload_n d_X10_image_32 rfl ?_
      refine G_if_eq 51 d_X10_image_33 (by decide) (by decide) (fun hd => absurd hd (by decide)) (fun _ => ?_)
      refine G_aload_n d_X10_image_36 rfl ?_
      refine G_getR (r := 83) (fl_X10_95.r) d_X10_image_37 (wk_64 _) rfl rfl ?_
      refine G_iload_n d_X10_image_40 rfl ?_
      refine G_aload_n d_X10_image_41 rfl ?_
      refine G_getR (r := 65) (fl_X10_7.r) d_X10_image_42 (wk_64 _) rfl rfl ?_
      refine G_iload_n d_X10_image_45 rfl ?_
      refine G_ialdj (k) d_X10_image_46 (wk_65 _) (by omega) (by omega) (by decide) ?_
      refine G_iastj (k) d_X10_image_47 (wk_83 _) (by omega) (by omega) (by decide) ?_
      rw [imT_off (a := 65) _ (by decide), imT_step]
      refine G_goto 63 d_X10_image_48 (by decide) ?_
      refine G_iinc d_X10_image_63 rfl (by decide) rfl ?_
      refine G_goto 25 d_X10_image_66 (by decide) ?_
      exact ih (by omega)
  refine G_aload_n d_X10_image_0 rfl ?_
  refine G_iconst d_X10_image_1 ?_
  refine G_putII fl_X10_1 d_X10_image_2 (wk_64 _) rfl ?_
  refine G_iload_n d_X10_image_5 rfl ?_
  refine G_if_ne 18 d_X10_image_6 (by decide) (by decide) (fun _ => ?_) (fun hd => absurd hd (by decide))
  refine G_aload_n d_X10_image_18 rfl ?_
  refine G_iconst d_X10_image_19 ?_
  refine G_putZ fl_X10_359 d_X10_image_20 (wk_64 _) rfl (by omega) ?_
  refine G_iconst d_X10_image_23 ?_
  refine G_istore_n d_X10_image_24 (by decide) rfl ?_
  have h9 := L 0 (by omega)
  rw [imT_0] at h9
  exact h9
theorem sp_MimageN {w : List KD} {m : Nat → Nat → Int} (s : Nat → Int) (hV : VS s) (hI : MI s m) (h28 : m 64 28 = 0) : Sp M_X10_image 3 0 0 [rV 64, iV 0] (WC ++ (WM ++ w), m) (fun r h => r = some (iV 0) ∧ ∃ m2, h = (WC ++ (WM ++ w), m2) ∧ KQ s m m2) := by
  refine Sp.ofG (ls := [rV 64, iV 0, uV]) (by decide +kernel) rfl (Nat.le_of_ble_eq_true rfl) ?_
  refine G_aload_n d_X10_image_0 rfl ?_
  refine G_iconst d_X10_image_1 ?_
  refine G_putII fl_X10_1 d_X10_image_2 (wk_64 _) rfl ?_
  have hQ0 : KQ s m (upm m 64 0 0) := (KQ.refl hI).fld rfl
  generalize upm m 64 0 0 = m0 at hQ0 ⊢
  refine G_iload_n d_X10_image_5 rfl ?_
  refine G_if_ne 18 d_X10_image_6 (by decide) (by decide) (fun hd => absurd hd (by decide)) (fun _ => ?_)
  refine G_aload_n d_X10_image_9 rfl ?_
  refine G_getIe (fl_X10_359.r) d_X10_image_10 (wk_64 _) rfl (hQ0.1.2.2.2.2.2.2.trans h28) ?_
  refine G_if_ne 18 d_X10_image_13 (by decide) (by omega) (fun c13 => ?_) (fun c13 => ?_)
  · omega
  · refine G_iconst d_X10_image_16 ?_
    refine G_zret (mc := 0) (ms := 0) (st := []) d_X10_image_17 rfl (by omega) ?_
    exact ⟨rfl, m0, rfl, hQ0⟩
theorem sp_MimageB {w : List KD} {m : Nat → Nat → Int} (s : Nat → Int) (hV : VS s) (hI : MI s m) (u : Nat → Int) (hU : VS u) (h28 : m 64 28 = 1) (h83 : ∀ j, j < 2628 → m 83 j = u j) : Sp M_X10_image 4 0 0 [rV 64, iV 0] (WC ++ (WM ++ w), m) (fun r h => r = some (iV 1) ∧ ∃ m2, h = (WC ++ (WM ++ w), m2) ∧ KQ u m m2) := by
  refine Sp.ofG (ls := [rV 64, iV 0, uV]) (by decide +kernel) rfl (Nat.le_of_ble_eq_true rfl) ?_
  have L : ∀ k : Nat, k ≤ 2628 → G M_X10_image 4 0 0 25 [rV 64, iV 0, iV (k : Int)] [] (WC ++ (WM ++ w), imB (upm (upm m 64 0 0) 64 28 1) k) (fun r h => r = some (iV 1) ∧ ∃ m2, h = (WC ++ (WM ++ w), m2) ∧ KQ u m m2) := by
    refine loop_up (2628) _ ?_
    intro k hk ih
    refine G_iload_n d_X10_image_25 rfl ?_
    refine G_sipush d_X10_image_26 (by decide) ?_
    refine G_icmp_ge 69 d_X10_image_29 (by decide) (by omega) (by omega) (fun c29 => ?_) (fun c29 => ?_)
    · refine G_iload_n d_X10_image_69 rfl ?_
      refine G_if_eq 75 d_X10_image_70 (by decide) (by decide) (fun _ => ?_) (fun hd => absurd hd (by decide))
      have hke : k = 2628 := by omega
      subst hke
      have hO2 : MO u (imB (upm (upm m 64 0 0) 64 28 1) 2628) := fun j hj => by unfold imB; rw [if_pos ⟨rfl, hj⟩]; exact h83 j hj
      refine G_aload_n d_X10_image_75 rfl ?_
      refine G_callV0 cl_X10_98 rfl d_X10_image_76 (wk_64 _) (Nat.le_of_ble_eq_true rfl) (by decide) (sp_MlaysPaths u hU hO2) ?_
      rintro _ _ ⟨rfl, m3, rfl, g1, g2, g3, g4⟩
      have hO3 : MO u m3 := fun j hj => by rw [g1 65 (by decide) (by decide)]; exact hO2 j hj
      refine G_aload_n d_X10_image_79 rfl ?_
      refine G_callV0 cl_X10_101 rfl d_X10_image_80 (wk_64 _) (Nat.le_of_ble_eq_true rfl) (by decide) (sp_MlaysPrimitive u hU hO3) ?_
      rintro _ _ ⟨rfl, m4, rfl, k1, k2, k3⟩
      refine G_iconst d_X10_image_83 ?_
      refine G_zret (mc := 0) (ms := 0) (st := []) d_X10_image_84 rfl (by omega) ?_
      have hQ0 : KQ s m (upm m 64 0 0) := (KQ.refl hI).fld rfl
      refine ⟨rfl, m4, rfl, hQ0.1.trans (EQM.off (fun a h1 h2 h3 h4 h5 h6 h7 => ?_) (fun j h2 h3 h4 => ?_)), fun j hj => ?_, ⟨?_, fun p hp k hk => ?_⟩, k3, Or.inl ?_⟩
      · rw [k1 a h1 h4 h5 h6 h7, g1 a h1 h3, imB_off _ h2, upm_off _ _ h1]
      · rw [k2 j h4, g2 j h2 h3, imB_off _ (by decide)]
        by_cases e : j = 28
        · subst e; rw [upm_same, upm_ne _ _ (fun _ => by decide), h28]
        · rw [upm_ne _ _ (fun _ => e)]
      · rw [k1 65 (by decide) (by decide) (by decide) (by decide) (by decide)]; exact hO3 j hj
      · rw [k2 3 (by decide)]; exact g4.1
      · rw [k1 66 (by decide) (by decide) (by decide) (by decide) (by decide)]; exact g4.2 p hp k hk
      · rw [k2 2 (by decide)]; exact g3
    · refine G_iload_n d_X10_image_32 rfl ?_
      refine G_if_eq 51 d_X10_image_33 (by decide) (by decide) (fun _ => ?_) (fun hd => absurd hd (by decide))
      refine G_aload_n d_X10_image_51 rfl ?_
      refine G_getR (r := 65) (fl_X10_7.r) d_X10_image_52 (wk_64 _) rfl rfl ?_
      refine G_iload_n d_X10_image_55 rfl ?_
      refine G_aload_n d_X10_image_56 rfl ?_
      refine G_getR (r := 83) (fl_X10_95.r) d_X10_image_57 (wk_64 _) rfl rfl ?_
      refine G_iload_n d_X10_image_60 rfl ?_
      refine G_ialdj (k) d_X10_image_61 (wk_83 _) (by omega) (by omega) (by decide) ?_
      refine G_iastj (k) d_X10_image_62 (wk_65 _) (by omega) (by omega) (by decide) ?_
      rw [imB_off (a := 83) _ (by decide), imB_step]
      refine G_iinc d_X10_image_63 rfl (by decide) rfl ?_
      refine G_goto 25 d_X10_image_66 (by decide) ?_
      exact ih (by omega)
  refine G_aload_n d_X10_image_0 rfl ?_
  refine G_iconst d_X10_image_1 ?_
  refine G_putII fl_X10_1 d_X10_image_2 (wk_64 _) rfl ?_
  refine G_iload_n d_X10_image_5 rfl ?_
  refine G_if_ne 18 d_X10_image_6 (by decide) (by decide) (fun hd => absurd hd (by decide)) (fun _ => ?_)
  refine G_aload_n d_X10_image_9 rfl ?_
  refine G_getIe (fl_X10_359.r) d_X10_image_10 (wk_64 _) rfl (show _ = (1 : Int) from h28) ?_
  refine G_if_ne 18 d_X10_image_13 (by decide) (by omega) (fun c13 => ?_) (fun c13 => ?_)
  · refine G_aload_n d_X10_image_18 rfl ?_
    refine G_iconst d_X10_image_19 ?_
    refine G_putZ fl_X10_359 d_X10_image_20 (wk_64 _) rfl (by omega) ?_
    refine G_iconst d_X10_image_23 ?_
    refine G_istore_n d_X10_image_24 (by decide) rfl ?_
    have h9 := L 0 (by omega)
    rw [imB_0] at h9
    exact h9
  · omega
