def gapD (s : Nat → Int) (p k : Nat) : Int := pCh s p k - pCh s (pChief s).toNat k
theorem gapD_rng {s : Nat → Int} (h : VS s) (p k : Nat) : -12 ≤ gapD s p k ∧ gapD s p k ≤ 12 := by
  have h1 := pCh_rng h p k
  have h2 := pCh_rng h (pChief s).toNat k
  unfold gapD
  omega
theorem tm0 {x y : Int} : x.tmod y = 0 ↔ x % y = 0 := ⟨fun h => Int.emod_eq_zero_of_dvd (Int.dvd_of_tmod_eq_zero h), fun h => Int.tmod_eq_zero_of_dvd (Int.dvd_of_emod_eq_zero h)⟩
def lft (s : Nat → Int) (N : Nat → Nat) (p : Nat) : Bool := allN (fun k => gapD s p k % (N k : Int) == 0) (pN s)
def cgS (s : Nat → Int) (N : Nat → Nat) (p n : Nat) : Int := sumN (fun k => gapD s p k * (N k : Int)) n
def lfc (s : Nat → Int) (N : Nat → Nat) (l p : Nat) : Bool := cgS s N p (pN s) % (l : Int) == 0
def okL (s : Nat → Int) (L : Nat → Bool) : Bool := allN (fun p => (!pOther s p || !L p) && (!(pMk s p == 1) || L p)) (pC s)
def mtl (s : Nat → Int) (a b : Nat) : List (Nat × Bool) := ((List.range a).filter (pOther s)).map (fun p => (p, false)) ++ ((List.range b).filter (fun p => pMk s p == 1)).map (fun p => (p, true))
theorem flt_len (f : Nat → Bool) : ∀ n : Nat, ((List.range n).filter f).length = cntB f n
  | 0 => rfl
  | n + 1 => by
    rw [List.range_succ, List.filter_append, List.length_append, flt_len f n]
    by_cases h : f n = true
    · rw [cntB_t h]; simp [h]
    · rw [cntB_f (by simpa using h)]; simp [h]
theorem mtl_len (s : Nat → Int) (a b : Nat) : (mtl s a b).length = cntB (pOther s) a + cntB (fun p => pMk s p == 1) b := by
  unfold mtl
  rw [List.length_append, List.length_map, List.length_map, flt_len, flt_len]
theorem cntB_two {f g : Nat → Bool} : ∀ n : Nat, (∀ i, i < n → f i = true → g i = true → False) → cntB f n + cntB g n ≤ n
  | 0, _ => Nat.le_refl _
  | n + 1, h => by
    have h1 := cntB_two (f := f) (g := g) n (fun i hi => h i (by omega))
    have h2 := h n (by omega)
    unfold cntB
    by_cases c : f n = true
    · by_cases d : g n = true
      · exact (h2 c d).elim
      · rw [if_pos c, if_neg d]; omega
    · by_cases d : g n = true
      · rw [if_neg c, if_pos d]; omega
      · rw [if_neg c, if_neg d]; omega
theorem mtl_two (s : Nat → Int) (n : Nat) : cntB (pOther s) n + cntB (fun p => pMk s p == 1) n ≤ n :=
  cntB_two n (fun i _ h1 h2 => by
    have h3 := (Bool.and_eq_true_iff.mp h1).1
    simp only [beq_iff_eq] at h2 h3
    omega)
theorem mtl_o1 {s : Nat → Int} {p : Nat} (h : pOther s p = true) : mtl s (p + 1) 0 = mtl s p 0 ++ [(p, false)] := by
  unfold mtl
  rw [List.range_succ, List.filter_append]
  simp [h]
theorem mtl_o0 {s : Nat → Int} {p : Nat} (h : ¬ pOther s p = true) : mtl s (p + 1) 0 = mtl s p 0 := by
  unfold mtl
  rw [List.range_succ, List.filter_append]
  simp [h]
theorem mtl_w1 {s : Nat → Int} {a p : Nat} (h : pMk s p = 1) : mtl s a (p + 1) = mtl s a p ++ [(p, true)] := by
  unfold mtl
  rw [List.range_succ, List.filter_append]
  simp [h]
theorem mtl_w0 {s : Nat → Int} {a p : Nat} (h : ¬ pMk s p = 1) : mtl s a (p + 1) = mtl s a p := by
  unfold mtl
  rw [List.range_succ, List.filter_append]
  simp [h]
theorem mtl_okL (s : Nat → Int) (L : Nat → Bool) : ((mtl s (pC s) (pC s)).all (fun q => L q.1 == q.2) = true) ↔ okL s L = true := by
  unfold mtl okL
  rw [List.all_eq_true]
  constructor
  · intro h
    refine allN_true (fun p hp => ?_)
    have h1 : pOther s p = true → L p = false := fun ho => by
      have := h (p, false) (List.mem_append_left _ (List.mem_map.mpr ⟨p, List.mem_filter.mpr ⟨List.mem_range.mpr hp, ho⟩, rfl⟩))
      simpa using this
    have h2 : pMk s p = 1 → L p = true := fun ho => by
      have := h (p, true) (List.mem_append_right _ (List.mem_map.mpr ⟨p, List.mem_filter.mpr ⟨List.mem_range.mpr hp, by simpa using ho⟩, rfl⟩))
      simpa using this
    by_cases c1 : pOther s p = true
    · by_cases c2 : pMk s p = 1
      · simp [h1 c1, c1] ; exact absurd (h1 c1) (by rw [h2 c2]; decide)
      · simp [h1 c1, c2]
    · by_cases c2 : pMk s p = 1
      · simp [c1, h2 c2]
      · simp [c1, c2]
  · intro h q hq
    rcases List.mem_append.mp hq with hq | hq
    · obtain ⟨p, hp, rfl⟩ := List.mem_map.mp hq
      have h3 := List.mem_filter.mp hp
      have h4 := (Bool.and_eq_true_iff.mp (allN_of h p (List.mem_range.mp h3.1))).1
      simpa [h3.2] using h4
    · obtain ⟨p, hp, rfl⟩ := List.mem_map.mp hq
      have h3 := List.mem_filter.mp hp
      have h4 := (Bool.and_eq_true_iff.mp (allN_of h p (List.mem_range.mp h3.1))).2
      have h5 : pMk s p = 1 := by simpa using h3.2
      simpa [h5] using h4
def MT (s : Nat → Int) (E : List (Nat × Bool)) (m : Nat → Nat → Int) : Prop := m 64 23 = (E.length : Int) ∧ ∀ (i : Nat) (q : Nat × Bool), E[i]? = some q → (∀ k, k < pN s → m 77 (5 * i + k) = gapD s q.1 k) ∧ m 78 i = b1 q.2
def NB (s : Nat → Int) (N : Nat → Nat) (m : Nat → Nat → Int) : Prop := ∀ k, k < pN s → m 79 k = (N k : Int)
theorem MT.snoc {s : Nat → Int} {E : List (Nat × Bool)} {m m2 : Nat → Nat → Int} (h : MT s E m) (hN : pN s ≤ 5) (p : Nat) (u : Bool) (h23 : m2 64 23 = (E.length : Int) + 1) (h77 : ∀ j, j < 5 * E.length → m2 77 j = m 77 j) (h78 : ∀ j, j < E.length → m2 78 j = m 78 j) (hp : ∀ k, k < pN s → m2 77 (5 * E.length + k) = gapD s p k) (hu : m2 78 E.length = b1 u) : MT s (E ++ [(p, u)]) m2 := by
  refine ⟨by rw [h23, List.length_append]; rfl, fun i q hq => ?_⟩
  by_cases c : i < E.length
  · rw [List.getElem?_append_left c] at hq
    obtain ⟨a1, a2⟩ := h.2 i q hq
    exact ⟨fun k hk => by rw [h77 _ (by omega)]; exact a1 k hk, by rw [h78 i c]; exact a2⟩
  · by_cases c2 : i = E.length
    · subst c2
      rw [List.getElem?_append_right (Nat.le_refl _), Nat.sub_self] at hq
      obtain rfl : (p, u) = q := by simpa using hq
      exact ⟨hp, hu⟩
    · rw [List.getElem?_eq_none (by rw [List.length_append]; show E.length + 1 ≤ i; omega)] at hq
      exact absurd hq (by simp)
theorem b1_rng (u : Bool) : 0 ≤ b1 u ∧ b1 u ≤ 1 := by cases u <;> decide
theorem sp_Mmatters {w : List KD} {m : Nat → Nat → Int} (s : Nat → Int) (hV : VS s) (hI : MI s m) (E : List (Nat × Bool)) (p : Nat) (u : Bool) (hp : p < pC s) (hc : pChief s ≠ -1) (hE : E.length < 2401) (hMT : MT s E m) : Sp M_X10_matters 2 0 0 [rV 64, iV (p : Int), iV (pChief s), iV (b1 u)] (WC ++ (WM ++ w), m) (fun r h => r = none ∧ ∃ m2, h = (WC ++ (WM ++ w), m2) ∧ KQ s m m2 ∧ m2 79 = m 79 ∧ MT s (E ++ [(p, u)]) m2) := by
  refine Sp.ofG (ls := [rV 64, iV (p : Int), iV (pChief s), iV (b1 u), uV]) (by decide +kernel) rfl (Nat.le_of_ble_eq_true rfl) ?_
  have hC := pC_le hV
  have hN := hV.N
  have hT := hV.T
  have hSc := hV.Sc
  have hcr := pChief_rng s
  have L : ∀ k : Nat, k ≤ pN s → ∀ m1, KQ s m m1 → m1 79 = m 79 → m1 78 = m 78 → m1 64 23 = (E.length : Int) → (∀ j, j < 5 * E.length → m1 77 j = m 77 j) → (∀ j, j < k → m1 77 (5 * E.length + j) = gapD s p j) → G M_X10_matters 2 0 0 3 [rV 64, iV (p : Int), iV (pChief s), iV (b1 u), iV (k : Int)] [] (WC ++ (WM ++ w), m1) (fun r h => r = none ∧ ∃ m2, h = (WC ++ (WM ++ w), m2) ∧ KQ s m m2 ∧ m2 79 = m 79 ∧ MT s (E ++ [(p, u)]) m2) := by
    refine loop_up (pN s) _ ?_
    intro k hk ih m1 h1 h79 h78 h23 h77 hz
    refine G_iload d_X10_matters_3 rfl ?_
    refine G_aload_n d_X10_matters_5 rfl ?_
    refine G_callV0 cl_X10_11 rfl d_X10_matters_6 (wk_64 _) (Nat.le_of_ble_eq_true rfl) (by decide) (sp_Mn s hV h1.2.1) ?_
    rintro _ _ ⟨rfl, rfl⟩
    refine G_icmp_ge 47 d_X10_matters_9 (by decide) (by omega) (by omega) (fun c9 => ?_) (fun c9 => ?_)
    · refine G_aload_n d_X10_matters_47 rfl ?_
      refine G_getR (r := 78) (fl_X10_79.r) d_X10_matters_48 (wk_64 _) rfl rfl ?_
      refine G_aload_n d_X10_matters_51 rfl ?_
      refine G_getIe (fl_X10_260.r) d_X10_matters_52 (wk_64 _) rfl (h23) ?_
      refine G_iload_n d_X10_matters_55 rfl ?_
      refine G_zastj (E.length) d_X10_matters_56 (wk_78 _) (by omega) (by omega) (by decide) (by have := b1_rng u; omega) ?_
      refine G_aload_n d_X10_matters_57 rfl ?_
      refine G_aload_n d_X10_matters_58 rfl ?_
      refine G_getIe (v := (E.length : Int)) (fl_X10_260.r) d_X10_matters_59 (wk_64 _) rfl (by rw [upm_off _ _ (by decide)]; exact h23) ?_
      refine G_iconst d_X10_matters_62 ?_
      refine G_iadd d_X10_matters_63 ?_
      refine G_putII fl_X10_260 d_X10_matters_64 (wk_64 _) rfl ?_
      refine G_vret (mc := 0) (ms := 0) (st := []) d_X10_matters_67 rfl ?_
      have hke : k = pN s := by omega
      subst hke
      refine ⟨rfl, _, rfl, (h1.up rfl).fld rfl, by rw [upm_off _ _ (by decide), upm_off _ _ (by decide)]; exact h79, hMT.snoc (by omega) p u (upm_same _ _ _ _) (fun j hj => by rw [upm_off _ _ (by decide), upm_off _ _ (by decide)]; exact h77 j hj) (fun j hj => by rw [upm_off _ _ (by decide), upm_ne _ _ (fun _ => by omega), h78]) (fun j hj => by rw [upm_off _ _ (by decide), upm_off _ _ (by decide)]; exact hz j hj) (by rw [upm_off _ _ (by decide), upm_same])⟩
    · refine G_aload_n d_X10_matters_12 rfl ?_
      refine G_getR (r := 77) (fl_X10_76.r) d_X10_matters_13 (wk_64 _) rfl rfl ?_
      refine G_iconst d_X10_matters_16 ?_
      refine G_aload_n d_X10_matters_17 rfl ?_
      refine G_getIe (fl_X10_260.r) d_X10_matters_18 (wk_64 _) rfl (h23) ?_
      refine G_imul d_X10_matters_21 ?_
      refine G_iload d_X10_matters_22 rfl ?_
      refine G_iadd d_X10_matters_24 ?_
      refine G_aload_n d_X10_matters_25 rfl ?_
      refine G_iload_n d_X10_matters_26 rfl ?_
      refine G_iload d_X10_matters_27 rfl ?_
      refine G_callV2 cl_X10_108 rfl d_X10_matters_29 (wk_64 _) (Nat.le_of_ble_eq_true rfl) (by decide) (sp_Mchg s hV h1.2.1 h1.2.2.1 p k hp (by omega)) ?_
      rintro _ _ ⟨rfl, rfl⟩
      refine G_aload_n d_X10_matters_32 rfl ?_
      refine G_iload_n d_X10_matters_33 rfl ?_
      refine G_iload d_X10_matters_34 rfl ?_
      refine G_callV2 cl_X10_108 rfl d_X10_matters_36 (wk_64 _) (Nat.le_of_ble_eq_true rfl) (by decide) (sp_MchgC s hV h1.2.1 h1.2.2.1 (pChief s) (by omega) k (by omega)) ?_
      rintro _ _ ⟨rfl, rfl⟩
      refine G_isub d_X10_matters_39 ?_
      rw [show pCh s p k - pCh s (pChief s).toNat k = gapD s p k from rfl]
      refine G_iastj (5 * E.length + k) d_X10_matters_40 (wk_77 _) (by omega) (by omega) (by decide) ?_
      refine G_iinc d_X10_matters_41 rfl (by decide) rfl ?_
      refine G_goto 3 d_X10_matters_44 (by decide) ?_
      exact ih (by omega) _ (h1.up rfl) (by rw [upm_off _ _ (by decide)]; exact h79) (by rw [upm_off _ _ (by decide)]; exact h78) (by rw [upm_off _ _ (by decide)]; exact h23) (fun j hj => by rw [upm_ne _ _ (fun _ => by omega)]; exact h77 j hj) (fun j hj => by
        by_cases e : j = k
        · rw [e, upm_same]
        · rw [upm_ne _ _ (fun _ => by omega)]; exact hz j (by omega))
  refine G_iconst d_X10_matters_0 ?_
  refine G_istore d_X10_matters_1 (by decide) rfl ?_
  exact L 0 (by omega) m (KQ.refl hI) rfl rfl hMT.1 (fun _ _ => rfl) (fun j hj => absurd hj (by omega))
theorem tmod_b {x y B : Int} (h : -B ≤ x ∧ x ≤ B) : -B ≤ x.tmod y ∧ x.tmod y ≤ B := by
  have h1 : (x.tmod y).natAbs ≤ x.natAbs := by
    rw [Int.natAbs_tmod]
    exact Nat.mod_le _ _
  omega
theorem sp_MisLeftBySteps {w : List KD} {m : Nat → Nat → Int} (s : Nat → Int) (hV : VS s) (hO : MO s m) (E : List (Nat × Bool)) (N : Nat → Nat) (i : Nat) (q : Nat × Bool) (hMT : MT s E m) (hq : E[i]? = some q) (hi : i < 2401) (hB : NB s N m) (hN1 : ∀ k, k < pN s → 1 ≤ N k ∧ N k ≤ 100) : Sp M_X10_isLeftBySteps 1 0 0 [rV 64, iV (i : Int)] (WC ++ (WM ++ w), m) (fun r h => r = some (iV (if lft s N q.1 = true then 1 else 0)) ∧ h = (WC ++ (WM ++ w), m)) := by
  refine Sp.ofG (ls := [rV 64, iV (i : Int), uV]) (by decide +kernel) rfl (Nat.le_of_ble_eq_true rfl) ?_
  have hC := pC_le hV
  have hN := hV.N
  have hT := hV.T
  have hSc := hV.Sc
  have L : ∀ k : Nat, k ≤ pN s → (∀ j, j < k → (gapD s q.1 j % (N j : Int) == 0) = true) → G M_X10_isLeftBySteps 1 0 0 2 [rV 64, iV (i : Int), iV (k : Int)] [] (WC ++ (WM ++ w), m) (fun r h => r = some (iV (if lft s N q.1 = true then 1 else 0)) ∧ h = (WC ++ (WM ++ w), m)) := by
    refine loop_up (pN s) _ ?_
    intro k hk ih hz
    refine G_iload_n d_X10_isLeftBySteps_2 rfl ?_
    refine G_aload_n d_X10_isLeftBySteps_3 rfl ?_
    refine G_callV0 cl_X10_11 rfl d_X10_isLeftBySteps_4 (wk_64 _) (Nat.le_of_ble_eq_true rfl) (by decide) (sp_Mn s hV hO) ?_
    rintro _ _ ⟨rfl, rfl⟩
    refine G_icmp_ge 38 d_X10_isLeftBySteps_7 (by decide) (by omega) (by omega) (fun c7 => ?_) (fun c7 => ?_)
    · refine G_iconst d_X10_isLeftBySteps_38 ?_
      refine G_zret (mc := 0) (ms := 0) (st := []) d_X10_isLeftBySteps_39 rfl (by omega) ?_
      exact ⟨by rw [if_pos (show lft s N q.1 = true from allN_true (fun j hj => hz j (by omega)))], rfl⟩
    · refine G_aload_n d_X10_isLeftBySteps_10 rfl ?_
      refine G_getR (r := 77) (fl_X10_76.r) d_X10_isLeftBySteps_11 (wk_64 _) rfl rfl ?_
      refine G_iconst d_X10_isLeftBySteps_14 ?_
      refine G_iload_n d_X10_isLeftBySteps_15 rfl ?_
      refine G_imul d_X10_isLeftBySteps_16 ?_
      refine G_iload_n d_X10_isLeftBySteps_17 rfl ?_
      refine G_iadd d_X10_isLeftBySteps_18 ?_
      refine G_ialdj (5 * i + k) d_X10_isLeftBySteps_19 (wk_77 _) (by omega) (by omega) (by decide) ?_
      rw [show m 77 (5 * i + k) = gapD s q.1 k from (hMT.2 i q hq).1 k (by omega)]
      have hgd := gapD_rng hV q.1 k
      refine G_aload_n d_X10_isLeftBySteps_20 rfl ?_
      refine G_getR (r := 79) (fl_X10_83.r) d_X10_isLeftBySteps_21 (wk_64 _) rfl rfl ?_
      refine G_iload_n d_X10_isLeftBySteps_24 rfl ?_
      refine G_ialdj (k) d_X10_isLeftBySteps_25 (wk_79 _) (by omega) (by omega) (by decide) ?_
      rw [show m 79 k = (N k : Int) from hB k (by omega)]
      have hnk := hN1 k (by omega)
      refine G_irem d_X10_isLeftBySteps_26 (by omega) (by omega) (by omega) ?_
      have htm : -12 ≤ (gapD s q.1 k).tmod (N k : Int) ∧ (gapD s q.1 k).tmod (N k : Int) ≤ 12 := tmod_b hgd
      refine G_if_eq 32 d_X10_isLeftBySteps_27 (by decide) (by omega) (fun c27 => ?_) (fun c27 => ?_)
      · refine G_iinc d_X10_isLeftBySteps_32 rfl (by decide) rfl ?_
        refine G_goto 2 d_X10_isLeftBySteps_35 (by decide) ?_
        exact ih (by omega) (fun j hj => by
          by_cases e : j = k
          · subst e; simpa using tm0.mp c27
          · exact hz j (by omega))
      · refine G_iconst d_X10_isLeftBySteps_30 ?_
        refine G_zret (mc := 0) (ms := 0) (st := []) d_X10_isLeftBySteps_31 rfl (by omega) ?_
        refine ⟨?_, rfl⟩
        rw [if_neg]
        intro hl
        have h8 := allN_of hl k (by omega)
        simp only [beq_iff_eq] at h8
        exact c27 (tm0.mpr h8)
  refine G_iconst d_X10_isLeftBySteps_0 ?_
  refine G_istore_n d_X10_isLeftBySteps_1 (by decide) rfl ?_
  exact L 0 (by omega) (fun j hj => absurd hj (by omega))
theorem cgS_rng {s : Nat → Int} (h : VS s) {N : Nat → Nat} (p n : Nat) (hn : n ≤ 5) (hN : ∀ k, k < n → N k ≤ 100) : -6000 ≤ cgS s N p n ∧ cgS s N p n ≤ 6000 := by
  have h1 := sumN_bnd (f := fun k => gapD s p k * (N k : Int)) (B := 1200) (n := n) (fun k hk => by
    have h2 := gapD_rng h p k
    have h3 := hN k hk
    have h4 := absb (x := gapD s p k) (y := (N k : Int)) (A := 12) (B := 100) (by omega) (by omega)
    omega)
  unfold cgS
  omega
theorem sp_MisLeftByCogs {w : List KD} {m : Nat → Nat → Int} (s : Nat → Int) (hV : VS s) (hO : MO s m) (E : List (Nat × Bool)) (N : Nat → Nat) (i : Nat) (q : Nat × Bool) (hMT : MT s E m) (hq : E[i]? = some q) (hi : i < 2401) (hB : NB s N m) (l : Nat) (hl : 1 ≤ l ∧ l ≤ 12) (hN1 : ∀ k, k < pN s → N k ≤ 100) : Sp M_X10_isLeftByCogs 1 0 0 [rV 64, iV (i : Int), iV (l : Int)] (WC ++ (WM ++ w), m) (fun r h => r = some (iV (if lfc s N l q.1 = true then 1 else 0)) ∧ h = (WC ++ (WM ++ w), m)) := by
  refine Sp.ofG (ls := [rV 64, iV (i : Int), iV (l : Int), uV, uV]) (by decide +kernel) rfl (Nat.le_of_ble_eq_true rfl) ?_
  have hC := pC_le hV
  have hN := hV.N
  have hT := hV.T
  have hSc := hV.Sc
  have L : ∀ k : Nat, k ≤ pN s → G M_X10_isLeftByCogs 1 0 0 5 [rV 64, iV (i : Int), iV (l : Int), iV (cgS s N q.1 k), iV (k : Int)] [] (WC ++ (WM ++ w), m) (fun r h => r = some (iV (if lfc s N l q.1 = true then 1 else 0)) ∧ h = (WC ++ (WM ++ w), m)) := by
    refine loop_up (pN s) _ ?_
    intro k hk ih
    refine G_iload d_X10_isLeftByCogs_5 rfl ?_
    refine G_aload_n d_X10_isLeftByCogs_7 rfl ?_
    refine G_callV0 cl_X10_11 rfl d_X10_isLeftByCogs_8 (wk_64 _) (Nat.le_of_ble_eq_true rfl) (by decide) (sp_Mn s hV hO) ?_
    rintro _ _ ⟨rfl, rfl⟩
    refine G_icmp_ge 42 d_X10_isLeftByCogs_11 (by decide) (by omega) (by omega) (fun c11 => ?_) (fun c11 => ?_)
    · have hke : k = pN s := by omega
      subst hke
      have hcg := cgS_rng hV (N := N) q.1 (pN s) (by omega) hN1
      refine G_iload_n d_X10_isLeftByCogs_42 rfl ?_
      refine G_iload_n d_X10_isLeftByCogs_43 rfl ?_
      refine G_irem d_X10_isLeftByCogs_44 (by omega) (by omega) (by omega) ?_
      have htm := tmod_b (y := (l : Int)) hcg
      refine G_if_ne 52 d_X10_isLeftByCogs_45 (by decide) (by omega) (fun c45 => ?_) (fun c45 => ?_)
      · refine G_iconst d_X10_isLeftByCogs_52 ?_
        refine G_zret (mc := 0) (ms := 0) (st := []) d_X10_isLeftByCogs_53 rfl (by omega) ?_
        refine ⟨?_, rfl⟩
        rw [if_neg]
        intro hl2
        unfold lfc at hl2
        simp only [beq_iff_eq] at hl2
        exact c45 (tm0.mpr hl2)
      · refine G_iconst d_X10_isLeftByCogs_48 ?_
        refine G_goto 53 d_X10_isLeftByCogs_49 (by decide) ?_
        refine G_zret (mc := 0) (ms := 0) (st := []) d_X10_isLeftByCogs_53 rfl (by omega) ?_
        refine ⟨?_, rfl⟩
        rw [if_pos]
        unfold lfc
        simp only [beq_iff_eq]
        exact tm0.mp (by omega)
    · refine G_iload_n d_X10_isLeftByCogs_14 rfl ?_
      refine G_aload_n d_X10_isLeftByCogs_15 rfl ?_
      refine G_getR (r := 77) (fl_X10_76.r) d_X10_isLeftByCogs_16 (wk_64 _) rfl rfl ?_
      refine G_iconst d_X10_isLeftByCogs_19 ?_
      refine G_iload_n d_X10_isLeftByCogs_20 rfl ?_
      refine G_imul d_X10_isLeftByCogs_21 ?_
      refine G_iload d_X10_isLeftByCogs_22 rfl ?_
      refine G_iadd d_X10_isLeftByCogs_24 ?_
      refine G_ialdj (5 * i + k) d_X10_isLeftByCogs_25 (wk_77 _) (by omega) (by omega) (by decide) ?_
      rw [show m 77 (5 * i + k) = gapD s q.1 k from (hMT.2 i q hq).1 k (by omega)]
      have hgd := gapD_rng hV q.1 k
      refine G_aload_n d_X10_isLeftByCogs_26 rfl ?_
      refine G_getR (r := 79) (fl_X10_83.r) d_X10_isLeftByCogs_27 (wk_64 _) rfl rfl ?_
      refine G_iload d_X10_isLeftByCogs_30 rfl ?_
      refine G_ialdj (k) d_X10_isLeftByCogs_32 (wk_79 _) (by omega) (by omega) (by decide) ?_
      rw [show m 79 k = (N k : Int) from hB k (by omega)]
      refine G_imul d_X10_isLeftByCogs_33 ?_
      refine G_iadd d_X10_isLeftByCogs_34 ?_
      rw [show cgS s N q.1 k + gapD s q.1 k * (N k : Int) = cgS s N q.1 (k + 1) from rfl]
      refine G_istore_n d_X10_isLeftByCogs_35 (by decide) rfl ?_
      refine G_iinc d_X10_isLeftByCogs_36 rfl (by decide) rfl ?_
      refine G_goto 5 d_X10_isLeftByCogs_39 (by decide) ?_
      exact ih (by omega)
  refine G_iconst d_X10_isLeftByCogs_0 ?_
  refine G_istore_n d_X10_isLeftByCogs_1 (by decide) rfl ?_
  refine G_iconst d_X10_isLeftByCogs_2 ?_
  refine G_istore d_X10_isLeftByCogs_3 (by decide) rfl ?_
  exact L 0 (by omega)
theorem sp_MdoSteps {w : List KD} {m : Nat → Nat → Int} (s : Nat → Int) (hV : VS s) (hO : MO s m) (E : List (Nat × Bool)) (N : Nat → Nat) (hMT : MT s E m) (hE : E.length ≤ 2401) (hB : NB s N m) (hN1 : ∀ k, k < pN s → 1 ≤ N k ∧ N k ≤ 100) : Sp M_X10_doSteps 2 0 0 [rV 64] (WC ++ (WM ++ w), m) (fun r h => r = some (iV (if E.all (fun q => lft s N q.1 == q.2) = true then 1 else 0)) ∧ h = (WC ++ (WM ++ w), m)) := by
  refine Sp.ofG (ls := [rV 64, uV]) (by decide +kernel) rfl (Nat.le_of_ble_eq_true rfl) ?_
  have hC := pC_le hV
  have hN := hV.N
  have hT := hV.T
  have hSc := hV.Sc
  have L : ∀ i : Nat, i ≤ E.length → (∀ (j : Nat) (q : Nat × Bool), j < i → E[j]? = some q → (lft s N q.1 == q.2) = true) → G M_X10_doSteps 2 0 0 2 [rV 64, iV (i : Int)] [] (WC ++ (WM ++ w), m) (fun r h => r = some (iV (if E.all (fun q => lft s N q.1 == q.2) = true then 1 else 0)) ∧ h = (WC ++ (WM ++ w), m)) := by
    refine loop_up (E.length) _ ?_
    intro i hi ih hz
    refine G_iload_n d_X10_doSteps_2 rfl ?_
    refine G_aload_n d_X10_doSteps_3 rfl ?_
    refine G_getIe (fl_X10_260.r) d_X10_doSteps_4 (wk_64 _) rfl (hMT.1) ?_
    refine G_icmp_ge 32 d_X10_doSteps_7 (by decide) (by omega) (by omega) (fun c7 => ?_) (fun c7 => ?_)
    · refine G_iconst d_X10_doSteps_32 ?_
      refine G_zret (mc := 0) (ms := 0) (st := []) d_X10_doSteps_33 rfl (by omega) ?_
      refine ⟨?_, rfl⟩
      rw [if_pos]
      rw [List.all_eq_true]
      intro q hq
      obtain ⟨j, hj⟩ := List.getElem?_of_mem hq
      have hjl : j < E.length := by
        by_cases c : j < E.length
        · exact c
        · rw [List.getElem?_eq_none (by omega)] at hj; exact absurd hj (by simp)
      exact hz j q (by omega) hj
    · refine G_aload_n d_X10_doSteps_10 rfl ?_
      refine G_iload_n d_X10_doSteps_11 rfl ?_
      obtain ⟨q, hq⟩ : ∃ q, E[i]? = some q := ⟨E[i], List.getElem?_eq_getElem (by omega)⟩
      have hbr := b1_rng q.2
      have hbe : (lft s N q.1 == q.2) = true ↔ (if lft s N q.1 = true then 1 else 0) = b1 q.2 := by
        unfold b1
        cases lft s N q.1 <;> cases q.2 <;> decide
      have hif : 0 ≤ (if lft s N q.1 = true then (1 : Int) else 0) ∧ (if lft s N q.1 = true then (1 : Int) else 0) ≤ 1 := by split <;> decide
      refine G_callV1 cl_X10_267 rfl d_X10_doSteps_12 (wk_64 _) (Nat.le_of_ble_eq_true rfl) (by decide) (sp_MisLeftBySteps s hV hO E N i q hMT hq (by omega) hB hN1) ?_
      rintro _ _ ⟨rfl, rfl⟩
      refine G_aload_n d_X10_doSteps_15 rfl ?_
      refine G_getR (r := 78) (fl_X10_79.r) d_X10_doSteps_16 (wk_64 _) rfl rfl ?_
      refine G_iload_n d_X10_doSteps_19 rfl ?_
      refine G_zaldj (i) d_X10_doSteps_20 (wk_78 _) (by omega) (by omega) (by decide) ?_
      rw [show m 78 i = b1 q.2 from (hMT.2 i q hq).2]
      refine G_icmp_eq 26 d_X10_doSteps_21 (by decide) (by omega) (by omega) (fun c21 => ?_) (fun c21 => ?_)
      · refine G_iinc d_X10_doSteps_26 rfl (by decide) rfl ?_
        refine G_goto 2 d_X10_doSteps_29 (by decide) ?_
        refine ih (by omega) (fun j q2 hj hq2 => ?_)
        by_cases e : j = i
        · subst e
          obtain rfl : q = q2 := by rw [hq] at hq2; simpa using hq2
          exact hbe.mpr c21
        · exact hz j q2 (by omega) hq2
      · refine G_iconst d_X10_doSteps_24 ?_
        refine G_zret (mc := 0) (ms := 0) (st := []) d_X10_doSteps_25 rfl (by omega) ?_
        refine ⟨?_, rfl⟩
        rw [if_neg]
        intro ha
        exact c21 (hbe.mp (List.all_eq_true.mp ha q (List.mem_of_getElem? hq)))
  refine G_iconst d_X10_doSteps_0 ?_
  refine G_istore_n d_X10_doSteps_1 (by decide) rfl ?_
  exact L 0 (by omega) (fun j q hj => absurd hj (by omega))
theorem sp_MdoCogs {w : List KD} {m : Nat → Nat → Int} (s : Nat → Int) (hV : VS s) (hO : MO s m) (E : List (Nat × Bool)) (N : Nat → Nat) (hMT : MT s E m) (hE : E.length ≤ 2401) (hB : NB s N m) (l : Nat) (hl : 1 ≤ l ∧ l ≤ 12) (hN1 : ∀ k, k < pN s → N k ≤ 100) : Sp M_X10_doCogs 2 0 0 [rV 64, iV (l : Int)] (WC ++ (WM ++ w), m) (fun r h => r = some (iV (if E.all (fun q => lfc s N l q.1 == q.2) = true then 1 else 0)) ∧ h = (WC ++ (WM ++ w), m)) := by
  refine Sp.ofG (ls := [rV 64, iV (l : Int), uV]) (by decide +kernel) rfl (Nat.le_of_ble_eq_true rfl) ?_
  have hC := pC_le hV
  have hN := hV.N
  have hT := hV.T
  have hSc := hV.Sc
  have L : ∀ i : Nat, i ≤ E.length → (∀ (j : Nat) (q : Nat × Bool), j < i → E[j]? = some q → (lfc s N l q.1 == q.2) = true) → G M_X10_doCogs 2 0 0 2 [rV 64, iV (l : Int), iV (i : Int)] [] (WC ++ (WM ++ w), m) (fun r h => r = some (iV (if E.all (fun q => lfc s N l q.1 == q.2) = true then 1 else 0)) ∧ h = (WC ++ (WM ++ w), m)) := by
    refine loop_up (E.length) _ ?_
    intro i hi ih hz
    refine G_iload_n d_X10_doCogs_2 rfl ?_
    refine G_aload_n d_X10_doCogs_3 rfl ?_
    refine G_getIe (fl_X10_260.r) d_X10_doCogs_4 (wk_64 _) rfl (hMT.1) ?_
    refine G_icmp_ge 33 d_X10_doCogs_7 (by decide) (by omega) (by omega) (fun c7 => ?_) (fun c7 => ?_)
    · refine G_iconst d_X10_doCogs_33 ?_
      refine G_zret (mc := 0) (ms := 0) (st := []) d_X10_doCogs_34 rfl (by omega) ?_
      refine ⟨?_, rfl⟩
      rw [if_pos]
      rw [List.all_eq_true]
      intro q hq
      obtain ⟨j, hj⟩ := List.getElem?_of_mem hq
      have hjl : j < E.length := by
        by_cases c : j < E.length
        · exact c
        · rw [List.getElem?_eq_none (by omega)] at hj; exact absurd hj (by simp)
      exact hz j q (by omega) hj
    · refine G_aload_n d_X10_doCogs_10 rfl ?_
      refine G_iload_n d_X10_doCogs_11 rfl ?_
      refine G_iload_n d_X10_doCogs_12 rfl ?_
      obtain ⟨q, hq⟩ : ∃ q, E[i]? = some q := ⟨E[i], List.getElem?_eq_getElem (by omega)⟩
      have hbr := b1_rng q.2
      have hbe : (lfc s N l q.1 == q.2) = true ↔ (if lfc s N l q.1 = true then 1 else 0) = b1 q.2 := by
        unfold b1
        cases lfc s N l q.1 <;> cases q.2 <;> decide
      have hif : 0 ≤ (if lfc s N l q.1 = true then (1 : Int) else 0) ∧ (if lfc s N l q.1 = true then (1 : Int) else 0) ≤ 1 := by split <;> decide
      refine G_callV2 cl_X10_270 rfl d_X10_doCogs_13 (wk_64 _) (Nat.le_of_ble_eq_true rfl) (by decide) (sp_MisLeftByCogs s hV hO E N i q hMT hq (by omega) hB l hl hN1) ?_
      rintro _ _ ⟨rfl, rfl⟩
      refine G_aload_n d_X10_doCogs_16 rfl ?_
      refine G_getR (r := 78) (fl_X10_79.r) d_X10_doCogs_17 (wk_64 _) rfl rfl ?_
      refine G_iload_n d_X10_doCogs_20 rfl ?_
      refine G_zaldj (i) d_X10_doCogs_21 (wk_78 _) (by omega) (by omega) (by decide) ?_
      rw [show m 78 i = b1 q.2 from (hMT.2 i q hq).2]
      refine G_icmp_eq 27 d_X10_doCogs_22 (by decide) (by omega) (by omega) (fun c22 => ?_) (fun c22 => ?_)
      · refine G_iinc d_X10_doCogs_27 rfl (by decide) rfl ?_
        refine G_goto 2 d_X10_doCogs_30 (by decide) ?_
        refine ih (by omega) (fun j q2 hj hq2 => ?_)
        by_cases e : j = i
        · subst e
          obtain rfl : q = q2 := by rw [hq] at hq2; simpa using hq2
          exact hbe.mpr c22
        · exact hz j q2 (by omega) hq2
      · refine G_iconst d_X10_doCogs_25 ?_
        refine G_zret (mc := 0) (ms := 0) (st := []) d_X10_doCogs_26 rfl (by omega) ?_
        refine ⟨?_, rfl⟩
        rw [if_neg]
        intro ha
        exact c22 (hbe.mp (List.all_eq_true.mp ha q (List.mem_of_getElem? hq)))
  refine G_iconst d_X10_doCogs_0 ?_
  refine G_istore_n d_X10_doCogs_1 (by decide) rfl ?_
  exact L 0 (by omega) (fun j q hj => absurd hj (by omega))
theorem sp_Mproduct {w : List KD} {m : Nat → Nat → Int} (s : Nat → Int) (hV : VS s) (hO : MO s m) (N : Nat → Nat) (hB : NB s N m) : Sp M_X10_product 1 0 0 [rV 64] (WC ++ (WM ++ w), m) (fun r h => r = some (iV (prodN (fun k => (N k : Int)) (pN s))) ∧ h = (WC ++ (WM ++ w), m)) := by
  refine Sp.ofG (ls := [rV 64, uV, uV]) (by decide +kernel) rfl (Nat.le_of_ble_eq_true rfl) ?_
  have hC := pC_le hV
  have hN := hV.N
  have hT := hV.T
  have hSc := hV.Sc
  have L : ∀ k : Nat, k ≤ pN s → G M_X10_product 1 0 0 4 [rV 64, iV (prodN (fun k => (N k : Int)) k), iV (k : Int)] [] (WC ++ (WM ++ w), m) (fun r h => r = some (iV (prodN (fun k => (N k : Int)) (pN s))) ∧ h = (WC ++ (WM ++ w), m)) := by
    refine loop_up (pN s) _ ?_
    intro k hk ih
    refine G_iload_n d_X10_product_4 rfl ?_
    refine G_aload_n d_X10_product_5 rfl ?_
    refine G_callV0 cl_X10_11 rfl d_X10_product_6 (wk_64 _) (Nat.le_of_ble_eq_true rfl) (by decide) (sp_Mn s hV hO) ?_
    rintro _ _ ⟨rfl, rfl⟩
    refine G_icmp_ge 27 d_X10_product_9 (by decide) (by omega) (by omega) (fun c9 => ?_) (fun c9 => ?_)
    · refine G_iload_n d_X10_product_27 rfl ?_
      refine G_iret (mc := 0) (ms := 0) (st := []) d_X10_product_28 rfl ?_
      exact ⟨by rw [show k = pN s by omega], rfl⟩
    · refine G_iload_n d_X10_product_12 rfl ?_
      refine G_aload_n d_X10_product_13 rfl ?_
      refine G_getR (r := 79) (fl_X10_83.r) d_X10_product_14 (wk_64 _) rfl rfl ?_
      refine G_iload_n d_X10_product_17 rfl ?_
      refine G_ialdj (k) d_X10_product_18 (wk_79 _) (by omega) (by omega) (by decide) ?_
      rw [show m 79 k = (N k : Int) from hB k (by omega)]
      refine G_imul d_X10_product_19 ?_
      refine G_istore_n d_X10_product_20 (by decide) rfl ?_
      refine G_iinc d_X10_product_21 rfl (by decide) rfl ?_
      refine G_goto 4 d_X10_product_24 (by decide) ?_
      exact ih (by omega)
  refine G_iconst d_X10_product_0 ?_
  refine G_istore_n d_X10_product_1 (by decide) rfl ?_
  refine G_iconst d_X10_product_2 ?_
  refine G_istore_n d_X10_product_3 (by decide) rfl ?_
  exact L 0 (by omega)
def posb (s : Nat → Int) : Bool := decide (pChief s ≠ -1) && !anyGone s
theorem sp_MlaysMattering {w : List KD} {m : Nat → Nat → Int} (s : Nat → Int) (hV : VS s) (hI : MI s m) : Sp M_X10_laysMattering 5 0 0 [rV 64] (WC ++ (WM ++ w), m) (fun r h => r = some (iV (if posb s = true then 1 else 0)) ∧ ∃ m2, h = (WC ++ (WM ++ w), m2) ∧ KQ s m m2 ∧ (posb s = true → MT s (mtl s (pC s) (pC s)) m2)) := by
  refine Sp.ofG (ls := [rV 64, uV, uV]) (by decide +kernel) rfl (Nat.le_of_ble_eq_true rfl) ?_
  have hC := pC_le hV
  have hN := hV.N
  have hT := hV.T
  have hSc := hV.Sc
  have LW : ∀ p : Nat, p ≤ pC s → ∀ m1, pChief s ≠ -1 → KQ s m m1 → MT s (mtl s (pC s) p) m1 → (∀ q, q < p → (!(pMk s q == 1 && pGone s q)) = true) → G M_X10_laysMattering 5 0 0 50 [rV 64, iV (pChief s), iV (p : Int)] [] (WC ++ (WM ++ w), m1) (fun r h => r = some (iV (if posb s = true then 1 else 0)) ∧ ∃ m2, h = (WC ++ (WM ++ w), m2) ∧ KQ s m m2 ∧ (posb s = true → MT s (mtl s (pC s) (pC s)) m2)) := by
    refine loop_up (pC s) _ ?_
    intro p hp ih m1 hc1 h1 hMT hno
    refine G_iload_n d_X10_laysMattering_50 rfl ?_
    refine G_aload_n d_X10_laysMattering_51 rfl ?_
    refine G_getIe (fl_X10_25.r) d_X10_laysMattering_52 (wk_64 _) rfl (h1.2.2.1.1) ?_
    refine G_icmp_ge 92 d_X10_laysMattering_55 (by decide) (by omega) (by omega) (fun c55 => ?_) (fun c55 => ?_)
    · refine G_iconst d_X10_laysMattering_92 ?_
      refine G_zret (mc := 0) (ms := 0) (st := []) d_X10_laysMattering_93 rfl (by omega) ?_
      have hpe : p = pC s := by omega
      subst hpe
      refine ⟨?_, m1, rfl, h1, fun _ => hMT⟩
      rw [if_pos]
      unfold posb anyGone
      rw [allN_true (fun q hq => hno q hq)]
      simpa using hc1
    · refine G_aload_n d_X10_laysMattering_58 rfl ?_
      refine G_iload_n d_X10_laysMattering_59 rfl ?_
      refine G_callV1 cl_X10_104 rfl d_X10_laysMattering_60 (wk_64 _) (Nat.le_of_ble_eq_true rfl) (by decide) (sp_MisWished s hV h1.2.1 h1.2.2.1 p (by omega)) ?_
      rintro _ _ ⟨rfl, rfl⟩
      by_cases hw : pMk s p = 1
      · rw [if_pos hw]
        refine G_if_ne 69 d_X10_laysMattering_63 (by decide) (by decide) (fun _ => ?_) (fun hd => absurd hd (by decide))
        refine G_aload_n d_X10_laysMattering_69 rfl ?_
        refine G_iload_n d_X10_laysMattering_70 rfl ?_
        refine G_callV1 cl_X10_245 rfl d_X10_laysMattering_71 (wk_64 _) (Nat.le_of_ble_eq_true rfl) (by decide) (sp_MisGone s hV h1.2.1 h1.2.2.1 p (by omega)) ?_
        rintro _ _ ⟨rfl, rfl⟩
        by_cases hg : pGone s p = true
        · rw [if_pos hg]
          refine G_if_eq 79 d_X10_laysMattering_74 (by decide) (by decide) (fun hd => absurd hd (by decide)) (fun _ => ?_)
          refine G_iconst d_X10_laysMattering_77 ?_
          refine G_zret (mc := 0) (ms := 0) (st := []) d_X10_laysMattering_78 rfl (by omega) ?_
          refine ⟨?_, m1, rfl, h1, ?_⟩
          · rw [if_neg]
            intro hp9
            have h9 := (Bool.and_eq_true_iff.mp hp9).2
            unfold anyGone at h9
            rw [allN_false p (by omega) (by simp [hw, hg])] at h9
            exact absurd h9 (by decide)
          · intro hp9
            exfalso
            have h9 := (Bool.and_eq_true_iff.mp hp9).2
            unfold anyGone at h9
            rw [allN_false p (by omega) (by simp [hw, hg])] at h9
            exact absurd h9 (by decide)
        · rw [if_neg hg]
          refine G_if_eq 79 d_X10_laysMattering_74 (by decide) (by decide) (fun _ => ?_) (fun hd => absurd hd (by decide))
          have hwp : cntB (fun p => pMk s p == 1) p + 1 ≤ cntB (fun p => pMk s p == 1) (pC s) := by
            have h9 := cntB_mono (fun p => pMk s p == 1) (show p + 1 ≤ pC s by omega)
            rw [cntB_t (f := fun p => pMk s p == 1) (by simpa using hw)] at h9
            exact h9
          have htw := mtl_two s (pC s)
          refine G_aload_n d_X10_laysMattering_79 rfl ?_
          refine G_iload_n d_X10_laysMattering_80 rfl ?_
          refine G_iload_n d_X10_laysMattering_81 rfl ?_
          refine G_iconst d_X10_laysMattering_82 ?_
          refine G_callV3 cl_X10_263 rfl d_X10_laysMattering_83 (wk_64 _) (Nat.le_of_ble_eq_true rfl) (by decide) (sp_Mmatters s hV h1.2 (mtl s (pC s) p) p true (by omega) hc1 (by rw [mtl_len]; omega) hMT) ?_
          rintro _ _ ⟨rfl, m2, rfl, h2, -, hMT2⟩
          have h2 := h1.trans h2
          refine G_iinc d_X10_laysMattering_86 rfl (by decide) rfl ?_
          refine G_goto 50 d_X10_laysMattering_89 (by decide) ?_
          exact ih (by omega) m2 hc1 h2 (by rw [mtl_w1 hw]; exact hMT2) (fun q hq => by
            by_cases e : q = p
            · subst e; simp [hg]
            · exact hno q (by omega))
      · rw [if_neg hw]
        refine G_if_ne 69 d_X10_laysMattering_63 (by decide) (by decide) (fun hd => absurd hd (by decide)) (fun _ => ?_)
        refine G_goto 86 d_X10_laysMattering_66 (by decide) ?_
        refine G_iinc d_X10_laysMattering_86 rfl (by decide) rfl ?_
        refine G_goto 50 d_X10_laysMattering_89 (by decide) ?_
        exact ih (by omega) m1 hc1 h1 (by rw [mtl_w0 hw]; exact hMT) (fun q hq => by
          by_cases e : q = p
          · subst e; simp [hw]
          · exact hno q (by omega))
  have LO : ∀ p : Nat, p ≤ pC s → ∀ m1, pChief s ≠ -1 → KQ s m m1 → MT s (mtl s p 0) m1 → G M_X10_laysMattering 5 0 0 19 [rV 64, iV (pChief s), iV (p : Int)] [] (WC ++ (WM ++ w), m1) (fun r h => r = some (iV (if posb s = true then 1 else 0)) ∧ ∃ m2, h = (WC ++ (WM ++ w), m2) ∧ KQ s m m2 ∧ (posb s = true → MT s (mtl s (pC s) (pC s)) m2)) := by
    refine loop_up (pC s) _ ?_
    intro p hp ih m1 hc1 h1 hMT
    refine G_iload_n d_X10_laysMattering_19 rfl ?_
    refine G_aload_n d_X10_laysMattering_20 rfl ?_
    refine G_getIe (fl_X10_25.r) d_X10_laysMattering_21 (wk_64 _) rfl (h1.2.2.1.1) ?_
    refine G_icmp_ge 48 d_X10_laysMattering_24 (by decide) (by omega) (by omega) (fun c24 => ?_) (fun c24 => ?_)
    · refine G_iconst d_X10_laysMattering_48 ?_
      refine G_istore_n d_X10_laysMattering_49 (by decide) rfl ?_
      have hpe : p = pC s := by omega
      subst hpe
      exact LW 0 (by omega) m1 hc1 h1 hMT (fun q hq => absurd hq (by omega))
    · refine G_aload_n d_X10_laysMattering_27 rfl ?_
      refine G_iload_n d_X10_laysMattering_28 rfl ?_
      refine G_callV1 cl_X10_248 rfl d_X10_laysMattering_29 (wk_64 _) (Nat.le_of_ble_eq_true rfl) (by decide) (sp_MisOther s hV h1.2.1 h1.2.2.1 p (by omega)) ?_
      rintro _ _ ⟨rfl, rfl⟩
      by_cases ho : pOther s p = true
      · rw [if_pos ho]
        refine G_if_eq 42 d_X10_laysMattering_32 (by decide) (by decide) (fun hd => absurd hd (by decide)) (fun _ => ?_)
        have hob := cntB_le (pOther s) p
        have hz0 : cntB (fun p => pMk s p == 1) 0 = 0 := rfl
        refine G_aload_n d_X10_laysMattering_35 rfl ?_
        refine G_iload_n d_X10_laysMattering_36 rfl ?_
        refine G_iload_n d_X10_laysMattering_37 rfl ?_
        refine G_iconst d_X10_laysMattering_38 ?_
        refine G_callV3 cl_X10_263 rfl d_X10_laysMattering_39 (wk_64 _) (Nat.le_of_ble_eq_true rfl) (by decide) (sp_Mmatters s hV h1.2 (mtl s p 0) p false (by omega) hc1 (by rw [mtl_len]; omega) hMT) ?_
        rintro _ _ ⟨rfl, m2, rfl, h2, -, hMT2⟩
        have h2 := h1.trans h2
        refine G_iinc d_X10_laysMattering_42 rfl (by decide) rfl ?_
        refine G_goto 19 d_X10_laysMattering_45 (by decide) ?_
        exact ih (by omega) m2 hc1 h2 (by rw [mtl_o1 ho]; exact hMT2)
      · rw [if_neg ho]
        refine G_if_eq 42 d_X10_laysMattering_32 (by decide) (by decide) (fun _ => ?_) (fun hd => absurd hd (by decide))
        refine G_iinc d_X10_laysMattering_42 rfl (by decide) rfl ?_
        refine G_goto 19 d_X10_laysMattering_45 (by decide) ?_
        exact ih (by omega) m1 hc1 h1 (by rw [mtl_o0 ho]; exact hMT)
  refine G_aload_n d_X10_laysMattering_0 rfl ?_
  refine G_callV0 cl_X10_213 rfl d_X10_laysMattering_1 (wk_64 _) (Nat.le_of_ble_eq_true rfl) (by decide) (sp_Mchief s hV hI.1 hI.2.1) ?_
  rintro _ _ ⟨rfl, rfl⟩
  have hcr := pChief_rng s
  refine G_istore_n d_X10_laysMattering_4 (by decide) rfl ?_
  refine G_aload_n d_X10_laysMattering_5 rfl ?_
  refine G_iconst d_X10_laysMattering_6 ?_
  refine G_putII fl_X10_260 d_X10_laysMattering_7 (wk_64 _) rfl ?_
  have hQ0 : KQ s m (upm m 64 23 0) := (KQ.refl hI).fld rfl
  have hM0 : MT s (mtl s 0 0) (upm m 64 23 0) := ⟨upm_same _ _ _ _, fun i q hq => by simp [mtl] at hq⟩
  refine G_iload_n d_X10_laysMattering_10 rfl ?_
  refine G_iconst d_X10_laysMattering_11 ?_
  refine G_icmp_ne 17 d_X10_laysMattering_12 (by decide) (by omega) (by omega) (fun c12 => ?_) (fun c12 => ?_)
  · refine G_iconst d_X10_laysMattering_17 ?_
    refine G_istore_n d_X10_laysMattering_18 (by decide) rfl ?_
    exact LO 0 (by omega) _ c12 hQ0 hM0
  · refine G_iconst d_X10_laysMattering_15 ?_
    refine G_zret (mc := 0) (ms := 0) (st := []) d_X10_laysMattering_16 rfl (by omega) ?_
    refine ⟨by rw [if_neg (by unfold posb; simp; omega)], _, rfl, hQ0, fun h => ?_⟩
    unfold posb at h
    simp at h
    omega
def arg5 (a b c e g : Int) (k : Nat) : Int := if k = 0 then a else if k = 1 then b else if k = 2 then c else if k = 3 then e else g
def isStp (s : Nat → Int) (v : Int) : Bool := decide (1 ≤ v) && decide (v ≤ 12) && ((pT s : Int) % v == 0)
def vWould (s : Nat → Int) (a b c e g : Int) : Int := if pChief s ≠ -1 ∧ allN (fun k => isStp s (arg5 a b c e g k)) (pN s) = true then ((cntB (fun p => pOther s p && lft s (fun k => (arg5 a b c e g k).toNat) p) (pC s) : Nat) : Int) else -1
theorem cnt_mtl (s : Nat → Int) (L : Nat → Bool) : ∀ n : Nat, (mtl s n 0).countP (fun q => L q.1) = cntB (fun p => pOther s p && L p) n
  | 0 => by simp [mtl, cntB]
  | n + 1 => by
    by_cases h : pOther s n = true
    · rw [mtl_o1 h, List.countP_append, cnt_mtl s L n]
      by_cases h2 : L n = true
      · rw [cntB_t (f := fun p => pOther s p && L p) (by simp [h, h2])]; simp [h2]
      · rw [cntB_f (f := fun p => pOther s p && L p) (by simp [h2])]; simp [h2]
    · rw [mtl_o0 h, cnt_mtl s L n, cntB_f (f := fun p => pOther s p && L p) (by simp [h])]
theorem sp_MisStep {w : List KD} {m : Nat → Nat → Int} (s : Nat → Int) (hV : VS s) (hO : MO s m) (v : Int) (hrv : -2147483648 ≤ v ∧ v < 2147483648) : Sp M_X10_isStep 1 0 0 [rV 64, iV v] (WC ++ (WM ++ w), m) (fun r h => r = some (iV (if isStp s v = true then 1 else 0)) ∧ h = (WC ++ (WM ++ w), m)) := by
  refine Sp.ofG (ls := [rV 64, iV v]) (by decide +kernel) rfl (Nat.le_of_ble_eq_true rfl) ?_
  have hC := pC_le hV
  have hN := hV.N
  have hT := hV.T
  have hSc := hV.Sc
  refine G_aload_n d_X10_isStep_0 rfl ?_
  refine G_iload_n d_X10_isStep_1 rfl ?_
  refine G_iconst d_X10_isStep_2 ?_
  refine G_bipush d_X10_isStep_3 (by decide) ?_
  refine G_callV3 cl_X10_124 rfl d_X10_isStep_5 (wk_64 _) (Nat.le_of_ble_eq_true rfl) (by decide) (sp_MisIn v hrv 1 (by omega) 12 (by omega)) ?_
  rintro _ _ ⟨rfl, rfl⟩
  by_cases hi : 1 ≤ v ∧ v ≤ 12
  · rw [if_pos hi]
    refine G_if_eq 24 d_X10_isStep_8 (by decide) (by decide) (fun hd => absurd hd (by decide)) (fun _ => ?_)
    refine G_aload_n d_X10_isStep_11 rfl ?_
    refine G_callV0 cl_X10_148 rfl d_X10_isStep_12 (wk_64 _) (Nat.le_of_ble_eq_true rfl) (by decide) (sp_Mt s hV hO) ?_
    rintro _ _ ⟨rfl, rfl⟩
    refine G_iload_n d_X10_isStep_15 rfl ?_
    refine G_irem d_X10_isStep_16 (by omega) (by omega) (by omega) ?_
    have htm := tmod_b (x := (pT s : Int)) (y := v) (B := 48) (by omega)
    refine G_if_ne 24 d_X10_isStep_17 (by decide) (by omega) (fun c17 => ?_) (fun c17 => ?_)
    · refine G_iconst d_X10_isStep_24 ?_
      refine G_zret (mc := 0) (ms := 0) (st := []) d_X10_isStep_25 rfl (by omega) ?_
      exact ⟨by rw [if_neg (fun h => by unfold isStp at h; simp at h; exact c17 (tm0.mpr h.2))], rfl⟩
    · refine G_iconst d_X10_isStep_20 ?_
      refine G_goto 25 d_X10_isStep_21 (by decide) ?_
      refine G_zret (mc := 0) (ms := 0) (st := []) d_X10_isStep_25 rfl (by omega) ?_
      exact ⟨by rw [if_pos (by unfold isStp; simp; exact ⟨hi, tm0.mp (by omega)⟩)], rfl⟩
  · rw [if_neg hi]
    refine G_if_eq 24 d_X10_isStep_8 (by decide) (by decide) (fun _ => ?_) (fun hd => absurd hd (by decide))
    refine G_iconst d_X10_isStep_24 ?_
    refine G_zret (mc := 0) (ms := 0) (st := []) d_X10_isStep_25 rfl (by omega) ?_
    exact ⟨by rw [if_neg (fun h => by unfold isStp at h; simp at h; omega)], rfl⟩
theorem sp_Mwould {w : List KD} {m : Nat → Nat → Int} (s : Nat → Int) (hV : VS s) (hI : MI s m) (a : Int) (hra : -2147483648 ≤ a ∧ a < 2147483648) (b : Int) (hrb : -2147483648 ≤ b ∧ b < 2147483648) (c : Int) (hrc : -2147483648 ≤ c ∧ c < 2147483648) (e : Int) (hre : -2147483648 ≤ e ∧ e < 2147483648) (g : Int) (hrg : -2147483648 ≤ g ∧ g < 2147483648) : Sp M_X10_would 5 0 0 [rV 64, iV a, iV b, iV c, iV e, iV g] (WC ++ (WM ++ w), m) (fun r h => r = some (iV (vWould s a b c e g)) ∧ ∃ m2, h = (WC ++ (WM ++ w), m2) ∧ KQ s m m2) := by
  refine Sp.ofG (ls := [rV 64, iV a, iV b, iV c, iV e, iV g, uV, uV, uV]) (by decide +kernel) rfl (Nat.le_of_ble_eq_true rfl) ?_
  have hC := pC_le hV
  have hN := hV.N
  have hT := hV.T
  have hSc := hV.Sc
  have L3 : ∀ i : Nat, i ≤ (mtl s (pC s) 0).length → ∀ m1, pChief s ≠ -1 → KQ s m m1 → MT s (mtl s (pC s) 0) m1 → NB s (fun k => (arg5 a b c e g k).toNat) m1 → allN (fun k => isStp s (arg5 a b c e g k)) (pN s) = true → G M_X10_would 5 0 0 149 [rV 64, iV a, iV b, iV c, iV e, iV g, iV (pChief s), iV ((((mtl s (pC s) 0).take i).countP (fun q => lft s (fun k => (arg5 a b c e g k).toNat) q.1) : Nat) : Int), iV (i : Int)] [] (WC ++ (WM ++ w), m1) (fun r h => r = some (iV (vWould s a b c e g)) ∧ ∃ m2, h = (WC ++ (WM ++ w), m2) ∧ KQ s m m2) := by
    refine loop_up ((mtl s (pC s) 0).length) _ ?_
    intro i hi ih m1 hc1 h1 hMT hB hst
    refine G_iload d_X10_would_149 rfl ?_
    refine G_aload_n d_X10_would_151 rfl ?_
    have hml := mtl_len s (pC s) 0
    have hob := cntB_le (pOther s) (pC s)
    have hz0 : cntB (fun p => pMk s p == 1) 0 = 0 := rfl
    refine G_getIe (fl_X10_260.r) d_X10_would_152 (wk_64 _) rfl (hMT.1) ?_
    refine G_icmp_ge 179 d_X10_would_155 (by decide) (by omega) (by omega) (fun c155 => ?_) (fun c155 => ?_)
    · refine G_iload d_X10_would_179 rfl ?_
      refine G_iret (mc := 0) (ms := 0) (st := []) d_X10_would_181 rfl ?_
      refine ⟨?_, m1, rfl, h1⟩
      rw [List.take_of_length_le (by omega), cnt_mtl]
      unfold vWould
      rw [if_pos ⟨hc1, hst⟩]
    · refine G_aload_n d_X10_would_158 rfl ?_
      refine G_iload d_X10_would_159 rfl ?_
      obtain ⟨q, hq⟩ : ∃ q, (mtl s (pC s) 0)[i]? = some q := ⟨(mtl s (pC s) 0)[i], List.getElem?_eq_getElem (by omega)⟩
      have htk : (mtl s (pC s) 0).take (i + 1) = (mtl s (pC s) 0).take i ++ [q] := by rw [List.take_add_one, hq]; rfl
      refine G_callV1 cl_X10_267 rfl d_X10_would_161 (wk_64 _) (Nat.le_of_ble_eq_true rfl) (by decide) (sp_MisLeftBySteps s hV h1.2.1 (mtl s (pC s) 0) (fun k => (arg5 a b c e g k).toNat) i q hMT hq (by omega) hB (fun k hk => by have h9 := allN_of hst k hk; simp only [isStp, Bool.and_eq_true, decide_eq_true_eq] at h9; omega)) ?_
      rintro _ _ ⟨rfl, rfl⟩
      by_cases hl : lft s (fun k => (arg5 a b c e g k).toNat) q.1 = true
      · rw [if_pos hl]
        refine G_if_eq 173 d_X10_would_164 (by decide) (by decide) (fun hd => absurd hd (by decide)) (fun _ => ?_)
        refine G_iload d_X10_would_167 rfl ?_
        refine G_iconst d_X10_would_169 ?_
        refine G_iadd d_X10_would_170 ?_
        refine G_istore d_X10_would_171 (by decide) rfl ?_
        refine G_iinc d_X10_would_173 rfl (by decide) rfl ?_
        refine G_goto 149 d_X10_would_176 (by decide) ?_
        rw [htk, List.countP_append] at ih
        simp [hl] at ih
        exact ih (by omega) m1 hc1 h1 hMT hB hst
      · rw [if_neg hl]
        refine G_if_eq 173 d_X10_would_164 (by decide) (by decide) (fun _ => ?_) (fun hd => absurd hd (by decide))
        refine G_iinc d_X10_would_173 rfl (by decide) rfl ?_
        refine G_goto 149 d_X10_would_176 (by decide) ?_
        rw [htk, List.countP_append] at ih
        simp [hl] at ih
        exact ih (by omega) m1 hc1 h1 hMT hB hst
  have L2 : ∀ p : Nat, p ≤ pC s → ∀ m1, pChief s ≠ -1 → KQ s m m1 → MT s (mtl s p 0) m1 → NB s (fun k => (arg5 a b c e g k).toNat) m1 → allN (fun k => isStp s (arg5 a b c e g k)) (pN s) = true → G M_X10_would 5 0 0 113 [rV 64, iV a, iV b, iV c, iV e, iV g, iV (pChief s), iV 0, iV (p : Int)] [] (WC ++ (WM ++ w), m1) (fun r h => r = some (iV (vWould s a b c e g)) ∧ ∃ m2, h = (WC ++ (WM ++ w), m2) ∧ KQ s m m2) := by
    refine loop_up (pC s) _ ?_
    intro p hp ih m1 hc1 h1 hMT hB hst
    refine G_iload d_X10_would_113 rfl ?_
    refine G_aload_n d_X10_would_115 rfl ?_
    refine G_getIe (fl_X10_25.r) d_X10_would_116 (wk_64 _) rfl (h1.2.2.1.1) ?_
    refine G_icmp_ge 146 d_X10_would_119 (by decide) (by omega) (by omega) (fun c119 => ?_) (fun c119 => ?_)
    · refine G_iconst d_X10_would_146 ?_
      refine G_istore d_X10_would_147 (by decide) rfl ?_
      have hpe : p = pC s := by omega
      subst hpe
      exact L3 0 (by omega) m1 hc1 h1 hMT hB hst
    · refine G_aload_n d_X10_would_122 rfl ?_
      refine G_iload d_X10_would_123 rfl ?_
      refine G_callV1 cl_X10_248 rfl d_X10_would_125 (wk_64 _) (Nat.le_of_ble_eq_true rfl) (by decide) (sp_MisOther s hV h1.2.1 h1.2.2.1 p (by omega)) ?_
      rintro _ _ ⟨rfl, rfl⟩
      by_cases ho : pOther s p = true
      · rw [if_pos ho]
        refine G_if_eq 140 d_X10_would_128 (by decide) (by decide) (fun hd => absurd hd (by decide)) (fun _ => ?_)
        have hob := cntB_le (pOther s) p
        have hz0 : cntB (fun p => pMk s p == 1) 0 = 0 := rfl
        refine G_aload_n d_X10_would_131 rfl ?_
        refine G_iload d_X10_would_132 rfl ?_
        refine G_iload d_X10_would_134 rfl ?_
        refine G_iconst d_X10_would_136 ?_
        refine G_callV3 cl_X10_263 rfl d_X10_would_137 (wk_64 _) (Nat.le_of_ble_eq_true rfl) (by decide) (sp_Mmatters s hV h1.2 (mtl s p 0) p false (by omega) hc1 (by rw [mtl_len]; omega) hMT) ?_
        rintro _ _ ⟨rfl, m2, rfl, h2, h792, hMT2⟩
        have h2 := h1.trans h2
        refine G_iinc d_X10_would_140 rfl (by decide) rfl ?_
        refine G_goto 113 d_X10_would_143 (by decide) ?_
        exact ih (by omega) m2 hc1 h2 (by rw [mtl_o1 ho]; exact hMT2) (fun k hk => by rw [h792]; exact hB k hk) hst
      · rw [if_neg ho]
        refine G_if_eq 140 d_X10_would_128 (by decide) (by decide) (fun _ => ?_) (fun hd => absurd hd (by decide))
        refine G_iinc d_X10_would_140 rfl (by decide) rfl ?_
        refine G_goto 113 d_X10_would_143 (by decide) ?_
        exact ih (by omega) m1 hc1 h1 (by rw [mtl_o0 ho]; exact hMT) hB hst
  have L1 : ∀ k : Nat, k ≤ pN s → ∀ m1, pChief s ≠ -1 → KQ s m m1 → (∀ j, j < k → m1 79 j = ((arg5 a b c e g j).toNat : Int)) → allN (fun k => isStp s (arg5 a b c e g k)) k = true → G M_X10_would 5 0 0 22 [rV 64, iV a, iV b, iV c, iV e, iV g, iV (pChief s), iV (k : Int), uV] [] (WC ++ (WM ++ w), m1) (fun r h => r = some (iV (vWould s a b c e g)) ∧ ∃ m2, h = (WC ++ (WM ++ w), m2) ∧ KQ s m m2) := by
    refine loop_up (pN s) _ ?_
    intro k hk ih m1 hc1 h1 hz hst
    refine G_iload d_X10_would_22 rfl ?_
    refine G_aload_n d_X10_would_24 rfl ?_
    refine G_callV0 cl_X10_11 rfl d_X10_would_25 (wk_64 _) (Nat.le_of_ble_eq_true rfl) (by decide) (sp_Mn s hV h1.2.1) ?_
    rintro _ _ ⟨rfl, rfl⟩
    refine G_icmp_ge 102 d_X10_would_28 (by decide) (by omega) (by omega) (fun c28 => ?_) (fun c28 => ?_)
    · refine G_iconst d_X10_would_102 ?_
      refine G_istore d_X10_would_103 (by decide) rfl ?_
      refine G_aload_n d_X10_would_105 rfl ?_
      refine G_iconst d_X10_would_106 ?_
      refine G_putII fl_X10_260 d_X10_would_107 (wk_64 _) rfl ?_
      refine G_iconst d_X10_would_110 ?_
      refine G_istore d_X10_would_111 (by decide) rfl ?_
      have hke : k = pN s := by omega
      subst hke
      exact G.fg (L2 0 (by omega) _ hc1 (h1.fld rfl) ⟨upm_same _ _ _ _, fun i q hq => by simp [mtl] at hq⟩ (fun j hj => by rw [upm_off _ _ (by decide)]; exact hz j hj) hst) (by
        repeat (first | exact trivial | refine wkL_cons (Or.inl rfl) ?_ | refine wkL_cons (Or.inr rfl) ?_))
    · refine G_aload_n d_X10_would_31 rfl ?_
      refine G_getR (r := 79) (fl_X10_83.r) d_X10_would_32 (wk_64 _) rfl rfl ?_
      refine G_iload d_X10_would_35 rfl ?_
      refine G_iload d_X10_would_37 rfl ?_
      refine G_if_ne 46 d_X10_would_39 (by decide) (by omega) (fun c39 => ?_) (fun c39 => ?_)
      · refine G_iload d_X10_would_46 rfl ?_
        refine G_iconst d_X10_would_48 ?_
        refine G_icmp_ne 56 d_X10_would_49 (by decide) (by omega) (by omega) (fun c49 => ?_) (fun c49 => ?_)
        · refine G_iload d_X10_would_56 rfl ?_
          refine G_iconst d_X10_would_58 ?_
          refine G_icmp_ne 66 d_X10_would_59 (by decide) (by omega) (by omega) (fun c59 => ?_) (fun c59 => ?_)
          · refine G_iload d_X10_would_66 rfl ?_
            refine G_iconst d_X10_would_68 ?_
            refine G_icmp_ne 77 d_X10_would_69 (by decide) (by omega) (by omega) (fun c69 => ?_) (fun c69 => ?_)
            · refine G_iload d_X10_would_77 rfl ?_
              refine G_iastj (k) d_X10_would_79 (wk_79 _) (by omega) (by omega) (by decide) ?_
              have h2 : KQ s m (upm m1 79 k g) := h1.up rfl
              refine G_aload_n d_X10_would_80 rfl ?_
              refine G_aload_n d_X10_would_81 rfl ?_
              refine G_getR (r := 79) (fl_X10_83.r) d_X10_would_82 (wk_64 _) rfl rfl ?_
              refine G_iload d_X10_would_85 rfl ?_
              refine G_ialdj (k) d_X10_would_87 (wk_79 _) (by omega) (by omega) (by decide) ?_
              rw [upm_same]
              refine G_callV1 cl_X10_304 rfl d_X10_would_88 (wk_64 _) (Nat.le_of_ble_eq_true rfl) (by decide) (sp_MisStep s hV h2.2.1 g hrg) ?_
              rintro _ _ ⟨rfl, rfl⟩
              have hak : arg5 a b c e g k = g := by unfold arg5; repeat (split <;> try omega)
              by_cases hs : isStp s g = true
              · rw [if_pos hs]
                refine G_if_ne 96 d_X10_would_91 (by decide) (by decide) (fun _ => ?_) (fun hd => absurd hd (by decide))
                refine G_iinc d_X10_would_96 rfl (by decide) rfl ?_
                refine G_goto 22 d_X10_would_99 (by decide) ?_
                refine ih (by omega) _ hc1 h2 (fun j hj => ?_) (allN_s hst (show isStp s (arg5 a b c e g k) = true by rw [hak]; exact hs))
                by_cases e : j = k
                · subst e
                  rw [upm_same, hak]
                  simp only [isStp, Bool.and_eq_true, decide_eq_true_eq] at hs
                  omega
                · rw [upm_ne _ _ (fun _ => e)]; exact hz j (by omega)
              · rw [if_neg hs]
                refine G_if_ne 96 d_X10_would_91 (by decide) (by decide) (fun hd => absurd hd (by decide)) (fun _ => ?_)
                refine G_iconst d_X10_would_94 ?_
                refine G_iret (mc := 0) (ms := 0) (st := []) d_X10_would_95 rfl ?_
                exact ⟨by unfold vWould; rw [if_neg (fun h => hs (by have h9 := allN_of h.2 k (by omega); simp only [hak] at h9; exact h9))], _, rfl, h2⟩
            · refine G_iload d_X10_would_72 rfl ?_
              refine G_goto 79 d_X10_would_74 (by decide) ?_
              refine G_iastj (k) d_X10_would_79 (wk_79 _) (by omega) (by omega) (by decide) ?_
              have h2 : KQ s m (upm m1 79 k e) := h1.up rfl
              refine G_aload_n d_X10_would_80 rfl ?_
              refine G_aload_n d_X10_would_81 rfl ?_
              refine G_getR (r := 79) (fl_X10_83.r) d_X10_would_82 (wk_64 _) rfl rfl ?_
              refine G_iload d_X10_would_85 rfl ?_
              refine G_ialdj (k) d_X10_would_87 (wk_79 _) (by omega) (by omega) (by decide) ?_
              rw [upm_same]
              refine G_callV1 cl_X10_304 rfl d_X10_would_88 (wk_64 _) (Nat.le_of_ble_eq_true rfl) (by decide) (sp_MisStep s hV h2.2.1 e hre) ?_
              rintro _ _ ⟨rfl, rfl⟩
              have hak : arg5 a b c e g k = e := by unfold arg5; repeat (split <;> try omega)
              by_cases hs : isStp s e = true
              · rw [if_pos hs]
                refine G_if_ne 96 d_X10_would_91 (by decide) (by decide) (fun _ => ?_) (fun hd => absurd hd (by decide))
                refine G_iinc d_X10_would_96 rfl (by decide) rfl ?_
                refine G_goto 22 d_X10_would_99 (by decide) ?_
                refine ih (by omega) _ hc1 h2 (fun j hj => ?_) (allN_s hst (show isStp s (arg5 a b c e g k) = true by rw [hak]; exact hs))
                by_cases e : j = k
                · subst e
                  rw [upm_same, hak]
                  simp only [isStp, Bool.and_eq_true, decide_eq_true_eq] at hs
                  omega
                · rw [upm_ne _ _ (fun _ => e)]; exact hz j (by omega)
              · rw [if_neg hs]
                refine G_if_ne 96 d_X10_would_91 (by decide) (by decide) (fun hd => absurd hd (by decide)) (fun _ => ?_)
                refine G_iconst d_X10_would_94 ?_
                refine G_iret (mc := 0) (ms := 0) (st := []) d_X10_would_95 rfl ?_
                exact ⟨by unfold vWould; rw [if_neg (fun h => hs (by have h9 := allN_of h.2 k (by omega); simp only [hak] at h9; exact h9))], _, rfl, h2⟩
          · refine G_iload_n d_X10_would_62 rfl ?_
            refine G_goto 79 d_X10_would_63 (by decide) ?_
            refine G_iastj (k) d_X10_would_79 (wk_79 _) (by omega) (by omega) (by decide) ?_
            have h2 : KQ s m (upm m1 79 k c) := h1.up rfl
            refine G_aload_n d_X10_would_80 rfl ?_
            refine G_aload_n d_X10_would_81 rfl ?_
            refine G_getR (r := 79) (fl_X10_83.r) d_X10_would_82 (wk_64 _) rfl rfl ?_
            refine G_iload d_X10_would_85 rfl ?_
            refine G_ialdj (k) d_X10_would_87 (wk_79 _) (by omega) (by omega) (by decide) ?_
            rw [upm_same]
            refine G_callV1 cl_X10_304 rfl d_X10_would_88 (wk_64 _) (Nat.le_of_ble_eq_true rfl) (by decide) (sp_MisStep s hV h2.2.1 c hrc) ?_
            rintro _ _ ⟨rfl, rfl⟩
            have hak : arg5 a b c e g k = c := by unfold arg5; repeat (split <;> try omega)
            by_cases hs : isStp s c = true
            · rw [if_pos hs]
              refine G_if_ne 96 d_X10_would_91 (by decide) (by decide) (fun _ => ?_) (fun hd => absurd hd (by decide))
              refine G_iinc d_X10_would_96 rfl (by decide) rfl ?_
              refine G_goto 22 d_X10_would_99 (by decide) ?_
              refine ih (by omega) _ hc1 h2 (fun j hj => ?_) (allN_s hst (show isStp s (arg5 a b c e g k) = true by rw [hak]; exact hs))
              by_cases e : j = k
              · subst e
                rw [upm_same, hak]
                simp only [isStp, Bool.and_eq_true, decide_eq_true_eq] at hs
                omega
              · rw [upm_ne _ _ (fun _ => e)]; exact hz j (by omega)
            · rw [if_neg hs]
              refine G_if_ne 96 d_X10_would_91 (by decide) (by decide) (fun hd => absurd hd (by decide)) (fun _ => ?_)
              refine G_iconst d_X10_would_94 ?_
              refine G_iret (mc := 0) (ms := 0) (st := []) d_X10_would_95 rfl ?_
              exact ⟨by unfold vWould; rw [if_neg (fun h => hs (by have h9 := allN_of h.2 k (by omega); simp only [hak] at h9; exact h9))], _, rfl, h2⟩
        · refine G_iload_n d_X10_would_52 rfl ?_
          refine G_goto 79 d_X10_would_53 (by decide) ?_
          refine G_iastj (k) d_X10_would_79 (wk_79 _) (by omega) (by omega) (by decide) ?_
          have h2 : KQ s m (upm m1 79 k b) := h1.up rfl
          refine G_aload_n d_X10_would_80 rfl ?_
          refine G_aload_n d_X10_would_81 rfl ?_
          refine G_getR (r := 79) (fl_X10_83.r) d_X10_would_82 (wk_64 _) rfl rfl ?_
          refine G_iload d_X10_would_85 rfl ?_
          refine G_ialdj (k) d_X10_would_87 (wk_79 _) (by omega) (by omega) (by decide) ?_
          rw [upm_same]
          refine G_callV1 cl_X10_304 rfl d_X10_would_88 (wk_64 _) (Nat.le_of_ble_eq_true rfl) (by decide) (sp_MisStep s hV h2.2.1 b hrb) ?_
          rintro _ _ ⟨rfl, rfl⟩
          have hak : arg5 a b c e g k = b := by unfold arg5; repeat (split <;> try omega)
          by_cases hs : isStp s b = true
          · rw [if_pos hs]
            refine G_if_ne 96 d_X10_would_91 (by decide) (by decide) (fun _ => ?_) (fun hd => absurd hd (by decide))
            refine G_iinc d_X10_would_96 rfl (by decide) rfl ?_
            refine G_goto 22 d_X10_would_99 (by decide) ?_
            refine ih (by omega) _ hc1 h2 (fun j hj => ?_) (allN_s hst (show isStp s (arg5 a b c e g k) = true by rw [hak]; exact hs))
            by_cases e : j = k
            · subst e
              rw [upm_same, hak]
              simp only [isStp, Bool.and_eq_true, decide_eq_true_eq] at hs
              omega
            · rw [upm_ne _ _ (fun _ => e)]; exact hz j (by omega)
          · rw [if_neg hs]
            refine G_if_ne 96 d_X10_would_91 (by decide) (by decide) (fun hd => absurd hd (by decide)) (fun _ => ?_)
            refine G_iconst d_X10_would_94 ?_
            refine G_iret (mc := 0) (ms := 0) (st := []) d_X10_would_95 rfl ?_
            exact ⟨by unfold vWould; rw [if_neg (fun h => hs (by have h9 := allN_of h.2 k (by omega); simp only [hak] at h9; exact h9))], _, rfl, h2⟩
      · refine G_iload_n d_X10_would_42 rfl ?_
        refine G_goto 79 d_X10_would_43 (by decide) ?_
        refine G_iastj (k) d_X10_would_79 (wk_79 _) (by omega) (by omega) (by decide) ?_
        have h2 : KQ s m (upm m1 79 k a) := h1.up rfl
        refine G_aload_n d_X10_would_80 rfl ?_
        refine G_aload_n d_X10_would_81 rfl ?_
        refine G_getR (r := 79) (fl_X10_83.r) d_X10_would_82 (wk_64 _) rfl rfl ?_
        refine G_iload d_X10_would_85 rfl ?_
        refine G_ialdj (k) d_X10_would_87 (wk_79 _) (by omega) (by omega) (by decide) ?_
        rw [upm_same]
        refine G_callV1 cl_X10_304 rfl d_X10_would_88 (wk_64 _) (Nat.le_of_ble_eq_true rfl) (by decide) (sp_MisStep s hV h2.2.1 a hra) ?_
        rintro _ _ ⟨rfl, rfl⟩
        have hak : arg5 a b c e g k = a := by unfold arg5; repeat (split <;> try omega)
        by_cases hs : isStp s a = true
        · rw [if_pos hs]
          refine G_if_ne 96 d_X10_would_91 (by decide) (by decide) (fun _ => ?_) (fun hd => absurd hd (by decide))
          refine G_iinc d_X10_would_96 rfl (by decide) rfl ?_
          refine G_goto 22 d_X10_would_99 (by decide) ?_
          refine ih (by omega) _ hc1 h2 (fun j hj => ?_) (allN_s hst (show isStp s (arg5 a b c e g k) = true by rw [hak]; exact hs))
          by_cases e : j = k
          · subst e
            rw [upm_same, hak]
            simp only [isStp, Bool.and_eq_true, decide_eq_true_eq] at hs
            omega
          · rw [upm_ne _ _ (fun _ => e)]; exact hz j (by omega)
        · rw [if_neg hs]
          refine G_if_ne 96 d_X10_would_91 (by decide) (by decide) (fun hd => absurd hd (by decide)) (fun _ => ?_)
          refine G_iconst d_X10_would_94 ?_
          refine G_iret (mc := 0) (ms := 0) (st := []) d_X10_would_95 rfl ?_
          exact ⟨by unfold vWould; rw [if_neg (fun h => hs (by have h9 := allN_of h.2 k (by omega); simp only [hak] at h9; exact h9))], _, rfl, h2⟩
  refine G_aload_n d_X10_would_0 rfl ?_
  refine G_iconst d_X10_would_1 ?_
  refine G_putII fl_X10_1 d_X10_would_2 (wk_64 _) rfl ?_
  have hQ0 : KQ s m (upm m 64 0 0) := (KQ.refl hI).fld rfl
  generalize upm m 64 0 0 = m0 at hQ0 ⊢
  refine G_aload_n d_X10_would_5 rfl ?_
  refine G_callV0 cl_X10_213 rfl d_X10_would_6 (wk_64 _) (Nat.le_of_ble_eq_true rfl) (by decide) (sp_Mchief s hV hQ0.2.1 hQ0.2.2.1) ?_
  rintro _ _ ⟨rfl, rfl⟩
  have hcr := pChief_rng s
  refine G_istore d_X10_would_9 (by decide) rfl ?_
  refine G_iload d_X10_would_11 rfl ?_
  refine G_iconst d_X10_would_13 ?_
  refine G_icmp_ne 19 d_X10_would_14 (by decide) (by omega) (by omega) (fun c14 => ?_) (fun c14 => ?_)
  · refine G_iconst d_X10_would_19 ?_
    refine G_istore d_X10_would_20 (by decide) rfl ?_
    exact L1 0 (by omega) m0 c14 hQ0 (fun j hj => absurd hj (by omega)) rfl
  · refine G_iconst d_X10_would_17 ?_
    refine G_iret (mc := 0) (ms := 0) (st := []) d_X10_would_18 rfl ?_
    exact ⟨by unfold vWould; rw [if_neg (fun h => h.1 (by omega))], m0, rfl, hQ0⟩
