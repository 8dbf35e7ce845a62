/-! the search for cogs -/
abbrev rC (s : Nat → Int) (l j : Nat) (N : Nat → Nat) : Option (Nat → Nat) := run (pN s) (D0 l) (stepC s l) j N none
def isS (x : Option (Nat → Nat)) : Int := match x with
  | none => 0
  | some _ => 1
theorem isS_rng (x : Option (Nat → Nat)) : 0 ≤ isS x ∧ isS x ≤ 1 := by cases x <;> simp [isS]
theorem isS_1 {x : Option (Nat → Nat)} (h : isS x ≠ 0) : ∃ N, x = some N := by
  cases x with
  | none => exact absurd rfl h
  | some N => exact ⟨N, rfl⟩
theorem isS_0 {x : Option (Nat → Nat)} (h : isS x = 0) : x = none := by
  cases x with
  | none => rfl
  | some N => exact absurd h (by simp [isS])
def PFX (s : Nat → Int) (l k : Nat) (N : Nat → Nat) : Prop := ∀ p, p < pC s → pMat s p = true → 0 ≤ ls9 s p → ls9 s p < (k : Int) → (cgS s N p k % (l : Int) == 0) = (pMk s p == 1)
theorem cgS_after {s : Nat → Int} {N : Nat → Nat} {p a : Nat} (hl : ls9 s p < (a : Int)) : ∀ d, a + d ≤ pN s → cgS s N p (a + d) = cgS s N p a
  | 0, _ => rfl
  | d + 1, h => by
    have ih := cgS_after (N := N) hl d (by omega)
    have e : cgS s N p (a + (d + 1)) = cgS s N p (a + d) + gapD s p (a + d) * (N (a + d) : Int) := rfl
    rw [e, ih, lsF9_after (pN s) (a + d) (by omega) (by unfold ls9 at hl; omega), Int.zero_mul, Int.add_zero]
theorem fit_ext {s : Nat → Int} {l k : Nat} {N : Nat → Nat} (hk : k < pN s) (h : PFX s l k N) {d : Nat} (hf : fitG s l (upN N k d) k = true) : PFX s l (k + 1) (upN N k d) := fun p hp hm h0 h1 => by
  by_cases c : ls9 s p < (k : Int)
  · rw [cgS_after (a := k) c 1 (by omega), cgS_congr (N := N) (N' := upN N k d) (fun i hi => show upN N k d i = N i from if_neg (by omega))]
    exact h p hp hm h0 c
  · have h9 := allN_of hf p hp
    have hs : sgB s k p = true := by
      unfold sgB
      rw [hm, decide_eq_true (show ls9 s p = (k : Int) by omega)]
      rfl
    rw [hs] at h9
    simpa [cdB] using h9
theorem fit_no {s : Nat → Int} (hV : VS s) {l k j d : Nat} {N : Nat → Nat} (hj : j + 1 + k = pN s) (hf : ¬ fitG s l (upN N k d) k = true) : rC s l j (upN N k d) = none := by
  have hex : ∃ p, p < pC s ∧ sgB s k p = true ∧ cdB s l (upN N k d) k p = false := by
    refine Classical.byContradiction (fun hn => hf (allN_true (fun p hp => ?_)))
    by_cases a : sgB s k p = true
    · by_cases b : cdB s l (upN N k d) k p = true
      · simp [b]
      · exact absurd ⟨p, hp, a, by simpa using b⟩ hn
    · simp [a]
  obtain ⟨p, hp, hs, hc⟩ := hex
  refine runC_all j _ (by omega) (fun N' h1 h2 => ?_)
  unfold sgB at hs
  rw [Bool.and_eq_true_iff, decide_eq_true_iff] at hs
  have e : cgS s N' p (pN s) = cgS s (upN N k d) p (k + 1) := by
    have h3 := cgS_after (s := s) (N := N') (p := p) (a := k + 1) (by rw [hs.2]; omega) (pN s - (k + 1)) (by omega)
    rw [show k + 1 + (pN s - (k + 1)) = pN s by omega] at h3
    rw [h3]
    exact cgS_congr (fun i hi => h1 i (by omega))
  unfold cdB at hc
  rw [← e] at hc
  have hm := hs.1
  unfold pMat at hm
  by_cases w : pMk s p = 1
  · refine okL_no hp (Or.inr ⟨w, ?_⟩)
    unfold lfc
    rw [show (pMk s p == 1) = true by simpa using w] at hc
    cases hx : (cgS s N' p (pN s) % (l : Int) == 0)
    · rfl
    · rw [hx] at hc; exact absurd hc (by decide)
  · have ho : pOther s p = true := by simpa [w] using hm
    refine okL_no hp (Or.inl ⟨ho, ?_⟩)
    unfold lfc
    rw [show (pMk s p == 1) = false by simpa using w] at hc
    cases hx : (cgS s N' p (pN s) % (l : Int) == 0)
    · rw [hx] at hc; exact absurd hc (by decide)
    · rfl
theorem pfx_all {s : Nat → Int} (hV : VS s) (hch : pChief s ≠ -1) {l : Nat} {N : Nat → Nat} (h : PFX s l (pN s) N) : okc2 s l N = true := by
  refine okL_yes (fun p hp ho => ?_) (fun p hp hm => ?_)
  · have h0 := last_other hV hch hp ho
    have hr := lsF9_rng s p (pN s)
    have hmk : ¬ pMk s p = 1 := fun e => by unfold pOther at ho; simp [e] at ho
    have h9 := h p hp (by unfold pMat; simp [ho]) h0 (by unfold ls9; omega)
    unfold lfc
    rw [h9]
    simpa using hmk
  · have hr := lsF9_rng s p (pN s)
    unfold lfc
    by_cases c : 0 ≤ ls9 s p
    · have h9 := h p hp (by unfold pMat; simp [hm]) c (by unfold ls9; omega)
      rw [h9]
      simpa using hm
    · have h3 := cgS_after (s := s) (N := N) (p := p) (a := 0) (by omega) (pN s) (by omega)
      rw [Nat.zero_add] at h3
      rw [h3]
      rfl
theorem SO.keep {s : Nat → Int} {m m2 : Nat → Nat → Int} (h : SO s m) (h2 : m2 62 = m 62) (h3 : m2 63 = m 63) : SO s m2 := ⟨fun q hq => by rw [h3]; exact h.1 q hq, fun q hq => (h.2 q hq).low (fun i _ => by rw [h2])⟩
theorem WS.at61 {s : Nat → Int} {m m2 : Nat → Nat → Int} (h : WS s m) (hN : pN s ≤ 5) (k : ∀ a, a ≠ 61 → m2 a = m a) : WS s m2 := h.keep hN (fun a _ _ h3 => k a (by omega))
/-- numbers for pulse k, so far -/
theorem rC_S {s : Nat → Int} {l j k : Nat} (h : j + 1 + k = pN s) (N : Nat → Nat) : rC s l (j + 1) N = (List.range l).foldl (fun a d => run (pN s) (D0 l) (stepC s l) j (upN N k d) a) none := by
  show (D0 l).foldl (fun a d => run (pN s) (D0 l) (stepC s l) j (upN N (pN s - (j + 1)) d) a) none = _
  rw [show pN s - (j + 1) = k by omega]
  rfl
theorem fold_at {s : Nat → Int} {l j k : Nat} (N : Nat → Nat) : ∀ v : Nat, (∀ d, d < v → rC s l j (upN N k d) = none) → (List.range v).foldl (fun a d => run (pN s) (D0 l) (stepC s l) j (upN N k d) a) none = none
  | 0, _ => rfl
  | v + 1, h => by
    rw [List.range_succ, List.foldl_append, fold_at N v (fun d hd => h d (by omega))]
    exact h v (by omega)
theorem fold_up {s : Nat → Int} {l j k v : Nat} {N x : Nat → Nat} (h : (List.range v).foldl (fun a d => run (pN s) (D0 l) (stepC s l) j (upN N k d) a) none = some x) : ∀ e : Nat, (List.range (v + e)).foldl (fun a d => run (pN s) (D0 l) (stepC s l) j (upN N k d) a) none = some x
  | 0 => h
  | e + 1 => by
    rw [← Nat.add_assoc, List.range_succ, List.foldl_append, fold_up h e]
    exact runC_some x j _
theorem sp_cpick {w : List KD} (s : Nat → Int) (hV : VS s) (hch : pChief s ≠ -1) (h200 : pC s ≤ 200) (l : Nat) (hl : 1 ≤ l ∧ l ≤ 12) : ∀ (j k : Nat) (N : Nat → Nat) (m : Nat → Nat → Int), j + k = pN s → 1 ≤ k → WS s m → SO s m → (∀ i, i < k → m 61 i = (N i : Int)) → (∀ i, i < k → N i < l) → PFX s l k N → Sp M_X0_pick (3 + j) 0 0 [rV 60, rV 52, rV 25, rV 5, iV (l : Int), iV (k : Int)] (WC ++ w, m) (fun r h => r = some (iV (isS (rC s l j N))) ∧ ∃ m2, h = (WC ++ w, m2) ∧ (∀ N2, rC s l j N = some N2 → ∀ i, i < pN s → m2 61 i = (N2 i : Int)) ∧ (∀ i, i < k → m2 61 i = (N i : Int)) ∧ (∀ a, a ≠ 61 → m2 a = m a)) := by
  have hC := pC_le hV
  have hN := hV.N
  have hT := hV.T
  intro j
  induction j with
  | zero =>
    intro k N m hjk hk1 hS hO hpk hNl hP
    refine Sp.ofG (ls := [rV 60, rV 52, rV 25, rV 5, iV (l : Int), iV (k : Int), uV, uV]) (by decide +kernel) rfl (Nat.le_of_ble_eq_true rfl) ?_
    refine G_iload d_X0_pick_0 rfl ?_
    refine G_aload_n d_X0_pick_2 rfl ?_
    refine G_getIe (v := (pN s : Int)) (fl_X0_47.r) d_X0_pick_3 (wk_52 _) rfl (hS.2.1) ?_
    refine G_icmp_lt 11 d_X0_pick_6 (by decide) (by omega) (by omega) (fun c6 => ?_) (fun c6 => ?_)
    · omega
    · refine G_iconst d_X0_pick_9 ?_
      refine G_zret (mc := 0) (ms := 0) (st := []) d_X0_pick_10 rfl (by omega) ?_
      have hke : k = pN s := by omega
      have hok := pfx_all hV hch (l := l) (N := N) (by rw [← hke]; exact hP)
      have hr0 : rC s l 0 N = some N := by
        show (if okc2 s l N = true then some N else none) = some N
        exact if_pos hok
      exact ⟨by rw [hr0]; rfl, m, rfl, fun N2 h2 i hi => by
        rw [hr0] at h2
        simp only [Option.some.injEq] at h2
        rw [← h2]
        exact hpk i (by omega), hpk, fun _ _ => rfl⟩
  | succ j ih =>
    intro k N m hjk hk1 hS hO hpk hNl hP
    refine Sp.ofG (ls := [rV 60, rV 52, rV 25, rV 5, iV (l : Int), iV (k : Int), uV, uV]) (by decide +kernel) rfl (Nat.le_of_ble_eq_true rfl) ?_
    have L : ∀ v : Nat, v ≤ l → ∀ m1, (∀ d, d < v → rC s l j (upN N k d) = none) → (∀ i, i < k → m1 61 i = (N i : Int)) → (∀ a, a ≠ 61 → m1 a = m a) → G M_X0_pick (3 + (j + 1)) 0 0 27 [rV 60, rV 52, rV 25, rV 5, iV (l : Int), iV (k : Int), iV (l : Int), iV (v : Int)] [] (WC ++ w, m1) (fun r h => r = some (iV (isS (rC s l (j + 1) N))) ∧ ∃ m2, h = (WC ++ w, m2) ∧ (∀ N2, rC s l (j + 1) N = some N2 → ∀ i, i < pN s → m2 61 i = (N2 i : Int)) ∧ (∀ i, i < k → m2 61 i = (N i : Int)) ∧ (∀ a, a ≠ 61 → m2 a = m a)) := by
      refine loop_up (l) _ ?_
      intro v hv ih1 m1 hz hpk hfr
      refine G_iload d_X0_pick_27 rfl ?_
      refine G_iload d_X0_pick_29 rfl ?_
      refine G_icmp_ge 81 d_X0_pick_31 (by decide) (by omega) (by omega) (fun c31 => ?_) (fun c31 => ?_)
      · refine G_iconst d_X0_pick_81 ?_
        refine G_zret (mc := 0) (ms := 0) (st := []) d_X0_pick_82 rfl (by omega) ?_
        have hve : v = l := by omega
        rw [hve] at hz
        have hfull : rC s l (j + 1) N = none := by
          rw [rC_S (by omega) N]
          exact fold_at N l hz
        exact ⟨by rw [hfull]; rfl, m1, rfl, fun N9 h9 => by rw [hfull] at h9; exact absurd h9 (by simp), hpk, hfr⟩
      · refine G_aload_n d_X0_pick_34 rfl ?_
        refine G_getR (r := 61) (fl_X0_19.r) d_X0_pick_35 (wk_60 _) rfl rfl ?_
        refine G_iload d_X0_pick_38 rfl ?_
        refine G_iload d_X0_pick_40 rfl ?_
        have hSv : WS s (upm m1 61 k (v : Int)) := hS.at61 (by omega) (fun a ha => by rw [upm_off _ _ ha]; exact hfr a ha)
        have hOv : SO s (upm m1 61 k (v : Int)) := hO.keep (by rw [upm_off _ _ (by decide)]; exact hfr 62 (by decide)) (by rw [upm_off _ _ (by decide)]; exact hfr 63 (by decide))
        have hNv : ∀ i, i ≤ k → upN N k v i < l := fun i hi => by
          unfold upN
          by_cases e : i = k
          · rw [if_pos e]; omega
          · rw [if_neg e]; exact hNl i (by omega)
        have hpv : ∀ i, i ≤ k → upm m1 61 k (v : Int) 61 i = (upN N k v i : Int) := fun i hi => by
          unfold upN
          by_cases e : i = k
          · rw [if_pos e, e, upm_same]
          · rw [if_neg e, upm_ne _ _ (fun _ => e)]; exact hpk i (by omega)
        refine G_iastj (k) d_X0_pick_42 (wk_61 _) (by omega) (by omega) (by decide) ?_
        refine G_aload_n d_X0_pick_43 rfl ?_
        refine G_aload_n d_X0_pick_44 rfl ?_
        refine G_aload_n d_X0_pick_45 rfl ?_
        refine G_aload_n d_X0_pick_46 rfl ?_
        refine G_iload d_X0_pick_47 rfl ?_
        refine G_iload d_X0_pick_49 rfl ?_
        refine G_callV5 cl_X0_58 rfl d_X0_pick_51 (wk_60 _) (Nat.le_of_ble_eq_true rfl) (by omega) (sp_fits s hV hSv hOv h200 l k hl (by omega) (upN N k v) (fun i hi => by have := hNv i hi; omega) hpv) ?_
        rintro _ _ ⟨rfl, rfl⟩
        by_cases hf : fitG s l (upN N k v) k = true
        · rw [if_pos hf]
          refine G_if_eq 75 d_X0_pick_54 (by decide) (by decide) (fun hd => absurd hd (by decide)) (fun _ => ?_)
          refine G_aload_n d_X0_pick_57 rfl ?_
          refine G_aload_n d_X0_pick_58 rfl ?_
          refine G_aload_n d_X0_pick_59 rfl ?_
          refine G_aload_n d_X0_pick_60 rfl ?_
          refine G_iload d_X0_pick_61 rfl ?_
          refine G_iload d_X0_pick_63 rfl ?_
          refine G_iconst d_X0_pick_65 ?_
          refine G_iadd d_X0_pick_66 ?_
          have hpick := ih (k + 1) (upN N k v) (upm m1 61 k (v : Int)) (by omega) (by omega) hSv hOv (fun i hi => hpv i (by omega)) (fun i hi => hNv i (by omega)) (fit_ext (by omega) hP hf)
          refine G_callS6 cl_X0_43 d_X0_pick_67 (Nat.le_of_ble_eq_true rfl) (by omega) (hpick) ?_
          rintro _ _ ⟨rfl, m3, rfl, h3, hp3, hf3⟩
          have hisr := isS_rng (rC s l j (upN N k v))
          refine G_if_eq 75 d_X0_pick_70 (by decide) (by omega) (fun c70 => ?_) (fun c70 => ?_)
          · refine G_iinc d_X0_pick_75 rfl (by decide) rfl ?_
            refine G_goto 27 d_X0_pick_78 (by decide) ?_
            have hno := isS_0 c70
            exact ih1 (by omega) m3 (fun d hd => by
              by_cases e : d = v
              · rw [e]; exact hno
              · exact hz d (by omega)) (fun i hi => by rw [hp3 i (by omega), show upN N k v i = N i from if_neg (by omega)]) (fun a ha => by rw [hf3 a ha, upm_off _ _ ha]; exact hfr a ha)
          · refine G_iconst d_X0_pick_73 ?_
            refine G_zret (mc := 0) (ms := 0) (st := []) d_X0_pick_74 rfl (by omega) ?_
            obtain ⟨N2, hN2⟩ := isS_1 c70
            have hfull : rC s l (j + 1) N = some N2 := by
              rw [rC_S (by omega) N]
              have h1 : (List.range (v + 1)).foldl (fun a d => run (pN s) (D0 l) (stepC s l) j (upN N k d) a) none = some N2 := by
                rw [List.range_succ, List.foldl_append, fold_at N v hz]
                exact hN2
              have h2 := fold_up h1 (l - (v + 1))
              rw [show v + 1 + (l - (v + 1)) = l by omega] at h2
              exact h2
            exact ⟨by rw [hfull]; rfl, m3, rfl, fun N9 h9 i hi => by
              rw [hfull] at h9
              simp only [Option.some.injEq] at h9
              rw [← h9]
              exact h3 N2 hN2 i hi, fun i hi => by rw [hp3 i (by omega), show upN N k v i = N i from if_neg (by omega)], fun a ha => by rw [hf3 a ha, upm_off _ _ ha]; exact hfr a ha⟩
        · rw [if_neg hf]
          refine G_if_eq 75 d_X0_pick_54 (by decide) (by decide) (fun _ => ?_) (fun hd => absurd hd (by decide))
          refine G_iinc d_X0_pick_75 rfl (by decide) rfl ?_
          refine G_goto 27 d_X0_pick_78 (by decide) ?_
          have hno := fit_no hV (by omega) hf
          exact ih1 (by omega) _ (fun d hd => by
            by_cases e : d = v
            · rw [e]; exact hno
            · exact hz d (by omega)) (fun i hi => by rw [upm_ne _ _ (fun _ => by omega)]; exact hpk i hi) (fun a ha => by rw [upm_off _ _ ha]; exact hfr a ha)
    refine G_iload d_X0_pick_0 rfl ?_
    refine G_aload_n d_X0_pick_2 rfl ?_
    refine G_getIe (v := (pN s : Int)) (fl_X0_47.r) d_X0_pick_3 (wk_52 _) rfl (hS.2.1) ?_
    refine G_icmp_lt 11 d_X0_pick_6 (by decide) (by omega) (by omega) (fun c6 => ?_) (fun c6 => ?_)
    · refine G_iload d_X0_pick_11 rfl ?_
      refine G_if_ne 20 d_X0_pick_13 (by decide) (by omega) (fun c13 => ?_) (fun c13 => ?_)
      · refine G_iload d_X0_pick_20 rfl ?_
        refine G_istore d_X0_pick_22 (by decide) rfl ?_
        refine G_iconst d_X0_pick_24 ?_
        refine G_istore d_X0_pick_25 (by decide) rfl ?_
        exact L 0 (by omega) m (fun d hd => absurd hd (by omega)) hpk (fun _ _ => rfl)
      · omega
    · omega
theorem sp_cpick0 {w : List KD} {m : Nat → Nat → Int} (s : Nat → Int) (hV : VS s) (hch : pChief s ≠ -1) (h200 : pC s ≤ 200) (l : Nat) (hl : 1 ≤ l ∧ l ≤ 12) (hS : WS s m) (hO : SO s m) : Sp M_X0_pick 9 0 0 [rV 60, rV 52, rV 25, rV 5, iV (l : Int), iV 0] (WC ++ w, m) (fun r h => r = some (iV (isS (runC s l))) ∧ ∃ m2, h = (WC ++ w, m2) ∧ (∀ N2, runC s l = some N2 → ∀ i, i < pN s → m2 61 i = (N2 i : Int)) ∧ (∀ a, a ≠ 61 → m2 a = m a)) := by
  have hN := hV.N
  have hr0 := runC_0 hV (l := l) hl.1
  refine Sp.ofG (ls := [rV 60, rV 52, rV 25, rV 5, iV (l : Int), iV 0, uV, uV]) (by decide +kernel) rfl (Nat.le_of_ble_eq_true rfl) ?_
  refine G_iload d_X0_pick_0 rfl ?_
  refine G_aload_n d_X0_pick_2 rfl ?_
  refine G_getIe (v := (pN s : Int)) (fl_X0_47.r) d_X0_pick_3 (wk_52 _) rfl (hS.2.1) ?_
  refine G_icmp_lt 11 d_X0_pick_6 (by decide) (by omega) (by omega) (fun c6 => ?_) (fun c6 => ?_)
  · refine G_iload d_X0_pick_11 rfl ?_
    refine G_if_ne 20 d_X0_pick_13 (by decide) (by decide) (fun hd => absurd hd (by decide)) (fun _ => ?_)
    refine G_iconst d_X0_pick_16 ?_
    refine G_goto 22 d_X0_pick_17 (by decide) ?_
    refine G_istore d_X0_pick_22 (by decide) rfl ?_
    refine G_iconst d_X0_pick_24 ?_
    refine G_istore d_X0_pick_25 (by decide) rfl ?_
    refine G_iload d_X0_pick_27 rfl ?_
    refine G_iload d_X0_pick_29 rfl ?_
    refine G_icmp_ge 81 d_X0_pick_31 (by decide) (by decide) (by decide) (fun hd => absurd hd (by decide)) (fun _ => ?_)
    refine G_aload_n d_X0_pick_34 rfl ?_
    refine G_getR (r := 61) (fl_X0_19.r) d_X0_pick_35 (wk_60 _) rfl rfl ?_
    refine G_iload d_X0_pick_38 rfl ?_
    refine G_iload d_X0_pick_40 rfl ?_
    refine G_iastj (0) d_X0_pick_42 (wk_61 _) (by omega) (by omega) (by decide) ?_
    have hSv : WS s (upm m 61 0 0) := hS.at61 (by omega) (fun a ha => upm_off _ _ ha)
    have hOv : SO s (upm m 61 0 0) := hO.keep (upm_off _ _ (by decide)) (upm_off _ _ (by decide))
    have hpv : ∀ i, i ≤ 0 → upm m 61 0 0 61 i = (upN (fun _ => 0) 0 0 i : Int) := fun i hi => by
      obtain rfl : i = 0 := by omega
      rw [upm_same]
      rfl
    have hN0 : ∀ i, i ≤ 0 → upN (fun _ => 0) 0 0 i = 0 := fun i hi => if_pos (by omega)
    have hP0 : PFX s l 0 (fun _ => 0) := fun p _ _ h0 h1 => absurd h1 (by omega)
    refine G_aload_n d_X0_pick_43 rfl ?_
    refine G_aload_n d_X0_pick_44 rfl ?_
    refine G_aload_n d_X0_pick_45 rfl ?_
    refine G_aload_n d_X0_pick_46 rfl ?_
    refine G_iload d_X0_pick_47 rfl ?_
    refine G_iload d_X0_pick_49 rfl ?_
    refine G_callV5 cl_X0_58 rfl d_X0_pick_51 (wk_60 _) (Nat.le_of_ble_eq_true rfl) (by decide) (sp_fits s hV hSv hOv h200 l 0 hl (by omega) (upN (fun _ => 0) 0 0) (fun i hi => by rw [hN0 i hi]; exact Nat.zero_le _) hpv) ?_
    rintro _ _ ⟨rfl, rfl⟩
    by_cases hf : fitG s l (upN (fun _ => 0) 0 0) 0 = true
    · rw [if_pos hf]
      refine G_if_eq 75 d_X0_pick_54 (by decide) (by decide) (fun hd => absurd hd (by decide)) (fun _ => ?_)
      refine G_aload_n d_X0_pick_57 rfl ?_
      refine G_aload_n d_X0_pick_58 rfl ?_
      refine G_aload_n d_X0_pick_59 rfl ?_
      refine G_aload_n d_X0_pick_60 rfl ?_
      refine G_iload d_X0_pick_61 rfl ?_
      refine G_iload d_X0_pick_63 rfl ?_
      refine G_iconst d_X0_pick_65 ?_
      refine G_iadd d_X0_pick_66 ?_
      have hpick := sp_cpick (w := w) s hV hch h200 l hl (pN s - 1) 1 (upN (fun _ => 0) 0 0) (upm m 61 0 0) (by omega) (by omega) hSv hOv (fun i hi => hpv i (by omega)) (fun i hi => by rw [hN0 i (by omega)]; exact hl.1) (fit_ext (by omega) hP0 hf)
      refine G_callS6 cl_X0_43 d_X0_pick_67 (Nat.le_of_ble_eq_true rfl) (by omega) (hpick) ?_
      rintro _ _ ⟨rfl, m3, rfl, h3, hp3, hf3⟩
      have hisr := isS_rng (rC s l (pN s - 1) (upN (fun _ => 0) 0 0))
      refine G_if_eq 75 d_X0_pick_70 (by decide) (by omega) (fun c70 => ?_) (fun c70 => ?_)
      · refine G_iinc d_X0_pick_75 rfl (by decide) rfl ?_
        refine G_goto 27 d_X0_pick_78 (by decide) ?_
        refine G_iload d_X0_pick_27 rfl ?_
        refine G_iload d_X0_pick_29 rfl ?_
        refine G_icmp_ge 81 d_X0_pick_31 (by decide) (by decide) (by decide) (fun _ => ?_) (fun hd => absurd hd (by decide))
        refine G_iconst d_X0_pick_81 ?_
        refine G_zret (mc := 0) (ms := 0) (st := []) d_X0_pick_82 rfl (by omega) ?_
        have hno : runC s l = none := hr0.trans (isS_0 c70)
        exact ⟨by rw [hno]; rfl, m3, rfl, fun N9 h9 => by rw [hno] at h9; exact absurd h9 (by simp), fun a ha => by rw [hf3 a ha, upm_off _ _ ha]⟩
      · refine G_iconst d_X0_pick_73 ?_
        refine G_zret (mc := 0) (ms := 0) (st := []) d_X0_pick_74 rfl (by omega) ?_
        obtain ⟨N2, hN2⟩ := isS_1 c70
        have hN3 : runC s l = some N2 := hr0.trans hN2
        exact ⟨by rw [hN3]; rfl, m3, rfl, fun N9 h9 i hi => by
          rw [hN3] at h9
          simp only [Option.some.injEq] at h9
          rw [← h9]
          exact h3 N2 hN2 i hi, fun a ha => by rw [hf3 a ha, upm_off _ _ ha]⟩
    · rw [if_neg hf]
      refine G_if_eq 75 d_X0_pick_54 (by decide) (by decide) (fun _ => ?_) (fun hd => absurd hd (by decide))
      refine G_iinc d_X0_pick_75 rfl (by decide) rfl ?_
      refine G_goto 27 d_X0_pick_78 (by decide) ?_
      refine G_iload d_X0_pick_27 rfl ?_
      refine G_iload d_X0_pick_29 rfl ?_
      refine G_icmp_ge 81 d_X0_pick_31 (by decide) (by decide) (by decide) (fun _ => ?_) (fun hd => absurd hd (by decide))
      refine G_iconst d_X0_pick_81 ?_
      refine G_zret (mc := 0) (ms := 0) (st := []) d_X0_pick_82 rfl (by omega) ?_
      have hno : runC s l = none := hr0.trans (fit_no hV (k := 0) (by omega) hf)
      exact ⟨by rw [hno]; rfl, _, rfl, fun N9 h9 => by rw [hno] at h9; exact absurd h9 (by simp), fun a ha => upm_off _ _ ha⟩
  · omega
