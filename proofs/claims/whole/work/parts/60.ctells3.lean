theorem TO.gr {s : Nat → Int} {m : Nat → Nat → Int} (h : TO s m) {k : Nat} (hk : k < 5) (b : Int) : TO (sU s (9 + k) b) (upm m 3 k b) := by
  obtain ⟨g1, g2, g3, g4, g5, g6⟩ := h
  refine ⟨?_, ?_, fun j hj => ?_, fun j hj => ?_, fun j hj => ?_, fun j hj => ?_⟩
  · rw [upm_off _ _ (by decide)]; unfold pN; rw [sU_ne _ _ (by omega)]; exact g1
  · rw [upm_off _ _ (by decide)]; unfold pM; rw [sU_ne _ _ (by omega)]; exact g2
  · rw [upm_off _ _ (by decide), sU_ne _ _ (by omega)]; exact g3 j hj
  · by_cases e : j = k
    · rw [e, upm_same, sU_at]
    · rw [upm_ne _ _ (fun _ => e), sU_ne _ _ (by omega)]; exact g4 j hj
  · rw [upm_off _ _ (by decide), sU_ne _ _ (by omega)]; exact g5 j hj
  · rw [upm_off _ _ (by decide), sU_ne _ _ (by omega)]; exact g6 j hj
theorem TO.we {s : Nat → Int} {m : Nat → Nat → Int} (h : TO s m) {k : Nat} (hk : k < 35) (b : Int) : TO (sU s (14 + k) (b - 1)) (upm m 4 k b) := by
  obtain ⟨g1, g2, g3, g4, g5, g6⟩ := h
  refine ⟨?_, ?_, fun j hj => ?_, fun j hj => ?_, fun j hj => ?_, fun j hj => ?_⟩
  · rw [upm_off _ _ (by decide)]; unfold pN; rw [sU_ne _ _ (by omega)]; exact g1
  · rw [upm_off _ _ (by decide)]; unfold pM; rw [sU_ne _ _ (by omega)]; exact g2
  · rw [upm_off _ _ (by decide), sU_ne _ _ (by omega)]; exact g3 j hj
  · rw [upm_off _ _ (by decide), sU_ne _ _ (by omega)]; exact g4 j hj
  · by_cases e : j = k
    · rw [e, upm_same, sU_at]; omega
    · rw [upm_ne _ _ (fun _ => e), sU_ne _ _ (by omega)]; exact g5 j hj
  · rw [upm_off _ _ (by decide), sU_ne _ _ (by omega)]; exact g6 j hj
theorem TO.mk {s : Nat → Int} {m : Nat → Nat → Int} (h : TO s m) (k : Nat) (b : Int) : TO (sU s (227 + k) b) (upm m 5 k b) := by
  obtain ⟨g1, g2, g3, g4, g5, g6⟩ := h
  refine ⟨?_, ?_, fun j hj => ?_, fun j hj => ?_, fun j hj => ?_, fun j hj => ?_⟩
  · rw [upm_off _ _ (by decide)]; unfold pN; rw [sU_ne _ _ (by omega)]; exact g1
  · rw [upm_off _ _ (by decide)]; unfold pM; rw [sU_ne _ _ (by omega)]; exact g2
  · rw [upm_off _ _ (by decide), sU_ne _ _ (by omega)]; exact g3 j hj
  · rw [upm_off _ _ (by decide), sU_ne _ _ (by omega)]; exact g4 j hj
  · rw [upm_off _ _ (by decide), sU_ne _ _ (by omega)]; exact g5 j hj
  · by_cases e : j = k
    · rw [e, upm_same, sU_at]
    · rw [upm_ne _ _ (fun _ => e), sU_ne _ _ (by omega)]; exact g6 j hj
/-- gradients or weights told -/
theorem CI.gon {s : Nat → Int} {m m1 : Nat → Nat → Int} (h : CI s m) (hV : VS s) {j : Nat} {x : Int} (hj : 9 ≤ j ∧ j < 49) (k : ∀ c, (c < 2 ∨ 5 < c) → m1 c = m c) (hT : TO (sU s j x) m1) : CI (sU s j x) (goT m1) ∧ FXo m (goT m1) := by
  have ap : AP s (sU s j x) := AP_sU (by omega) (by omega)
  have hch : pChief (sU s j x) = pChief s := ap.chief hV (fun p _ => by rw [sU_ne _ _ (by omega)])
  exact h.tld hV (AC_sU (by omega)) ap (fun c c0 c1 c2 c3 c4 c5 c6 => by rw [goT_off _ c4 c5 c6 c2, k c c1]) (by rw [goT_off _ (by decide) (by decide) (by decide) (by decide), k 0 (by decide)]) (by rw [goT_250, k 25 (by decide)]) (hT.keep (fun c c1 c2 => goT_off _ (by omega) (by omega) (by omega) (by omega))) (by rw [goT_off _ (by decide) (by decide) (by decide) (by decide), k 0 (by decide), hch]; exact h.1.2.2.2.1) (Or.inl (goT_25 _)) (Or.inr ⟨fun _ => hch, by rw [goT_off _ (by decide) (by decide) (by decide) (by decide), k 30 (by decide)], by rw [goT_off _ (by decide) (by decide) (by decide) (by decide), k 0 (by decide)]⟩) (seT_52 _) (seT_57 _) (seT_60 _)
abbrev mkM (s : Nat → Int) (m : Nat → Nat → Int) (p : Nat) (v : Int) : Nat → Nat → Int := upm (upm m 5 p v) 0 7 (pChief (sU s (227 + p) v))
theorem mkM_off {s : Nat → Int} {m : Nat → Nat → Int} {p : Nat} {v : Int} {a : Nat} (h : a ≠ 0) (h5 : a ≠ 5) : mkM s m p v a = m a := by unfold mkM; rw [upm_off _ _ h, upm_off _ _ h5]
/-- a mark told -/
theorem CI.mrk {s : Nat → Int} {m m2 : Nat → Nat → Int} (h : CI s m) (hV : VS s) (p : Nat) (v : Int) (hm : (m2 = seT (mkM s m p v) ∧ (s 3 = 0 → pChief (sU s (227 + p) v) = pChief s)) ∨ m2 = seT (cyT (mkM s m p v))) : CI (sU s (227 + p) v) m2 ∧ FXo m m2 := by
  have ap : AP s (sU s (227 + p) v) := AP_sU (by omega) (by omega)
  have ac : AC s (sU s (227 + p) v) := AC_sU (by omega)
  have hw : WGh (sU s (227 + p) v) m := ap.wgh hV (fun k hk => sU_ne _ _ (by omega)) (fun k hk => sU_ne _ _ (by omega)) h.1.2.2.2.2.1
  have eo : ∀ c, c ≠ 0 → c ≠ 5 → c ≠ 30 → c ≠ 52 → c ≠ 57 → c ≠ 60 → m2 c = m c := fun c c0 c1 c2 c3 c4 c5 => by
    rcases hm with ⟨rfl, -⟩ | rfl
    · rw [seT_off _ c3 c4 c5, mkM_off c0 c1]
    · rw [seT_off _ c3 c4 c5, cyT_off _ c0 c2, mkM_off c0 c1]
  have e0 : ∀ j, j ≠ 11 → m2 0 j = upm m 0 7 (pChief (sU s (227 + p) v)) 0 j := fun j hj => by
    rcases hm with ⟨rfl, -⟩ | rfl
    · rw [seT_off _ (by decide) (by decide) (by decide)]; unfold mkM upm; simp
    · rw [seT_off _ (by decide) (by decide) (by decide), cyT_0 _ hj]; unfold mkM upm; simp
  have e5 : m2 5 = upm m 5 p v 5 := by
    rcases hm with ⟨rfl, -⟩ | rfl
    · rw [seT_off _ (by decide) (by decide) (by decide)]; unfold mkM; rw [upm_off _ _ (show 5 ≠ 0 by decide)]
    · rw [seT_off _ (by decide) (by decide) (by decide), cyT_off _ (by decide) (by decide)]; unfold mkM; rw [upm_off _ _ (show 5 ≠ 0 by decide)]
  refine h.tld hV ac ap (fun c c0 c1 c2 c3 c4 c5 c6 => eo c c0 (by omega) c3 c4 c5 c6) (by rw [e0 4 (by decide)]; exact upm_ne _ _ (fun _ => by decide)) (by rw [eo 25 (by decide) (by decide) (by decide) (by decide) (by decide) (by decide)]) ((h.1.1.mk p v).keep (fun c c1 c2 => by
    by_cases e : c = 5
    · rw [e, e5]
    · rw [eo c (by omega) e (by omega) (by omega) (by omega) (by omega), upm_off _ _ e])) (by rw [e0 7 (by decide)]; exact upm_same _ _ _ _) (hw.keep (by rw [eo 25 (by decide) (by decide) (by decide) (by decide) (by decide) (by decide)]) (eo 28 (by decide) (by decide) (by decide) (by decide) (by decide) (by decide)) (eo 29 (by decide) (by decide) (by decide) (by decide) (by decide) (by decide))) ?_ (by rcases hm with ⟨rfl, -⟩ | rfl <;> exact seT_52 _) (by rcases hm with ⟨rfl, -⟩ | rfl <;> exact seT_57 _) (by rcases hm with ⟨rfl, -⟩ | rfl <;> exact seT_60 _)
  rcases hm with ⟨rfl, hc⟩ | rfl
  · exact Or.inr ⟨hc, by rw [seT_off _ (by decide) (by decide) (by decide), mkM_off (by decide) (by decide)], by rw [seT_off _ (by decide) (by decide) (by decide)]; unfold mkM; rw [upm_ne _ _ (fun _ => by decide), upm_off _ _ (by decide)]⟩
  · exact Or.inl ⟨by rw [seT_off _ (by decide) (by decide) (by decide)]; exact cyT_30 _, by rw [seT_off _ (by decide) (by decide) (by decide)]; exact cyT_11 _⟩
def faC (s : Nat → Int) (m : Nat → Nat → Int) (k : Nat) (o : Int) (n : Nat) : Nat → Nat → Int := fun a i => if a = 5 ∧ i < n ∧ pO s i k = o ∧ m 5 i = 0 then 2 else m a i
theorem faC_0 (s : Nat → Int) (m : Nat → Nat → Int) (k : Nat) (o : Int) : faC s m k o 0 = m := by
  funext a i
  unfold faC
  rw [if_neg (by omega)]
theorem faC_at (s : Nat → Int) (m : Nat → Nat → Int) (k : Nat) (o : Int) (n : Nat) : faC s m k o n 5 n = m 5 n := by
  unfold faC
  rw [if_neg (by omega)]
theorem faC_off (s : Nat → Int) (m : Nat → Nat → Int) (k : Nat) (o : Int) {a : Nat} (n : Nat) (h : a ≠ 5) : faC s m k o n a = m a := by
  funext i
  unfold faC
  rw [if_neg (fun e => h e.1)]
theorem faC_no {s : Nat → Int} {m : Nat → Nat → Int} {k : Nat} {o : Int} {n : Nat} (h : ¬ (pO s n k = o ∧ m 5 n = 0)) : faC s m k o (n + 1) = faC s m k o n := by
  funext a i
  unfold faC
  by_cases c : a = 5 ∧ i < n ∧ pO s i k = o ∧ m 5 i = 0
  · rw [if_pos c, if_pos ⟨c.1, by omega, c.2.2⟩]
  · rw [if_neg c, if_neg (fun e => ?_)]
    by_cases d : i = n
    · subst d
      exact h e.2.2
    · exact c ⟨e.1, by omega, e.2.2⟩
theorem faC_yes {s : Nat → Int} {m : Nat → Nat → Int} {k : Nat} {o : Int} {n : Nat} (h : pO s n k = o) (h2 : m 5 n = 0) : upm (faC s m k o n) 5 n 2 = faC s m k o (n + 1) := by
  funext a i
  unfold upm faC
  by_cases d : a = 5 ∧ i = n
  · obtain ⟨rfl, rfl⟩ := d
    rw [if_pos ⟨rfl, rfl⟩, if_pos ⟨rfl, by omega, h, h2⟩]
  · rw [if_neg d]
    by_cases c : a = 5 ∧ i < n ∧ pO s i k = o ∧ m 5 i = 0
    · rw [if_pos c, if_pos ⟨c.1, by omega, c.2.2⟩]
    · rw [if_neg c, if_neg (fun e => c ⟨e.1, by omega, e.2.2⟩)]
theorem CI.fa {s : Nat → Int} {m : Nat → Nat → Int} (h : CI s m) (hV : VS s) (k : Nat) (o : Int) : CI (uFreeAll s k o) (seT (faC s m k o (pC s))) ∧ FXo m (seT (faC s m k o (pC s))) := by
  have hC := pC_le hV
  have eo : ∀ c, c ≠ 5 → c ≠ 52 → c ≠ 57 → c ≠ 60 → seT (faC s m k o (pC s)) c = m c := fun c c1 c2 c3 c4 => by rw [seT_off _ c2 c3 c4, faC_off _ _ _ _ _ c1]
  have es : ∀ i, i < 227 → uFreeAll s k o i = s i := fun i hi => by unfold uFreeAll; rw [if_neg (by omega)]
  have hw : WGh (uFreeAll s k o) m := (AP_fa s k o).wgh hV (fun k hk => es _ (by omega)) (fun k hk => es _ (by omega)) h.1.2.2.2.2.1
  obtain ⟨g1, g2, g3, g4, g5, g6⟩ := h.1.1
  refine h.tld hV (AC_fa s k o) (AP_fa s k o) (fun c c0 c1 c2 c3 c4 c5 c6 => eo c (by omega) c4 c5 c6) (by rw [eo 0 (by decide) (by decide) (by decide) (by decide)]) (by rw [eo 25 (by decide) (by decide) (by decide) (by decide)]) ⟨?_, ?_, fun j hj => ?_, fun j hj => ?_, fun j hj => ?_, fun j hj => ?_⟩ (by rw [eo 0 (by decide) (by decide) (by decide) (by decide), chief_fa hV]; exact h.1.2.2.2.1) (hw.keep (by rw [eo 25 (by decide) (by decide) (by decide) (by decide)]) (eo 28 (by decide) (by decide) (by decide) (by decide)) (eo 29 (by decide) (by decide) (by decide) (by decide))) (Or.inr ⟨fun _ => chief_fa hV k o, eo 30 (by decide) (by decide) (by decide) (by decide), by rw [eo 0 (by decide) (by decide) (by decide) (by decide)]⟩) (seT_52 _) (seT_57 _) (seT_60 _)
  · rw [eo 1 (by decide) (by decide) (by decide) (by decide)]; unfold pN; rw [es 0 (by decide)]; exact g1
  · rw [eo 1 (by decide) (by decide) (by decide) (by decide)]; unfold pM; rw [es 1 (by decide)]; exact g2
  · rw [eo 2 (by decide) (by decide) (by decide) (by decide), es _ (by omega)]; exact g3 j hj
  · rw [eo 3 (by decide) (by decide) (by decide) (by decide), es _ (by omega)]; exact g4 j hj
  · rw [eo 4 (by decide) (by decide) (by decide) (by decide), es _ (by omega)]; exact g5 j hj
  · rw [seT_off _ (by decide) (by decide) (by decide)]
    unfold faC uFreeAll
    rw [g6 j hj, show 227 + j - 227 = j by omega]
    by_cases c : j < pC s ∧ pO s j k = o ∧ s (227 + j) = 0
    · rw [if_pos ⟨rfl, c⟩, if_pos ⟨by omega, by omega, c.2⟩]
    · rw [if_neg (fun e => c e.2), if_neg (fun e => c ⟨by omega, e.2.2⟩)]
theorem sp_Cgradient {w : List KD} {m : Nat → Nat → Int} (s : Nat → Int) (hV : VS s) (hI : CI s m) (a : Int) (hra : -2147483648 ≤ a ∧ a < 2147483648) (b : Int) (hrb : -2147483648 ≤ b ∧ b < 2147483648) : Sp M_X9_gradient 2 0 0 [rV 0, iV a, iV b] (WC ++ w, m) (fun r h => r = some (iV (vGradient s a b)) ∧ ∃ m2, h = (WC ++ w, m2) ∧ CI (nxGradient s a b) m2 ∧ FXo m m2) := by
  refine Sp.ofG (ls := [rV 0, iV a, iV b]) (by decide +kernel) rfl (Nat.le_of_ble_eq_true rfl) ?_
  have hC := pC_le hV
  have hN := hV.N
  have hT := hV.T
  have hSc := hV.Sc
  refine G_aload_n d_X9_gradient_0 rfl ?_
  refine G_iload_n d_X9_gradient_1 rfl ?_
  refine G_callV1 cl_X9_113 rfl d_X9_gradient_2 (wk_0 _) (Nat.le_of_ble_eq_true rfl) (by decide) (sp_CisPulse s hV hI.1 a hra) ?_
  rintro _ _ ⟨rfl, rfl⟩
  by_cases hk : 0 ≤ a ∧ a < (pN s : Int)
  · rw [if_pos hk]
    obtain ⟨k, rfl⟩ : ∃ n : Nat, a = (n : Int) := ⟨a.toNat, by omega⟩
    refine G_if_eq 20 d_X9_gradient_5 (by decide) (by decide) (fun hd => absurd hd (by decide)) (fun _ => ?_)
    refine G_iload_n d_X9_gradient_8 rfl ?_
    refine G_bipush d_X9_gradient_9 (by decide) ?_
    refine G_icmp_lt 20 d_X9_gradient_11 (by decide) (by omega) (by omega) (fun c11 => ?_) (fun c11 => ?_)
    · refine G_iconst d_X9_gradient_20 ?_
      refine G_zret (mc := 0) (ms := 0) (st := []) d_X9_gradient_21 rfl (by omega) ?_
      have hno : ¬ okGradient s (k : Int) b := fun h => by obtain ⟨⟨h1, h2⟩, h3, h4⟩ := h; omega
      exact ⟨by unfold vGradient; rw [if_neg hno], m, rfl, by unfold nxGradient; rw [if_neg hno]; exact hI, FXo.refl m⟩
    · refine G_iload_n d_X9_gradient_14 rfl ?_
      refine G_bipush d_X9_gradient_15 (by decide) ?_
      refine G_icmp_le 22 d_X9_gradient_17 (by decide) (by omega) (by omega) (fun c17 => ?_) (fun c17 => ?_)
      · refine G_aload_n d_X9_gradient_22 rfl ?_
        refine G_getR (r := 1) (fl_X9_12.r) d_X9_gradient_23 (wk_0 _) rfl rfl ?_
        refine G_getR (r := 3) fl_X9_152 d_X9_gradient_26 (wk_1 _) rfl rfl ?_
        refine G_iload_n d_X9_gradient_29 rfl ?_
        refine G_iload_n d_X9_gradient_30 rfl ?_
        refine G_iastj (k) d_X9_gradient_31 (wk_3 _) (by omega) (by omega) (by decide) ?_
        refine G_aload_n d_X9_gradient_32 rfl ?_
        refine G_callV0 cl_X9_155 rfl d_X9_gradient_33 (wk_0 _) (Nat.le_of_ble_eq_true rfl) (by decide) (sp_goneTold) ?_
        rintro _ _ ⟨rfl, rfl⟩
        refine G_iconst d_X9_gradient_36 ?_
        refine G_zret (mc := 0) (ms := 0) (st := []) d_X9_gradient_37 rfl (by omega) ?_
        have hok : okGradient s (k : Int) b := ⟨hk, by omega⟩
        obtain ⟨h2, hF2⟩ := hI.gon hV (j := 9 + k) (x := b) (by omega) (fun c hc => upm_off _ _ (by omega)) (hI.1.1.gr (by omega) b)
        exact ⟨by unfold vGradient; rw [if_pos hok], _, rfl, by unfold nxGradient; rw [if_pos hok]; exact h2, hF2⟩
      · refine G_iconst d_X9_gradient_20 ?_
        refine G_zret (mc := 0) (ms := 0) (st := []) d_X9_gradient_21 rfl (by omega) ?_
        have hno : ¬ okGradient s (k : Int) b := fun h => by obtain ⟨⟨h1, h2⟩, h3, h4⟩ := h; omega
        exact ⟨by unfold vGradient; rw [if_neg hno], m, rfl, by unfold nxGradient; rw [if_neg hno]; exact hI, FXo.refl m⟩
  · rw [if_neg hk]
    refine G_if_eq 20 d_X9_gradient_5 (by decide) (by decide) (fun _ => ?_) (fun hd => absurd hd (by decide))
    refine G_iconst d_X9_gradient_20 ?_
    refine G_zret (mc := 0) (ms := 0) (st := []) d_X9_gradient_21 rfl (by omega) ?_
    have hno : ¬ okGradient s a b := fun h => by obtain ⟨⟨h1, h2⟩, h3, h4⟩ := h; omega
    exact ⟨by unfold vGradient; rw [if_neg hno], m, rfl, by unfold nxGradient; rw [if_neg hno]; exact hI, FXo.refl m⟩
theorem sp_Cweight {w : List KD} {m : Nat → Nat → Int} (s : Nat → Int) (hV : VS s) (hI : CI s m) (a : Int) (hra : -2147483648 ≤ a ∧ a < 2147483648) (b : Int) (hrb : -2147483648 ≤ b ∧ b < 2147483648) (c : Int) (hrc : -2147483648 ≤ c ∧ c < 2147483648) : Sp M_X9_weight 2 0 0 [rV 0, iV a, iV b, iV c] (WC ++ w, m) (fun r h => r = some (iV (vWeight s a b c)) ∧ ∃ m2, h = (WC ++ w, m2) ∧ CI (nxWeight s a b c) m2 ∧ FXo m m2) := by
  refine Sp.ofG (ls := [rV 0, iV a, iV b, iV c]) (by decide +kernel) rfl (Nat.le_of_ble_eq_true rfl) ?_
  have hC := pC_le hV
  have hN := hV.N
  have hT := hV.T
  have hSc := hV.Sc
  refine G_aload_n d_X9_weight_0 rfl ?_
  refine G_iload_n d_X9_weight_1 rfl ?_
  refine G_callV1 cl_X9_113 rfl d_X9_weight_2 (wk_0 _) (Nat.le_of_ble_eq_true rfl) (by decide) (sp_CisPulse s hV hI.1 a hra) ?_
  rintro _ _ ⟨rfl, rfl⟩
  by_cases hk : 0 ≤ a ∧ a < (pN s : Int)
  · rw [if_pos hk]
    obtain ⟨k, rfl⟩ : ∃ n : Nat, a = (n : Int) := ⟨a.toNat, by omega⟩
    refine G_if_eq 28 d_X9_weight_5 (by decide) (by decide) (fun hd => absurd hd (by decide)) (fun _ => ?_)
    refine G_iload_n d_X9_weight_8 rfl ?_
    refine G_if_lt 28 d_X9_weight_9 (by decide) (by omega) (fun c9 => ?_) (fun c9 => ?_)
    · refine G_iconst d_X9_weight_28 ?_
      refine G_zret (mc := 0) (ms := 0) (st := []) d_X9_weight_29 rfl (by omega) ?_
      have hno : ¬ okWeight s (k : Int) b c := fun h => by obtain ⟨⟨h1, h2⟩, ⟨h3, h4⟩, h5, h6⟩ := h; omega
      exact ⟨by unfold vWeight; rw [if_neg hno], m, rfl, by unfold nxWeight; rw [if_neg hno]; exact hI, FXo.refl m⟩
    · refine G_iload_n d_X9_weight_12 rfl ?_
      refine G_bipush d_X9_weight_13 (by decide) ?_
      refine G_icmp_ge 28 d_X9_weight_15 (by decide) (by omega) (by omega) (fun c15 => ?_) (fun c15 => ?_)
      · refine G_iconst d_X9_weight_28 ?_
        refine G_zret (mc := 0) (ms := 0) (st := []) d_X9_weight_29 rfl (by omega) ?_
        have hno : ¬ okWeight s (k : Int) b c := fun h => by obtain ⟨⟨h1, h2⟩, ⟨h3, h4⟩, h5, h6⟩ := h; omega
        exact ⟨by unfold vWeight; rw [if_neg hno], m, rfl, by unfold nxWeight; rw [if_neg hno]; exact hI, FXo.refl m⟩
      · refine G_iload_n d_X9_weight_18 rfl ?_
        refine G_if_lt 28 d_X9_weight_19 (by decide) (by omega) (fun c19 => ?_) (fun c19 => ?_)
        · refine G_iconst d_X9_weight_28 ?_
          refine G_zret (mc := 0) (ms := 0) (st := []) d_X9_weight_29 rfl (by omega) ?_
          have hno : ¬ okWeight s (k : Int) b c := fun h => by obtain ⟨⟨h1, h2⟩, ⟨h3, h4⟩, h5, h6⟩ := h; omega
          exact ⟨by unfold vWeight; rw [if_neg hno], m, rfl, by unfold nxWeight; rw [if_neg hno]; exact hI, FXo.refl m⟩
        · refine G_iload_n d_X9_weight_22 rfl ?_
          refine G_bipush d_X9_weight_23 (by decide) ?_
          refine G_icmp_le 30 d_X9_weight_25 (by decide) (by omega) (by omega) (fun c25 => ?_) (fun c25 => ?_)
          · obtain ⟨j, rfl⟩ : ∃ n : Nat, b = (n : Int) := ⟨b.toNat, by omega⟩
            refine G_aload_n d_X9_weight_30 rfl ?_
            refine G_getR (r := 1) (fl_X9_12.r) d_X9_weight_31 (wk_0 _) rfl rfl ?_
            refine G_getR (r := 4) fl_X9_158 d_X9_weight_34 (wk_1 _) rfl rfl ?_
            refine G_iload_n d_X9_weight_37 rfl ?_
            refine G_bipush d_X9_weight_38 (by decide) ?_
            refine G_imul d_X9_weight_40 ?_
            refine G_iload_n d_X9_weight_41 rfl ?_
            refine G_iadd d_X9_weight_42 ?_
            refine G_iload_n d_X9_weight_43 rfl ?_
            refine G_iastj (7 * k + j) d_X9_weight_44 (wk_4 _) (by omega) (by omega) (by decide) ?_
            refine G_aload_n d_X9_weight_45 rfl ?_
            refine G_callV0 cl_X9_155 rfl d_X9_weight_46 (wk_0 _) (Nat.le_of_ble_eq_true rfl) (by decide) (sp_goneTold) ?_
            rintro _ _ ⟨rfl, rfl⟩
            refine G_iconst d_X9_weight_49 ?_
            refine G_zret (mc := 0) (ms := 0) (st := []) d_X9_weight_50 rfl (by omega) ?_
            have hok : okWeight s (k : Int) (j : Int) c := ⟨hk, by omega, by omega⟩
            obtain ⟨h2, hF2⟩ := hI.gon hV (j := 14 + 7 * k + j) (x := c - 1) (m1 := upm m 4 (7 * k + j) c) (by omega) (fun c hc => upm_off _ _ (by omega)) (by rw [show 14 + 7 * k + j = 14 + (7 * k + j) by omega]; exact hI.1.1.we (by omega) c)
            exact ⟨by unfold vWeight; rw [if_pos hok], _, rfl, by unfold nxWeight; rw [if_pos hok]; exact h2, hF2⟩
          · refine G_iconst d_X9_weight_28 ?_
            refine G_zret (mc := 0) (ms := 0) (st := []) d_X9_weight_29 rfl (by omega) ?_
            have hno : ¬ okWeight s (k : Int) b c := fun h => by obtain ⟨⟨h1, h2⟩, ⟨h3, h4⟩, h5, h6⟩ := h; omega
            exact ⟨by unfold vWeight; rw [if_neg hno], m, rfl, by unfold nxWeight; rw [if_neg hno]; exact hI, FXo.refl m⟩
  · rw [if_neg hk]
    refine G_if_eq 28 d_X9_weight_5 (by decide) (by decide) (fun _ => ?_) (fun hd => absurd hd (by decide))
    refine G_iconst d_X9_weight_28 ?_
    refine G_zret (mc := 0) (ms := 0) (st := []) d_X9_weight_29 rfl (by omega) ?_
    have hno : ¬ okWeight s a b c := fun h => by obtain ⟨⟨h1, h2⟩, ⟨h3, h4⟩, h5, h6⟩ := h; omega
    exact ⟨by unfold vWeight; rw [if_neg hno], m, rfl, by unfold nxWeight; rw [if_neg hno]; exact hI, FXo.refl m⟩
theorem sp_Cmark {w : List KD} {m : Nat → Nat → Int} (s : Nat → Int) (hV : VS s) (hI : CI s m) (a : Int) (hra : -2147483648 ≤ a ∧ a < 2147483648)(x : Int) (hx : x = 0 ∨ x = 1) (v : Int) (hv : 1 ≤ v ∧ v ≤ 2) : Sp M_X9_mark 1 0 0 [rV 0, iV a, iV v, iV x] (WC ++ w, m) (fun r h => r = some (iV (vMark s v a x)) ∧ ∃ m2, h = (WC ++ w, m2) ∧ CI (nxMark s v a x) m2 ∧ FXo m m2) := by
  refine Sp.ofG (ls := [rV 0, iV a, iV v, iV x, uV]) (by decide +kernel) rfl (Nat.le_of_ble_eq_true rfl) ?_
  have hC := pC_le hV
  have hN := hV.N
  have hT := hV.T
  have hSc := hV.Sc
  have K51 : ∀ p : Nat, p < pC s → okMark s v (p : Int) x → ∀ val : Int, 0 ≤ val ∧ val ≤ 2 → val = (if x = 1 then v else 0) → G M_X9_mark 1 0 0 51 [rV 0, iV (p : Int), iV v, iV x, uV] [] (WC ++ w, upm m 5 p val) (fun r h => r = some (iV (vMark s v (p : Int) x)) ∧ ∃ m2, h = (WC ++ w, m2) ∧ CI (nxMark s v (p : Int) x) m2 ∧ FXo m m2) := by
    intro p hp hok val hvr hval
    have h5 : ∀ q, q < 2401 → upm m 5 p val 5 q = (sU s (227 + p) val) (227 + q) := fun q hq => by
      by_cases e : q = p
      · rw [e, upm_same, sU_at]
      · rw [upm_ne _ _ (fun _ => e), sU_ne _ _ (by omega), hI.1.1.2.2.2.2.2 q hq]
    have hCC : pC (sU s (227 + p) val) = pC s := (AP_sU (s := s) (j := 227 + p) (x := val) (by omega) (by omega)).C hV
    have hcr := pChief_rng s
    have hcr2 := pChief_rng (sU s (227 + p) val)
    have hFo := hV.F
    rw [hCC] at hcr2
    refine G_aload_n d_X9_mark_51 rfl ?_
    refine G_getIe (v := pChief s) (fl_X9_47.r) d_X9_mark_52 (wk_0 _) rfl ((by rw [upm_off _ _ (by decide)]; exact hI.1.2.2.2.1)) ?_
    refine G_istore d_X9_mark_55 (by decide) rfl ?_
    refine G_aload_n d_X9_mark_57 rfl ?_
    refine G_aload_n d_X9_mark_58 rfl ?_
    refine G_getR (r := 1) (fl_X9_12.r) d_X9_mark_59 (wk_0 _) rfl rfl ?_
    refine G_aload_n d_X9_mark_62 rfl ?_
    refine G_getR (r := 25) (fl_X9_43.r) d_X9_mark_63 (wk_0 _) rfl rfl ?_
    refine G_getIe (v := (pC s : Int)) (fl_X9_110.r) d_X9_mark_66 (wk_25 _) rfl ((by rw [upm_off _ _ (by decide)]; exact hI.1.2.2.1.1)) ?_
    refine G_callV1 cl_X9_184 rfl d_X9_mark_69 (wk_1 _) (Nat.le_of_ble_eq_true rfl) (by decide) (sp_firstWished (pC s) (by omega) (fun q hq => by rw [h5 q hq]; by_cases e : q = p; (· rw [e, sU_at]; exact hvr); (· rw [sU_ne _ _ (by omega)]; exact hV.Mk q hq))) ?_
    rintro _ _ ⟨rfl, rfl⟩
    rw [show firstB (fun q => upm m 5 p val 5 q == 1) (pC s) = pChief (sU s (227 + p) val) by unfold pChief; rw [hCC]; exact firstB_congr (fun q hq => by rw [h5 q (by omega)]; rfl)]
    refine G_putII fl_X9_47 d_X9_mark_72 (wk_0 _) rfl ?_
    refine G_aload_n d_X9_mark_75 rfl ?_
    refine G_getIe (v := pChief (sU s (227 + p) val)) (fl_X9_47.r) d_X9_mark_76 (wk_0 _) rfl (upm_same _ _ _ _) ?_
    refine G_iload d_X9_mark_79 rfl ?_
    refine G_icmp_eq 98 d_X9_mark_81 (by decide) (by omega) (by omega) (fun c81 => ?_) (fun c81 => ?_)
    · refine G_aload_n d_X9_mark_98 rfl ?_
      refine G_callV0 cl_X9_129 rfl d_X9_mark_99 (wk_0 _) (Nat.le_of_ble_eq_true rfl) (by decide) (sp_searchesTold) ?_
      rintro _ _ ⟨rfl, rfl⟩
      refine G_iconst d_X9_mark_102 ?_
      refine G_zret (mc := 0) (ms := 0) (st := []) d_X9_mark_103 rfl (by omega) ?_
      obtain ⟨h2, hF2⟩ := hI.mrk (m2 := seT (mkM s m p val)) hV p val (Or.inl ⟨rfl, fun _ => c81⟩)
      exact ⟨by unfold vMark; rw [if_pos hok], _, rfl, by unfold nxMark; rw [if_pos hok, ← hval]; exact h2, hF2⟩
    · refine G_aload_n d_X9_mark_84 rfl ?_
      refine G_getR (r := 6) (fl_X9_19.r) d_X9_mark_85 (wk_0 _) rfl rfl ?_
      refine G_getIe (v := (if s 3 = 0 then (1 : Int) else 0)) (fl_X9_164.r) d_X9_mark_88 (wk_6 _) rfl ((by rw [upm_off _ _ (by decide), upm_off _ _ (by decide)]; exact hI.1.2.1.2)) ?_
      refine G_if_eq 98 d_X9_mark_91 (by decide) (by first | omega | (split <;> omega)) (fun c91 => ?_) (fun c91 => ?_)
      · refine G_aload_n d_X9_mark_98 rfl ?_
        refine G_callV0 cl_X9_129 rfl d_X9_mark_99 (wk_0 _) (Nat.le_of_ble_eq_true rfl) (by decide) (sp_searchesTold) ?_
        rintro _ _ ⟨rfl, rfl⟩
        refine G_iconst d_X9_mark_102 ?_
        refine G_zret (mc := 0) (ms := 0) (st := []) d_X9_mark_103 rfl (by omega) ?_
        obtain ⟨h2, hF2⟩ := hI.mrk (m2 := seT (mkM s m p val)) hV p val (Or.inl ⟨rfl, fun h0 => by rw [if_pos h0] at c91; omega⟩)
        exact ⟨by unfold vMark; rw [if_pos hok], _, rfl, by unfold nxMark; rw [if_pos hok, ← hval]; exact h2, hF2⟩
      · refine G_aload_n d_X9_mark_94 rfl ?_
        refine G_callV0 cl_X9_126 rfl d_X9_mark_95 (wk_0 _) (Nat.le_of_ble_eq_true rfl) (by decide) (sp_cycleTold) ?_
        rintro _ _ ⟨rfl, rfl⟩
        refine G_aload_n d_X9_mark_98 rfl ?_
        refine G_callV0 cl_X9_129 rfl d_X9_mark_99 (wk_0 _) (Nat.le_of_ble_eq_true rfl) (by decide) (sp_searchesTold) ?_
        rintro _ _ ⟨rfl, rfl⟩
        refine G_iconst d_X9_mark_102 ?_
        refine G_zret (mc := 0) (ms := 0) (st := []) d_X9_mark_103 rfl (by omega) ?_
        obtain ⟨h2, hF2⟩ := hI.mrk (m2 := seT (cyT (mkM s m p val))) hV p val (Or.inr rfl)
        exact ⟨by unfold vMark; rw [if_pos hok], _, rfl, by unfold nxMark; rw [if_pos hok, ← hval]; exact h2, hF2⟩
  refine G_aload_n d_X9_mark_0 rfl ?_
  refine G_iload_n d_X9_mark_1 rfl ?_
  refine G_callV1 cl_X9_181 rfl d_X9_mark_2 (wk_0 _) (Nat.le_of_ble_eq_true rfl) (by decide) (sp_CisPath s hV hI.1 a hra) ?_
  rintro _ _ ⟨rfl, rfl⟩
  by_cases hp : 0 ≤ a ∧ a < (pC s : Int)
  · rw [if_pos hp]
    obtain ⟨p, rfl⟩ : ∃ n : Nat, a = (n : Int) := ⟨a.toNat, by omega⟩
    refine G_if_eq 30 d_X9_mark_5 (by decide) (by decide) (fun hd => absurd hd (by decide)) (fun _ => ?_)
    refine G_aload_n d_X9_mark_8 rfl ?_
    refine G_getR (r := 1) (fl_X9_12.r) d_X9_mark_9 (wk_0 _) rfl rfl ?_
    refine G_getR (r := 5) fl_X9_178 d_X9_mark_12 (wk_1 _) rfl rfl ?_
    refine G_iload_n d_X9_mark_15 rfl ?_
    refine G_baldj (p) d_X9_mark_16 (wk_5 _) (by omega) (by omega) (by decide) ?_
    rw [hI.1.1.2.2.2.2.2 p (by omega)]
    have hMk := hV.Mk p (by omega)
    have hMk2 : pMk s ((p : Int).toNat) = s (227 + p) := rfl
    have hMk3 : pMk s p = s (227 + p) := rfl
    refine G_iload_n d_X9_mark_17 rfl ?_
    refine G_icmp_ne 25 d_X9_mark_18 (by decide) (by omega) (by omega) (fun c18 => ?_) (fun c18 => ?_)
    · refine G_iconst d_X9_mark_25 ?_
      have cx : (if pMk s ((p : Int).toNat) = v then (1 : Int) else 0) = 0 := if_neg (by rw [hMk2]; exact c18)
      refine G_iload_n d_X9_mark_26 rfl ?_
      refine G_icmp_ne 32 d_X9_mark_27 (by decide) (by omega) (by omega) (fun c27 => ?_) (fun c27 => ?_)
      · have hok : okMark s v (p : Int) x := ⟨hp, fun h => c27 (cx.symm.trans h)⟩
        refine G_aload_n d_X9_mark_32 rfl ?_
        refine G_getR (r := 1) (fl_X9_12.r) d_X9_mark_33 (wk_0 _) rfl rfl ?_
        refine G_getR (r := 5) fl_X9_178 d_X9_mark_36 (wk_1 _) rfl rfl ?_
        refine G_iload_n d_X9_mark_39 rfl ?_
        refine G_iload_n d_X9_mark_40 rfl ?_
        refine G_if_eq 48 d_X9_mark_41 (by decide) (by omega) (fun c41 => ?_) (fun c41 => ?_)
        · refine G_iconst d_X9_mark_48 ?_
          refine G_i2bS d_X9_mark_49 (by omega) ?_
          refine G_bastj (p) d_X9_mark_50 (wk_5 _) (by omega) (by omega) (by decide) (by omega) ?_
          exact K51 p (by omega) hok 0 (by omega) (by rw [if_neg (by omega)])
        · refine G_iload_n d_X9_mark_44 rfl ?_
          refine G_goto 49 d_X9_mark_45 (by decide) ?_
          refine G_i2bS d_X9_mark_49 (by omega) ?_
          refine G_bastj (p) d_X9_mark_50 (wk_5 _) (by omega) (by omega) (by decide) (by omega) ?_
          exact K51 p (by omega) hok v (by omega) (by rw [if_pos (by omega)])
      · refine G_iconst d_X9_mark_30 ?_
        refine G_zret (mc := 0) (ms := 0) (st := []) d_X9_mark_31 rfl (by omega) ?_
        exact ⟨by unfold vMark; rw [if_neg (show ¬ okMark s v (p : Int) x from fun h => h.2 (cx.trans c27))], m, rfl, by unfold nxMark; rw [if_neg (show ¬ okMark s v (p : Int) x from fun h => h.2 (cx.trans c27))]; exact hI, FXo.refl m⟩
    · refine G_iconst d_X9_mark_21 ?_
      refine G_goto 26 d_X9_mark_22 (by decide) ?_
      have cx : (if pMk s ((p : Int).toNat) = v then (1 : Int) else 0) = 1 := if_pos (by rw [hMk2]; exact c18)
      refine G_iload_n d_X9_mark_26 rfl ?_
      refine G_icmp_ne 32 d_X9_mark_27 (by decide) (by omega) (by omega) (fun c27 => ?_) (fun c27 => ?_)
      · have hok : okMark s v (p : Int) x := ⟨hp, fun h => c27 (cx.symm.trans h)⟩
        refine G_aload_n d_X9_mark_32 rfl ?_
        refine G_getR (r := 1) (fl_X9_12.r) d_X9_mark_33 (wk_0 _) rfl rfl ?_
        refine G_getR (r := 5) fl_X9_178 d_X9_mark_36 (wk_1 _) rfl rfl ?_
        refine G_iload_n d_X9_mark_39 rfl ?_
        refine G_iload_n d_X9_mark_40 rfl ?_
        refine G_if_eq 48 d_X9_mark_41 (by decide) (by omega) (fun c41 => ?_) (fun c41 => ?_)
        · refine G_iconst d_X9_mark_48 ?_
          refine G_i2bS d_X9_mark_49 (by omega) ?_
          refine G_bastj (p) d_X9_mark_50 (wk_5 _) (by omega) (by omega) (by decide) (by omega) ?_
          exact K51 p (by omega) hok 0 (by omega) (by rw [if_neg (by omega)])
        · refine G_iload_n d_X9_mark_44 rfl ?_
          refine G_goto 49 d_X9_mark_45 (by decide) ?_
          refine G_i2bS d_X9_mark_49 (by omega) ?_
          refine G_bastj (p) d_X9_mark_50 (wk_5 _) (by omega) (by omega) (by decide) (by omega) ?_
          exact K51 p (by omega) hok v (by omega) (by rw [if_pos (by omega)])
      · refine G_iconst d_X9_mark_30 ?_
        refine G_zret (mc := 0) (ms := 0) (st := []) d_X9_mark_31 rfl (by omega) ?_
        exact ⟨by unfold vMark; rw [if_neg (show ¬ okMark s v (p : Int) x from fun h => h.2 (cx.trans c27))], m, rfl, by unfold nxMark; rw [if_neg (show ¬ okMark s v (p : Int) x from fun h => h.2 (cx.trans c27))]; exact hI, FXo.refl m⟩
  · rw [if_neg hp]
    refine G_if_eq 30 d_X9_mark_5 (by decide) (by decide) (fun _ => ?_) (fun hd => absurd hd (by decide))
    refine G_iconst d_X9_mark_30 ?_
    refine G_zret (mc := 0) (ms := 0) (st := []) d_X9_mark_31 rfl (by omega) ?_
    exact ⟨by unfold vMark; rw [if_neg (show ¬ okMark s v a x from fun h => hp h.1)], m, rfl, by unfold nxMark; rw [if_neg (show ¬ okMark s v a x from fun h => hp h.1)]; exact hI, FXo.refl m⟩
