def ffr (f : Nat → Bool) : Nat → Nat → Nat
  | 0, a => a
  | n + 1, a => if f a = true then a else ffr f n (a + 1)
def nxv (low high T v : Nat) : Nat := if low = 1 then ffr (fun u => decide (high < u) || T % u == 0) (12 - v) (v + 1) else v + 1
def chB (nx : Nat → Nat) (high : Nat) : List Nat → Bool
  | [] => false
  | [a] => decide (high < nx a) && decide (a ≤ high)
  | a :: b :: r => nx a == b && decide (a ≤ high) && chB nx high (b :: r)
def D1 (T : Nat) : List Nat := (List.range 13).filter (fun v => decide (1 ≤ v) && T % v == 0)
def D0 (l : Nat) : List Nat := List.range l
theorem D1_ch {T : Nat} (h1 : 2 ≤ T) (h2 : T ≤ 48) : chB (nxv 1 12 T) 12 (D1 T) = true ∧ (D1 T).head? = some 1 := by
  have h : allN (fun i => chB (nxv 1 12 (i + 2)) 12 (D1 (i + 2)) && (D1 (i + 2)).head? == some 1) 47 = true := by decide +kernel
  have h3 := allN_of h (T - 2) (by omega)
  rw [show T - 2 + 2 = T by omega] at h3
  have h4 := Bool.and_eq_true_iff.mp h3
  exact ⟨h4.1, by simpa using h4.2⟩
theorem D0_ch {T l : Nat} (h1 : 1 ≤ l) (h2 : l ≤ 12) : chB (nxv 0 (l - 1) T) (l - 1) (D0 l) = true ∧ (D0 l).head? = some 0 := by
  have h : allN (fun i => chB (fun v => v + 1) (i + 1 - 1) (D0 (i + 1)) && (D0 (i + 1)).head? == some 0) 12 = true := by decide +kernel
  have h3 := allN_of h (l - 1) (by omega)
  rw [show l - 1 + 1 = l by omega] at h3
  have h4 := Bool.and_eq_true_iff.mp h3
  exact ⟨h4.1, by simpa using h4.2⟩
def upN (N : Nat → Nat) (k d : Nat) : Nat → Nat := fun i => if i = k then d else N i
def run {α : Type} (n : Nat) (D : List Nat) (step : α → (Nat → Nat) → α) : Nat → (Nat → Nat) → α → α
  | 0, N, a => step a N
  | j + 1, N, a => D.foldl (fun a d => run n D step j (upN N (n - (j + 1)) d) a) a
theorem ffr_f {f : Nat → Bool} {n a : Nat} (h : f a = false) : ffr f (n + 1) a = ffr f n (a + 1) := by
  show (if f a = true then a else ffr f n (a + 1)) = _
  rw [h, if_neg (by decide)]
theorem ffr_t {f : Nat → Bool} {n a : Nat} (h : f a = true) : ffr f n a = a := by
  cases n with
  | zero => rfl
  | succ n =>
    show (if f a = true then a else ffr f n (a + 1)) = _
    rw [h, if_pos rfl]
theorem ffr_ge (f : Nat → Bool) : ∀ n a : Nat, a ≤ ffr f n a ∧ ffr f n a ≤ a + n
  | 0, a => ⟨Nat.le_refl _, Nat.le_refl _⟩
  | n + 1, a => by
    have h := ffr_ge f n (a + 1)
    unfold ffr
    by_cases c : f a = true
    · rw [if_pos c]; omega
    · rw [if_neg c]; omega
theorem nxv_rng {low high T v : Nat} (hv : v ≤ 12) : v + 1 ≤ nxv low high T v ∧ nxv low high T v ≤ 13 := by
  unfold nxv
  by_cases c : low = 1
  · rw [if_pos c]
    have := ffr_ge (fun u => decide (high < u) || T % u == 0) (12 - v) (v + 1)
    omega
  · rw [if_neg c]; omega
theorem sp_MnextNumber {w : List KD} {m : Nat → Nat → Int} (s : Nat → Int) (hV : VS s) (hO : MO s m) (low high v : Nat) (hl : low ≤ 1) (hh : high ≤ 12) (hv : v ≤ 12) : Sp M_X10_nextNumber 1 0 0 [rV 64, iV (v : Int), iV (low : Int), iV (high : Int)] (WC ++ (WM ++ w), m) (fun r h => r = some (iV ((nxv low high (pT s) v : Nat) : Int)) ∧ h = (WC ++ (WM ++ w), m)) := by
  refine Sp.ofG (ls := [rV 64, iV (v : Int), iV (low : Int), iV (high : Int), uV]) (by decide +kernel) rfl (Nat.le_of_ble_eq_true rfl) ?_
  have hC := pC_le hV
  have hN := hV.N
  have hT := hV.T
  have hSc := hV.Sc
  have L : ∀ u : Nat, u ≤ 13 → 1 ≤ u → low = 1 → ffr (fun u => decide (high < u) || pT s % u == 0) (13 - u) u = nxv low high (pT s) v → G M_X10_nextNumber 1 0 0 5 [rV 64, iV (v : Int), iV (low : Int), iV (high : Int), iV (u : Int)] [] (WC ++ (WM ++ w), m) (fun r h => r = some (iV ((nxv low high (pT s) v : Nat) : Int)) ∧ h = (WC ++ (WM ++ w), m)) := by
    refine loop_up (13) _ ?_
    intro u hu ih hu1 hl1 hff
    refine G_iload_n d_X10_nextNumber_5 rfl ?_
    refine G_iconst d_X10_nextNumber_6 ?_
    refine G_icmp_ne 35 d_X10_nextNumber_7 (by decide) (by omega) (by omega) (fun c7 => ?_) (fun c7 => ?_)
    · refine G_iload d_X10_nextNumber_35 rfl ?_
      refine G_iret (mc := 0) (ms := 0) (st := []) d_X10_nextNumber_37 rfl ?_
      exact absurd hl1 (by omega)
    · refine G_iload d_X10_nextNumber_10 rfl ?_
      refine G_iload_n d_X10_nextNumber_12 rfl ?_
      refine G_icmp_gt 35 d_X10_nextNumber_13 (by decide) (by omega) (by omega) (fun c13 => ?_) (fun c13 => ?_)
      · refine G_iload d_X10_nextNumber_35 rfl ?_
        refine G_iret (mc := 0) (ms := 0) (st := []) d_X10_nextNumber_37 rfl ?_
        exact ⟨by rw [← hff, ffr_t (by simp; omega)], rfl⟩
      · refine G_aload_n d_X10_nextNumber_16 rfl ?_
        refine G_callV0 cl_X10_148 rfl d_X10_nextNumber_17 (wk_64 _) (Nat.le_of_ble_eq_true rfl) (by decide) (sp_Mt s hV hO) ?_
        rintro _ _ ⟨rfl, rfl⟩
        refine G_iload d_X10_nextNumber_20 rfl ?_
        refine G_iremN (pT s) (u) (rfl) (rfl) d_X10_nextNumber_22 (by omega) (by omega) (by omega) ?_
        have hml : pT s % u < u := Nat.mod_lt _ (by omega)
        refine G_if_eq 35 d_X10_nextNumber_23 (by decide) (by omega) (fun c23 => ?_) (fun c23 => ?_)
        · refine G_iload d_X10_nextNumber_35 rfl ?_
          refine G_iret (mc := 0) (ms := 0) (st := []) d_X10_nextNumber_37 rfl ?_
          exact ⟨by rw [← hff, ffr_t (by simp; omega)], rfl⟩
        · refine G_iload d_X10_nextNumber_26 rfl ?_
          refine G_iconst d_X10_nextNumber_28 ?_
          refine G_iadd d_X10_nextNumber_29 ?_
          refine G_istore d_X10_nextNumber_30 (by decide) rfl ?_
          refine G_goto 5 d_X10_nextNumber_32 (by decide) ?_
          refine ih (by omega) (by omega) hl1 ?_
          rw [← hff, show 13 - u = 13 - (u + 1) + 1 by omega, ffr_f (by simp; omega)]
  by_cases hl1 : low = 1
  · skip
    refine G_iload_n d_X10_nextNumber_0 rfl ?_
    refine G_iconst d_X10_nextNumber_1 ?_
    refine G_iadd d_X10_nextNumber_2 ?_
    refine G_istore d_X10_nextNumber_3 (by decide) rfl ?_
    exact L (v + 1) (by omega) (by omega) hl1 (by unfold nxv; rw [if_pos hl1, show 13 - (v + 1) = 12 - v by omega])
  · skip
    refine G_iload_n d_X10_nextNumber_0 rfl ?_
    refine G_iconst d_X10_nextNumber_1 ?_
    refine G_iadd d_X10_nextNumber_2 ?_
    refine G_istore d_X10_nextNumber_3 (by decide) rfl ?_
    refine G_iload_n d_X10_nextNumber_5 rfl ?_
    refine G_iconst d_X10_nextNumber_6 ?_
    refine G_icmp_ne 35 d_X10_nextNumber_7 (by decide) (by omega) (by omega) (fun c7 => ?_) (fun c7 => ?_)
    · refine G_iload d_X10_nextNumber_35 rfl ?_
      refine G_iret (mc := 0) (ms := 0) (st := []) d_X10_nextNumber_37 rfl ?_
      exact ⟨by unfold nxv; rw [if_neg hl1]; rfl, rfl⟩
    · omega
theorem sp_MgoesOn1 {w : List KD} {m : Nat → Nat → Int} (s : Nat → Int) (hV : VS s) (hO : MO s m) (N : Nat → Nat) (low high : Nat) (hl : low ≤ 1) (hh : high ≤ 12) (hB : NB s N m) (hN12 : ∀ i, i < pN s → N i ≤ 12) (k0 : Nat) (hk0 : k0 < pN s) (hsm : nxv low high (pT s) (N k0) ≤ high) (hno : ∀ i, k0 < i → i < pN s → high < nxv low high (pT s) (N i)) : Sp M_X10_goesOn 2 0 0 [rV 64, iV (low : Int), iV (high : Int)] (WC ++ (WM ++ w), m) (fun r h => r = some (iV 1) ∧ ∃ m2, h = (WC ++ (WM ++ w), m2) ∧ (∀ a, a ≠ 79 → m2 a = m a) ∧ NB s (fun i => if i < k0 then N i else if i = k0 then nxv low high (pT s) (N k0) else low) m2) := by
  refine Sp.ofG (ls := [rV 64, iV (low : Int), iV (high : Int), uV]) (by decide +kernel) rfl (Nat.le_of_ble_eq_true rfl) ?_
  have hC := pC_le hV
  have hN := hV.N
  have hT := hV.T
  have hSc := hV.Sc
  have L : ∀ q : Nat, k0 + 1 ≤ q → q ≤ pN s → ∀ m1, (∀ a, a ≠ 79 → m1 a = m a) → (∀ i, i < q → m1 79 i = (N i : Int)) → (∀ i, q ≤ i → i < pN s → m1 79 i = (low : Int)) → G M_X10_goesOn 2 0 0 7 [rV 64, iV (low : Int), iV (high : Int), iV ((q : Int) - 1)] [] (WC ++ (WM ++ w), m1) (fun r h => r = some (iV 1) ∧ ∃ m2, h = (WC ++ (WM ++ w), m2) ∧ (∀ a, a ≠ 79 → m2 a = m a) ∧ NB s (fun i => if i < k0 then N i else if i = k0 then nxv low high (pT s) (N k0) else low) m2) := by
    refine loop_down _ ?_
    intro q ih hq0 hq m1 hm hlo hhi
    refine G_iload_n d_X10_goesOn_7 rfl ?_
    refine G_if_lt 54 d_X10_goesOn_8 (by decide) (by omega) (fun c8 => ?_) (fun c8 => ?_)
    · omega
    · obtain ⟨x, rfl⟩ : ∃ x, q = x + 1 := ⟨q - 1, by omega⟩
      rw [show ((x + 1 : Nat) : Int) - 1 = (x : Int) by omega]
      have hx12 := hN12 x (by omega)
      have hnr := nxv_rng (low := low) (high := high) (T := pT s) hx12
      refine G_aload_n d_X10_goesOn_11 rfl ?_
      refine G_getR (r := 79) (fl_X10_83.r) d_X10_goesOn_12 (wk_64 _) rfl rfl ?_
      refine G_iload_n d_X10_goesOn_15 rfl ?_
      refine G_aload_n d_X10_goesOn_16 rfl ?_
      refine G_aload_n d_X10_goesOn_17 rfl ?_
      refine G_getR (r := 79) (fl_X10_83.r) d_X10_goesOn_18 (wk_64 _) rfl rfl ?_
      refine G_iload_n d_X10_goesOn_21 rfl ?_
      refine G_ialdj (x) d_X10_goesOn_22 (wk_79 _) (by omega) (by omega) (by decide) ?_
      rw [hlo x (by omega)]
      refine G_iload_n d_X10_goesOn_23 rfl ?_
      refine G_iload_n d_X10_goesOn_24 rfl ?_
      refine G_callV3 cl_X10_273 rfl d_X10_goesOn_25 (wk_64 _) (Nat.le_of_ble_eq_true rfl) (by decide) (sp_MnextNumber s hV (fun j hj => (congrFun (hm 65 (by decide)) j).trans (hO j hj)) low high (N x) hl hh hx12) ?_
      rintro _ _ ⟨rfl, rfl⟩
      refine G_iastj (x) d_X10_goesOn_28 (wk_79 _) (by omega) (by omega) (by decide) ?_
      refine G_aload_n d_X10_goesOn_29 rfl ?_
      refine G_getR (r := 79) (fl_X10_83.r) d_X10_goesOn_30 (wk_64 _) rfl rfl ?_
      refine G_iload_n d_X10_goesOn_33 rfl ?_
      refine G_ialdj (x) d_X10_goesOn_34 (wk_79 _) (by omega) (by omega) (by decide) ?_
      rw [upm_same]
      refine G_iload_n d_X10_goesOn_35 rfl ?_
      refine G_icmp_gt 41 d_X10_goesOn_36 (by decide) (by omega) (by omega) (fun c36 => ?_) (fun c36 => ?_)
      · have hxk : ¬ x = k0 := fun e => by subst e; omega
        refine G_aload_n d_X10_goesOn_41 rfl ?_
        refine G_getR (r := 79) (fl_X10_83.r) d_X10_goesOn_42 (wk_64 _) rfl rfl ?_
        refine G_iload_n d_X10_goesOn_45 rfl ?_
        refine G_iload_n d_X10_goesOn_46 rfl ?_
        refine G_iastj (x) d_X10_goesOn_47 (wk_79 _) (by omega) (by omega) (by decide) ?_
        refine G_iinc d_X10_goesOn_48 rfl (by decide) rfl ?_
        refine G_goto 7 d_X10_goesOn_51 (by decide) ?_
        have h9 := ih x rfl (by omega) (by omega) (upm (upm m1 79 x ((nxv low high (pT s) (N x) : Nat) : Int)) 79 x (low : Int)) (fun a ha => by rw [upm_off _ _ ha, upm_off _ _ ha]; exact hm a ha) (fun i hi => by rw [upm_ne _ _ (fun _ => by omega), upm_ne _ _ (fun _ => by omega)]; exact hlo i (by omega)) (fun i hi hi2 => by
          by_cases e : i = x
          · rw [e, upm_same]
          · rw [upm_ne _ _ (fun _ => e), upm_ne _ _ (fun _ => e)]; exact hhi i (by omega) hi2)
        exact h9
      · refine G_iconst d_X10_goesOn_39 ?_
        refine G_zret (mc := 0) (ms := 0) (st := []) d_X10_goesOn_40 rfl (by omega) ?_
        have hxk : x = k0 := by
          by_cases e : x = k0
          · exact e
          · have := hno x (by omega) (by omega); omega
        subst hxk
        refine ⟨rfl, _, rfl, fun a ha => by rw [upm_off _ _ ha]; exact hm a ha, fun i hi => ?_⟩
        dsimp only
        by_cases e : i = x
        · rw [e, upm_same, if_neg (Nat.lt_irrefl x), if_pos rfl]
        · rw [upm_ne _ _ (fun _ => e)]
          by_cases e2 : i < x
          · rw [if_pos e2]; exact hlo i (by omega)
          · rw [if_neg e2, if_neg e]; exact hhi i (by omega) hi
  refine G_aload_n d_X10_goesOn_0 rfl ?_
  refine G_callV0 cl_X10_11 rfl d_X10_goesOn_1 (wk_64 _) (Nat.le_of_ble_eq_true rfl) (by decide) (sp_Mn s hV hO) ?_
  rintro _ _ ⟨rfl, rfl⟩
  refine G_iconst d_X10_goesOn_4 ?_
  refine G_isub d_X10_goesOn_5 ?_
  refine G_istore_n d_X10_goesOn_6 (by decide) rfl ?_
  exact L (pN s) (by omega) (Nat.le_refl _) m (fun _ _ => rfl) hB (fun i h1 h2 => absurd h1 (by omega))
theorem sp_MgoesOn0 {w : List KD} {m : Nat → Nat → Int} (s : Nat → Int) (hV : VS s) (hO : MO s m) (N : Nat → Nat) (low high : Nat) (hl : low ≤ 1) (hh : high ≤ 12) (hB : NB s N m) (hN12 : ∀ i, i < pN s → N i ≤ 12) (hno : ∀ i, i < pN s → high < nxv low high (pT s) (N i)) : Sp M_X10_goesOn 2 0 0 [rV 64, iV (low : Int), iV (high : Int)] (WC ++ (WM ++ w), m) (fun r h => r = some (iV 0) ∧ ∃ m2, h = (WC ++ (WM ++ w), m2) ∧ (∀ a, a ≠ 79 → m2 a = m a) ∧ NB s (fun _ => low) m2) := by
  refine Sp.ofG (ls := [rV 64, iV (low : Int), iV (high : Int), uV]) (by decide +kernel) rfl (Nat.le_of_ble_eq_true rfl) ?_
  have hC := pC_le hV
  have hN := hV.N
  have hT := hV.T
  have hSc := hV.Sc
  have L : ∀ q : Nat, 0 ≤ q → q ≤ pN s → ∀ m1, (∀ a, a ≠ 79 → m1 a = m a) → (∀ i, i < q → m1 79 i = (N i : Int)) → (∀ i, q ≤ i → i < pN s → m1 79 i = (low : Int)) → G M_X10_goesOn 2 0 0 7 [rV 64, iV (low : Int), iV (high : Int), iV ((q : Int) - 1)] [] (WC ++ (WM ++ w), m1) (fun r h => r = some (iV 0) ∧ ∃ m2, h = (WC ++ (WM ++ w), m2) ∧ (∀ a, a ≠ 79 → m2 a = m a) ∧ NB s (fun _ => low) m2) := by
    refine loop_down _ ?_
    intro q ih hq0 hq m1 hm hlo hhi
    refine G_iload_n d_X10_goesOn_7 rfl ?_
    refine G_if_lt 54 d_X10_goesOn_8 (by decide) (by omega) (fun c8 => ?_) (fun c8 => ?_)
    · have hq00 : q = 0 := by omega
      subst hq00
      refine G_iconst d_X10_goesOn_54 ?_
      refine G_zret (mc := 0) (ms := 0) (st := []) d_X10_goesOn_55 rfl (by omega) ?_
      exact ⟨rfl, m1, rfl, hm, fun i hi => hhi i (by omega) hi⟩
    · obtain ⟨x, rfl⟩ : ∃ x, q = x + 1 := ⟨q - 1, by omega⟩
      rw [show ((x + 1 : Nat) : Int) - 1 = (x : Int) by omega]
      have hx12 := hN12 x (by omega)
      have hnr := nxv_rng (low := low) (high := high) (T := pT s) hx12
      refine G_aload_n d_X10_goesOn_11 rfl ?_
      refine G_getR (r := 79) (fl_X10_83.r) d_X10_goesOn_12 (wk_64 _) rfl rfl ?_
      refine G_iload_n d_X10_goesOn_15 rfl ?_
      refine G_aload_n d_X10_goesOn_16 rfl ?_
      refine G_aload_n d_X10_goesOn_17 rfl ?_
      refine G_getR (r := 79) (fl_X10_83.r) d_X10_goesOn_18 (wk_64 _) rfl rfl ?_
      refine G_iload_n d_X10_goesOn_21 rfl ?_
      refine G_ialdj (x) d_X10_goesOn_22 (wk_79 _) (by omega) (by omega) (by decide) ?_
      rw [hlo x (by omega)]
      refine G_iload_n d_X10_goesOn_23 rfl ?_
      refine G_iload_n d_X10_goesOn_24 rfl ?_
      refine G_callV3 cl_X10_273 rfl d_X10_goesOn_25 (wk_64 _) (Nat.le_of_ble_eq_true rfl) (by decide) (sp_MnextNumber s hV (fun j hj => (congrFun (hm 65 (by decide)) j).trans (hO j hj)) low high (N x) hl hh hx12) ?_
      rintro _ _ ⟨rfl, rfl⟩
      refine G_iastj (x) d_X10_goesOn_28 (wk_79 _) (by omega) (by omega) (by decide) ?_
      refine G_aload_n d_X10_goesOn_29 rfl ?_
      refine G_getR (r := 79) (fl_X10_83.r) d_X10_goesOn_30 (wk_64 _) rfl rfl ?_
      refine G_iload_n d_X10_goesOn_33 rfl ?_
      refine G_ialdj (x) d_X10_goesOn_34 (wk_79 _) (by omega) (by omega) (by decide) ?_
      rw [upm_same]
      refine G_iload_n d_X10_goesOn_35 rfl ?_
      refine G_icmp_gt 41 d_X10_goesOn_36 (by decide) (by omega) (by omega) (fun c36 => ?_) (fun c36 => ?_)
      · refine G_aload_n d_X10_goesOn_41 rfl ?_
        refine G_getR (r := 79) (fl_X10_83.r) d_X10_goesOn_42 (wk_64 _) rfl rfl ?_
        refine G_iload_n d_X10_goesOn_45 rfl ?_
        refine G_iload_n d_X10_goesOn_46 rfl ?_
        refine G_iastj (x) d_X10_goesOn_47 (wk_79 _) (by omega) (by omega) (by decide) ?_
        refine G_iinc d_X10_goesOn_48 rfl (by decide) rfl ?_
        refine G_goto 7 d_X10_goesOn_51 (by decide) ?_
        have h9 := ih x rfl (by omega) (by omega) (upm (upm m1 79 x ((nxv low high (pT s) (N x) : Nat) : Int)) 79 x (low : Int)) (fun a ha => by rw [upm_off _ _ ha, upm_off _ _ ha]; exact hm a ha) (fun i hi => by rw [upm_ne _ _ (fun _ => by omega), upm_ne _ _ (fun _ => by omega)]; exact hlo i (by omega)) (fun i hi hi2 => by
          by_cases e : i = x
          · rw [e, upm_same]
          · rw [upm_ne _ _ (fun _ => e), upm_ne _ _ (fun _ => e)]; exact hhi i (by omega) hi2)
        exact h9
      · (have := hno x (by omega); omega)
  refine G_aload_n d_X10_goesOn_0 rfl ?_
  refine G_callV0 cl_X10_11 rfl d_X10_goesOn_1 (wk_64 _) (Nat.le_of_ble_eq_true rfl) (by decide) (sp_Mn s hV hO) ?_
  rintro _ _ ⟨rfl, rfl⟩
  refine G_iconst d_X10_goesOn_4 ?_
  refine G_isub d_X10_goesOn_5 ?_
  refine G_istore_n d_X10_goesOn_6 (by decide) rfl ?_
  exact L (pN s) (by omega) (Nat.le_refl _) m (fun _ _ => rfl) hB (fun i h1 h2 => absurd h1 (by omega))
