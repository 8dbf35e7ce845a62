def addL (L : Nat → Int) (r : Nat) (t : Int) : Nat → Int := fun x => if x = r then L x + t else L x
theorem Bf_add {T : Nat} (L : Nat → Int) {r : Nat} (t : Int) (hr : r < T) (a : Nat) : Bf T (addL L r t) a = Bf T L a + t * bt T r a := by
  unfold Bf
  rw [show (fun k => addL L r t k * bt T k a) = (fun k => L k * bt T k a + (if k = r then t else 0) * bt T k a) from funext (fun k => by
    unfold addL
    by_cases e : k = r
    · rw [if_pos e, if_pos e, Int.add_mul]
    · rw [if_neg e, if_neg e, Int.zero_mul, Int.add_zero]), sumN_add]
  congr 1
  rw [sumN_one r hr (fun i _ h => by rw [if_neg h, Int.zero_mul]), if_pos rfl]
theorem btL_app (T r a : Nat) (q : Nat × Int) : ∀ l : List (Nat × Int), btL T r a (l ++ [q]) = btL T r a l + (if (r + q.1) % T = a then q.2 else 0)
  | [] => by simp [btL]
  | p :: l => by
    rw [List.cons_append]
    unfold btL
    rw [btL_app T r a q l]
    omega
theorem btL_b {T r a : Nat} : ∀ {l : List (Nat × Int)}, (∀ q ∈ l, -1 ≤ q.2 ∧ q.2 ≤ 1) → -(l.length : Int) ≤ btL T r a l ∧ btL T r a l ≤ l.length
  | [], _ => ⟨Int.le_refl 0, Int.le_refl 0⟩
  | p :: l, h => by
    have h1 := btL_b (T := T) (r := r) (a := a) (l := l) (fun q hq => h q (List.mem_cons_of_mem _ hq))
    have h2 := h p List.mem_cons_self
    unfold btL
    rw [List.length_cons]
    by_cases c : (r + p.1) % T = a
    · rw [if_pos c]; omega
    · rw [if_neg c]; omega
def updF (g : Nat → Int) (k : Nat) (x : Int) : Nat → Int := fun a => if a = k then x else g a
theorem cnt_upd (g : Nat → Int) (k : Nat) (x : Int) : ∀ n : Nat, (n ≤ k → cntB (fun a => updF g k x a != 0) n = cntB (fun a => g a != 0) n) ∧ (k < n → (cntB (fun a => updF g k x a != 0) n : Int) = cntB (fun a => g a != 0) n + (if g k = 0 then 1 else 0) - (if x = 0 then 1 else 0))
  | 0 => ⟨fun _ => rfl, fun h => absurd h (by omega)⟩
  | n + 1 => by
    have ih := cnt_upd g k x n
    refine ⟨fun h => ?_, fun h => ?_⟩
    · have h1 := ih.1 (by omega)
      have e : updF g k x n = g n := if_neg (by omega)
      show cntB _ n + (if (updF g k x n != 0) = true then 1 else 0) = cntB _ n + _
      rw [h1, e]
    · by_cases e : n = k
      · subst e
        have h1 := ih.1 (Nat.le_refl _)
        have e2 : updF g n x n = x := if_pos rfl
        show ((cntB _ n + (if (updF g n x n != 0) = true then 1 else 0) : Nat) : Int) = ((cntB _ n + (if (g n != 0) = true then 1 else 0) : Nat) : Int) + _ - _
        rw [h1, e2]
        by_cases c : g n = 0 <;> by_cases d : x = 0 <;> simp [c, d] <;> omega
      · have h1 := ih.2 (by omega)
        have e2 : updF g k x n = g n := if_neg e
        show ((cntB _ n + (if (updF g k x n != 0) = true then 1 else 0) : Nat) : Int) = ((cntB _ n + (if (g n != 0) = true then 1 else 0) : Nat) : Int) + _ - _
        rw [e2, Int.natCast_add, Int.natCast_add, h1]
        omega
def FX (T : Nat) (L : Nat → Int) (m : Nat → Nat → Int) : Prop := (∀ r, 0 ≤ L r) ∧ ((m 46 6 = -1 ∧ m 46 7 = 0 ∧ ∀ r, r < T → L r = 0) ∨ ∃ r0, r0 < T ∧ m 46 6 = (r0 : Int) ∧ 0 < L r0 ∧ ((m 46 7 = 0 ∧ ∀ r, r < T → r ≠ r0 → L r = 0) ∨ (m 46 7 = 1 ∧ ∃ r, r < T ∧ r ≠ r0 ∧ 0 < L r)))
/-- the sum of the counts L, at most N of them -/
def SM (T : Nat) (L : Nat → Int) (N : Nat) (m : Nat → Nat → Int) : Prop := FS T (shL.getD T []) m ∧ (∀ a, a < T → m 49 a = Bf T L a) ∧ (∀ a, a < T → -(8 * (N : Int)) ≤ Bf T L a ∧ Bf T L a ≤ 8 * (N : Int)) ∧ m 46 5 = (cntB (fun a => Bf T L a != 0) T : Nat) ∧ FX T L m
def US (m : Nat → Nat → Int) : Prop := m 46 0 = 0 ∨ ∃ T, 2 ≤ T ∧ T ≤ 48 ∧ FS T (shL.getD T []) m
def FQ (m m2 : Nat → Nat → Int) : Prop := ∀ a, a ≠ 46 → a ≠ 47 → a ≠ 48 → a ≠ 49 → m2 a = m a
theorem FQ.refl (m : Nat → Nat → Int) : FQ m m := fun _ _ _ _ _ => rfl
theorem FQ.trans {m m1 m2 : Nat → Nat → Int} (h : FQ m m1) (k : FQ m1 m2) : FQ m m2 := fun a h1 h2 h3 h4 => (k a h1 h2 h3 h4).trans (h a h1 h2 h3 h4)
theorem SM.us {T : Nat} {L : Nat → Int} {N : Nat} {m : Nat → Nat → Int} (h : SM T L N m) (h1 : 2 ≤ T) (h2 : T ≤ 48) : US m := Or.inr ⟨T, h1, h2, h.1⟩
theorem SM.mono {T : Nat} {L : Nat → Int} {N K : Nat} {m : Nat → Nat → Int} (h : SM T L N m) (hk : N ≤ K) : SM T L K m := ⟨h.1, h.2.1, fun a ha => by have := h.2.2.1 a ha; omega, h.2.2.2⟩
theorem SM.congr {T : Nat} {L K : Nat → Int} {N : Nat} {m : Nat → Nat → Int} (h : SM T L N m) (e : L = K) : SM T K N m := e ▸ h
theorem Bf_0 (T a : Nat) : Bf T (fun _ => 0) a = 0 := sumN_zero (fun i _ => Int.zero_mul _)
theorem FS.keep {T : Nat} {l : List (Nat × Int)} {m m2 : Nat → Nat → Int} (h : FS T l m) (h0 : m2 46 0 = m 46 0) (h1 : m2 46 1 = m 46 1) (h7 : m2 47 = m 47) (h8 : m2 48 = m 48) : FS T l m2 := ⟨by rw [h0]; exact h.1, by rw [h1]; exact h.2.1, fun i q hq => by rw [h7, h8]; exact h.2.2 i q hq⟩
theorem sp_sbegin {w : List KD} {m : Nat → Nat → Int} (T : Nat) (hT1 : 2 ≤ T) (hT2 : T ≤ 48) (hU : US m) : Sp M_X6_begin 1 0 0 [rV 46, iV (T : Int)] (WC ++ w, m) (fun r h => r = none ∧ ∃ m2, h = (WC ++ w, m2) ∧ SM T (fun _ => 0) 0 m2 ∧ FQ m m2) := by
  refine Sp.ofG (ls := [rV 46, iV (T : Int)]) (by decide +kernel) rfl (Nat.le_of_ble_eq_true rfl) ?_
  have hu : 0 ≤ m 46 0 ∧ m 46 0 ≤ 48 := by
    rcases hU with h | ⟨T', h1, h2, h3⟩
    · omega
    · rw [h3.1]; omega
  have K : ∀ m1, FS T (shL.getD T []) m1 → FO m m1 → G M_X6_begin 1 0 0 13 [rV 46, iV (T : Int)] [] (WC ++ w, m1) (fun r h => r = none ∧ ∃ m2, h = (WC ++ w, m2) ∧ SM T (fun _ => 0) 0 m2 ∧ FQ m m2) := by
    intro m1 h1 hF1
    refine G_aload_n d_X6_begin_13 rfl ?_
    refine G_getR (r := 49) (fl_X6_25.r) d_X6_begin_14 (wk_46 _) rfl rfl ?_
    refine G_iconst d_X6_begin_17 ?_
    refine G_callS2 cl_X6_42 d_X6_begin_18 (Nat.le_of_ble_eq_true rfl) (by decide) (sp_fillI (wk_49 _) (by decide)) ?_
    rintro _ _ ⟨rfl, rfl⟩
    refine G_aload_n d_X6_begin_21 rfl ?_
    refine G_iconst d_X6_begin_22 ?_
    refine G_putII fl_X6_28 d_X6_begin_23 (wk_46 _) rfl ?_
    refine G_aload_n d_X6_begin_26 rfl ?_
    refine G_iconst d_X6_begin_27 ?_
    refine G_putII fl_X6_31 d_X6_begin_28 (wk_46 _) rfl ?_
    refine G_aload_n d_X6_begin_31 rfl ?_
    refine G_iconst d_X6_begin_32 ?_
    refine G_putZ fl_X6_34 d_X6_begin_33 (wk_46 _) rfl (by omega) ?_
    refine G_vret (mc := 0) (ms := 0) (st := []) d_X6_begin_36 rfl ?_
    refine ⟨rfl, _, rfl, ⟨h1.keep (by rw [upm_ne _ _ (fun _ => by decide), upm_ne _ _ (fun _ => by decide), upm_ne _ _ (fun _ => by decide), flm_off _ _ _ _ (by decide)]) (by rw [upm_ne _ _ (fun _ => by decide), upm_ne _ _ (fun _ => by decide), upm_ne _ _ (fun _ => by decide), flm_off _ _ _ _ (by decide)]) (by rw [upm_off _ _ (by decide), upm_off _ _ (by decide), upm_off _ _ (by decide), flm_off _ _ _ _ (by decide)]) (by rw [upm_off _ _ (by decide), upm_off _ _ (by decide), upm_off _ _ (by decide), flm_off _ _ _ _ (by decide)]), fun a ha => ?_, fun a _ => by rw [Bf_0]; omega, ?_, fun _ => Int.le_refl 0, Or.inl ⟨?_, ?_, fun _ _ => rfl⟩⟩, fun a h6 h7 h8 h9 => ?_⟩
    · rw [upm_off _ _ (by decide), upm_off _ _ (by decide), upm_off _ _ (by decide), flm_in _ _ (by omega) (by omega), Bf_0]
    · rw [upm_ne _ _ (fun _ => by decide), upm_ne _ _ (fun _ => by decide), upm_same, show (fun a => Bf T (fun _ => 0) a != 0) = (fun _ => false) from funext (fun a => by rw [Bf_0]; rfl), cntB_zero]
      rfl
    · rw [upm_ne _ _ (fun _ => by decide), upm_same]
    · rw [upm_same]
    · rw [upm_off _ _ h6, upm_off _ _ h6, upm_off _ _ h6, flm_off _ _ _ _ h9]
      exact hF1 a h6 h7 h8
  refine G_iload_n d_X6_begin_0 rfl ?_
  refine G_aload_n d_X6_begin_1 rfl ?_
  refine G_getI (fl_X6_9.r) d_X6_begin_2 (wk_46 _) rfl ?_
  refine G_icmp_eq 13 d_X6_begin_5 (by decide) (by omega) (by omega) (fun c5 => ?_) (fun c5 => ?_)
  · rcases hU with h | ⟨T2, h1, h2, h3⟩
    · omega
    · obtain rfl : T = T2 := by have := h3.1; omega
      exact K m h3 (fun _ _ _ _ => rfl)
  · refine G_aload_n d_X6_begin_8 rfl ?_
    refine G_iload_n d_X6_begin_9 rfl ?_
    refine G_callV1 cl_X6_38 rfl d_X6_begin_10 (wk_46 _) (Nat.le_of_ble_eq_true rfl) (by decide) (sp_factor T hT1 hT2) ?_
    rintro _ _ ⟨rfl, m1, rfl, h1, hF1⟩
    exact K m1 h1 hF1
theorem c3_len {T : Nat} (h1 : 2 ≤ T) (h2 : T ≤ 48) : (shL.getD T []).length ≤ 8 ∧ ∀ q ∈ shL.getD T [], q.1 < T ∧ -1 ≤ q.2 ∧ q.2 ≤ 1 := ⟨(c3_facts h1 h2).2.2.2.2.2.2.1, (c3_facts h1 h2).2.2.2.2.2.1⟩
theorem sp_sadd {w : List KD} {m : Nat → Nat → Int} (T r N : Nat) (t : Int) (L : Nat → Int) (hT1 : 2 ≤ T) (hT2 : T ≤ 48) (hr : r < T) (ht : 1 ≤ t ∧ t ≤ 512) (hN : N ≤ 30000) (hB : SM T L N m) : Sp M_X6_add 0 0 0 [rV 46, iV (r : Int), iV t] (WC ++ w, m) (fun r9 h => r9 = none ∧ ∃ m2, h = (WC ++ w, m2) ∧ SM T (addL L r t) (N + t.toNat) m2 ∧ (∀ a, a ≠ 46 → a ≠ 49 → m2 a = m a)) := by
  refine Sp.ofG (ls := [rV 46, iV (r : Int), iV t, uV, uV, uV, uV]) (by decide +kernel) rfl (Nat.le_of_ble_eq_true rfl) ?_
  have hl8 := c3_len hT1 hT2
  have L9 : ∀ i : Nat, i ≤ (shL.getD T []).length → ∀ m1, FS T (shL.getD T []) m1 → (∀ a, a < T → m1 49 a = (fun a => Bf T L a + t * btL T r a ((shL.getD T []).take (i))) a) → m1 46 5 = (cntB (fun a => (fun a => Bf T L a + t * btL T r a ((shL.getD T []).take (i))) a != 0) T : Nat) → m1 46 6 = m 46 6 → m1 46 7 = m 46 7 → (∀ a, a ≠ 46 → a ≠ 49 → m1 a = m a) → ∀ u4 u5 u6 : PV, pcat u4 ≠ 2 → pcat u5 ≠ 2 → G M_X6_add 0 0 0 2 [rV 46, iV (r : Int), iV t, iV (i : Int), u4, u5, u6] [] (WC ++ w, m1) (fun r9 h => r9 = none ∧ ∃ m2, h = (WC ++ w, m2) ∧ SM T (addL L r t) (N + t.toNat) m2 ∧ (∀ a, a ≠ 46 → a ≠ 49 → m2 a = m a)) := by
    refine loop_up ((shL.getD T []).length) _ ?_
    intro i hi ih m1 h1 h49 h5 h6 h7 hfr u4 u5 u6 hu4 hu5
    have hbt : ∀ a, -8 ≤ btL T r a ((shL.getD T []).take i) ∧ btL T r a ((shL.getD T []).take i) ≤ 8 := fun a => by
      have h9 := btL_b (T := T) (r := r) (a := a) (l := (shL.getD T []).take i) (fun q hq => (hl8.2 q (List.mem_of_mem_take hq)).2)
      have h8 : ((shL.getD T []).take i).length ≤ 8 := by rw [List.length_take]; omega
      omega
    have hgb : ∀ a, a < T → -1000000 ≤ (fun a => Bf T L a + t * btL T r a ((shL.getD T []).take (i))) a ∧ (fun a => Bf T L a + t * btL T r a ((shL.getD T []).take (i))) a ≤ 1000000 := fun a ha => by
      have h9 := hB.2.2.1 a ha
      have h8 := absb (x := t) (y := btL T r a ((shL.getD T []).take i)) (A := 512) (B := 8) (by omega) (hbt a)
      show -1000000 ≤ Bf T L a + t * btL T r a ((shL.getD T []).take i) ∧ Bf T L a + t * btL T r a ((shL.getD T []).take i) ≤ 1000000
      omega
    by_cases hil : i < (shL.getD T []).length
    · obtain ⟨q, hq⟩ : ∃ q, (shL.getD T [])[i]? = some q := ⟨(shL.getD T [])[i], List.getElem?_eq_getElem hil⟩
      have hqv := h1.2.2 i q hq
      have hqb := hl8.2 q (List.mem_of_getElem? hq)
      have hat : (r + q.1) % T < T := Nat.mod_lt _ (by omega)
      obtain ⟨G0, hG0⟩ : ∃ x, x = (fun a => Bf T L a + t * btL T r a ((shL.getD T []).take (i))) ((r + q.1) % T) := ⟨_, rfl⟩
      have hgs : ∀ a, (fun a => Bf T L a + t * btL T r a ((shL.getD T []).take (i + 1))) a = updF (fun a => Bf T L a + t * btL T r a ((shL.getD T []).take (i))) ((r + q.1) % T) (G0 + q.2 * t) a := fun a => by
        unfold updF
        show Bf T L a + t * btL T r a ((shL.getD T []).take (i + 1)) = _
        rw [List.take_add_one, hq, show (some q).toList = [q] from rfl, btL_app, Int.mul_add, ← Int.add_assoc]
        by_cases e : a = (r + q.1) % T
        · rw [if_pos e, if_pos e.symm, hG0, e, Int.mul_comm q.2 t]
        · rw [if_neg e, if_neg (fun h => e h.symm), Int.mul_zero, Int.add_zero]
      have hgat : m1 49 ((r + q.1) % T) = G0 := (h49 _ hat).trans hG0.symm
      have hga := hgb _ hat
      rw [← hG0] at hga
      have hqt := absb (x := q.2) (y := t) (A := 1) (B := 512) (by omega) (by omega)
      have hcl := cntB_le (fun a => (fun a => Bf T L a + t * btL T r a ((shL.getD T []).take (i))) a != 0) T
      have K : ∀ m2, m2 49 = upm m1 49 ((r + q.1) % T) (G0 + q.2 * t) 49 → (∀ j, j ≠ 5 → m2 46 j = m1 46 j) → (∀ a, a ≠ 46 → a ≠ 49 → m2 a = m1 a) → m2 46 5 = ((cntB (fun a => (fun a => Bf T L a + t * btL T r a ((shL.getD T []).take (i))) a != 0) T : Nat) : Int) + (if G0 = 0 then 1 else 0) - (if G0 + q.2 * t = 0 then 1 else 0) → ∀ u4 u5 u6 : PV, pcat u4 ≠ 2 → pcat u5 ≠ 2 → G M_X6_add 0 0 0 2 [rV 46, iV (r : Int), iV t, iV ((i + 1 : Nat) : Int), u4, u5, u6] [] (WC ++ w, m2) (fun r9 h => r9 = none ∧ ∃ m2, h = (WC ++ w, m2) ∧ SM T (addL L r t) (N + t.toNat) m2 ∧ (∀ a, a ≠ 46 → a ≠ 49 → m2 a = m a)) := by
        intro m2 k1 k2 k3 k4 u4 u5 u6 hu4 hu5
        refine ih hil m2 (h1.keep (k2 0 (by decide)) (k2 1 (by decide)) (k3 47 (by decide) (by decide)) (k3 48 (by decide) (by decide))) (fun a ha => ?_) ?_ ((k2 6 (by decide)).trans h6) ((k2 7 (by decide)).trans h7) (fun a ha6 ha9 => (k3 a ha6 ha9).trans (hfr a ha6 ha9)) u4 u5 u6 hu4 hu5
        · rw [k1, hgs a]
          unfold updF
          by_cases e : a = (r + q.1) % T
          · rw [if_pos e, e, upm_same]
          · rw [if_neg e, upm_ne _ _ (fun _ => e)]
            exact h49 a ha
        · have h9 := (cnt_upd (fun a => Bf T L a + t * btL T r a ((shL.getD T []).take (i))) ((r + q.1) % T) (G0 + q.2 * t) T).2 hat
          rw [show Bf T L ((r + q.1) % T) + t * btL T r ((r + q.1) % T) ((shL.getD T []).take i) = G0 from hG0.symm] at h9
          rw [k4, ← h9]
          exact congrArg Int.ofNat (cntB_congr (fun a _ => by rw [hgs a]))
      refine G_iload_n d_X6_add_2 rfl ?_
      refine G_aload_n d_X6_add_3 rfl ?_
      refine G_getIe (fl_X6_15.r) d_X6_add_4 (wk_46 _) rfl (h1.2.1) ?_
      refine G_icmp_ge 92 d_X6_add_7 (by decide) (by omega) (by omega) (fun c7 => ?_) (fun c7 => ?_)
      · omega
      · refine G_iload_n d_X6_add_10 rfl ?_
        refine G_aload_n d_X6_add_11 rfl ?_
        refine G_getR (r := 47) (fl_X6_18.r) d_X6_add_12 (wk_46 _) rfl rfl ?_
        refine G_iload_n d_X6_add_15 rfl ?_
        refine G_ialdj (i) d_X6_add_16 (wk_47 _) (by omega) (by omega) (by decide) ?_
        rw [hqv.1]
        refine G_iadd d_X6_add_17 ?_
        refine G_aload_n d_X6_add_18 rfl ?_
        refine G_getIe (fl_X6_9.r) d_X6_add_19 (wk_46 _) rfl (h1.1) ?_
        refine G_iremN (r + q.1) (T) ((by omega)) (rfl) d_X6_add_22 (by omega) (by omega) (by omega) ?_
        refine G_istore d_X6_add_23 (by decide) rfl ?_
        refine G_aload_n d_X6_add_25 rfl ?_
        refine G_getR (r := 49) (fl_X6_25.r) d_X6_add_26 (wk_46 _) rfl rfl ?_
        refine G_iload d_X6_add_29 rfl ?_
        refine G_ialdj ((r + q.1) % T) d_X6_add_31 (wk_49 _) (by omega) (by omega) (by decide) ?_
        rw [hgat]
        refine G_istore d_X6_add_32 (by decide) rfl ?_
        refine G_iload d_X6_add_34 rfl ?_
        refine G_aload_n d_X6_add_36 rfl ?_
        refine G_getR (r := 48) (fl_X6_22.r) d_X6_add_37 (wk_46 _) rfl rfl ?_
        refine G_iload_n d_X6_add_40 rfl ?_
        refine G_ialdj (i) d_X6_add_41 (wk_48 _) (by omega) (by omega) (by decide) ?_
        rw [hqv.2]
        refine G_iload_n d_X6_add_42 rfl ?_
        refine G_imul d_X6_add_43 ?_
        refine G_iadd d_X6_add_44 ?_
        refine G_istore d_X6_add_45 (by decide) rfl ?_
        refine G_aload_n d_X6_add_47 rfl ?_
        refine G_getR (r := 49) (fl_X6_25.r) d_X6_add_48 (wk_46 _) rfl rfl ?_
        refine G_iload d_X6_add_51 rfl ?_
        refine G_iload d_X6_add_53 rfl ?_
        refine G_iastj ((r + q.1) % T) d_X6_add_55 (wk_49 _) (by omega) (by omega) (by decide) ?_
        refine G_iload d_X6_add_56 rfl ?_
        refine G_if_ne 71 d_X6_add_58 (by decide) (by omega) (fun c58 => ?_) (fun c58 => ?_)
        · refine G_iload d_X6_add_71 rfl ?_
          refine G_if_ne 86 d_X6_add_73 (by decide) (by omega) (fun c73 => ?_) (fun c73 => ?_)
          · refine G_iinc d_X6_add_86 rfl (by decide) rfl ?_
            refine G_goto 2 d_X6_add_89 (by decide) ?_
            exact K _ (by first | rfl | (rw [upm_off _ _ (by decide)])) (fun j hj => by rw [upm_off _ _ (by decide)]) (fun a h6 h9 => by rw [upm_off _ _ h9]) (by rw [upm_off _ _ (by decide), h5, if_neg c58, if_neg c73] <;> omega) _ _ _ (by show (1 : Nat) ≠ 2; decide) (by show (1 : Nat) ≠ 2; decide)
          · refine G_aload_n d_X6_add_76 rfl ?_
            refine G_dup d_X6_add_77 rfl ?_
            refine G_getIe (v := ((cntB (fun a => (fun a => Bf T L a + t * btL T r a ((shL.getD T []).take (i))) a != 0) T : Nat) : Int)) (fl_X6_28.r) d_X6_add_78 (wk_46 _) rfl ((by rw [upm_off _ _ (by decide)]; exact h5)) ?_
            refine G_iconst d_X6_add_81 ?_
            refine G_isub d_X6_add_82 ?_
            refine G_putII fl_X6_28 d_X6_add_83 (wk_46 _) rfl ?_
            refine G_iinc d_X6_add_86 rfl (by decide) rfl ?_
            refine G_goto 2 d_X6_add_89 (by decide) ?_
            exact K _ (by first | rfl | (rw [upm_off _ _ (by decide)])) (fun j hj => by rw [upm_ne _ _ (fun _ => hj), upm_off _ _ (by decide)]) (fun a h6 h9 => by rw [upm_off _ _ h6, upm_off _ _ h9]) (by rw [upm_same, if_neg c58, if_pos c73] <;> omega) _ _ _ (by show (1 : Nat) ≠ 2; decide) (by show (1 : Nat) ≠ 2; decide)
        · refine G_aload_n d_X6_add_61 rfl ?_
          refine G_dup d_X6_add_62 rfl ?_
          refine G_getIe (v := ((cntB (fun a => (fun a => Bf T L a + t * btL T r a ((shL.getD T []).take (i))) a != 0) T : Nat) : Int)) (fl_X6_28.r) d_X6_add_63 (wk_46 _) rfl ((by rw [upm_off _ _ (by decide)]; exact h5)) ?_
          refine G_iconst d_X6_add_66 ?_
          refine G_iadd d_X6_add_67 ?_
          refine G_putII fl_X6_28 d_X6_add_68 (wk_46 _) rfl ?_
          refine G_iload d_X6_add_71 rfl ?_
          refine G_if_ne 86 d_X6_add_73 (by decide) (by omega) (fun c73 => ?_) (fun c73 => ?_)
          · refine G_iinc d_X6_add_86 rfl (by decide) rfl ?_
            refine G_goto 2 d_X6_add_89 (by decide) ?_
            exact K _ (by first | rfl | (rw [upm_off _ _ (by decide)])) (fun j hj => by rw [upm_ne _ _ (fun _ => hj), upm_off _ _ (by decide)]) (fun a h6 h9 => by rw [upm_off _ _ h6, upm_off _ _ h9]) (by rw [upm_same, if_pos c58, if_neg c73] <;> omega) _ _ _ (by show (1 : Nat) ≠ 2; decide) (by show (1 : Nat) ≠ 2; decide)
          · refine G_aload_n d_X6_add_76 rfl ?_
            refine G_dup d_X6_add_77 rfl ?_
            refine G_getIe (v := (((cntB (fun a => (fun a => Bf T L a + t * btL T r a ((shL.getD T []).take (i))) a != 0) T : Nat) : Int) + 1)) (fl_X6_28.r) d_X6_add_78 (wk_46 _) rfl ((upm_same _ _ _ _)) ?_
            refine G_iconst d_X6_add_81 ?_
            refine G_isub d_X6_add_82 ?_
            refine G_putII fl_X6_28 d_X6_add_83 (wk_46 _) rfl ?_
            refine G_iinc d_X6_add_86 rfl (by decide) rfl ?_
            refine G_goto 2 d_X6_add_89 (by decide) ?_
            exact K _ (by first | rfl | (rw [upm_off _ _ (by decide), upm_off _ _ (by decide)])) (fun j hj => by rw [upm_ne _ _ (fun _ => hj), upm_ne _ _ (fun _ => hj), upm_off _ _ (by decide)]) (fun a h6 h9 => by rw [upm_off _ _ h6, upm_off _ _ h6, upm_off _ _ h9]) (by rw [upm_same, if_pos c58, if_pos c73] <;> omega) _ _ _ (by show (1 : Nat) ≠ 2; decide) (by show (1 : Nat) ≠ 2; decide)
    · have hie : i = (shL.getD T []).length := by omega
      subst hie
      have hF : ∀ m2, (∀ a, a ≠ 46 → m2 a = m1 a) → (∀ j, j ≠ 6 → j ≠ 7 → m2 46 j = m1 46 j) → FX T (addL L r t) m2 → (none : Option PV) = none ∧ ∃ m3, (WC ++ w, m2) = (WC ++ w, m3) ∧ SM T (addL L r t) (N + t.toNat) m3 ∧ (∀ a, a ≠ 46 → a ≠ 49 → m3 a = m a) := by
        intro m2 k1 k2 k3
        have hB2 : ∀ a, Bf T (addL L r t) a = (fun a => Bf T L a + t * btL T r a ((shL.getD T []).take ((shL.getD T []).length))) a := fun a => by
          rw [Bf_add L t hr a]
          show _ = Bf T L a + t * btL T r a ((shL.getD T []).take (shL.getD T []).length)
          rw [List.take_length]
          rfl
        refine ⟨rfl, m2, rfl, ⟨h1.keep (k2 0 (by decide) (by decide)) (k2 1 (by decide) (by decide)) (k1 47 (by decide)) (k1 48 (by decide)), fun a ha => by rw [k1 49 (by decide), hB2 a]; exact h49 a ha, fun a ha => ?_, ?_, k3⟩, fun a h6 h9 => (k1 a h6).trans (hfr a h6 h9)⟩
        · have h9 := hB.2.2.1 a ha
          have h8 := absb (x := btL T r a ((shL.getD T []).take (shL.getD T []).length)) (y := t) (A := 8) (B := t) (hbt a) (by omega)
          rw [hB2 a]
          show -(8 * ((N + t.toNat : Nat) : Int)) ≤ Bf T L a + t * btL T r a ((shL.getD T []).take (shL.getD T []).length) ∧ Bf T L a + t * btL T r a ((shL.getD T []).take (shL.getD T []).length) ≤ 8 * ((N + t.toNat : Nat) : Int)
          rw [Int.mul_comm t]
          omega
        · rw [k2 5 (by decide) (by decide), h5]
          exact congrArg Int.ofNat (cntB_congr (fun a _ => by rw [hB2 a]))
      have hFX := hB.2.2.2.2
      have hL1 : ∀ x, 0 ≤ addL L r t x := fun x => by
        have := hFX.1 x
        unfold addL
        by_cases e : x = r
        · rw [if_pos e]; omega
        · rw [if_neg e]; omega
      have hLr : addL L r t r = L r + t := if_pos rfl
      have hLo : ∀ x, x ≠ r → addL L r t x = L x := fun x h => if_neg h
      have hLr0 := hFX.1 r
      have hf46 : -1 ≤ m1 46 6 ∧ m1 46 6 ≤ 48 := by
        rw [h6]
        rcases hFX.2 with h | ⟨r0, h2, h3, -⟩
        · omega
        · omega
      refine G_iload_n d_X6_add_2 rfl ?_
      refine G_aload_n d_X6_add_3 rfl ?_
      refine G_getIe (fl_X6_15.r) d_X6_add_4 (wk_46 _) rfl (h1.2.1) ?_
      refine G_icmp_ge 92 d_X6_add_7 (by decide) (by omega) (by omega) (fun c7 => ?_) (fun c7 => ?_)
      · refine G_aload_n d_X6_add_92 rfl ?_
        refine G_getI (fl_X6_31.r) d_X6_add_93 (wk_46 _) rfl ?_
        refine G_iconst d_X6_add_96 ?_
        refine G_icmp_ne 108 d_X6_add_97 (by decide) (by omega) (by omega) (fun c97 => ?_) (fun c97 => ?_)
        · refine G_aload_n d_X6_add_108 rfl ?_
          refine G_getI (fl_X6_31.r) d_X6_add_109 (wk_46 _) rfl ?_
          refine G_iload_n d_X6_add_112 rfl ?_
          refine G_icmp_eq 121 d_X6_add_113 (by decide) (by omega) (by omega) (fun c113 => ?_) (fun c113 => ?_)
          · refine G_vret (mc := 0) (ms := 0) (st := []) d_X6_add_121 rfl ?_
            refine hF m1 (fun _ _ => rfl) (fun _ _ _ => rfl) ⟨hL1, ?_⟩
            rcases hFX.2 with h | ⟨r0, h2, h3, h4, h8⟩
            · omega
            · obtain rfl : r0 = r := by omega
              refine Or.inr ⟨r0, h2, by omega, by omega, ?_⟩
              rw [h7]
              rcases h8 with ⟨a1, a2⟩ | ⟨a1, x, a2, a3, a4⟩
              · exact Or.inl ⟨a1, fun x hx hxr => by rw [hLo x hxr]; exact a2 x hx hxr⟩
              · exact Or.inr ⟨a1, x, a2, a3, by rw [hLo x a3]; exact a4⟩
          · refine G_aload_n d_X6_add_116 rfl ?_
            refine G_iconst d_X6_add_117 ?_
            refine G_putZ fl_X6_34 d_X6_add_118 (wk_46 _) rfl (by omega) ?_
            refine G_vret (mc := 0) (ms := 0) (st := []) d_X6_add_121 rfl ?_
            refine hF _ (fun a h => upm_off _ _ h) (fun j h6 h7 => upm_ne _ _ (fun _ => h7)) ⟨hL1, ?_⟩
            rcases hFX.2 with h | ⟨r0, h2, h3, h4, h8⟩
            · omega
            · have hne : r0 ≠ r := fun e => by omega
              exact Or.inr ⟨r0, h2, by rw [upm_ne _ _ (fun _ => by decide)]; omega, by rw [hLo r0 hne]; exact h4, Or.inr ⟨upm_same _ _ _ _, r, hr, fun e => hne e.symm, by omega⟩⟩
        · refine G_aload_n d_X6_add_100 rfl ?_
          refine G_iload_n d_X6_add_101 rfl ?_
          refine G_putII fl_X6_31 d_X6_add_102 (wk_46 _) rfl ?_
          refine G_goto 121 d_X6_add_105 (by decide) ?_
          refine G_vret (mc := 0) (ms := 0) (st := []) d_X6_add_121 rfl ?_
          refine hF _ (fun a h => upm_off _ _ h) (fun j h6 h7 => upm_ne _ _ (fun _ => h6)) ⟨hL1, Or.inr ⟨r, hr, upm_same _ _ _ _, by omega, Or.inl ⟨?_, fun x hx hxr => ?_⟩⟩⟩
          · rw [upm_ne _ _ (fun _ => by decide), h7]
            rcases hFX.2 with h | ⟨r0, h2, h3, -⟩
            · exact h.2.1
            · omega
          · rw [hLo x hxr]
            rcases hFX.2 with h | ⟨r0, h2, h3, -⟩
            · exact h.2.2 x hx
            · omega
      · omega
  refine G_iconst d_X6_add_0 ?_
  refine G_istore_n d_X6_add_1 (by decide) rfl ?_
  exact L9 0 (by omega) m hB.1 (fun a ha => by show _ = Bf T L a + t * btL T r a []; rw [show btL T r a [] = 0 from rfl, Int.mul_zero, Int.add_zero]; exact hB.2.1 a ha) (by
    rw [hB.2.2.2.1]
    exact congrArg Int.ofNat (cntB_congr (fun a _ => by show _ = (Bf T L a + t * btL T r a [] != 0); rw [show btL T r a [] = 0 from rfl, Int.mul_zero, Int.add_zero]))) rfl rfl (fun _ _ _ => rfl) uV uV uV (by decide) (by decide)
theorem cnt_0 {f : Nat → Int} : ∀ {n : Nat}, cntB (fun a => f a != 0) n = 0 ↔ allN (fun a => f a == 0) n = true
  | 0 => ⟨fun _ => rfl, fun _ => rfl⟩
  | n + 1 => by
    have ih := cnt_0 (f := f) (n := n)
    show cntB _ n + _ = 0 ↔ (allN _ n && (f n == 0)) = true
    rw [Bool.and_eq_true_iff, ← ih]
    by_cases h : f n = 0
    · simp [h]
    · simp [h]
theorem SM_stB {T N : Nat} {L : Nat → Int} {m : Nat → Nat → Int} (h : SM T L N m) : stB T L = if m 46 5 = 0 then 0 else if m 46 7 = 0 then 2 else 1 := by
  obtain ⟨-, -, -, h5, -, hx⟩ := h
  unfold stB
  by_cases c : allN (fun a => Bf T L a == 0) T = true
  · rw [if_pos c, if_pos]
    rw [h5, cnt_0.mpr c]
    rfl
  · have h50 : ¬ m 46 5 = 0 := fun e => c (cnt_0.mp (show cntB (fun a => Bf T L a != 0) T = 0 by omega))
    rw [if_neg c, if_neg h50]
    rcases hx with ⟨-, -, h0⟩ | ⟨r0, a1, a2, a3, h0⟩
    · exfalso
      refine c (allN_true (fun a _ => ?_))
      have : Bf T L a = 0 := sumN_zero (fun i hi => by rw [h0 i hi, Int.zero_mul])
      simp [this]
    · rcases h0 with ⟨b1, b2⟩ | ⟨b1, x, b2, b3, b4⟩
      · have e : ∀ n, (n ≤ r0 → n ≤ T → cntB (fun r => decide (L r > 0)) n = 0) ∧ (r0 < n → n ≤ T → cntB (fun r => decide (L r > 0)) n = 1) := by
          intro n
          induction n with
          | zero => exact ⟨fun _ _ => rfl, fun h => absurd h (by omega)⟩
          | succ n ih =>
            refine ⟨fun h h2 => ?_, fun h h2 => ?_⟩
            · rw [cntB_f (by simp [b2 n (by omega) (by omega)])]; exact ih.1 (by omega) (by omega)
            · by_cases e : n = r0
              · subst e; rw [cntB_t (by simpa using a3), ih.1 (Nat.le_refl _) (by omega)]
              · rw [cntB_f (by simp [b2 n (by omega) e])]; exact ih.2 (by omega) (by omega)
        have hc1 := (e T).2 a1 (Nat.le_refl _)
        rw [if_pos hc1, if_pos b1]
      · have two : ∀ p q, p < q → q < T → 0 < L p → 0 < L q → 2 ≤ cntB (fun r => decide (L r > 0)) T := fun p q h1 h2 h3 h4 => by
          have k1 := cntB_mono (fun r => decide (L r > 0)) (show p + 1 ≤ q by omega)
          have k2 := cntB_mono (fun r => decide (L r > 0)) (show q + 1 ≤ T by omega)
          rw [cntB_t (by simpa using h3)] at k1
          rw [cntB_t (by simpa using h4)] at k2
          omega
        have := (show 2 ≤ cntB (fun r => decide (L r > 0)) T by
          by_cases c2 : r0 < x
          · exact two r0 x c2 b2 a3 b4
          · exact two x r0 (by omega) a1 b4 a3)
        have hc1 : ¬ cntB (fun r => decide (L r > 0)) T = 1 := by omega
        rw [if_neg hc1, if_neg (show ¬ m 46 7 = 0 by omega)]
theorem SM_f {T N : Nat} {L : Nat → Int} {m : Nat → Nat → Int} (h : SM T L N m) : 0 ≤ m 46 7 ∧ m 46 7 ≤ 1 := by
  rcases h.2.2.2.2.2 with ⟨-, h0, -⟩ | ⟨r0, -, -, -, h0⟩
  · omega
  · rcases h0 with h0 | h0 <;> omega
theorem sp_sstate {w : List KD} {m : Nat → Nat → Int} (T N : Nat) (L : Nat → Int) (hT2 : T ≤ 48) (hB : SM T L N m) : Sp M_X6_state 0 0 0 [rV 46] (WC ++ w, m) (fun r h => r = some (iV (stB T L)) ∧ h = (WC ++ w, m)) := by
  refine Sp.ofG (ls := [rV 46]) (by decide +kernel) rfl (Nat.le_of_ble_eq_true rfl) ?_
  have hf := SM_f hB
  have hcl := cntB_le (fun a => Bf T L a != 0) T
  have h5 := hB.2.2.2.1
  refine G_aload_n d_X6_state_0 rfl ?_
  refine G_getIe (fl_X6_28.r) d_X6_state_1 (wk_46 _) rfl (show _ = m 46 5 from rfl) ?_
  refine G_if_ne 9 d_X6_state_4 (by decide) (by omega) (fun c4 => ?_) (fun c4 => ?_)
  · refine G_aload_n d_X6_state_9 rfl ?_
    refine G_getIe (fl_X6_34.r) d_X6_state_10 (wk_46 _) rfl (show _ = m 46 7 from rfl) ?_
    refine G_if_eq 20 d_X6_state_13 (by decide) (by omega) (fun c13 => ?_) (fun c13 => ?_)
    · refine G_iconst d_X6_state_20 ?_
      refine G_iret (mc := 0) (ms := 0) (st := []) d_X6_state_21 rfl ?_
      exact ⟨by rw [SM_stB hB, if_neg c4, if_pos c13], rfl⟩
    · refine G_iconst d_X6_state_16 ?_
      refine G_goto 21 d_X6_state_17 (by decide) ?_
      refine G_iret (mc := 0) (ms := 0) (st := []) d_X6_state_21 rfl ?_
      exact ⟨by rw [SM_stB hB, if_neg c4, if_neg c13], rfl⟩
  · refine G_iconst d_X6_state_7 ?_
    refine G_iret (mc := 0) (ms := 0) (st := []) d_X6_state_8 rfl ?_
    exact ⟨by rw [SM_stB hB, if_pos c4], rfl⟩
def pre0 (c : Nat → Int) (n : Nat) : Nat → Int := fun x => if x < n then c x else 0
theorem pre0_t {c : Nat → Int} {n : Nat} : addL (pre0 c n) n (c n) = pre0 c (n + 1) := by
  funext x
  unfold addL pre0
  by_cases e : x = n
  · subst e
    rw [if_pos rfl, if_neg (by omega), if_pos (by omega)]
    omega
  · rw [if_neg e]
    by_cases d : x < n
    · rw [if_pos d, if_pos (by omega)]
    · rw [if_neg d, if_neg (by omega)]
theorem pre0_f {c : Nat → Int} {n : Nat} (h : c n = 0) : pre0 c n = pre0 c (n + 1) := by
  funext x
  unfold pre0
  by_cases e : x = n
  · subst e
    rw [if_neg (by omega), if_pos (by omega), h]
  · by_cases d : x < n
    · rw [if_pos d, if_pos (by omega)]
    · rw [if_neg d, if_neg (by omega)]
theorem pre0_0 (c : Nat → Int) : (fun _ => 0) = pre0 c 0 := by
  funext x
  exact (if_neg (by omega)).symm
theorem stB_congr {T : Nat} {c d : Nat → Int} (h : ∀ r, r < T → c r = d r) : stB T c = stB T d := by
  unfold stB
  rw [show (fun a => Bf T c a == 0) = (fun a => Bf T d a == 0) from funext (fun a => by
    have : Bf T c a = Bf T d a := sumN_congr (fun i hi => by rw [h i hi])
    rw [this]), cntB_congr (g := fun r => decide (d r > 0)) (fun i hi => by rw [h i hi])]
theorem sp_stateOf {w : List KD} {m : Nat → Nat → Int} (T : Nat) (c : Nat → Int) (hT1 : 2 ≤ T) (hT2 : T ≤ 48) (hU : US m) (hc : ∀ r, r < T → m 45 r = c r ∧ 0 ≤ c r ∧ c r ≤ 512) : Sp M_X6_stateOf 2 0 0 [rV 46, rV 45, iV (T : Int)] (WC ++ w, m) (fun r h => r = some (iV (stB T c)) ∧ ∃ m2, h = (WC ++ w, m2) ∧ US m2 ∧ FQ m m2) := by
  refine Sp.ofG (ls := [rV 46, rV 45, iV (T : Int), uV]) (by decide +kernel) rfl (Nat.le_of_ble_eq_true rfl) ?_
  have L : ∀ n : Nat, n ≤ T → ∀ m1, SM T (pre0 c n) (512 * n) m1 → FQ m m1 → G M_X6_stateOf 2 0 0 7 [rV 46, rV 45, iV (T : Int), iV (n : Int)] [] (WC ++ w, m1) (fun r h => r = some (iV (stB T c)) ∧ ∃ m2, h = (WC ++ w, m2) ∧ US m2 ∧ FQ m m2) := by
    refine loop_up (T) _ ?_
    intro n hn ih m1 h1 hF1
    refine G_iload_n d_X6_stateOf_7 rfl ?_
    refine G_iload_n d_X6_stateOf_8 rfl ?_
    refine G_icmp_ge 32 d_X6_stateOf_9 (by decide) (by omega) (by omega) (fun c9 => ?_) (fun c9 => ?_)
    · refine G_aload_n d_X6_stateOf_32 rfl ?_
      have hne : n = T := by omega
      subst hne
      refine G_callV0 cl_X6_55 rfl d_X6_stateOf_33 (wk_46 _) (Nat.le_of_ble_eq_true rfl) (by decide) (sp_sstate n (512 * n) (pre0 c n) hT2 h1) ?_
      rintro _ _ ⟨rfl, rfl⟩
      refine G_iret (mc := 0) (ms := 0) (st := []) d_X6_stateOf_36 rfl ?_
      have e1 : stB n (pre0 c n) = stB n c := stB_congr (fun r hr => if_pos hr)
      exact ⟨by rw [e1], m1, rfl, h1.us hT1 hT2, hF1⟩
    · refine G_aload_n d_X6_stateOf_12 rfl ?_
      refine G_iload_n d_X6_stateOf_13 rfl ?_
      refine G_ialdj (n) d_X6_stateOf_14 (wk_45 _) (by omega) (by omega) (by decide) ?_
      rw [hF1 45 (by decide) (by decide) (by decide) (by decide)]
      have hcn := hc n (by omega)
      rw [hcn.1]
      refine G_if_le 26 d_X6_stateOf_15 (by decide) (by omega) (fun c15 => ?_) (fun c15 => ?_)
      · refine G_iinc d_X6_stateOf_26 rfl (by decide) rfl ?_
        refine G_goto 7 d_X6_stateOf_29 (by decide) ?_
        exact ih (by omega) m1 ((h1.congr (pre0_f (by omega))).mono (by omega)) hF1
      · refine G_aload_n d_X6_stateOf_18 rfl ?_
        refine G_iload_n d_X6_stateOf_19 rfl ?_
        refine G_aload_n d_X6_stateOf_20 rfl ?_
        refine G_iload_n d_X6_stateOf_21 rfl ?_
        refine G_ialdj (n) d_X6_stateOf_22 (wk_45 _) (by omega) (by omega) (by decide) ?_
        rw [hF1 45 (by decide) (by decide) (by decide) (by decide), hcn.1]
        refine G_callV2 cl_X6_51 rfl d_X6_stateOf_23 (wk_46 _) (Nat.le_of_ble_eq_true rfl) (by decide) (sp_sadd T n (512 * n) (c n) (pre0 c n) hT1 hT2 (by omega) (by omega) (by omega) h1) ?_
        rintro _ _ ⟨rfl, m2, rfl, h2, hf2⟩
        refine G_iinc d_X6_stateOf_26 rfl (by decide) rfl ?_
        refine G_goto 7 d_X6_stateOf_29 (by decide) ?_
        exact ih (by omega) m2 ((h2.congr pre0_t).mono (by omega)) (hF1.trans (fun a h6 h7 h8 h9 => hf2 a h6 h9))
  refine G_aload_n d_X6_stateOf_0 rfl ?_
  refine G_iload_n d_X6_stateOf_1 rfl ?_
  refine G_callV1 cl_X6_48 rfl d_X6_stateOf_2 (wk_46 _) (Nat.le_of_ble_eq_true rfl) (by decide) (sp_sbegin T hT1 hT2 hU) ?_
  rintro _ _ ⟨rfl, m1, rfl, h1, hF1⟩
  refine G_iconst d_X6_stateOf_5 ?_
  refine G_istore_n d_X6_stateOf_6 (by decide) rfl ?_
  exact L 0 (by omega) m1 ((h1.congr (pre0_0 c)).mono (by omega)) hF1
