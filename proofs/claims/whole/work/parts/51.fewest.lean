/-! the search for the fewest steps -/
def limF (a : Int × (Nat → Nat)) : Int := if a.1 = -1 then 2147483647 else a.1
def FA (s : Nat → Int) (a : Int × (Nat → Nat)) (m : Nat → Nat → Int) : Prop := (-1 ≤ a.1 ∧ a.1 ≤ 248832) ∧ (a.1 = -1 ∨ 1 ≤ a.1) ∧ m 57 1 = a.1 ∧ m 57 4 = limF a ∧ (a.1 ≠ -1 → ∀ k, k < pN s → m 58 k = (a.2 k : Int))
theorem limF_rng {s : Nat → Int} {a : Int × (Nat → Nat)} {m : Nat → Nat → Int} (h : FA s a m) : 1 ≤ limF a ∧ limF a ≤ 2147483647 := by
  have h1 := h.1
  have h2 := h.2.1
  unfold limF
  by_cases c : a.1 = -1
  · rw [if_pos c]; decide
  · rw [if_neg c]; omega
/-- what the searches ask -/
def WS (s : Nat → Int) (m : Nat → Nat → Int) : Prop := CB s m ∧ m 52 2 = (pN s : Int) ∧ CH s m ∧ (∀ k, k < pN s → m 54 k = (cmF s k (pC s) : Nat)) ∧ ∀ p, p < pC s → m 56 p = lsF9 s p (pN s)
theorem WS.keep {s : Nat → Int} {m m2 : Nat → Nat → Int} (h : WS s m) (hN : pN s ≤ 5) (k : ∀ a, a ≠ 51 → a ≠ 55 → (a < 57 ∨ 63 < a) → m2 a = m a) : WS s m2 := by
  obtain ⟨h1, h2, h3, h4, h5⟩ := h
  refine ⟨h1.far hN (fun a ha => k a (by omega) (by omega) (by omega)), ?_, fun i hi => ?_, fun i hi => ?_, fun i hi => ?_⟩
  · rw [k 52 (by decide) (by decide) (by decide)]; exact h2
  · rw [k 53 (by decide) (by decide) (by decide)]; exact h3 i hi
  · rw [k 54 (by decide) (by decide) (by decide)]; exact h4 i hi
  · rw [k 56 (by decide) (by decide) (by decide)]; exact h5 i hi
def prE (N : Nat → Nat) (k : Nat) : Int := prodN (fun i => (N i : Int)) k
theorem prE_up (N : Nat → Nat) (k d : Nat) : prE (upN N k d) (k + 1) = prE N k * (d : Int) := by
  show prodN _ k * ((upN N k d k : Nat) : Int) = _
  rw [show upN N k d k = d from if_pos rfl]
  congr 1
  refine prodN_congr (fun i hi => ?_)
  rw [show upN N k d i = N i from if_neg (by omega)]
theorem prE_rng {N : Nat → Nat} : ∀ {k : Nat}, k ≤ 5 → (∀ i, i < k → 1 ≤ N i ∧ N i ≤ 12) → 1 ≤ prE N k ∧ prE N k ≤ 12 ^ k
  | 0, _, _ => ⟨Int.le_refl 1, Int.le_refl 1⟩
  | k + 1, hk, h => by
    have h1 := prE_rng (k := k) (by omega) (fun i hi => h i (by omega))
    have h2 := h k (by omega)
    have e : prE N (k + 1) = prE N k * (N k : Int) := rfl
    rw [e, Int.pow_succ]
    constructor
    · have := Int.mul_le_mul h1.1 (show (1 : Int) ≤ (N k : Int) by omega) (by decide) (by omega)
      simpa using this
    · exact Int.mul_le_mul h1.2 (by omega) (by omega) (by omega)
theorem prE_le {N : Nat → Nat} {k : Nat} (hk : k ≤ 5) (h : ∀ i, i < k → 1 ≤ N i ∧ N i ≤ 12) : 1 ≤ prE N k ∧ prE N k ≤ 248832 := by
  have h1 := prE_rng hk h
  have h5 : (12 : Int) ^ k ≤ 248832 := by
    rcases (show k = 0 ∨ k = 1 ∨ k = 2 ∨ k = 3 ∨ k = 4 ∨ k = 5 by omega) with e | e | e | e | e | e <;> rw [e] <;> decide
  omega
def PB (s : Nat → Int) (N : Nat → Nat) (k left : Nat) (o : Nat → Nat) : Prop := (∀ j, j < k → (1 ≤ N j ∧ N j ≤ 12) ∧ pT s % N j = 0 ∧ N j ∣ cmF s j (pC s)) ∧ left ≤ nOt s ∧ (∀ i, i < nOt s → (i < left ↔ preB s N k (o i) = true)) ∧ (k = pN s → left = 0)
def DL (T d : Nat) : List Nat := (List.range d).filter (fun v => decide (1 ≤ v) && T % v == 0)
theorem DL_t {T d : Nat} (h : 1 ≤ d) (h2 : T % d = 0) : DL T (d + 1) = DL T d ++ [d] := by
  unfold DL
  rw [List.range_succ, List.filter_append]
  simp [h, h2]
theorem DL_f {T d : Nat} (h : ¬ (1 ≤ d ∧ T % d = 0)) : DL T (d + 1) = DL T d := by
  unfold DL
  rw [List.range_succ, List.filter_append]
  by_cases c : 1 ≤ d
  · have : ¬ T % d = 0 := fun e => h ⟨c, e⟩
    simp [this]
  · simp [c]
/-- one more number of steps for pulse k -/
def fkS (s : Nat → Int) (k j : Nat) (N : Nat → Nat) (a : Int × (Nat → Nat)) (d : Nat) : Int × (Nat → Nat) := run (pN s) (D1 (pT s)) (stepF s) j (upN N k d) a
theorem run_fk {s : Nat → Int} {k j : Nat} (h : j + 1 + k = pN s) (N : Nat → Nat) (a : Int × (Nat → Nat)) : run (pN s) (D1 (pT s)) (stepF s) (j + 1) N a = (DL (pT s) 13).foldl (fkS s k j N) a := by
  show (D1 (pT s)).foldl (fun a d => run (pN s) (D1 (pT s)) (stepF s) j (upN N (pN s - (j + 1)) d) a) a = _
  rw [show pN s - (j + 1) = k by omega]
  rfl
theorem fk_nop {s : Nat → Int} {k j d : Nat} (h : j + 1 + k = pN s) (N : Nat → Nat) (a : Int × (Nat → Nat)) (hs : ∀ N', (∀ i, i < k → N' i = N i) → N' k = d → (∀ i, k < i → i < pN s → N' i ∈ D1 (pT s)) → stepF s a N' = a) : fkS s k j N a d = a := by
  refine run_pre (pN s) (D1 (pT s)) (stepF s) a j (upN N k d) (by omega) (fun N' h1 h2 => hs N' (fun i hi => ?_) ?_ (fun i hi hi2 => h2 i (by omega) hi2))
  · rw [h1 i (by omega)]; exact if_neg (by omega)
  · rw [h1 k (by omega)]; exact if_pos rfl
theorem step_no {s : Nat → Int} {a : Int × (Nat → Nat)} {N : Nat → Nat} (h : okL s (lft s N) = false) : stepF s a N = a := by
  unfold stepF
  rw [if_neg (fun e => by rw [h] at e; exact absurd e.2 (by decide))]
theorem fk_common {s : Nat → Int} {k j d : Nat} (h : j + 1 + k = pN s) (N : Nat → Nat) (a : Int × (Nat → Nat)) (hd : ¬ d ∣ cmF s k (pC s)) : fkS s k j N a d = a := by
  have hex : ∃ p, p < pC s ∧ pMk s p = 1 ∧ ¬ d ∣ (gapD s p k).natAbs := by
    refine Classical.byContradiction (fun hn => hd ((cm_dvd (pC s)).mpr (fun p hp hm => Classical.byContradiction (fun hg => hn ⟨p, hp, hm, hg⟩))))
  obtain ⟨p, hp, hm, hg⟩ := hex
  refine fk_nop h N a (fun N' _ h2 _ => step_no (okL_no hp (Or.inr ⟨hm, ?_⟩)))
  refine allN_false k (by omega) ?_
  rw [h2]
  simpa using fun e => hg (emod0.mp e)
theorem fk_last {s : Nat → Int} {k j d p : Nat} (h : j + 1 + k = pN s) (N : Nat → Nat) (a : Int × (Nat → Nat)) (hp : p < pC s) (ho : pOther s p = true) (hpre : preB s N k p = true) (hg : gapD s p k % (d : Int) = 0) (hl : lsF9 s p (pN s) ≤ (k : Int)) : fkS s k j N a d = a := by
  refine fk_nop h N a (fun N' h1 h2 h3 => step_no (okL_no hp (Or.inl ⟨ho, ?_⟩)))
  refine allN_true (fun i hi => ?_)
  by_cases c : i < k
  · rw [h1 i c]
    exact allN_of hpre i c
  · by_cases e : i = k
    · rw [e, h2]; simpa using hg
    · rw [lsF9_after (pN s) i hi (by omega)]
      simp
theorem fk_big {s : Nat → Int} (hV : VS s) {k j d : Nat} (h : j + 1 + k = pN s) {N : Nat → Nat} {a : Int × (Nat → Nat)} (hN : ∀ i, i < k → 1 ≤ N i ∧ N i ≤ 12) (hd : 1 ≤ d ∧ d ≤ 12) (h1 : a.1 ≠ -1) (hb : a.1 ≤ prE N k * (d : Int)) : fkS s k j N a d = a := by
  have hNn := hV.N
  refine fk_nop h N a (fun N' h2 h3 h4 => ?_)
  have hall : ∀ i, i < pN s → 1 ≤ N' i ∧ N' i ≤ 12 := fun i hi => by
    by_cases c : i < k
    · rw [h2 i c]; exact hN i c
    · by_cases e : i = k
      · rw [e, h3]; exact hd
      · have := D1_mem (h4 i (by omega) hi); omega
  have hm := (prodN_mono (fun i hi => (hall i hi).1) (k + 1) (by omega)).2 (pN s - (k + 1)) (by omega)
  rw [show k + 1 + (pN s - (k + 1)) = pN s by omega] at hm
  have e : prodN (fun i => (N' i : Int)) (k + 1) = prE N k * (d : Int) := by
    show prodN _ k * ((N' k : Nat) : Int) = _
    rw [h3]
    congr 1
    exact prodN_congr (fun i hi => by rw [h2 i hi])
  unfold stepF
  rw [if_neg]
  rintro ⟨c, -⟩
  rcases c with c | c
  · exact h1 c
  · have : prN s N' = prodN (fun i => (N' i : Int)) (pN s) := rfl
    omega
theorem DL_rest {s : Nat → Int} (hV : VS s) {k j d : Nat} (h : j + 1 + k = pN s) {N : Nat → Nat} {a : Int × (Nat → Nat)} (hN : ∀ i, i < k → 1 ≤ N i ∧ N i ≤ 12) (hd : 1 ≤ d) (h1 : ((DL (pT s) d).foldl (fkS s k j N) a).1 ≠ -1) (hb : ((DL (pT s) d).foldl (fkS s k j N) a).1 ≤ prE N k * (d : Int)) : ∀ e, d + e ≤ 13 → (DL (pT s) (d + e)).foldl (fkS s k j N) a = (DL (pT s) d).foldl (fkS s k j N) a
  | 0, _ => rfl
  | e + 1, he => by
    have ih := DL_rest hV h hN hd h1 hb e (by omega)
    rw [← Nat.add_assoc]
    by_cases c : 1 ≤ d + e ∧ pT s % (d + e) = 0
    · have hNn := hV.N
      have hp := (prE_le (N := N) (k := k) (by omega) hN).1
      rw [DL_t c.1 c.2, List.foldl_append, ih, List.foldl_cons, List.foldl_nil]
      refine fk_big hV h hN (by omega) h1 ?_
      have h9 := Int.mul_le_mul_of_nonneg_left (show (d : Int) ≤ ((d + e : Nat) : Int) by omega) (show 0 ≤ prE N k by omega)
      omega
    · rw [DL_f c, ih]
theorem sp_keepLeft2 {w : List KD} {m : Nat → Nat → Int} (s : Nat → Int) (hV : VS s) (hS : WS s m) (o : Nat → Nat) (k d f : Nat) (hk : k < pN s) (hd : 1 ≤ d ∧ d ≤ 12) (hf : f ≤ nOt s) (hO : OT s o) (hM : OM s o m) : Sp M_X8_keepLeft 2 0 0 [rV 52, rV 25, iV (k : Int), iV (d : Int), iV (f : Int)] (WC ++ w, m) (fun r h => ∃ v : Int, r = some (iV v) ∧ ∃ o2 m2, h = (WC ++ w, m2) ∧ OT s o2 ∧ OM s o2 m2 ∧ (∀ a, a ≠ 55 → m2 a = m a) ∧ (∀ j, f ≤ j → o2 j = o j) ∧ (∀ A : Nat → Prop, (∀ j, j < f → A (o j)) → ∀ j, j < f → A (o2 j)) ∧ (-1 ≤ v ∧ v ≤ 2401) ∧ (v = -1 → ∃ i, i < f ∧ gapD s (o i) k % (d : Int) = 0 ∧ lsF9 s (o i) (pN s) ≤ (k : Int)) ∧ (v ≠ -1 → ∃ left : Nat, v = (left : Int) ∧ left ≤ f ∧ (∀ j, j < left → gapD s (o2 j) k % (d : Int) = 0 ∧ (k : Int) < lsF9 s (o2 j) (pN s)) ∧ ∀ j, left ≤ j → j < f → gapD s (o2 j) k % (d : Int) ≠ 0)) := by
  have hol := otl_le s (pC s)
  have hC := pC_le hV
  have hno : nOt s = (otl s (pC s)).length := rfl
  refine (sp_keepLeft s hV hS.1 hS.2.2.1 hS.2.2.2.2 o k d f hk hd hf hO hM).post ?_
  rintro r h' ⟨o2, m2, rfl, h1, h2, h3, h4, h5, h6⟩
  rcases h6 with ⟨rfl, h6⟩ | ⟨left, rfl, h6, h7⟩
  · exact ⟨-1, rfl, o2, m2, rfl, h1, h2, h3, h4, h5, ⟨by decide, by decide⟩, fun _ => h6, fun h => absurd rfl h⟩
  · exact ⟨left, rfl, o2, m2, rfl, h1, h2, h3, h4, h5, ⟨by omega, by omega⟩, fun h => absurd h (by omega), fun _ => ⟨left, rfl, h6, h7⟩⟩
theorem sp_pick {w : List KD} (s : Nat → Int) (hV : VS s) : ∀ (j k left : Nat) (N : Nat → Nat) (acc : Int × (Nat → Nat)) (o : Nat → Nat) (m : Nat → Nat → Int), j + k = pN s → WS s m → OT s o → OM s o m → FA s acc m → (∀ i, i < k → m 59 i = (N i : Int)) → PB s N k left o → prE N k < limF acc → Sp M_X2_pick (3 + j) 0 0 [rV 57, rV 52, rV 25, iV (pT s : Int), iV (k : Int), iV (left : Int), iV (prE N k)] (WC ++ w, m) (fun r h => r = none ∧ ∃ o2 m2, h = (WC ++ w, m2) ∧ OT s o2 ∧ OM s o2 m2 ∧ (∀ A : Nat → Prop, (∀ i, i < left → A (o i)) → ∀ i, i < left → A (o2 i)) ∧ (∀ i, left ≤ i → o2 i = o i) ∧ FA s (run (pN s) (D1 (pT s)) (stepF s) j N acc) m2 ∧ (∀ i, i < k → m2 59 i = (N i : Int)) ∧ (∀ a, a ≠ 55 → a ≠ 57 → a ≠ 58 → a ≠ 59 → m2 a = m a) ∧ (∀ j, j ≠ 1 → j ≠ 4 → m2 57 j = m 57 j)) := by
  have hC := pC_le hV
  have hN := hV.N
  have hT := hV.T
  have hol := otl_le s (pC s)
  have hno : nOt s = (otl s (pC s)).length := rfl
  intro j
  induction j with
  | zero =>
    intro k left N acc o m hjk hS hO hM hFA hpk hPB hlim
    refine Sp.ofG (ls := [rV 57, rV 52, rV 25, iV (pT s : Int), iV (k : Int), iV (left : Int), iV (prE N k), uV, uV]) (by decide +kernel) rfl (Nat.le_of_ble_eq_true rfl) ?_
    have hpr1 := prE_le (N := N) (k := k) (by omega) (fun i hi => (hPB.1 i hi).1)
    refine G_iload d_X2_pick_0 rfl ?_
    refine G_aload_n d_X2_pick_2 rfl ?_
    refine G_getIe (v := (pN s : Int)) (fl_X2_44.r) d_X2_pick_3 (wk_52 _) rfl (hS.2.1) ?_
    refine G_icmp_lt 40 d_X2_pick_6 (by decide) (by omega) (by omega) (fun c6 => ?_) (fun c6 => ?_)
    · omega
    · refine G_aload_n d_X2_pick_9 rfl ?_
      refine G_iload d_X2_pick_10 rfl ?_
      refine G_putII fl_X2_15 d_X2_pick_12 (wk_57 _) rfl ?_
      refine G_aload_n d_X2_pick_15 rfl ?_
      refine G_iload d_X2_pick_16 rfl ?_
      refine G_putII fl_X2_26 d_X2_pick_18 (wk_57 _) rfl ?_
      refine G_aload_n d_X2_pick_21 rfl ?_
      refine G_getR (r := 59) (fl_X2_23.r) d_X2_pick_22 (wk_57 _) rfl rfl ?_
      refine G_iconst d_X2_pick_25 ?_
      refine G_aload_n d_X2_pick_26 rfl ?_
      refine G_getR (r := 58) (fl_X2_19.r) d_X2_pick_27 (wk_57 _) rfl rfl ?_
      refine G_iconst d_X2_pick_30 ?_
      refine G_aload_n d_X2_pick_31 rfl ?_
      refine G_getR (r := 58) (fl_X2_19.r) d_X2_pick_32 (wk_57 _) rfl rfl ?_
      refine G_alen1 d_X2_pick_35 (wk_58 _) ?_
      refine G_acopyi d_X2_pick_36 ac_X2_47 ac_nat ac_sta ac_ini (wk_59 _) (wk_58 _) (by decide) (by decide) (by decide) (Nat.le_of_ble_eq_true rfl) (by omega) ?_
      refine G_vret (mc := 0) (ms := 0) (st := []) d_X2_pick_39 rfl ?_
      have hl0 : left = 0 := hPB.2.2.2 (by omega)
      have hok : okL s (lft s N) = true := okL_yes (fun p hp ho => by
        obtain ⟨i, hi, rfl⟩ := hO.has hp ho
        have h9 := (hPB.2.2.1 i hi)
        rw [show k = pN s by omega] at h9
        by_cases c : lft s N (o i) = true
        · have := h9.mpr c; omega
        · simpa using c) (fun p hp hm => allN_true (fun i hi => by
        have h9 := (cm_dvd (pC s)).mp (hPB.1 i (by omega)).2.2 p hp hm
        simpa using emod0.mpr h9))
      have hpr : prN s N = prE N k := by rw [show k = pN s by omega]; rfl
      have hst : run (pN s) (D1 (pT s)) (stepF s) 0 N acc = (prE N k, N) := by
        show stepF s acc N = _
        unfold stepF
        rw [hpr, if_pos]
        refine ⟨?_, hok⟩
        unfold limF at hlim
        by_cases c : acc.1 = -1
        · exact Or.inl c
        · rw [if_neg c] at hlim; exact Or.inr hlim
      have e58 : ∀ a, a ≠ 57 → a ≠ 58 → cpm (upm (upm m 57 1 (prE N k)) 57 4 (prE N k)) 59 58 5 a = m a := fun a h7 h8 => by rw [cpm_off _ h8, upm_off _ _ h7, upm_off _ _ h7]
      refine ⟨rfl, o, _, rfl, hO, fun i hi => by rw [e58 55 (by decide) (by decide)]; exact hM i hi, fun A hA => hA, fun _ _ => rfl, ?_, fun i hi => by rw [e58 59 (by decide) (by decide)]; exact hpk i hi, fun a h5 h7 h8 h9 => e58 a h7 h8, fun j h1 h4 => by rw [cpm_off _ (by decide), upm_ne _ _ (fun _ => h4), upm_ne _ _ (fun _ => h1)]⟩
      rw [hst]
      refine ⟨by show -1 ≤ prE N k ∧ prE N k ≤ 248832; omega, Or.inr (by show 1 ≤ prE N k; omega), by rw [cpm_off _ (by decide), upm_ne _ _ (fun _ => by decide), upm_same], by rw [cpm_off _ (by decide), upm_same]; exact (if_neg (show ¬ prE N k = -1 by omega)).symm, fun _ i hi => ?_⟩
      show (if 58 = 58 ∧ i < 5 then _ else _) = _
      rw [if_pos ⟨rfl, by omega⟩, upm_off _ _ (by decide), upm_off _ _ (by decide)]
      exact hpk i (by omega)
  | succ j ih =>
    intro k left N acc o m hjk hS hO hM hFA0 hpk hPB hlim
    refine Sp.ofG (ls := [rV 57, rV 52, rV 25, iV (pT s : Int), iV (k : Int), iV (left : Int), iV (prE N k), uV, uV]) (by decide +kernel) rfl (Nat.le_of_ble_eq_true rfl) ?_
    have hpr1 := prE_le (N := N) (k := k) (by omega) (fun i hi => (hPB.1 i hi).1)
    have K : ∀ d : Nat, d ≤ 13 → ∀ (o1 : Nat → Nat) m1 (u8 : PV), pcat u8 ≠ 2 → 1 ≤ d → WS s m1 → OT s o1 → OM s o1 m1 → (∀ A : Nat → Prop, (∀ i, i < left → A (o i)) → ∀ i, i < left → A (o1 i)) → (∀ i, left ≤ i → o1 i = o i) → FA s ((DL (pT s) d).foldl (fkS s k j N) acc) m1 → (∀ i, i < k → m1 59 i = (N i : Int)) → (∀ a, a ≠ 55 → a ≠ 57 → a ≠ 58 → a ≠ 59 → m1 a = m a) → (∀ j, j ≠ 1 → j ≠ 4 → m1 57 j = m 57 j) → G M_X2_pick (3 + (j + 1)) 0 0 43 [rV 57, rV 52, rV 25, iV (pT s : Int), iV (k : Int), iV (left : Int), iV (prE N k), iV (d : Int), u8] [] (WC ++ w, m1) (fun r h => r = none ∧ ∃ o2 m2, h = (WC ++ w, m2) ∧ OT s o2 ∧ OM s o2 m2 ∧ (∀ A : Nat → Prop, (∀ i, i < left → A (o i)) → ∀ i, i < left → A (o2 i)) ∧ (∀ i, left ≤ i → o2 i = o i) ∧ FA s (run (pN s) (D1 (pT s)) (stepF s) (j + 1) N acc) m2 ∧ (∀ i, i < k → m2 59 i = (N i : Int)) ∧ (∀ a, a ≠ 55 → a ≠ 57 → a ≠ 58 → a ≠ 59 → m2 a = m a) ∧ (∀ j, j ≠ 1 → j ≠ 4 → m2 57 j = m 57 j)) := by
      refine loop_up (13) _ ?_
      intro d hd ih1 o1 m1 u8 hu8 hd1 hS1 hO1 hM1 hA1 ho1 hFA hpk1 hf1 hg1
      have hlr := limF_rng hFA
      have hmb := mulb (a := prE N k) (b := (d : Int)) (A := 248832) (B := 13) ⟨by omega, by omega⟩ ⟨by omega, by omega⟩
      refine G_iload d_X2_pick_43 rfl ?_
      refine G_bipush d_X2_pick_45 (by decide) ?_
      refine G_icmp_gt 134 d_X2_pick_47 (by decide) (by omega) (by omega) (fun c47 => ?_) (fun c47 => ?_)
      · refine G_vret (mc := 0) (ms := 0) (st := []) d_X2_pick_134 rfl ?_
        have hde : d = 13 := by omega
        subst hde
        rw [run_fk (by omega) N acc]
        exact ⟨rfl, o1, m1, rfl, hO1, hM1, hA1, ho1, hFA, hpk1, hf1, hg1⟩
      · refine G_iload d_X2_pick_50 rfl ?_
        refine G_iload d_X2_pick_52 rfl ?_
        refine G_imul d_X2_pick_54 ?_
        refine G_aload_n d_X2_pick_55 rfl ?_
        refine G_getIe (v := limF ((DL (pT s) d).foldl (fkS s k j N) acc)) (fl_X2_26.r) d_X2_pick_56 (wk_57 _) rfl (hFA.2.2.2.1) ?_
        refine G_icmp_ge 134 d_X2_pick_59 (by decide) (by omega) (by omega) (fun c59 => ?_) (fun c59 => ?_)
        · refine G_vret (mc := 0) (ms := 0) (st := []) d_X2_pick_134 rfl ?_
          have hne : ((DL (pT s) d).foldl (fkS s k j N) acc).1 ≠ -1 := fun e => by
            unfold limF at c59
            rw [if_pos e] at c59
            omega
          have hrest := DL_rest hV (by omega) (fun i hi => (hPB.1 i hi).1) hd1 hne (by unfold limF at c59; rw [if_neg hne] at c59; exact c59) (13 - d) (by omega)
          rw [show d + (13 - d) = 13 by omega] at hrest
          rw [run_fk (by omega) N acc, hrest]
          exact ⟨rfl, o1, m1, rfl, hO1, hM1, hA1, ho1, hFA, hpk1, hf1, hg1⟩
        · refine G_iload_n d_X2_pick_62 rfl ?_
          refine G_iload d_X2_pick_63 rfl ?_
          refine G_iremN (pT s) (d) (rfl) (rfl) d_X2_pick_65 (by omega) (by omega) (by omega) ?_
          have hmm : pT s % d ≤ pT s := Nat.mod_le _ _
          refine G_if_ne 128 d_X2_pick_66 (by decide) (by omega) (fun c66 => ?_) (fun c66 => ?_)
          · refine G_iinc d_X2_pick_128 rfl (by decide) rfl ?_
            refine G_goto 43 d_X2_pick_131 (by decide) ?_
            have he1 : (DL (pT s) (d + 1)).foldl (fkS s k j N) acc = ((DL (pT s) d).foldl (fkS s k j N) acc) := by rw [DL_f (fun e => by omega)]
            exact ih1 (by omega) o1 m1 u8 hu8 (by omega) hS1 hO1 hM1 hA1 ho1 (by rw [he1]; exact hFA) hpk1 hf1 hg1
          · refine G_aload_n d_X2_pick_69 rfl ?_
            refine G_getR (r := 54) fl_X2_53 d_X2_pick_70 (wk_52 _) rfl rfl ?_
            refine G_iload d_X2_pick_73 rfl ?_
            refine G_ialdj (k) d_X2_pick_75 (wk_54 _) (by omega) (by omega) (by decide) ?_
            rw [hS1.2.2.2.1 k (by omega)]
            have hcm := cmF_rng hV k (pC s)
            refine G_iload d_X2_pick_76 rfl ?_
            refine G_iremN (cmF s k (pC s)) (d) (rfl) (rfl) d_X2_pick_78 (by omega) (by omega) (by omega) ?_
            have hmm2 : cmF s k (pC s) % d ≤ cmF s k (pC s) := Nat.mod_le _ _
            refine G_if_ne 128 d_X2_pick_79 (by decide) (by omega) (fun c79 => ?_) (fun c79 => ?_)
            · refine G_iinc d_X2_pick_128 rfl (by decide) rfl ?_
              refine G_goto 43 d_X2_pick_131 (by decide) ?_
              have he1 : (DL (pT s) (d + 1)).foldl (fkS s k j N) acc = ((DL (pT s) d).foldl (fkS s k j N) acc) := by
                rw [DL_t (by omega) (by omega), List.foldl_append, List.foldl_cons, List.foldl_nil, fk_common (by omega) N _ (fun e => by have := Nat.mod_eq_zero_of_dvd e; omega)]
              exact ih1 (by omega) o1 m1 u8 hu8 (by omega) hS1 hO1 hM1 hA1 ho1 (by rw [he1]; exact hFA) hpk1 hf1 hg1
            · refine G_aload_n d_X2_pick_82 rfl ?_
              refine G_aload_n d_X2_pick_83 rfl ?_
              refine G_iload d_X2_pick_84 rfl ?_
              refine G_iload d_X2_pick_86 rfl ?_
              refine G_iload d_X2_pick_88 rfl ?_
              refine G_callV4 cl_X2_56 rfl d_X2_pick_90 (wk_52 _) (Nat.le_of_ble_eq_true rfl) (by omega) (sp_keepLeft2 s hV hS1 o1 k d left (by omega) ⟨by omega, by omega⟩ hPB.2.1 hO1 hM1) ?_
              rintro _ _ ⟨v, rfl, o2, m2, rfl, hO2, hM2, hfr2, ho2, hA2, hvr, hv1, hv2⟩
              refine G_istore d_X2_pick_93 (by decide) rfl ?_
              refine G_iload d_X2_pick_95 rfl ?_
              refine G_iconst d_X2_pick_97 ?_
              refine G_icmp_eq 128 d_X2_pick_98 (by decide) (by omega) (by omega) (fun c98 => ?_) (fun c98 => ?_)
              · refine G_iinc d_X2_pick_128 rfl (by decide) rfl ?_
                refine G_goto 43 d_X2_pick_131 (by decide) ?_
                obtain ⟨i, hi, hgi, hli⟩ := hv1 c98
                have hoi := hO1.in (i := i) (by have := hPB.2.1; omega)
                have hpi : preB s N k (o1 i) = true := hA1 (fun p => preB s N k p = true) (fun i2 hi2 => (hPB.2.2.1 i2 (by have := hPB.2.1; omega)).mp hi2) i hi
                have he1 : (DL (pT s) (d + 1)).foldl (fkS s k j N) acc = ((DL (pT s) d).foldl (fkS s k j N) acc) := by
                  rw [DL_t (by omega) (by omega), List.foldl_append, List.foldl_cons, List.foldl_nil, fk_last (by omega) N _ hoi.1 hoi.2 hpi hgi hli]
                have e5 : ∀ a, a ≠ 55 → m2 a = m1 a := hfr2
                exact ih1 (by omega) o2 m2 _ (by show (1 : Nat) ≠ 2; decide) (by omega) (hS1.keep (by omega) (fun a h1 h2 h3 => e5 a h2)) hO2 hM2 (fun A hA => hA2 A (hA1 A hA)) (fun i2 hi2 => (ho2 i2 hi2).trans (ho1 i2 hi2)) (by
                  rw [he1]
                  obtain ⟨f1, f2, f3, f4, f5⟩ := hFA
                  exact ⟨f1, f2, by rw [e5 57 (by decide)]; exact f3, by rw [e5 57 (by decide)]; exact f4, fun h k2 hk2 => by rw [e5 58 (by decide)]; exact f5 h k2 hk2⟩) (fun i2 hi2 => by rw [e5 59 (by decide)]; exact hpk1 i2 hi2) (fun a h1 h2 h3 h4 => (e5 a h1).trans (hf1 a h1 h2 h3 h4)) (fun j2 h1 h2 => by rw [e5 57 (by decide)]; exact hg1 j2 h1 h2)
              · refine G_aload_n d_X2_pick_101 rfl ?_
                refine G_getR (r := 59) (fl_X2_23.r) d_X2_pick_102 (wk_57 _) rfl rfl ?_
                refine G_iload d_X2_pick_105 rfl ?_
                refine G_iload d_X2_pick_107 rfl ?_
                obtain ⟨left2, hvl, hle2, hl2, hr2⟩ := hv2 c98
                subst hvl
                refine G_iastj (k) d_X2_pick_109 (wk_59 _) (by omega) (by omega) (by decide) ?_
                refine G_aload_n d_X2_pick_110 rfl ?_
                refine G_aload_n d_X2_pick_111 rfl ?_
                refine G_aload_n d_X2_pick_112 rfl ?_
                refine G_iload_n d_X2_pick_113 rfl ?_
                refine G_iload d_X2_pick_114 rfl ?_
                refine G_iconst d_X2_pick_116 ?_
                refine G_iadd d_X2_pick_117 ?_
                refine G_iload d_X2_pick_118 rfl ?_
                refine G_iload d_X2_pick_120 rfl ?_
                refine G_iload d_X2_pick_122 rfl ?_
                refine G_imul d_X2_pick_124 ?_
                have hPB2 : PB s (upN N k d) (k + 1) left2 o2 := by
                  have hP2 := hPB.2.1
                  refine ⟨fun j2 hj2 => ?_, by omega, fun i hi => ?_, fun hk2 => ?_⟩
                  · by_cases e : j2 = k
                    · rw [e, show upN N k d k = d from if_pos rfl]
                      exact ⟨⟨by omega, by omega⟩, by omega, Nat.dvd_of_mod_eq_zero (by omega)⟩
                    · rw [show upN N k d j2 = N j2 from if_neg e]
                      exact hPB.1 j2 (by omega)
                  · rw [preB_S, Bool.and_eq_true_iff]
                    by_cases c : i < left
                    · have hpi : preB s N k (o2 i) = true := hA2 (fun p => preB s N k p = true) (fun i2 hi2 => hA1 (fun p => preB s N k p = true) (fun i3 hi3 => (hPB.2.2.1 i3 (by omega)).mp hi3) i2 hi2) i c
                      by_cases e : i < left2
                      · exact ⟨fun _ => ⟨hpi, by simpa using (hl2 i e).1⟩, fun _ => e⟩
                      · exact ⟨fun h => absurd h e, fun h => absurd (by simpa using h.2) (hr2 i (by omega) c)⟩
                    · have hpi : ¬ preB s N k (o2 i) = true := by
                        rw [ho2 i (by omega), ho1 i (by omega)]
                        exact fun h => c ((hPB.2.2.1 i hi).mpr h)
                      exact ⟨fun h => absurd h (by omega), fun h => absurd h.1 hpi⟩
                  · by_cases e : left2 = 0
                    · exact e
                    · have h1 := (hl2 0 (by omega)).2
                      have h2 := lsF9_rng s (o2 0) (pN s)
                      omega
                have hFA2 : FA s ((DL (pT s) d).foldl (fkS s k j N) acc) (upm m2 59 k (d : Int)) := by
                  obtain ⟨f1, f2, f3, f4, f5⟩ := hFA
                  exact ⟨f1, f2, by rw [upm_off _ _ (by decide), hfr2 57 (by decide)]; exact f3, by rw [upm_off _ _ (by decide), hfr2 57 (by decide)]; exact f4, fun h k2 hk2 => by rw [upm_off _ _ (by decide), hfr2 58 (by decide)]; exact f5 h k2 hk2⟩
                have hpick := ih (k + 1) left2 (upN N k d) ((DL (pT s) d).foldl (fkS s k j N) acc) o2 (upm m2 59 k (d : Int)) (by omega) (hS1.keep (by omega) (fun a h1 h2 h3 => by rw [upm_off _ _ (by omega), hfr2 a h2])) hO2 (fun i hi => by rw [upm_off _ _ (by decide)]; exact hM2 i hi) hFA2 (fun i hi => by
                  by_cases e : i = k
                  · rw [e, upm_same, show upN N k d k = d from if_pos rfl]
                  · rw [upm_ne _ _ (fun _ => e), hfr2 59 (by decide), show upN N k d i = N i from if_neg e]; exact hpk1 i (by omega)) hPB2 (by rw [prE_up]; omega)
                rw [prE_up] at hpick
                refine G_callS7 cl_X2_40 d_X2_pick_125 (Nat.le_of_ble_eq_true rfl) (by omega) (hpick) ?_
                rintro _ _ ⟨rfl, o3, m3, rfl, hO3, hM3, hA3, ho3, hFA3, hpk3, hf3, hg3⟩
                refine G_iinc d_X2_pick_128 rfl (by decide) rfl ?_
                refine G_goto 43 d_X2_pick_131 (by decide) ?_
                have he1 : (DL (pT s) (d + 1)).foldl (fkS s k j N) acc = fkS s k j N ((DL (pT s) d).foldl (fkS s k j N) acc) d := by
                  rw [DL_t (by omega) (by omega), List.foldl_append, List.foldl_cons, List.foldl_nil]
                refine ih1 (by omega) o3 m3 _ (by show (1 : Nat) ≠ 2; decide) (by omega) ?_ hO3 hM3 (fun A hA i2 hi2 => ?_) (fun i2 hi2 => ?_) (by rw [he1]; exact hFA3) (fun i2 hi2 => ?_) (fun a h1 h2 h3 h4 => ?_) (fun j2 h1 h2 => ?_)
                · exact hS1.keep (by omega) (fun a h1 h2 h3 => by rw [hf3 a (by omega) (by omega) (by omega) (by omega), upm_off _ _ (by omega), hfr2 a (by omega)])
                · by_cases c : i2 < left2
                  · exact hA3 A (fun i3 hi3 => hA2 A (hA1 A hA) i3 (by omega)) i2 c
                  · rw [ho3 i2 (by omega)]; exact hA2 A (hA1 A hA) i2 hi2
                · rw [ho3 i2 (by omega), ho2 i2 hi2]; exact ho1 i2 hi2
                · rw [hpk3 i2 (by omega), show upN N k d i2 = N i2 from if_neg (by omega)]
                · rw [hf3 a h1 h2 h3 h4, upm_off _ _ h4, hfr2 a h1]; exact hf1 a h1 h2 h3 h4
                · rw [hg3 j2 h1 h2, upm_off _ _ (by decide), hfr2 57 (by decide)]; exact hg1 j2 h1 h2
    refine G_iload d_X2_pick_0 rfl ?_
    refine G_aload_n d_X2_pick_2 rfl ?_
    refine G_getIe (v := (pN s : Int)) (fl_X2_44.r) d_X2_pick_3 (wk_52 _) rfl (hS.2.1) ?_
    refine G_icmp_lt 40 d_X2_pick_6 (by decide) (by omega) (by omega) (fun c6 => ?_) (fun c6 => ?_)
    · refine G_iconst d_X2_pick_40 ?_
      refine G_istore d_X2_pick_41 (by decide) rfl ?_
      exact K 1 (by omega) o m uV (by decide) (Nat.le_refl _) hS hO hM (fun A hA => hA) (fun _ _ => rfl) (by rw [show DL (pT s) 1 = [] from rfl]; exact hFA0) hpk (fun _ _ _ _ _ => rfl) (fun _ _ _ => rfl)
    · omega
