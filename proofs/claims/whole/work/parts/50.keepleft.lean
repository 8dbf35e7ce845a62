/-! the others in any order -/
theorem cntB_upd (f : Nat → Bool) (k : Nat) (x : Bool) : ∀ n : Nat, (n ≤ k → cntB (fun j => if j = k then x else f j) n = cntB f n) ∧ (k < n → cntB (fun j => if j = k then x else f j) n + (if f k = true then 1 else 0) = cntB f n + (if x = true then 1 else 0))
  | 0 => ⟨fun _ => rfl, fun h => absurd h (by omega)⟩
  | n + 1 => by
    have ih := cntB_upd f k x n
    refine ⟨fun h => ?_, fun h => ?_⟩
    · have h1 := ih.1 (by omega)
      show cntB _ n + (if (if n = k then x else f n) = true then 1 else 0) = cntB f n + _
      rw [h1, if_neg (show ¬ n = k by omega)]
    · show cntB _ n + (if (if n = k then x else f n) = true then 1 else 0) + _ = cntB f n + (if f n = true then 1 else 0) + _
      by_cases e : n = k
      · subst e
        rw [ih.1 (Nat.le_refl _), if_pos rfl]
        omega
      · have h1 := ih.2 (by omega)
        rw [if_neg e]
        omega
def swO (o : Nat → Nat) (a b : Nat) : Nat → Nat := fun j => if j = a then o b else if j = b then o a else o j
theorem sw_cnt (o : Nat → Nat) {a b n : Nat} (ha : a < n) (hb : b < n) (F : Nat → Bool) : cntB (fun j => F (swO o a b j)) n = cntB (fun j => F (o j)) n := by
  have h1 := (cntB_upd (fun j => F (o j)) b (F (o a)) n).2 hb
  have h2 := (cntB_upd (fun j => if j = b then F (o a) else F (o j)) a (F (o b)) n).2 ha
  have e1 : (fun j => F (swO o a b j)) = fun j => if j = a then F (o b) else if j = b then F (o a) else F (o j) := by
    funext j
    unfold swO
    by_cases c : j = a
    · rw [if_pos c, if_pos c]
    · rw [if_neg c, if_neg c]
      by_cases d : j = b
      · rw [if_pos d, if_pos d]
      · rw [if_neg d, if_neg d]
  have e2 : (if a = b then F (o a) else F (o a)) = F (o a) := by split <;> rfl
  rw [e1]
  simp only [e2] at h2
  omega
theorem map_cnt (o : Nat → Nat) (F : Nat → Bool) : ∀ n : Nat, ((List.range n).map o).countP F = cntB (fun j => F (o j)) n
  | 0 => rfl
  | n + 1 => by
    rw [List.range_succ, List.map_append, List.countP_append, map_cnt o F n]
    by_cases h : F (o n) = true
    · rw [cntB_t (f := fun j => F (o j)) h]; simp [h]
    · rw [cntB_f (f := fun j => F (o j)) (by simpa using h)]; simp [h]
theorem sw_perm (o : Nat → Nat) {a b n : Nat} (ha : a < n) (hb : b < n) : ((List.range n).map (swO o a b)).Perm ((List.range n).map o) := by
  rw [List.perm_iff_count]
  intro v
  rw [List.count_eq_countP, List.count_eq_countP, map_cnt, map_cnt]
  exact sw_cnt o ha hb (fun x => x == v)
theorem map_getD (l : List Nat) : (List.range l.length).map (fun i => l.getD i 0) = l := by
  apply List.ext_getElem?
  intro i
  rw [List.getElem?_map]
  by_cases h : i < l.length
  · rw [List.getElem?_range h, Option.map_some, List.getD_eq_getElem?_getD, List.getElem?_eq_getElem h]
    rfl
  · rw [List.getElem?_eq_none (by simpa using Nat.le_of_not_lt h), List.getElem?_eq_none (by omega)]
    rfl
def nOt (s : Nat → Int) : Nat := (otl s (pC s)).length
/-- o: the others, as they lie -/
def OT (s : Nat → Int) (o : Nat → Nat) : Prop := ((List.range (nOt s)).map o).Perm (otl s (pC s))
def OM (s : Nat → Int) (o : Nat → Nat) (m : Nat → Nat → Int) : Prop := ∀ i, i < nOt s → m 55 i = (o i : Int)
theorem OT.in {s : Nat → Int} {o : Nat → Nat} (h : OT s o) {i : Nat} (hi : i < nOt s) : o i < pC s ∧ pOther s (o i) = true :=
  otl_mem (h.mem_iff.mp (List.mem_map.mpr ⟨i, List.mem_range.mpr hi, rfl⟩))
theorem OT.has {s : Nat → Int} {o : Nat → Nat} (h : OT s o) {p : Nat} (hp : p < pC s) (ho : pOther s p = true) : ∃ i, i < nOt s ∧ o i = p := by
  have h1 : p ∈ otl s (pC s) := List.mem_filter.mpr ⟨List.mem_range.mpr hp, ho⟩
  obtain ⟨i, hi, e⟩ := List.mem_map.mp (h.mem_iff.mpr h1)
  exact ⟨i, List.mem_range.mp hi, e⟩
theorem OT.sw {s : Nat → Int} {o : Nat → Nat} (h : OT s o) {a b : Nat} (ha : a < nOt s) (hb : b < nOt s) : OT s (swO o a b) := (sw_perm o ha hb).trans h
theorem OM.sw {s : Nat → Int} {o : Nat → Nat} {m : Nat → Nat → Int} (h : OM s o m) (a b : Nat) : OM s (swO o a b) (upm (upm m 55 b (o a : Int)) 55 a (o b : Int)) := fun j hj => by
  unfold swO
  by_cases c : j = a
  · rw [if_pos c, c, upm_same]
  · rw [if_neg c, upm_ne _ _ (fun _ => c)]
    by_cases d : j = b
    · rw [if_pos d, d, upm_same]
    · rw [if_neg d, upm_ne _ _ (fun _ => d)]; exact h j hj
theorem otl_of {s : Nat → Int} {l : List Nat} {m : Nat → Nat → Int} (hl : l.Perm (otl s (pC s))) (hm : LM l m) : ∃ o, OT s o ∧ OM s o m := by
  have hlen : l.length = nOt s := hl.length_eq
  refine ⟨fun i => l.getD i 0, ?_, fun i hi => ?_⟩
  · unfold OT
    rw [← hlen, map_getD]
    exact hl
  · refine hm i _ ?_
    show l[i]? = some (l.getD i 0)
    rw [List.getD_eq_getElem?_getD, List.getElem?_eq_getElem (by omega)]
    rfl
theorem OT.list {s : Nat → Int} {o : Nat → Nat} {m : Nat → Nat → Int} (h : OT s o) (hm : OM s o m) : ∃ l : List Nat, l.Perm (otl s (pC s)) ∧ LM l m := by
  refine ⟨(List.range (nOt s)).map o, h, fun i q hq => ?_⟩
  have hi : i < nOt s := by
    have := (List.getElem?_eq_some_iff.mp hq).1
    simpa using this
  rw [List.getElem?_map, List.getElem?_range hi] at hq
  simp at hq
  rw [hm i hi, hq]
theorem lsF9_after {s : Nat → Int} {p : Nat} : ∀ (n j : Nat), j < n → lsF9 s p n < (j : Int) → gapD s p j = 0
  | 0, j, h, _ => absurd h (by omega)
  | n + 1, j, h, h2 => by
    unfold lsF9 at h2
    by_cases c : gapD s p n ≠ 0
    · rw [if_pos c] at h2; omega
    · rw [if_neg c] at h2
      by_cases e : j = n
      · rw [e]; simpa using c
      · exact lsF9_after n j (by omega) h2
def preB (s : Nat → Int) (N : Nat → Nat) (k p : Nat) : Bool := allN (fun j => gapD s p j % (N j : Int) == 0) k
theorem preB_n (s : Nat → Int) (N : Nat → Nat) (p : Nat) : preB s N (pN s) p = lft s N p := rfl
theorem preB_S {s : Nat → Int} {N : Nat → Nat} {k p d : Nat} : preB s (upN N k d) (k + 1) p = (preB s N k p && (gapD s p k % (d : Int) == 0)) := by
  show (allN _ k && _) = _
  congr 1
  · refine allN_congr (fun j hj => ?_)
    unfold upN
    rw [if_neg (by omega)]
  · show (gapD s p k % ((upN N k d k : Nat) : Int) == 0) = _
    rw [show upN N k d k = d from if_pos rfl]
theorem cm_dvd {s : Nat → Int} {k d : Nat} : ∀ n : Nat, d ∣ cmF s k n ↔ ∀ p, p < n → pMk s p = 1 → d ∣ (gapD s p k).natAbs
  | 0 => ⟨fun _ p hp => absurd hp (by omega), fun _ => Nat.dvd_zero d⟩
  | n + 1 => by
    have ih := cm_dvd (s := s) (k := k) (d := d) n
    unfold cmF
    by_cases c : pMk s n = 1
    · rw [if_pos c, Nat.dvd_gcd_iff, ih]
      refine ⟨fun h p hp hm => ?_, fun h => ⟨fun p hp => h p (by omega), h n (by omega) c⟩⟩
      by_cases e : p = n
      · rw [e]; exact h.2
      · exact h.1 p (by omega) hm
    · rw [if_neg c, ih]
      refine ⟨fun h p hp hm => ?_, fun h p hp => h p (by omega)⟩
      by_cases e : p = n
      · rw [e] at hm; exact absurd hm c
      · exact h p (by omega) hm
theorem emod0 {x : Int} {d : Nat} : x % (d : Int) = 0 ↔ d ∣ x.natAbs := by
  refine ⟨fun h => ?_, fun h => Int.emod_eq_zero_of_dvd (Int.natAbs_dvd_natAbs.mp (by rw [Int.natAbs_natCast]; exact h))⟩
  have h1 := Int.natAbs_dvd_natAbs.mpr (Int.dvd_of_emod_eq_zero h)
  rw [Int.natAbs_natCast] at h1
  exact h1
theorem okL_no {s : Nat → Int} {L : Nat → Bool} {p : Nat} (hp : p < pC s) (h : (pOther s p = true ∧ L p = true) ∨ (pMk s p = 1 ∧ L p = false)) : okL s L = false := by
  unfold okL
  refine allN_false p hp ?_
  rcases h with ⟨h1, h2⟩ | ⟨h1, h2⟩
  · simp [h1, h2]
  · simp [h1, h2]
theorem okL_yes {s : Nat → Int} {L : Nat → Bool} (h1 : ∀ p, p < pC s → pOther s p = true → L p = false) (h2 : ∀ p, p < pC s → pMk s p = 1 → L p = true) : okL s L = true := by
  unfold okL
  refine allN_true (fun p hp => ?_)
  by_cases c : pOther s p = true
  · have hm : ¬ pMk s p = 1 := fun e => by unfold pOther at c; simp [e] at c
    simp [c, h1 p hp c, hm]
  · by_cases d : pMk s p = 1
    · simp [c, h2 p hp d]
    · simp [c, d]
/-- a run that can change nothing -/
theorem run_pre {α : Type} (n : Nat) (D : List Nat) (step : α → (Nat → Nat) → α) (a : α) : ∀ (j : Nat) (N : Nat → Nat), j ≤ n → (∀ N', (∀ i, i < n - j → N' i = N i) → (∀ i, n - j ≤ i → i < n → N' i ∈ D) → step a N' = a) → run n D step j N a = a
  | 0, N, _, h => h N (fun _ _ => rfl) (fun i h1 h2 => absurd h1 (by omega))
  | j + 1, N, hj, h => by
    unfold run
    have key : ∀ l : List Nat, (∀ d, d ∈ l → d ∈ D) → l.foldl (fun a d => run n D step j (upN N (n - (j + 1)) d) a) a = a := by
      intro l
      induction l with
      | nil => intro _; rfl
      | cons d r ih =>
        intro hd
        rw [List.foldl_cons, run_pre n D step a j (upN N (n - (j + 1)) d) (by omega) (fun N' h1 h2 => h N' (fun i hi => by rw [h1 i (by omega)]; unfold upN; rw [if_neg (by omega)]) (fun i hi hi2 => by
          by_cases e : i = n - (j + 1)
          · rw [e, h1 _ (by omega)]
            unfold upN
            rw [if_pos rfl]
            exact hd d List.mem_cons_self
          · exact h2 i (by omega) hi2))]
        exact ih (fun d hd2 => hd d (List.mem_cons_of_mem _ hd2))
    exact key D (fun _ h => h)
theorem sp_keepLeft {w : List KD} {m : Nat → Nat → Int} (s : Nat → Int) (hV : VS s) (hB : CB s m) (hH : CH s m) (h56 : ∀ p, p < pC s → m 56 p = lsF9 s p (pN s)) (o : Nat → Nat) (k d f : Nat) (hk : k < pN s) (hd : 1 ≤ d ∧ d ≤ 12) (hf : f ≤ nOt s) (hO : OT s o) (hM : OM s o m) : Sp M_X8_keepLeft 2 0 0 [rV 52, rV 25, iV (k : Int), iV (d : Int), iV (f : Int)] (WC ++ w, m) (fun r h => ∃ o2 m2, h = (WC ++ w, m2) ∧ OT s o2 ∧ OM s o2 m2 ∧ (∀ a, a ≠ 55 → m2 a = m a) ∧ (∀ j, f ≤ j → o2 j = o j) ∧ (∀ A : Nat → Prop, (∀ j, j < f → A (o j)) → ∀ j, j < f → A (o2 j)) ∧ ((r = some (iV (-1)) ∧ ∃ i, i < f ∧ gapD s (o i) k % (d : Int) = 0 ∧ lsF9 s (o i) (pN s) ≤ (k : Int)) ∨ ∃ left : Nat, r = some (iV (left : Int)) ∧ left ≤ f ∧ (∀ j, j < left → gapD s (o2 j) k % (d : Int) = 0 ∧ (k : Int) < lsF9 s (o2 j) (pN s)) ∧ ∀ j, left ≤ j → j < f → gapD s (o2 j) k % (d : Int) ≠ 0)) := by
  refine Sp.ofG (ls := [rV 52, rV 25, iV (k : Int), iV (d : Int), iV (f : Int), uV, uV, uV]) (by decide +kernel) rfl (Nat.le_of_ble_eq_true rfl) ?_
  have hC := pC_le hV
  have hN := hV.N
  have hT := hV.T
  have hSc := hV.Sc
  have hol := otl_le s (pC s)
  have hno : nOt s = (otl s (pC s)).length := rfl
  have L : ∀ i : Nat, i ≤ f → ∀ (o1 : Nat → Nat) (left : Nat) m1 (u7 : PV), OT s o1 → OM s o1 m1 → (∀ a, a ≠ 55 → m1 a = m a) → (∀ j, i ≤ j → o1 j = o j) → (∀ A : Nat → Prop, (∀ j, j < f → A (o j)) → ∀ j, j < f → A (o1 j)) → left ≤ i → (∀ j, j < left → gapD s (o1 j) k % (d : Int) = 0 ∧ (k : Int) < lsF9 s (o1 j) (pN s)) → (∀ j, left ≤ j → j < i → gapD s (o1 j) k % (d : Int) ≠ 0) → G M_X8_keepLeft 2 0 0 6 [rV 52, rV 25, iV (k : Int), iV (d : Int), iV (f : Int), iV (left : Int), iV (i : Int), u7] [] (WC ++ w, m1) (fun r h => ∃ o2 m2, h = (WC ++ w, m2) ∧ OT s o2 ∧ OM s o2 m2 ∧ (∀ a, a ≠ 55 → m2 a = m a) ∧ (∀ j, f ≤ j → o2 j = o j) ∧ (∀ A : Nat → Prop, (∀ j, j < f → A (o j)) → ∀ j, j < f → A (o2 j)) ∧ ((r = some (iV (-1)) ∧ ∃ i, i < f ∧ gapD s (o i) k % (d : Int) = 0 ∧ lsF9 s (o i) (pN s) ≤ (k : Int)) ∨ ∃ left : Nat, r = some (iV (left : Int)) ∧ left ≤ f ∧ (∀ j, j < left → gapD s (o2 j) k % (d : Int) = 0 ∧ (k : Int) < lsF9 s (o2 j) (pN s)) ∧ ∀ j, left ≤ j → j < f → gapD s (o2 j) k % (d : Int) ≠ 0)) := by
    refine loop_up (f) _ ?_
    intro i hi ih o1 left m1 u7 hO hM hfr ho hA hle hl hr
    refine G_iload d_X8_keepLeft_6 rfl ?_
    refine G_iload d_X8_keepLeft_8 rfl ?_
    refine G_icmp_ge 80 d_X8_keepLeft_10 (by decide) (by omega) (by omega) (fun c10 => ?_) (fun c10 => ?_)
    · refine G_iload d_X8_keepLeft_80 rfl ?_
      refine G_iret (mc := 0) (ms := 0) (st := []) d_X8_keepLeft_82 rfl ?_
      have hie : i = f := by omega
      rw [hie] at hr ho
      exact ⟨o1, m1, rfl, hO, hM, hfr, ho, hA, Or.inr ⟨left, rfl, by omega, hl, hr⟩⟩
    · refine G_aload_n d_X8_keepLeft_13 rfl ?_
      refine G_getR (r := 55) (fl_X8_35.r) d_X8_keepLeft_14 (wk_52 _) rfl rfl ?_
      refine G_iload d_X8_keepLeft_17 rfl ?_
      refine G_ialdj (i) d_X8_keepLeft_19 (wk_55 _) (by omega) (by omega) (by decide) ?_
      have hoi := hO.in (i := i) (by omega)
      rw [hM i (by omega)]
      refine G_istore d_X8_keepLeft_20 (by decide) rfl ?_
      refine G_aload_n d_X8_keepLeft_22 rfl ?_
      refine G_aload_n d_X8_keepLeft_23 rfl ?_
      refine G_iload d_X8_keepLeft_24 rfl ?_
      refine G_iload_n d_X8_keepLeft_26 rfl ?_
      refine G_callV3 cl_X8_69 rfl d_X8_keepLeft_27 (wk_52 _) (Nat.le_of_ble_eq_true rfl) (by decide) (sp_gap s hV (hB.2.2.1.keep (hfr 25 (by decide)) (hfr 26 (by decide)) (hfr 27 (by decide))) (fun j hj => by rw [hfr 53 (by decide)]; exact hH j hj) (o1 i) k hoi.1 hk) ?_
      rintro _ _ ⟨rfl, rfl⟩
      have hgr := gapD_rng hV (o1 i) k
      refine G_iload_n d_X8_keepLeft_30 rfl ?_
      refine G_irem d_X8_keepLeft_31 (by omega) (by omega) (by omega) ?_
      have htm := tmod_b (x := gapD s (o1 i) k) (y := (d : Int)) (B := 12) hgr
      refine G_if_ne 74 d_X8_keepLeft_32 (by decide) (by omega) (fun c32 => ?_) (fun c32 => ?_)
      · refine G_iinc d_X8_keepLeft_74 rfl (by decide) rfl ?_
        refine G_goto 6 d_X8_keepLeft_77 (by decide) ?_
        have hnl : gapD s (o1 i) k % (d : Int) ≠ 0 := fun h => c32 (tm0.mpr h)
        exact ih (by omega) o1 left m1 _ hO hM hfr (fun j hj => ho j (by omega)) hA (by omega) hl (fun j h1 h2 => by
          by_cases e : j = i
          · rw [e]; exact hnl
          · exact hr j h1 (by omega))
      · refine G_aload_n d_X8_keepLeft_35 rfl ?_
        refine G_getR (r := 56) (fl_X8_38.r) d_X8_keepLeft_36 (wk_52 _) rfl rfl ?_
        refine G_iload d_X8_keepLeft_39 rfl ?_
        refine G_baldj (o1 i) d_X8_keepLeft_41 (wk_56 _) (by omega) (by omega) (by decide) ?_
        rw [hfr 56 (by decide), h56 (o1 i) hoi.1]
        have hlr := lsF9_rng s (o1 i) (pN s)
        refine G_iload_n d_X8_keepLeft_42 rfl ?_
        refine G_icmp_gt 48 d_X8_keepLeft_43 (by decide) (by omega) (by omega) (fun c43 => ?_) (fun c43 => ?_)
        · refine G_aload_n d_X8_keepLeft_48 rfl ?_
          refine G_getR (r := 55) (fl_X8_35.r) d_X8_keepLeft_49 (wk_52 _) rfl rfl ?_
          refine G_iload d_X8_keepLeft_52 rfl ?_
          refine G_aload_n d_X8_keepLeft_54 rfl ?_
          refine G_getR (r := 55) (fl_X8_35.r) d_X8_keepLeft_55 (wk_52 _) rfl rfl ?_
          refine G_iload d_X8_keepLeft_58 rfl ?_
          refine G_ialdj (left) d_X8_keepLeft_60 (wk_55 _) (by omega) (by omega) (by decide) ?_
          rw [hM left (by omega)]
          refine G_iastj (i) d_X8_keepLeft_61 (wk_55 _) (by omega) (by omega) (by decide) ?_
          refine G_aload_n d_X8_keepLeft_62 rfl ?_
          refine G_getR (r := 55) (fl_X8_35.r) d_X8_keepLeft_63 (wk_52 _) rfl rfl ?_
          refine G_iload d_X8_keepLeft_66 rfl ?_
          refine G_iload d_X8_keepLeft_68 rfl ?_
          refine G_iastj (left) d_X8_keepLeft_70 (wk_55 _) (by omega) (by omega) (by decide) ?_
          refine G_iinc d_X8_keepLeft_71 rfl (by decide) rfl ?_
          refine G_iinc d_X8_keepLeft_74 rfl (by decide) rfl ?_
          refine G_goto 6 d_X8_keepLeft_77 (by decide) ?_
          have hyl : gapD s (o1 i) k % (d : Int) = 0 := tm0.mp c32
          refine ih (by omega) (swO o1 left i) (left + 1) _ _ (hO.sw (by omega) (by omega)) (hM.sw left i) (fun a ha => by rw [upm_off _ _ ha, upm_off _ _ ha]; exact hfr a ha) (fun j hj => by unfold swO; rw [if_neg (by omega), if_neg (by omega)]; exact ho j (by omega)) (fun A hA0 j hj => ?_) (by omega) (fun j hj => ?_) (fun j h1 h2 => ?_)
          · unfold swO
            by_cases c : j = left
            · rw [if_pos c]; exact hA A hA0 i (by omega)
            · rw [if_neg c]
              by_cases e : j = i
              · rw [if_pos e]; exact hA A hA0 left (by omega)
              · rw [if_neg e]; exact hA A hA0 j hj
          · unfold swO
            by_cases c : j = left
            · rw [if_pos c]; exact ⟨hyl, by omega⟩
            · rw [if_neg c, if_neg (by omega)]; exact hl j (by omega)
          · unfold swO
            rw [if_neg (by omega)]
            by_cases e : j = i
            · rw [if_pos e]; exact hr left (Nat.le_refl _) (by omega)
            · rw [if_neg e]; exact hr j (by omega) (by omega)
        · refine G_iconst d_X8_keepLeft_46 ?_
          refine G_iret (mc := 0) (ms := 0) (st := []) d_X8_keepLeft_47 rfl ?_
          exact ⟨o1, m1, rfl, hO, hM, hfr, fun j hj => ho j (by omega), hA, Or.inl ⟨rfl, i, by omega, by rw [← ho i (Nat.le_refl _)]; exact tm0.mp c32, by rw [← ho i (Nat.le_refl _)]; omega⟩⟩
  refine G_iconst d_X8_keepLeft_0 ?_
  refine G_istore d_X8_keepLeft_1 (by decide) rfl ?_
  refine G_iconst d_X8_keepLeft_3 ?_
  refine G_istore d_X8_keepLeft_4 (by decide) rfl ?_
  exact L 0 (by omega) o 0 m uV hO hM (fun _ _ => rfl) (fun _ _ => rfl) (fun A hA => hA) (Nat.le_refl _) (fun j hj => absurd hj (by omega)) (fun j h1 h2 => absurd h2 (by omega))
