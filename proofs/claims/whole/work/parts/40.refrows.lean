theorem isRd_rng {α β : Type} (x : α ⊕ β) : 0 ≤ isRd x ∧ isRd x ≤ 1 := by cases x <;> simp [isRd]
theorem nbF_le {B : Nat → Int} {z T w : Nat} : ∀ (f i p : Nat) (V : Nat → Int), ∀ p2 i2 V2, nbF B z T w f i p V = .inr (p2, i2, V2) → p2 ≤ z := by
  have key : ∀ p, hbF B z (skF B z p) = 59 → skF B z p + 1 ≤ z := fun p h => by
    by_cases c : skF B z p < z
    · exact c
    · rw [hbF_out (by omega)] at h; exact absurd h (by decide)
  intro f
  induction f with
  | zero =>
    intro i p V p2 i2 V2 h
    unfold nbF at h
    by_cases c : 0 < i ∧ hbF B z (skF B z p) = 59
    · rw [if_pos c] at h
      simp only [Sum.inr.injEq, Prod.mk.injEq] at h
      have := key p c.2
      omega
    · rw [if_neg c] at h; exact absurd h (by simp)
  | succ f ih =>
    intro i p V p2 i2 V2 h
    unfold nbF at h
    by_cases c : 0 < i ∧ hbF B z (skF B z p) = 59
    · rw [if_pos c] at h
      simp only [Sum.inr.injEq, Prod.mk.injEq] at h
      have := key p c.2
      omega
    · rw [if_neg c] at h
      by_cases d : ¬ dgF (hbF B z (skF B z p))
      · rw [if_pos d] at h; exact absurd h (by simp)
      · rw [if_neg d] at h
        by_cases e : (T : Int) ≤ (nmF B z (z - skF B z p) (skF B z p) 0).1
        · rw [if_pos e] at h; exact absurd h (by simp)
        · rw [if_neg e] at h; exact ih _ _ _ _ _ _ h
theorem lnF_le {B : Nat → Int} {z n T p : Nat} {L : Nat → Nat} {V : Nat → Int} {p2 : Nat} {L2 : Nat → Nat} {V2 : Nat → Int} (h : lnF B z n T p L V = .inr (p2, L2, V2)) : p2 ≤ z := by
  unfold lnF at h
  cases hna : naF B z n p with
  | none => rw [hna] at h; exact absurd h (by simp)
  | some q =>
    obtain ⟨w, p1⟩ := q
    rw [hna] at h
    simp only at h
    by_cases c : 0 < L w
    · rw [if_pos c] at h; exact absurd h (by simp)
    · rw [if_neg c] at h
      by_cases d : ¬ hbF B z (skF B z p1) = 61
      · rw [if_pos d] at h; exact absurd h (by simp)
      · rw [if_neg d] at h
        cases hnb : nbF B z T w 24 0 (skF B z p1 + 1) V with
        | inl e => rw [hnb] at h; exact absurd h (by simp)
        | inr t =>
          obtain ⟨q2, i2, W2⟩ := t
          rw [hnb] at h
          simp only [Sum.inr.injEq, Prod.mk.injEq] at h
          obtain ⟨rfl, rfl, rfl⟩ := h
          exact nbF_le _ _ _ _ _ _ _ hnb
def rwI (m : Nat → Nat → Int) (L : Nat → Nat) (V : Nat → Int) (a n : Nat) : Nat → Nat → Int := fun c j => if c = 65 ∧ 77 ≤ j ∧ j < 77 + a then ((L (j - 77) - 1 : Nat) : Int) else if c = 65 ∧ 83 ≤ j ∧ j < 83 + n then V (j - 83) else m c j
theorem rwI_0 (m : Nat → Nat → Int) (L : Nat → Nat) (V : Nat → Int) : rwI m L V 0 0 = m := by
  funext c j
  unfold rwI
  rw [if_neg (by omega), if_neg (by omega)]
theorem rwI_off (m : Nat → Nat → Int) (L : Nat → Nat) (V : Nat → Int) {a n c : Nat} (h : c ≠ 65) : rwI m L V a n c = m c := by
  funext j
  unfold rwI
  rw [if_neg (fun e => h e.1), if_neg (fun e => h e.1)]
theorem rwI_a {m : Nat → Nat → Int} {L : Nat → Nat} {V : Nat → Int} {a n : Nat} {x : Int} (ha : a < 6) (h : x = ((L a - 1 : Nat) : Int)) : upm (rwI m L V a n) 65 (77 + a) x = rwI m L V (a + 1) n := by
  subst h
  funext c j
  unfold upm rwI
  by_cases d : c = 65 ∧ j = 77 + a
  · rw [if_pos d, if_pos ⟨d.1, by omega, by omega⟩, d.2, show 77 + a - 77 = a by omega]
  · rw [if_neg d]
    by_cases e : c = 65 ∧ 77 ≤ j ∧ j < 77 + a
    · rw [if_pos e, if_pos ⟨e.1, e.2.1, by omega⟩]
    · have e' : ¬ (c = 65 ∧ 77 ≤ j ∧ j < 77 + (a + 1)) := fun k => by
        by_cases x : j = 77 + a
        · exact d ⟨k.1, x⟩
        · exact e ⟨k.1, k.2.1, by omega⟩
      rw [if_neg e, if_neg e']
theorem rwI_n {m : Nat → Nat → Int} {L : Nat → Nat} {V : Nat → Int} {a n : Nat} {x : Int} (ha : a ≤ 6) (h : x = V n) : upm (rwI m L V a n) 65 (83 + n) x = rwI m L V a (n + 1) := by
  subst h
  funext c j
  unfold upm rwI
  by_cases d : c = 65 ∧ j = 83 + n
  · rw [if_pos d, if_neg (fun k => by omega), if_pos ⟨d.1, by omega, by omega⟩, d.2, show 83 + n - 83 = n by omega]
  · rw [if_neg d]
    by_cases e : c = 65 ∧ 77 ≤ j ∧ j < 77 + a
    · rw [if_pos e, if_pos e]
    · rw [if_neg e, if_neg e]
      by_cases f : c = 65 ∧ 83 ≤ j ∧ j < 83 + n
      · rw [if_pos f, if_pos ⟨f.1, f.2.1, by omega⟩]
      · have f' : ¬ (c = 65 ∧ 83 ≤ j ∧ j < 83 + (n + 1)) := fun k => by
          by_cases x : j = 83 + n
          · exact d ⟨k.1, x⟩
          · exact f ⟨k.1, k.2.1, by omega⟩
        rw [if_neg f, if_neg f']
/-- what rows leaves beside the row of numbers -/
def EQR (s : Nat → Int) (B : Nat → Int) (z : Nat) (m m2 : Nat → Nat → Int) : Prop := (∀ a, a < 64 → m2 a = m a) ∧ m2 67 = m 67 ∧ m2 83 = m 83 ∧ m2 64 28 = m 64 28 ∧ m2 64 6 = 0 ∧ m2 64 7 = fkRows s B z ∧ m2 64 8 = fpRows s B z
theorem AP_rows (s : Nat → Int) (L : Nat → Nat) (V : Nat → Int) : AP s (rwS s L V) := ⟨by unfold rwS; rw [if_neg (by omega), if_neg (by omega)], by unfold rwS; rw [if_neg (by omega), if_neg (by omega)], fun k hk => by unfold rwS; rw [if_neg (by omega), if_neg (by omega)]⟩
theorem MO_rows {s : Nat → Int} {m : Nat → Nat → Int} (h : MO s m) (L : Nat → Nat) (V : Nat → Int) : MO (rwS s L V) (rwI m L V 6 144) := fun j hj => by
  unfold rwI rwS
  by_cases c : 77 ≤ j ∧ j < 83
  · rw [if_pos ⟨rfl, c⟩, if_pos c]
  · rw [if_neg (fun e => c e.2), if_neg c]
    by_cases d : 83 ≤ j ∧ j < 227
    · rw [if_pos ⟨rfl, d⟩, if_pos d]
    · rw [if_neg (fun e => d e.2), if_neg d]; exact h j hj
theorem MI.fr {s : Nat → Int} {m m2 : Nat → Nat → Int} (h : MI s m) (k : FR m m2) : MI s m2 :=
  h.congr (k.1 65 (by decide) (by decide) (by decide)) (k.1 66 (by decide) (by decide) (by decide)) (k.1 72 (by decide) (by decide) (by decide)) (k.1 76 (by decide) (by decide) (by decide)) (k.2 2 (by decide) (by decide) (by decide)) (k.2 3 (by decide) (by decide) (by decide)) (k.2 16 (by decide) (by decide) (by decide))
theorem RdL.rw {L : Nat → Nat} {V : Nat → Int} {m : Nat → Nat → Int} (h : RdL L V m) (a n : Nat) : RdL L V (rwI m L V a n) := ⟨fun k hk => by rw [rwI_off _ _ _ (by decide)]; exact h.1 k hk, fun k hk i hi => by rw [rwI_off _ _ _ (by decide)]; exact h.2 k hk i hi⟩
theorem sp_Mrows {w : List KD} {m : Nat → Nat → Int} (s : Nat → Int) (hV : VS s) (hI : MI s m) (B : Nat → Int) (z : Nat) (hz : z ≤ 400) (hB : ∀ j, j < z → 0 ≤ B j ∧ B j ≤ 255) (h6 : m 64 6 = (z : Int)) (h67 : ∀ j, j < z → m 67 j = B j) : Sp M_X10_rows 5 0 0 [rV 64] (WC ++ (WM ++ w), m) (fun r h => r = some (iV (vRows s B z)) ∧ ∃ m2, h = (WC ++ (WM ++ w), m2) ∧ MI (nxRows s B z) m2 ∧ EQR s B z m m2) := by
  refine Sp.ofG (ls := [rV 64, uV, uV, uV]) (by decide +kernel) rfl (Nat.le_of_ble_eq_true rfl) ?_
  have hC := pC_le hV
  have hN := hV.N
  have hT := hV.T
  have hSc := hV.Sc
  have eA : ∀ a, a ≠ 64 → a ≠ 68 → (flm (upm (upm (upm (upm (upm (upm m 64 0 0) 64 9 0) 64 10 (z : Int)) 64 6 0) 64 7 0) 64 8 (-1)) 68 0 6 0) a = m a := fun a h1 h2 => by rw [flm_off _ _ _ _ h2, upm_off _ _ h1, upm_off _ _ h1, upm_off _ _ h1, upm_off _ _ h1, upm_off _ _ h1, upm_off _ _ h1]
  have eB : ∀ j, (flm (upm (upm (upm (upm (upm (upm m 64 0 0) 64 9 0) 64 10 (z : Int)) 64 6 0) 64 7 0) 64 8 (-1)) 68 0 6 0) 64 j = if j = 8 then -1 else if j = 7 then 0 else if j = 6 then 0 else if j = 10 then (z : Int) else if j = 9 then 0 else if j = 0 then 0 else m 64 j := fun j => by
    rw [flm_off _ _ _ _ (by decide)]
    unfold upm
    simp only [true_and]
  have hIB : MI s (flm (upm (upm (upm (upm (upm (upm m 64 0 0) 64 9 0) 64 10 (z : Int)) 64 6 0) 64 7 0) 64 8 (-1)) 68 0 6 0) := hI.congr (eA _ (by decide) (by decide)) (eA _ (by decide) (by decide)) (eA _ (by decide) (by decide)) (eA _ (by decide) (by decide)) (by rw [eB]; rfl) (by rw [eB]; rfl) (by rw [eB]; rfl)
  have hEB : (∀ a, a < 64 → (flm (upm (upm (upm (upm (upm (upm m 64 0 0) 64 9 0) 64 10 (z : Int)) 64 6 0) 64 7 0) 64 8 (-1)) 68 0 6 0) a = m a) ∧ (flm (upm (upm (upm (upm (upm (upm m 64 0 0) 64 9 0) 64 10 (z : Int)) 64 6 0) 64 7 0) 64 8 (-1)) 68 0 6 0) 67 = m 67 ∧ (flm (upm (upm (upm (upm (upm (upm m 64 0 0) 64 9 0) 64 10 (z : Int)) 64 6 0) 64 7 0) 64 8 (-1)) 68 0 6 0) 83 = m 83 ∧ (flm (upm (upm (upm (upm (upm (upm m 64 0 0) 64 9 0) 64 10 (z : Int)) 64 6 0) 64 7 0) 64 8 (-1)) 68 0 6 0) 64 28 = m 64 28 ∧ (flm (upm (upm (upm (upm (upm (upm m 64 0 0) 64 9 0) 64 10 (z : Int)) 64 6 0) 64 7 0) 64 8 (-1)) 68 0 6 0) 64 6 = 0 := ⟨fun a ha => eA a (by omega) (by omega), eA _ (by decide) (by decide), eA _ (by decide) (by decide), by rw [eB]; rfl, by rw [eB]; rfl⟩
  have hSB : RS B z 0 (flm (upm (upm (upm (upm (upm (upm m 64 0 0) 64 9 0) 64 10 (z : Int)) 64 6 0) 64 7 0) 64 8 (-1)) 68 0 6 0) := ⟨by rw [eB]; rfl, by rw [eB]; rfl, fun j hj => by rw [eA _ (by decide) (by decide)]; exact h67 j hj⟩
  have hLB : RdL (fun _ => 0) (fun _ => 0) (flm (upm (upm (upm (upm (upm (upm m 64 0 0) 64 9 0) 64 10 (z : Int)) 64 6 0) 64 7 0) 64 8 (-1)) 68 0 6 0) := ⟨fun k hk => by rw [flm_in _ _ (by omega) hk]; rfl, fun k _ i hi => (Nat.not_lt_zero i hi).elim⟩
  have hB7 : (flm (upm (upm (upm (upm (upm (upm m 64 0 0) 64 9 0) 64 10 (z : Int)) 64 6 0) 64 7 0) 64 8 (-1)) 68 0 6 0) 64 7 = 0 := by rw [eB]; rfl
  have hB8 : (flm (upm (upm (upm (upm (upm (upm m 64 0 0) 64 9 0) 64 10 (z : Int)) 64 6 0) 64 7 0) 64 8 (-1)) 68 0 6 0) 64 8 = -1 := by rw [eB]; rfl
  have main : ∀ mB, MI s mB → ((∀ a, a < 64 → mB a = m a) ∧ mB 67 = m 67 ∧ mB 83 = m 83 ∧ mB 64 28 = m 64 28 ∧ mB 64 6 = 0) → RS B z 0 mB → RdL (fun _ => 0) (fun _ => 0) mB → mB 64 7 = 0 → mB 64 8 = -1 → ∀ u2 : PV, G M_X10_rows 5 0 0 56 [rV 64, iV 0, u2, uV] [] (WC ++ (WM ++ w), mB) (fun r h => r = some (iV (vRows s B z)) ∧ ∃ m2, h = (WC ++ (WM ++ w), m2) ∧ MI (nxRows s B z) m2 ∧ EQR s B z m m2) := by
    intro mB hIB hEB hSB hLB hB7 hB8 u2
    have K82 : ∀ (c : Nat) (L : Nat → Nat) (V : Nat → Int) m1, rdF s B z = .inr (c, L, V) → RdP (pT s) L V → FR mB m1 → m1 64 7 = 0 → m1 64 8 = -1 → RdL L V m1 → ∀ k : Nat, k ≤ 6 → ∀ u3 : PV, G M_X10_rows 5 0 0 82 [rV 64, iV (c : Int), iV (k : Int), u3] [] (WC ++ (WM ++ w), rwI m1 L V k (24 * k)) (fun r h => r = some (iV (vRows s B z)) ∧ ∃ m2, h = (WC ++ (WM ++ w), m2) ∧ MI (nxRows s B z) m2 ∧ EQR s B z m m2) := by
      intro c L V m1 hrd hP hF h7 h8 hRL
      refine loop_up 6 _ ?_
      intro k hk ihk u3
      by_cases hk6 : k < 6
      · skip
        have L3 : ∀ i : Nat, i ≤ 24 → G M_X10_rows 5 0 0 120 [rV 64, iV (c : Int), iV (k : Int), iV (i : Int)] [] (WC ++ (WM ++ w), rwI m1 L V (k + 1) (24 * k + i)) (fun r h => r = some (iV (vRows s B z)) ∧ ∃ m2, h = (WC ++ (WM ++ w), m2) ∧ MI (nxRows s B z) m2 ∧ EQR s B z m m2) := by
          refine loop_up (24) _ ?_
          intro i hi ih
          refine G_iload_n d_X10_rows_120 rfl ?_
          refine G_bipush d_X10_rows_121 (by decide) ?_
          refine G_icmp_ge 171 d_X10_rows_123 (by decide) (by omega) (by omega) (fun c123 => ?_) (fun c123 => ?_)
          · have hie : i = 24 := by omega
            subst hie
            refine G_iinc d_X10_rows_171 rfl (by decide) rfl ?_
            refine G_goto 82 d_X10_rows_174 (by decide) ?_
            exact ihk (by omega) _
          · refine G_aload_n d_X10_rows_126 rfl ?_
            refine G_getR (r := 65) (fl_X10_7.r) d_X10_rows_127 (wk_64 _) rfl rfl ?_
            refine G_bipush d_X10_rows_130 (by decide) ?_
            refine G_bipush d_X10_rows_132 (by decide) ?_
            refine G_iload_n d_X10_rows_134 rfl ?_
            refine G_imul d_X10_rows_135 ?_
            refine G_iadd d_X10_rows_136 ?_
            refine G_iload_n d_X10_rows_137 rfl ?_
            refine G_iadd d_X10_rows_138 ?_
            refine G_iload_n d_X10_rows_139 rfl ?_
            refine G_aload_n d_X10_rows_140 rfl ?_
            refine G_getR (r := 68) (fl_X10_48.r) d_X10_rows_141 (wk_64 _) rfl rfl ?_
            refine G_iload_n d_X10_rows_144 rfl ?_
            refine G_ialdj (k) d_X10_rows_145 (wk_68 _) (by omega) (by omega) (by decide) ?_
            have hR3 := hRL.rw (k + 1) (24 * k + i)
            rw [hR3.1 k (by omega)]
            have hLk := hP.1 k
            refine G_icmp_ge 163 d_X10_rows_146 (by decide) (by omega) (by omega) (fun c146 => ?_) (fun c146 => ?_)
            · refine G_iconst d_X10_rows_163 ?_
              refine G_iastj (83 + (24 * k + i)) d_X10_rows_164 (wk_65 _) (by omega) (by omega) (by decide) ?_
              refine G_iinc d_X10_rows_165 rfl (by decide) rfl ?_
              refine G_goto 120 d_X10_rows_168 (by decide) ?_
              rw [rwI_n (by omega) (hP.2.2 k (by omega) i (by omega) (by omega)).symm]
              exact ih (by omega)
            · refine G_aload_n d_X10_rows_149 rfl ?_
              refine G_getR (r := 69) (fl_X10_51.r) d_X10_rows_150 (wk_64 _) rfl rfl ?_
              refine G_bipush d_X10_rows_153 (by decide) ?_
              refine G_iload_n d_X10_rows_155 rfl ?_
              refine G_imul d_X10_rows_156 ?_
              refine G_iload_n d_X10_rows_157 rfl ?_
              refine G_iadd d_X10_rows_158 ?_
              refine G_ialdj (24 * k + i) d_X10_rows_159 (wk_69 _) (by omega) (by omega) (by decide) ?_
              rw [hR3.2 k (by omega) i (by omega)]
              refine G_goto 164 d_X10_rows_160 (by decide) ?_
              refine G_iastj (83 + (24 * k + i)) d_X10_rows_164 (wk_65 _) (by omega) (by omega) (by decide) ?_
              refine G_iinc d_X10_rows_165 rfl (by decide) rfl ?_
              refine G_goto 120 d_X10_rows_168 (by decide) ?_
              rw [rwI_n (by omega) rfl]
              exact ih (by omega)
        refine G_iload_n d_X10_rows_82 rfl ?_
        refine G_bipush d_X10_rows_83 (by decide) ?_
        refine G_icmp_ge 177 d_X10_rows_85 (by decide) (by omega) (by omega) (fun c85 => ?_) (fun c85 => ?_)
        · omega
        · refine G_aload_n d_X10_rows_88 rfl ?_
          refine G_getR (r := 65) (fl_X10_7.r) d_X10_rows_89 (wk_64 _) rfl rfl ?_
          refine G_bipush d_X10_rows_92 (by decide) ?_
          refine G_iload_n d_X10_rows_94 rfl ?_
          refine G_iadd d_X10_rows_95 ?_
          refine G_aload_n d_X10_rows_96 rfl ?_
          refine G_getR (r := 68) (fl_X10_48.r) d_X10_rows_97 (wk_64 _) rfl rfl ?_
          refine G_iload_n d_X10_rows_100 rfl ?_
          refine G_ialdj (k) d_X10_rows_101 (wk_68 _) (by omega) (by omega) (by decide) ?_
          have hR2 := hRL.rw k (24 * k)
          rw [hR2.1 k (by omega)]
          have hLk := hP.1 k
          refine G_if_ne 109 d_X10_rows_102 (by decide) (by omega) (fun c102 => ?_) (fun c102 => ?_)
          · refine G_aload_n d_X10_rows_109 rfl ?_
            refine G_getR (r := 68) (fl_X10_48.r) d_X10_rows_110 (wk_64 _) rfl rfl ?_
            refine G_iload_n d_X10_rows_113 rfl ?_
            refine G_ialdj (k) d_X10_rows_114 (wk_68 _) (by omega) (by omega) (by decide) ?_
            rw [hR2.1 k (by omega)]
            refine G_iconst d_X10_rows_115 ?_
            refine G_isub d_X10_rows_116 ?_
            refine G_iastj (77 + k) d_X10_rows_117 (wk_65 _) (by omega) (by omega) (by decide) ?_
            refine G_iconst d_X10_rows_118 ?_
            refine G_istore_n d_X10_rows_119 (by decide) rfl ?_
            rw [rwI_a (by omega) (by omega)]
            exact L3 0 (by omega)
          · refine G_iconst d_X10_rows_105 ?_
            refine G_goto 117 d_X10_rows_106 (by decide) ?_
            refine G_iastj (77 + k) d_X10_rows_117 (wk_65 _) (by omega) (by omega) (by decide) ?_
            refine G_iconst d_X10_rows_118 ?_
            refine G_istore_n d_X10_rows_119 (by decide) rfl ?_
            rw [rwI_a (by omega) (by omega)]
            exact L3 0 (by omega)
      · skip
        refine G_iload_n d_X10_rows_82 rfl ?_
        refine G_bipush d_X10_rows_83 (by decide) ?_
        refine G_icmp_ge 177 d_X10_rows_85 (by decide) (by omega) (by omega) (fun c85 => ?_) (fun c85 => ?_)
        · have hke : k = 6 := by omega
          subst hke
          refine G_aload_n d_X10_rows_177 rfl ?_
          refine G_iconst d_X10_rows_178 ?_
          refine G_putZ fl_X10_32 d_X10_rows_179 (wk_64 _) rfl (by omega) ?_
          refine G_iload_n d_X10_rows_182 rfl ?_
          refine G_iret (mc := 0) (ms := 0) (st := []) d_X10_rows_183 rfl ?_
          have hnx : nxRows s B z = rwS s L V := by unfold nxRows; rw [hrd]
          have hI1 := hIB.fr hF
          refine ⟨by unfold vRows; rw [hrd], _, rfl, by
            rw [hnx]
            exact (KQ_mut hV hI1 (EQM.off (fun a h1 h2 _ _ _ _ _ => by rw [upm_off _ _ h1, rwI_off _ _ _ h2]) (fun j h2 _ _ => by rw [upm_ne _ _ (fun _ => h2), rwI_off _ _ _ (by decide)])) (fun i hi => by rw [upm_off _ _ (by decide)]; exact MO_rows hI1.1 L V i hi) (AP_rows s L V) (by unfold rwS; rw [if_neg (by omega), if_neg (by omega)]) (by rw [upm_off _ _ (by decide), rwI_off _ _ _ (by decide)]) (by rw [upm_off _ _ (by decide), rwI_off _ _ _ (by decide)]) (by rw [upm_ne _ _ (fun _ => by decide), rwI_off _ _ _ (by decide)]) (by rw [upm_ne _ _ (fun _ => by decide), rwI_off _ _ _ (by decide)]) (Or.inl (upm_same _ _ _ _))).2, ?_⟩
          have e : ∀ a, a ≠ 64 → a ≠ 65 → a ≠ 68 → a ≠ 69 → upm (rwI m1 L V 6 (24 * 6)) 64 2 0 a = mB a := fun a h1 h2 h3 h4 => by rw [upm_off _ _ h1, rwI_off _ _ _ h2, hF.1 a h1 h3 h4]
          have e2 : ∀ j, j ≠ 2 → upm (rwI m1 L V 6 (24 * 6)) 64 2 0 64 j = m1 64 j := fun j h1 => by rw [upm_ne _ _ (fun _ => h1), rwI_off _ _ _ (by decide)]
          refine ⟨fun a ha => by rw [e a (by omega) (by omega) (by omega) (by omega)]; exact hEB.1 a ha, by rw [e 67 (by decide) (by decide) (by decide) (by decide)]; exact hEB.2.1, by rw [e 83 (by decide) (by decide) (by decide) (by decide)]; exact hEB.2.2.1, by rw [e2 28 (by decide), hF.2 28 (by decide) (by decide) (by decide)]; exact hEB.2.2.2.1, by rw [e2 6 (by decide), hF.2 6 (by decide) (by decide) (by decide)]; exact hEB.2.2.2.2, by rw [e2 7 (by decide), h7]; unfold fkRows; rw [hrd], by rw [e2 8 (by decide), h8]; unfold fpRows; rw [hrd]⟩
        · omega
    have K56 : ∀ (f p c : Nat) (L : Nat → Nat) (V : Nat → Int) m1 (u2 : PV), 400 ≤ p + f → p ≤ 402 → RdP (pT s) L V → FR mB m1 → m1 64 7 = 0 → m1 64 8 = -1 → RS B z p m1 → RdL L V m1 → rdF s B z = lsF B z (pN s) (pT s) f p c L V → G M_X10_rows 5 0 0 56 [rV 64, iV (c : Int), u2, uV] [] (WC ++ (WM ++ w), m1) (fun r h => r = some (iV (vRows s B z)) ∧ ∃ m2, h = (WC ++ (WM ++ w), m2) ∧ MI (nxRows s B z) m2 ∧ EQR s B z m m2) := by
      intro f
      induction f with
      | zero =>
        intro p c L V m1 u2 hpf hp hP hF h7 h8 h1 hRL hrd
        have hge := skF_ge B z p
        have hbm : hbF B z (skF B z p) = -1 := hbF_out (by omega)
        refine G_aload_n d_X10_rows_56 rfl ?_
        refine G_callV0 cl_X10_185 rfl d_X10_rows_57 (wk_64 _) (Nat.le_of_ble_eq_true rfl) (by decide) (sp_MbehindBlanks B z hz hB p (by omega) h1) ?_
        rintro _ _ ⟨rfl, m2, rfl, ha2, h2⟩
        refine G_iconst d_X10_rows_60 ?_
        refine G_icmp_eq 80 d_X10_rows_61 (by decide) (by omega) (by omega) (fun c61 => ?_) (fun c61 => ?_)
        · refine G_iconst d_X10_rows_80 ?_
          refine G_istore_n d_X10_rows_81 (by decide) rfl ?_
          have h9 := K82 c L V m2 hrd hP (hF.trans ha2.fr) (ha2.fk.1.trans h7) (ha2.fk.2.trans h8) (ha2.rl hRL) 0 (by omega) uV
          rw [rwI_0] at h9
          exact G.fg h9 (by
            repeat (first | exact trivial | refine wkL_cons (Or.inl rfl) ?_ | refine wkL_cons (Or.inr rfl) ?_))
        · omega
      | succ f ih =>
        intro p c L V m1 u2 hpf hp hP hF h7 h8 h1 hRL hrd
        have hge := skF_ge B z p
        have hbr := hbF_rng hB (skF B z p)
        unfold lsF at hrd
        refine G_aload_n d_X10_rows_56 rfl ?_
        refine G_callV0 cl_X10_185 rfl d_X10_rows_57 (wk_64 _) (Nat.le_of_ble_eq_true rfl) (by decide) (sp_MbehindBlanks B z hz hB p (by omega) h1) ?_
        rintro _ _ ⟨rfl, m2, rfl, ha2, h2⟩
        refine G_iconst d_X10_rows_60 ?_
        refine G_icmp_eq 80 d_X10_rows_61 (by decide) (by omega) (by omega) (fun c61 => ?_) (fun c61 => ?_)
        · have hqz : z ≤ skF B z p := by
            by_cases c : z ≤ skF B z p
            · exact c
            · have h5 := hbF_in (B := B) (show skF B z p < z by omega)
              have h6 := hB (skF B z p) (by omega)
              omega
          rw [if_pos hqz] at hrd
          refine G_iconst d_X10_rows_80 ?_
          refine G_istore_n d_X10_rows_81 (by decide) rfl ?_
          have h9 := K82 c L V m2 hrd hP (hF.trans ha2.fr) (ha2.fk.1.trans h7) (ha2.fk.2.trans h8) (ha2.rl hRL) 0 (by omega) uV
          rw [rwI_0] at h9
          exact G.fg h9 (by
            repeat (first | exact trivial | refine wkL_cons (Or.inl rfl) ?_ | refine wkL_cons (Or.inr rfl) ?_))
        · refine G_aload_n d_X10_rows_64 rfl ?_
          have hqz : ¬ z ≤ skF B z p := fun h => by have := hbF_out (B := B) h; omega
          rw [if_neg hqz] at hrd
          have hF2 := hF.trans ha2.fr
          have hO2 : MO s m2 := hIB.1.fr hF2
          have hk2 : m2 64 7 = 0 ∧ m2 64 8 = -1 := ⟨ha2.fk.1.trans h7, ha2.fk.2.trans h8⟩
          have h9 := sp_MreadLine (w := w) s hV hO2 B z hz hB (skF B z p) (by omega) h2 L V hP.1 (ha2.rl hRL)
          rw [skF_id] at h9
          have hir := isRd_rng (lnF B z (pN s) (pT s) (skF B z p) L V)
          refine G_callV0 cl_X10_198 rfl d_X10_rows_65 (wk_64 _) (Nat.le_of_ble_eq_true rfl) (by decide) (h9) ?_
          rintro _ _ ⟨rfl, m3, rfl, hF3, hl3, hr3⟩
          refine G_if_ne 73 d_X10_rows_68 (by decide) (by omega) (fun c68 => ?_) (fun c68 => ?_)
          · refine G_iload_n d_X10_rows_73 rfl ?_
            refine G_iconst d_X10_rows_74 ?_
            refine G_iadd d_X10_rows_75 ?_
            refine G_istore_n d_X10_rows_76 (by decide) rfl ?_
            refine G_goto 56 d_X10_rows_77 (by decide) ?_
            cases hl : lnF B z (pN s) (pT s) (skF B z p) L V with
            | inl e => rw [hl] at c68; exact absurd rfl c68
            | inr t =>
              obtain ⟨p2, L2, V2⟩ := t
              rw [hl] at hrd
              simp only at hrd
              obtain ⟨g1, g2, g3, g4⟩ := hr3 _ _ _ hl
              have hok := lnF_ok (by omega) hP hl
              exact ih p2 (c + 1) L2 V2 m3 _ (by omega) (by have := lnF_le hl; omega) hok.1 (hF2.trans hF3) (g3.trans hk2.1) (g4.trans hk2.2) g1 g2 hrd
          · refine G_iconst d_X10_rows_71 ?_
            refine G_iret (mc := 0) (ms := 0) (st := []) d_X10_rows_72 rfl ?_
            cases hl : lnF B z (pN s) (pT s) (skF B z p) L V with
            | inr t => rw [hl] at c68; exact absurd c68 (show ¬ (1 : Int) = 0 by decide)
            | inl e =>
              rw [hl] at hrd
              simp only at hrd
              obtain ⟨g1, g2⟩ := hl3 e hl
              have hF4 := hF2.trans hF3
              have e1 : ∀ a, a ≠ 64 → a ≠ 68 → a ≠ 69 → m3 a = mB a := hF4.1
              refine ⟨by unfold vRows; rw [hrd], m3, rfl, ?_, ?_⟩
              · have hnx : nxRows s B z = s := by unfold nxRows; rw [hrd]
                rw [hnx]
                exact hIB.fr hF4
              · exact ⟨fun a ha => by rw [e1 a (by omega) (by omega) (by omega)]; exact hEB.1 a ha, by rw [e1 67 (by decide) (by decide) (by decide)]; exact hEB.2.1, by rw [e1 83 (by decide) (by decide) (by decide)]; exact hEB.2.2.1, by rw [hF4.2 28 (by decide) (by decide) (by decide)]; exact hEB.2.2.2.1, by rw [hF4.2 6 (by decide) (by decide) (by decide)]; exact hEB.2.2.2.2, by rw [g1]; unfold fkRows; rw [hrd], by rw [g2]; unfold fpRows; rw [hrd]⟩
    exact K56 400 0 0 _ _ mB u2 (by omega) (by omega) ⟨fun _ => Nat.zero_le _, fun _ => ⟨by decide, show (0 : Int) < _ by omega⟩, fun _ _ _ _ _ => rfl⟩ (FR.refl mB) hB7 hB8 hSB hLB rfl
  have L : ∀ k : Nat, k ≤ 6 → G M_X10_rows 5 0 0 37 [rV 64, iV 0, iV (k : Int), uV] [] (WC ++ (WM ++ w), flm (upm (upm (upm (upm (upm (upm m 64 0 0) 64 9 0) 64 10 (z : Int)) 64 6 0) 64 7 0) 64 8 (-1)) 68 0 k 0) (fun r h => r = some (iV (vRows s B z)) ∧ ∃ m2, h = (WC ++ (WM ++ w), m2) ∧ MI (nxRows s B z) m2 ∧ EQR s B z m m2) := by
    refine loop_up (6) _ ?_
    intro k hk ih
    refine G_iload_n d_X10_rows_37 rfl ?_
    refine G_bipush d_X10_rows_38 (by decide) ?_
    refine G_icmp_ge 56 d_X10_rows_40 (by decide) (by omega) (by omega) (fun c40 => ?_) (fun c40 => ?_)
    · have hke : k = 6 := by omega
      subst hke
      exact main _ hIB hEB hSB hLB hB7 hB8 _
    · refine G_aload_n d_X10_rows_43 rfl ?_
      refine G_getR (r := 68) (fl_X10_48.r) d_X10_rows_44 (wk_64 _) rfl rfl ?_
      refine G_iload_n d_X10_rows_47 rfl ?_
      refine G_iconst d_X10_rows_48 ?_
      refine G_iastj (k) d_X10_rows_49 (wk_68 _) (by omega) (by omega) (by decide) ?_
      refine G_iinc d_X10_rows_50 rfl (by decide) rfl ?_
      refine G_goto 37 d_X10_rows_53 (by decide) ?_
      rw [flm_step _ _ _ _ _ (by omega)]
      exact ih (by omega)
  refine G_aload_n d_X10_rows_0 rfl ?_
  refine G_iconst d_X10_rows_1 ?_
  refine G_putII fl_X10_1 d_X10_rows_2 (wk_64 _) rfl ?_
  refine G_aload_n d_X10_rows_5 rfl ?_
  refine G_iconst d_X10_rows_6 ?_
  refine G_putII fl_X10_173 d_X10_rows_7 (wk_64 _) rfl ?_
  refine G_aload_n d_X10_rows_10 rfl ?_
  refine G_aload_n d_X10_rows_11 rfl ?_
  refine G_getIe (v := (z : Int)) (fl_X10_166.r) d_X10_rows_12 (wk_64 _) rfl ((by rw [upm_ne _ _ (fun _ => by decide), upm_ne _ _ (fun _ => by decide)]; exact h6)) ?_
  refine G_putII fl_X10_176 d_X10_rows_15 (wk_64 _) rfl ?_
  refine G_aload_n d_X10_rows_18 rfl ?_
  refine G_iconst d_X10_rows_19 ?_
  refine G_putII fl_X10_166 d_X10_rows_20 (wk_64 _) rfl ?_
  refine G_aload_n d_X10_rows_23 rfl ?_
  refine G_iconst d_X10_rows_24 ?_
  refine G_putII fl_X10_182 d_X10_rows_25 (wk_64 _) rfl ?_
  refine G_aload_n d_X10_rows_28 rfl ?_
  refine G_iconst d_X10_rows_29 ?_
  refine G_putII fl_X10_45 d_X10_rows_30 (wk_64 _) rfl ?_
  refine G_iconst d_X10_rows_33 ?_
  refine G_istore_n d_X10_rows_34 (by decide) rfl ?_
  refine G_iconst d_X10_rows_35 ?_
  refine G_istore_n d_X10_rows_36 (by decide) rfl ?_
  have h9 := L 0 (by omega)
  rw [flm_nil] at h9
  exact h9
