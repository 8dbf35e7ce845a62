/-- what a path is turned by t steps of one counter -/
def pSum (s : Nat → Int) (p j t n : Nat) : Int := sumN (fun k => pCh s p k * ((t : Int) * pS s k j)) n
def pFol (s : Nat → Int) (j t : Nat) : Int := if s 3 = 0 then (if pChief s = -1 then 0 else pSum s (pChief s).toNat j t (pN s)) else (t : Int) * pS s (pN s) j
def stR (s : Nat → Int) (p j t : Nat) : Nat := ((pSum s p j t (pN s) - pFol s j t) % (pT s : Int)).toNat
def stC (s : Nat → Int) (p j n r : Nat) : Int := ((cntB (fun t => stR s p j t == r) n : Nat) : Int)
def stpB (s : Nat → Int) (p j : Nat) : Bool := allN (fun a => Bf (pT s) (stC s p j (pL s j)) a == 0) (pT s)
def setN (s : Nat → Int) (p : Nat) : Nat → Int
  | 0 => 0
  | j + 1 => setN s p j + (if stpB s p j = true then 2 ^ j else 0)
def vStopped (s : Nat → Int) (p : Int) : Int := if isPth s p then setN s p.toNat 4 else -1
theorem pSum_rng {s : Nat → Int} (h : VS s) (p j t n : Nat) (hj : j < 4) (ht : t ≤ 12) (hn : n ≤ 5) : -20000 ≤ pSum s p j t n ∧ pSum s p j t n ≤ 20000 := by
  have h1 := sumN_bnd (f := fun k => pCh s p k * ((t : Int) * pS s k j)) (B := 3456) (n := n) (fun k hk => by
    have h2 := pCh_rng h p k
    have h3 := h.St (4 * k + j) (by omega)
    have h4 := absb (x := (t : Int)) (y := pS s k j) (A := 12) (B := 48) (by omega) (by
      unfold pS
      rw [show 53 + 4 * k + j = 53 + (4 * k + j) by omega]
      omega)
    have h5 := absb (x := pCh s p k) (y := (t : Int) * pS s k j) (A := 6) (B := 576) (by omega) (by omega)
    omega)
  unfold pSum
  omega
theorem pS_rng {s : Nat → Int} (h : VS s) (k j : Nat) (hk : k < 6) (hj : j < 4) : 0 ≤ pS s k j ∧ pS s k j < 48 := by
  have h3 := h.St (4 * k + j) (by omega)
  unfold pS
  rw [show 53 + 4 * k + j = 53 + (4 * k + j) by omega]
  omega
theorem pFol_rng {s : Nat → Int} (h : VS s) (j t : Nat) (hj : j < 4) (ht : t ≤ 12) : -20000 ≤ pFol s j t ∧ pFol s j t ≤ 20000 := by
  have hN := h.N
  unfold pFol
  by_cases h3 : s 3 = 0
  · rw [if_pos h3]
    by_cases hc : pChief s = -1
    · rw [if_pos hc]; omega
    · rw [if_neg hc]; exact pSum_rng h _ j t _ hj ht (by omega)
  · rw [if_neg h3]
    have h4 := pS_rng h (pN s) j (by omega) hj
    have h5 := absb (x := (t : Int)) (y := pS s (pN s) j) (A := 12) (B := 48) (by omega) (by omega)
    omega
theorem stR_lt {s : Nat → Int} (h : VS s) (p j t : Nat) : stR s p j t < pT s := by
  have hT := h.T
  have h1 := Int.emod_nonneg (pSum s p j t (pN s) - pFol s j t) (show ((pT s : Nat) : Int) ≠ 0 by omega)
  have h2 := Int.emod_lt_of_pos (pSum s p j t (pN s) - pFol s j t) (show (0 : Int) < (pT s : Nat) by omega)
  unfold stR
  omega
theorem stR_eq {s : Nat → Int} (h : VS s) (p j t : Nat) : (pSum s p j t (pN s) - pFol s j t) % (pT s : Int) = ((stR s p j t : Nat) : Int) := by
  have hT := h.T
  have h1 := Int.emod_nonneg (pSum s p j t (pN s) - pFol s j t) (show ((pT s : Nat) : Int) ≠ 0 by omega)
  unfold stR
  omega
theorem CNg_step {R : Nat → Nat} {t : Nat} {m : Nat → Nat → Int} (h : CN (fun r => ((cntB (fun t => R t == r) t : Nat) : Int)) m) (hr : R t < 48) : CN (fun r => ((cntB (fun t => R t == r) (t + 1) : Nat) : Int)) (upm m 71 (R t) (m 71 (R t) + 1)) := fun r hr2 => by
  show _ = ((cntB (fun t => R t == r) (t + 1) : Nat) : Int)
  by_cases e : r = R t
  · subst e
    rw [upm_same, cntB_t (by simp), h _ hr2]
    exact (Int.natCast_add _ 1).symm
  · rw [upm_ne _ _ (fun _ => e), cntB_f (by simpa using fun h => e h.symm)]
    exact h r hr2
theorem sp_MchgC {w : List KD} {m : Nat → Nat → Int} (s : Nat → Int) (hV : VS s) (hO : MO s m) (hP : MP s m) (x : Int) (hx : 0 ≤ x ∧ x < (pC s : Int)) (k : Nat) (hk : k < pN s) : Sp M_X10_changeOf 1 0 0 [rV 64, iV x, iV (k : Int)] (WC ++ (WM ++ w), m) (fun r h => r = some (iV (pCh s x.toNat k)) ∧ h = (WC ++ (WM ++ w), m)) := by
  obtain ⟨p, rfl⟩ : ∃ n : Nat, x = (n : Int) := ⟨x.toNat, by omega⟩
  exact sp_Mchg s hV hO hP p k (by omega) hk
theorem stC_rng (s : Nat → Int) (p j n r : Nat) : 0 ≤ stC s p j n r ∧ stC s p j n r ≤ n := by
  have := cntB_le (fun t => stR s p j t == r) n
  unfold stC
  omega
theorem sp_MisStoppedBy {w : List KD} {m : Nat → Nat → Int} (s : Nat → Int) (hV : VS s) (hI : MI s m) (p j : Nat) (hp : p < pC s) (hj : j < 4) : Sp M_X10_isStoppedBy 2 0 0 [rV 64, iV (p : Int), iV (pChief s), iV (j : Int)] (WC ++ (WM ++ w), m) (fun r h => r = some (iV (if stpB s p j = true then 1 else 0)) ∧ ∃ m2, h = (WC ++ (WM ++ w), m2) ∧ KQ s m m2) := by
  refine Sp.ofG (ls := [rV 64, iV (p : Int), iV (pChief s), iV (j : Int), uV, uV, uV, uV, uV]) (by decide +kernel) rfl (Nat.le_of_ble_eq_true rfl) ?_
  have hC := pC_le hV
  have hN := hV.N
  have hT := hV.T
  have hSc := hV.Sc
  have hcr := pChief_rng s
  have hL := hV.L j hj
  have L1 : ∀ t : Nat, t ≤ pL s j → ∀ m1, KQ s m m1 → CN (stC s p j t) m1 → G M_X10_isStoppedBy 2 0 0 27 [rV 64, iV (p : Int), iV (pChief s), iV (j : Int), iV (t : Int), uV, uV, uV, uV] [] (WC ++ (WM ++ w), m1) (fun r h => r = some (iV (if stpB s p j = true then 1 else 0)) ∧ ∃ m2, h = (WC ++ (WM ++ w), m2) ∧ KQ s m m2) := by
    refine loop_up (pL s j) _ ?_
    intro t ht ih_t m1 h1 hc
    have L2 : ∀ k : Nat, k ≤ pN s → t < pL s j → G M_X10_isStoppedBy 2 0 0 46 [rV 64, iV (p : Int), iV (pChief s), iV (j : Int), iV (t : Int), iV (pSum s p j t k), iV (if pChief s = -1 then 0 else pSum s (pChief s).toNat j t k), iV (k : Int), uV] [] (WC ++ (WM ++ w), m1) (fun r h => r = some (iV (if stpB s p j = true then 1 else 0)) ∧ ∃ m2, h = (WC ++ (WM ++ w), m2) ∧ KQ s m m2) := by
      refine loop_up (pN s) _ ?_
      intro k hk ih htl
      refine G_iload d_X10_isStoppedBy_46 rfl ?_
      refine G_aload_n d_X10_isStoppedBy_48 rfl ?_
      refine G_callV0 cl_X10_11 rfl d_X10_isStoppedBy_49 (wk_64 _) (Nat.le_of_ble_eq_true rfl) (by decide) (sp_Mn s hV h1.2.1) ?_
      rintro _ _ ⟨rfl, rfl⟩
      refine G_icmp_ge 108 d_X10_isStoppedBy_52 (by decide) (by omega) (by omega) (fun c52 => ?_) (fun c52 => ?_)
      · have hke : k = pN s := by omega
        subst hke
        have hsr := pSum_rng hV p j t (pN s) hj (by omega) (by omega)
        have hfr := pFol_rng hV j t hj (by omega)
        have hsl := stR_lt hV p j t
        refine G_aload_n d_X10_isStoppedBy_108 rfl ?_
        refine G_iload d_X10_isStoppedBy_109 rfl ?_
        refine G_aload_n d_X10_isStoppedBy_111 rfl ?_
        refine G_callV0 cl_X10_155 rfl d_X10_isStoppedBy_112 (wk_64 _) (Nat.le_of_ble_eq_true rfl) (by decide) (sp_Mfollows s hV h1.2.1) ?_
        rintro _ _ ⟨rfl, rfl⟩
        by_cases hf : s 3 = 0
        · rw [if_pos hf]
          refine G_if_eq 123 d_X10_isStoppedBy_115 (by decide) (by decide) (fun hd => absurd hd (by decide)) (fun _ => ?_)
          have hpf : (if pChief s = -1 then 0 else pSum s (pChief s).toNat j t (pN s)) = pFol s j t := by unfold pFol; rw [if_pos hf]
          refine G_iload d_X10_isStoppedBy_118 rfl ?_
          refine G_goto 135 d_X10_isStoppedBy_120 (by decide) ?_
          refine G_isub d_X10_isStoppedBy_135 ?_
          refine G_callV1 cl_X10_210 rfl d_X10_isStoppedBy_136 (wk_64 _) (Nat.le_of_ble_eq_true rfl) (by decide) (sp_Mrest s hV h1.2.1 (v := pSum s p j t (pN s) - (if pChief s = -1 then 0 else pSum s (pChief s).toNat j t (pN s))) (by rw [hpf]; omega)) ?_
          rintro _ _ ⟨rfl, rfl⟩
          rw [hpf, stR_eq hV]
          refine G_istore d_X10_isStoppedBy_139 (by decide) rfl ?_
          refine G_aload_n d_X10_isStoppedBy_141 rfl ?_
          refine G_getR (r := 71) (fl_X10_57.r) d_X10_isStoppedBy_142 (wk_64 _) rfl rfl ?_
          refine G_iload d_X10_isStoppedBy_145 rfl ?_
          refine G_aload_n d_X10_isStoppedBy_147 rfl ?_
          refine G_getR (r := 71) (fl_X10_57.r) d_X10_isStoppedBy_148 (wk_64 _) rfl rfl ?_
          refine G_iload d_X10_isStoppedBy_151 rfl ?_
          refine G_ialdj (stR s p j t) d_X10_isStoppedBy_153 (wk_71 _) (by omega) (by omega) (by decide) ?_
          refine G_iconst d_X10_isStoppedBy_154 ?_
          refine G_iadd d_X10_isStoppedBy_155 ?_
          refine G_iastj (stR s p j t) d_X10_isStoppedBy_156 (wk_71 _) (by omega) (by omega) (by decide) ?_
          refine G_iinc d_X10_isStoppedBy_157 rfl (by decide) rfl ?_
          refine G_goto 27 d_X10_isStoppedBy_160 (by decide) ?_
          refine G.fg (ih_t (by omega) _ (h1.up rfl) (CNg_step (R := stR s p j) (t := t) hc (show stR s p j t < 48 by omega))) ?_
          repeat (first | exact trivial | refine wkL_cons (Or.inl rfl) ?_ | refine wkL_cons (Or.inr rfl) ?_)
        · rw [if_neg hf]
          refine G_if_eq 123 d_X10_isStoppedBy_115 (by decide) (by decide) (fun _ => ?_) (fun hd => absurd hd (by decide))
          have hpf : (t : Int) * pS s (pN s) j = pFol s j t := by unfold pFol; rw [if_neg hf]
          refine G_iload d_X10_isStoppedBy_123 rfl ?_
          refine G_aload_n d_X10_isStoppedBy_125 rfl ?_
          refine G_aload_n d_X10_isStoppedBy_126 rfl ?_
          refine G_callV0 cl_X10_11 rfl d_X10_isStoppedBy_127 (wk_64 _) (Nat.le_of_ble_eq_true rfl) (by decide) (sp_Mn s hV h1.2.1) ?_
          rintro _ _ ⟨rfl, rfl⟩
          refine G_iload_n d_X10_isStoppedBy_130 rfl ?_
          refine G_callV2 cl_X10_207 rfl d_X10_isStoppedBy_131 (wk_64 _) (Nat.le_of_ble_eq_true rfl) (by decide) (sp_MstepOf s hV h1.2.1 (pN s) j (by omega) hj) ?_
          rintro _ _ ⟨rfl, rfl⟩
          refine G_imul d_X10_isStoppedBy_134 ?_
          refine G_isub d_X10_isStoppedBy_135 ?_
          refine G_callV1 cl_X10_210 rfl d_X10_isStoppedBy_136 (wk_64 _) (Nat.le_of_ble_eq_true rfl) (by decide) (sp_Mrest s hV h1.2.1 (v := pSum s p j t (pN s) - (t : Int) * pS s (pN s) j) (by rw [hpf]; omega)) ?_
          rintro _ _ ⟨rfl, rfl⟩
          rw [hpf, stR_eq hV]
          refine G_istore d_X10_isStoppedBy_139 (by decide) rfl ?_
          refine G_aload_n d_X10_isStoppedBy_141 rfl ?_
          refine G_getR (r := 71) (fl_X10_57.r) d_X10_isStoppedBy_142 (wk_64 _) rfl rfl ?_
          refine G_iload d_X10_isStoppedBy_145 rfl ?_
          refine G_aload_n d_X10_isStoppedBy_147 rfl ?_
          refine G_getR (r := 71) (fl_X10_57.r) d_X10_isStoppedBy_148 (wk_64 _) rfl rfl ?_
          refine G_iload d_X10_isStoppedBy_151 rfl ?_
          refine G_ialdj (stR s p j t) d_X10_isStoppedBy_153 (wk_71 _) (by omega) (by omega) (by decide) ?_
          refine G_iconst d_X10_isStoppedBy_154 ?_
          refine G_iadd d_X10_isStoppedBy_155 ?_
          refine G_iastj (stR s p j t) d_X10_isStoppedBy_156 (wk_71 _) (by omega) (by omega) (by decide) ?_
          refine G_iinc d_X10_isStoppedBy_157 rfl (by decide) rfl ?_
          refine G_goto 27 d_X10_isStoppedBy_160 (by decide) ?_
          refine G.fg (ih_t (by omega) _ (h1.up rfl) (CNg_step (R := stR s p j) (t := t) hc (show stR s p j t < 48 by omega))) ?_
          repeat (first | exact trivial | refine wkL_cons (Or.inl rfl) ?_ | refine wkL_cons (Or.inr rfl) ?_)
      · refine G_iload d_X10_isStoppedBy_55 rfl ?_
        refine G_aload_n d_X10_isStoppedBy_57 rfl ?_
        refine G_iload d_X10_isStoppedBy_58 rfl ?_
        refine G_iload_n d_X10_isStoppedBy_60 rfl ?_
        refine G_callV2 cl_X10_207 rfl d_X10_isStoppedBy_61 (wk_64 _) (Nat.le_of_ble_eq_true rfl) (by decide) (sp_MstepOf s hV h1.2.1 k j (by omega) hj) ?_
        rintro _ _ ⟨rfl, rfl⟩
        refine G_imul d_X10_isStoppedBy_64 ?_
        refine G_istore d_X10_isStoppedBy_65 (by decide) rfl ?_
        refine G_iload d_X10_isStoppedBy_67 rfl ?_
        refine G_aload_n d_X10_isStoppedBy_69 rfl ?_
        refine G_iload_n d_X10_isStoppedBy_70 rfl ?_
        refine G_iload d_X10_isStoppedBy_71 rfl ?_
        refine G_callV2 cl_X10_108 rfl d_X10_isStoppedBy_73 (wk_64 _) (Nat.le_of_ble_eq_true rfl) (by decide) (sp_Mchg s hV h1.2.1 h1.2.2.1 p k hp (by omega)) ?_
        rintro _ _ ⟨rfl, rfl⟩
        refine G_iload d_X10_isStoppedBy_76 rfl ?_
        refine G_imul d_X10_isStoppedBy_78 ?_
        refine G_iadd d_X10_isStoppedBy_79 ?_
        refine G_istore d_X10_isStoppedBy_80 (by decide) rfl ?_
        refine G_iload_n d_X10_isStoppedBy_82 rfl ?_
        refine G_iconst d_X10_isStoppedBy_83 ?_
        have hcr := pChief_rng s
        refine G_icmp_eq 102 d_X10_isStoppedBy_84 (by decide) (by omega) (by omega) (fun c84 => ?_) (fun c84 => ?_)
        · refine G_iinc d_X10_isStoppedBy_102 rfl (by decide) rfl ?_
          refine G_goto 46 d_X10_isStoppedBy_105 (by decide) ?_
          rw [if_pos c84] at ih ⊢
          exact G.fg (ih (by omega) htl) (by
            repeat (first | exact trivial | refine wkL_cons (Or.inl rfl) ?_ | refine wkL_cons (Or.inr rfl) ?_))
        · rw [if_neg c84]
          refine G_iload d_X10_isStoppedBy_87 rfl ?_
          refine G_aload_n d_X10_isStoppedBy_89 rfl ?_
          refine G_iload_n d_X10_isStoppedBy_90 rfl ?_
          refine G_iload d_X10_isStoppedBy_91 rfl ?_
          refine G_callV2 cl_X10_108 rfl d_X10_isStoppedBy_93 (wk_64 _) (Nat.le_of_ble_eq_true rfl) (by decide) (sp_MchgC s hV h1.2.1 h1.2.2.1 (pChief s) (by omega) k (by omega)) ?_
          rintro _ _ ⟨rfl, rfl⟩
          refine G_iload d_X10_isStoppedBy_96 rfl ?_
          refine G_imul d_X10_isStoppedBy_98 ?_
          refine G_iadd d_X10_isStoppedBy_99 ?_
          refine G_istore d_X10_isStoppedBy_100 (by decide) rfl ?_
          refine G_iinc d_X10_isStoppedBy_102 rfl (by decide) rfl ?_
          refine G_goto 46 d_X10_isStoppedBy_105 (by decide) ?_
          rw [if_neg c84] at ih
          exact G.fg (ih (by omega) htl) (by
            repeat (first | exact trivial | refine wkL_cons (Or.inl rfl) ?_ | refine wkL_cons (Or.inr rfl) ?_))
    refine G_iload d_X10_isStoppedBy_27 rfl ?_
    refine G_aload_n d_X10_isStoppedBy_29 rfl ?_
    refine G_iload_n d_X10_isStoppedBy_30 rfl ?_
    refine G_callV1 cl_X10_136 rfl d_X10_isStoppedBy_31 (wk_64 _) (Nat.le_of_ble_eq_true rfl) (by decide) (sp_MlengthOf s hV h1.2.1 j hj) ?_
    rintro _ _ ⟨rfl, rfl⟩
    refine G_icmp_ge 163 d_X10_isStoppedBy_34 (by decide) (by omega) (by omega) (fun c34 => ?_) (fun c34 => ?_)
    · refine G_aload_n d_X10_isStoppedBy_163 rfl ?_
      refine G_callV0 cl_X10_227 rfl d_X10_isStoppedBy_164 (wk_64 _) (Nat.le_of_ble_eq_true rfl) (by decide) (sp_MisNothing s hV h1.2.1 (stC s p j t) h1.2.2.2.1 hc (fun r _ => by have := stC_rng s p j t r; omega)) ?_
      rintro _ _ ⟨rfl, m3, rfl, hm3⟩
      refine G_zret (mc := 0) (ms := 0) (st := []) d_X10_isStoppedBy_167 rfl (by split <;> omega) ?_
      have hte : t = pL s j := by omega
      subst hte
      exact ⟨rfl, m3, rfl, h1.scr1 73 rfl hm3⟩
    · refine G_iconst d_X10_isStoppedBy_37 ?_
      refine G_istore d_X10_isStoppedBy_38 (by decide) rfl ?_
      refine G_iconst d_X10_isStoppedBy_40 ?_
      refine G_istore d_X10_isStoppedBy_41 (by decide) rfl ?_
      refine G_iconst d_X10_isStoppedBy_43 ?_
      refine G_istore d_X10_isStoppedBy_44 (by decide) rfl ?_
      have h9 := L2 0 (by omega) (by omega)
      rw [show (if pChief s = -1 then 0 else pSum s (pChief s).toNat j t 0) = 0 by split <;> rfl] at h9
      exact h9
  have L0 : ∀ i : Nat, i ≤ 48 → ∀ m1, KQ s m m1 → (∀ r, r < i → m1 71 r = 0) → G M_X10_isStoppedBy 2 0 0 3 [rV 64, iV (p : Int), iV (pChief s), iV (j : Int), iV (i : Int), uV, uV, uV, uV] [] (WC ++ (WM ++ w), m1) (fun r h => r = some (iV (if stpB s p j = true then 1 else 0)) ∧ ∃ m2, h = (WC ++ (WM ++ w), m2) ∧ KQ s m m2) := by
    refine loop_up (48) _ ?_
    intro i hi ih m1 h1 hz
    refine G_iload d_X10_isStoppedBy_3 rfl ?_
    refine G_bipush d_X10_isStoppedBy_5 (by decide) ?_
    refine G_icmp_ge 24 d_X10_isStoppedBy_7 (by decide) (by omega) (by omega) (fun c7 => ?_) (fun c7 => ?_)
    · refine G_iconst d_X10_isStoppedBy_24 ?_
      refine G_istore d_X10_isStoppedBy_25 (by decide) rfl ?_
      exact L1 0 (by omega) m1 h1 (fun r hr => by rw [hz r (by omega)]; rfl)
    · refine G_aload_n d_X10_isStoppedBy_10 rfl ?_
      refine G_getR (r := 71) (fl_X10_57.r) d_X10_isStoppedBy_11 (wk_64 _) rfl rfl ?_
      refine G_iload d_X10_isStoppedBy_14 rfl ?_
      refine G_iconst d_X10_isStoppedBy_16 ?_
      refine G_iastj (i) d_X10_isStoppedBy_17 (wk_71 _) (by omega) (by omega) (by decide) ?_
      refine G_iinc d_X10_isStoppedBy_18 rfl (by decide) rfl ?_
      refine G_goto 3 d_X10_isStoppedBy_21 (by decide) ?_
      exact ih (by omega) _ (h1.up rfl) (fun r hr => by
        by_cases e : r = i
        · rw [e, upm_same]
        · rw [upm_ne _ _ (fun _ => e)]; exact hz r (by omega))
  refine G_iconst d_X10_isStoppedBy_0 ?_
  refine G_istore d_X10_isStoppedBy_1 (by decide) rfl ?_
  exact L0 0 (by omega) m (KQ.refl hI) (fun r hr => absurd hr (by omega))
theorem setN_rng (s : Nat → Int) (p : Nat) : ∀ j, 0 ≤ setN s p j ∧ setN s p j < 2 ^ j
  | 0 => ⟨Int.le_refl 0, show (0 : Int) < 1 by decide⟩
  | j + 1 => by
    have h := setN_rng s p j
    unfold setN
    have e : (2 : Int) ^ (j + 1) = 2 * 2 ^ j := by rw [Int.pow_succ]; omega
    rw [e]
    by_cases c : stpB s p j = true
    · rw [if_pos c]; omega
    · rw [if_neg c]; omega
theorem shl1 {j : Nat} (hj : j < 4) : (Int32.ofInt 1 <<< (Int32.ofInt (j : Int) &&& 31)) = Int32.ofInt (2 ^ j) := by
  rcases (show j = 0 ∨ j = 1 ∨ j = 2 ∨ j = 3 by omega) with rfl | rfl | rfl | rfl <;> decide
theorem or1 {j : Nat} (hj : j < 4) {x : Int} (hx : 0 ≤ x ∧ x < 2 ^ j) : (Int32.ofInt x ||| Int32.ofInt (2 ^ j)) = Int32.ofInt (x + 2 ^ j) := by
  rcases (show j = 0 ∨ j = 1 ∨ j = 2 ∨ j = 3 by omega) with rfl | rfl | rfl | rfl
  · obtain rfl : x = 0 := by have := hx.2; simp at this; omega
    decide
  · have h2 : x < 2 := hx.2
    rcases (show x = 0 ∨ x = 1 by omega) with rfl | rfl <;> decide
  · have h2 : x < 4 := hx.2
    rcases (show x = 0 ∨ x = 1 ∨ x = 2 ∨ x = 3 by omega) with rfl | rfl | rfl | rfl <;> decide
  · have h2 : x < 8 := hx.2
    rcases (show x = 0 ∨ x = 1 ∨ x = 2 ∨ x = 3 ∨ x = 4 ∨ x = 5 ∨ x = 6 ∨ x = 7 by omega) with rfl | rfl | rfl | rfl | rfl | rfl | rfl | rfl <;> decide
theorem sp_Mstopped {w : List KD} {m : Nat → Nat → Int} (s : Nat → Int) (hV : VS s) (hI : MI s m) (a : Int) (hra : -2147483648 ≤ a ∧ a < 2147483648) : Sp M_X10_stopped 3 0 0 [rV 64, iV a] (WC ++ (WM ++ w), m) (fun r h => r = some (iV (vStopped s a)) ∧ ∃ m2, h = (WC ++ (WM ++ w), m2) ∧ KQ s m m2) := by
  refine Sp.ofG (ls := [rV 64, iV a, uV, uV]) (by decide +kernel) rfl (Nat.le_of_ble_eq_true rfl) ?_
  have hC := pC_le hV
  have hN := hV.N
  have hT := hV.T
  have hSc := hV.Sc
  have L : ∀ p : Nat, a = (p : Int) → p < pC s → ∀ j : Nat, j ≤ 4 → ∀ m1, KQ s m m1 → G M_X10_stopped 3 0 0 19 [rV 64, iV (p : Int), iV (setN s p j), iV (j : Int)] [] (WC ++ (WM ++ w), m1) (fun r h => r = some (iV (vStopped s a)) ∧ ∃ m2, h = (WC ++ (WM ++ w), m2) ∧ KQ s m m2) := by
    intro p hap hp
    refine loop_up 4 _ ?_
    intro j hj ih m1 h1
    refine G_iload_n d_X10_stopped_19 rfl ?_
    refine G_iconst d_X10_stopped_20 ?_
    refine G_icmp_ge 49 d_X10_stopped_21 (by decide) (by omega) (by omega) (fun c21 => ?_) (fun c21 => ?_)
    · refine G_iload_n d_X10_stopped_49 rfl ?_
      refine G_iret (mc := 0) (ms := 0) (st := []) d_X10_stopped_50 rfl ?_
      exact ⟨by rw [show j = 4 by omega, hap]; unfold vStopped; rw [if_pos (by unfold isPth; omega)]; rfl, m1, rfl, h1⟩
    · refine G_aload_n d_X10_stopped_24 rfl ?_
      refine G_iload_n d_X10_stopped_25 rfl ?_
      refine G_aload_n d_X10_stopped_26 rfl ?_
      refine G_callV0 cl_X10_213 rfl d_X10_stopped_27 (wk_64 _) (Nat.le_of_ble_eq_true rfl) (by decide) (sp_Mchief s hV h1.2.1 h1.2.2.1) ?_
      rintro _ _ ⟨rfl, rfl⟩
      refine G_iload_n d_X10_stopped_30 rfl ?_
      refine G_callV3 cl_X10_329 rfl d_X10_stopped_31 (wk_64 _) (Nat.le_of_ble_eq_true rfl) (by decide) (sp_MisStoppedBy s hV h1.2 p j hp (by omega)) ?_
      rintro _ _ ⟨rfl, m2, rfl, h2⟩
      have h2 := h1.trans h2
      by_cases hb : stpB s p j = true
      · rw [if_pos hb]
        refine G_if_eq 43 d_X10_stopped_34 (by decide) (by decide) (fun hd => absurd hd (by decide)) (fun _ => ?_)
        refine G_iload_n d_X10_stopped_37 rfl ?_
        refine G_iconst d_X10_stopped_38 ?_
        refine G_iload_n d_X10_stopped_39 rfl ?_
        refine G_ishl (2 ^ j) d_X10_stopped_40 (shl1 (by omega)) ?_
        refine G_ior (setN s p j + 2 ^ j) d_X10_stopped_41 (or1 (by omega) (setN_rng s p j)) ?_
        refine G_istore_n d_X10_stopped_42 (by decide) rfl ?_
        refine G_iinc d_X10_stopped_43 rfl (by decide) rfl ?_
        refine G_goto 19 d_X10_stopped_46 (by decide) ?_
        have h9 := ih (by omega) m2 h2
        rw [show setN s p (j + 1) = setN s p j + 2 ^ j by show setN s p j + (if stpB s p j = true then 2 ^ j else 0) = _; rw [if_pos hb]] at h9
        exact h9
      · rw [if_neg hb]
        refine G_if_eq 43 d_X10_stopped_34 (by decide) (by decide) (fun _ => ?_) (fun hd => absurd hd (by decide))
        refine G_iinc d_X10_stopped_43 rfl (by decide) rfl ?_
        refine G_goto 19 d_X10_stopped_46 (by decide) ?_
        have h9 := ih (by omega) m2 h2
        rw [show setN s p (j + 1) = setN s p j by show setN s p j + (if stpB s p j = true then 2 ^ j else 0) = _; rw [if_neg hb, Int.add_zero]] at h9
        exact h9
  refine G_aload_n d_X10_stopped_0 rfl ?_
  refine G_iconst d_X10_stopped_1 ?_
  refine G_putII fl_X10_1 d_X10_stopped_2 (wk_64 _) rfl ?_
  have hQ0 : KQ s m (upm m 64 0 0) := (KQ.refl hI).fld rfl
  generalize upm m 64 0 0 = m0 at hQ0 ⊢
  refine G_aload_n d_X10_stopped_5 rfl ?_
  refine G_iload_n d_X10_stopped_6 rfl ?_
  refine G_callV1 cl_X10_159 rfl d_X10_stopped_7 (wk_64 _) (Nat.le_of_ble_eq_true rfl) (by decide) (sp_MisPath s hV hQ0.2.1 hQ0.2.2.1 a hra) ?_
  rintro _ _ ⟨rfl, rfl⟩
  by_cases hp : 0 ≤ a ∧ a < pC s
  · rw [if_pos hp]
    obtain ⟨p, rfl⟩ : ∃ n : Nat, a = (n : Int) := ⟨a.toNat, by omega⟩
    refine G_if_ne 15 d_X10_stopped_10 (by decide) (by decide) (fun _ => ?_) (fun hd => absurd hd (by decide))
    refine G_iconst d_X10_stopped_15 ?_
    refine G_istore_n d_X10_stopped_16 (by decide) rfl ?_
    refine G_iconst d_X10_stopped_17 ?_
    refine G_istore_n d_X10_stopped_18 (by decide) rfl ?_
    exact L p rfl (by omega) 0 (by omega) m0 hQ0
  · rw [if_neg hp]
    refine G_if_ne 15 d_X10_stopped_10 (by decide) (by decide) (fun hd => absurd hd (by decide)) (fun _ => ?_)
    refine G_iconst d_X10_stopped_13 ?_
    refine G_iret (mc := 0) (ms := 0) (st := []) d_X10_stopped_14 rfl ?_
    exact ⟨by unfold vStopped; rw [if_neg (fun h => hp h)], m0, rfl, hQ0⟩
theorem cntB_zero (n : Nat) : cntB (fun _ => false) n = 0 := by
  induction n with
  | zero => rfl
  | succ n ih => rw [cntB_f rfl]; exact ih
/-- leaks by weight, the greatest first, of those alike the first path's first -/
def ahd (s : Nat → Int) (p q : Nat) : Bool := pLeak s q && (decide (pWt s p < pWt s q) || (pWt s q == pWt s p && decide (q < p)))
def rnk (s : Nat → Int) (p : Nat) : Nat := cntB (ahd s p) (pC s)
def isW (s : Nat → Int) (i : Int) (p : Nat) : Bool := pLeak s p && ((rnk s p : Nat) : Int) == i
def wrstP (s : Nat → Int) (i : Int) : Int := firstB (isW s i) (pC s)
def vWorst (s : Nat → Int) (i w : Int) : Int := if 0 ≤ i ∧ 0 ≤ w ∧ w ≤ 1 then (if wrstP s i = -1 then -1 else if w = 0 then wrstP s i else pWt s (wrstP s i).toNat) else -1
theorem ahd_iff {s : Nat → Int} {p q : Nat} : ahd s p q = true ↔ pLeak s q = true ∧ (pWt s p < pWt s q ∨ (pWt s q = pWt s p ∧ q < p)) := by
  unfold ahd
  simp only [Bool.and_eq_true, Bool.or_eq_true, decide_eq_true_eq, beq_iff_eq]
theorem cntB_sub {f g : Nat → Bool} : ∀ {n : Nat}, (∀ i, i < n → f i = true → g i = true) → cntB f n ≤ cntB g n
  | 0, _ => Nat.le_refl _
  | n + 1, h => by
    have h1 := cntB_sub (n := n) (fun i hi => h i (by omega))
    by_cases c : f n = true
    · rw [cntB_t c, cntB_t (h n (by omega) c)]; omega
    · rw [cntB_f (by simpa using c)]
      exact Nat.le_trans h1 (cntB_mono g (by omega))
theorem cntB_lt {f g : Nat → Bool} {k : Nat} (hg : g k = true) (hf : f k = false) : ∀ {n : Nat}, k < n → (∀ i, i < n → f i = true → g i = true) → cntB f n < cntB g n
  | 0, hk, _ => absurd hk (by omega)
  | n + 1, hk, h => by
    by_cases e : k = n
    · subst e
      rw [cntB_f hf, cntB_t hg]
      have := cntB_sub (n := k) (fun i hi => h i (by omega))
      omega
    · have h1 := cntB_lt hg hf (n := n) (by omega) (fun i hi => h i (by omega))
      by_cases c : f n = true
      · rw [cntB_t c, cntB_t (h n (by omega) c)]; omega
      · rw [cntB_f (by simpa using c)]
        exact Nat.lt_of_lt_of_le h1 (cntB_mono g (by omega))
theorem cntB_congr {f g : Nat → Bool} : ∀ {n : Nat}, (∀ i, i < n → f i = g i) → cntB f n = cntB g n
  | 0, _ => rfl
  | n + 1, h => by
    unfold cntB
    rw [cntB_congr (n := n) (fun i hi => h i (by omega)), h n (by omega)]
theorem rnk_lt {s : Nat → Int} {p q : Nat} (hq : q < pC s) (h : ahd s p q = true) : rnk s q < rnk s p := by
  have h2 := ahd_iff.mp h
  refine cntB_lt (k := q) h ?_ hq (fun i _ hi => ?_)
  · rw [Bool.eq_false_iff]
    intro h3
    have h4 := ahd_iff.mp h3
    omega
  · have h3 := ahd_iff.mp hi
    exact ahd_iff.mpr ⟨h3.1, by omega⟩
theorem rnk_inj {s : Nat → Int} {p q : Nat} (hp : p < pC s) (hq : q < pC s) (lp : pLeak s p = true) (lq : pLeak s q = true) (h : rnk s p = rnk s q) : p = q := by
  by_cases e : p = q
  · exact e
  · by_cases c : ahd s p q = true
    · have := rnk_lt hq c; omega
    · have c2 : ahd s q p = true := ahd_iff.mpr ⟨lp, by
        have h3 : ¬ (pWt s p < pWt s q ∨ (pWt s q = pWt s p ∧ q < p)) := fun h3 => c (ahd_iff.mpr ⟨lq, h3⟩)
        omega⟩
      have := rnk_lt hp c2
      omega
theorem rnk_less {s : Nat → Int} {p : Nat} (hp : p < pC s) (lp : pLeak s p = true) : rnk s p < cntB (pLeak s) (pC s) := by
  refine cntB_lt (k := p) lp ?_ hp (fun i _ hi => (ahd_iff.mp hi).1)
  rw [Bool.eq_false_iff]
  intro h3
  have h4 := ahd_iff.mp h3
  omega
theorem wrst_found {s : Nat → Int} {i : Int} {p : Nat} (hp : p < pC s) (lp : pLeak s p = true) (h : ((rnk s p : Nat) : Int) = i) : wrstP s i = (p : Int) := by
  refine firstB_found p hp (fun j hj => ?_) (by unfold isW; simp [lp, h])
  rw [Bool.eq_false_iff]
  intro h3
  unfold isW at h3
  simp only [Bool.and_eq_true, beq_iff_eq] at h3
  have := rnk_inj (show j < pC s by omega) hp h3.1 lp (by omega)
  omega
theorem wrst_none {s : Nat → Int} {i : Int} (h : ((cntB (pLeak s) (pC s) : Nat) : Int) ≤ i) : wrstP s i = -1 := by
  refine firstB_none (fun j hj => ?_)
  rw [Bool.eq_false_iff]
  intro h3
  unfold isW at h3
  simp only [Bool.and_eq_true, beq_iff_eq] at h3
  have := rnk_less hj h3.1
  omega
/-- what the reference holds when the first n are taken away -/
def HV (s : Nat → Int) (Rm : Nat → Bool) (n : Nat) (m : Nat → Nat → Int) : Prop := (∀ p, p < pC s → m 81 p = if (pLeak s p && !Rm p) = true then pWt s p else -1) ∧ (∀ p, p < pC s → Rm p = true → pLeak s p = true) ∧ cntB Rm (pC s) = n ∧ ∀ p q, p < pC s → q < pC s → Rm q = true → pLeak s p = true → Rm p = false → ahd s p q = true
def isMx (m : Nat → Nat → Int) (q k : Nat) : Prop := q < k ∧ (∀ j, j < k → m 81 j ≤ m 81 q) ∧ ∀ j, j < q → m 81 j < m 81 q
theorem HV_top {s : Nat → Int} (hV : VS s) {Rm : Nat → Bool} {n q : Nat} {m : Nat → Nat → Int} (h : HV s Rm n m) (hx : isMx m q (pC s)) (hne : m 81 q ≠ -1) : pLeak s q = true ∧ Rm q = false ∧ m 81 q = pWt s q ∧ rnk s q = n ∧ HV s (fun p => Rm p || p == q) (n + 1) (upm m 81 q (-1)) := by
  obtain ⟨a1, a2, a3, a4⟩ := h
  obtain ⟨b1, b2, b3⟩ := hx
  have hq := a1 q b1
  by_cases c : (pLeak s q && !Rm q) = true
  · rw [if_pos c] at hq
    have c2 := Bool.and_eq_true_iff.mp c
    have lq := c2.1
    have rq : Rm q = false := by simpa using c2.2
    have hrest : ∀ p, p < pC s → pLeak s p = true → Rm p = false → m 81 p = pWt s p := fun p hp lp rp => by
      rw [a1 p hp, if_pos (by simp [lp, rp])]
    have hah : ∀ p, p < pC s → ahd s q p = true → Rm p = true := fun p hp hh => by
      have h5 := ahd_iff.mp hh
      by_cases cr : Rm p = true
      · exact cr
      · have h6 := hrest p hp h5.1 (by simpa using cr)
        have h7 := b2 p hp
        rcases h5.2 with h8 | h8
        · omega
        · have h9 := b3 p h8.2
          omega
    refine ⟨lq, rq, hq, ?_, fun p hp => ?_, fun p hp hr => ?_, ?_, fun p r hp hr h1 h2 h3 => ?_⟩
    · rw [← a3]
      unfold rnk
      refine cntB_congr (fun p hp => ?_)
      by_cases cr : Rm p = true
      · rw [cr]; exact a4 q p b1 hp cr lq rq
      · rw [show Rm p = false by simpa using cr, Bool.eq_false_iff]
        exact fun hh => cr (hah p hp hh)
    · by_cases e : p = q
      · subst e
        rw [upm_same, if_neg (by simp)]
      · rw [upm_ne _ _ (fun _ => e), a1 p hp]
        simp [e]
    · simp only [Bool.or_eq_true, beq_iff_eq] at hr
      rcases hr with hr | rfl
      · exact a2 p hp hr
      · exact lq
    · have key : ∀ k, k ≤ pC s → cntB (fun p => Rm p || p == q) k = cntB Rm k + if q < k then 1 else 0 := by
        intro k
        induction k with
        | zero => intro _; rfl
        | succ k ih =>
          intro hk
          have ih := ih (by omega)
          by_cases e : k = q
          · subst e
            rw [cntB_t (f := fun p => Rm p || p == k) (by simp), cntB_f rq, ih, if_neg (by omega), if_pos (by omega)]
          · by_cases cr : Rm k = true
            · rw [cntB_t (f := fun p => Rm p || p == q) (by simp [cr]), cntB_t cr, ih]
              by_cases c5 : q < k
              · rw [if_pos c5, if_pos (by omega)]
              · rw [if_neg c5, if_neg (by omega)]
            · rw [cntB_f (f := fun p => Rm p || p == q) (by simp [cr, e]), cntB_f (by simpa using cr), ih]
              by_cases c5 : q < k
              · rw [if_pos c5, if_pos (by omega)]
              · rw [if_neg c5, if_neg (by omega)]
      rw [key _ (Nat.le_refl _), if_pos b1, a3]
    · simp only [Bool.or_eq_false_iff, beq_eq_false_iff_ne] at h3
      simp only [Bool.or_eq_true, beq_iff_eq] at h1
      rcases h1 with h1 | rfl
      · exact a4 p r hp hr h1 h2 h3.1
      · have h6 := hrest p hp h2 h3.1
        have h7 := b2 p hp
        refine ahd_iff.mpr ⟨lq, ?_⟩
        by_cases c8 : pWt s p < pWt s r
        · exact Or.inl c8
        · right
          refine ⟨by omega, ?_⟩
          by_cases c9 : p < r
          · have := b3 p c9; omega
          · have := h3.2; omega
  · rw [if_neg c] at hq
    exact absurd hq hne
theorem HV_b {s : Nat → Int} (hV : VS s) {Rm : Nat → Bool} {n : Nat} {m : Nat → Nat → Int} (h : HV s Rm n m) (q : Nat) (hq : q < pC s) : -1 ≤ m 81 q ∧ m 81 q ≤ 59049 := by
  have h1 := h.1 q hq
  have h2 := pWt_rng hV q
  by_cases c : (pLeak s q && !Rm q) = true
  · rw [if_pos c] at h1; omega
  · rw [if_neg c] at h1; omega
theorem HV_none {s : Nat → Int} (hV : VS s) {Rm : Nat → Bool} {n : Nat} {m : Nat → Nat → Int} (h : HV s Rm n m) (hx : ∀ j, j < pC s → m 81 j ≤ -1) : cntB (pLeak s) (pC s) ≤ n := by
  obtain ⟨a1, a2, a3, a4⟩ := h
  rw [← a3]
  refine cntB_sub (fun p hp lp => ?_)
  by_cases cr : Rm p = true
  · exact cr
  · have h1 := a1 p hp
    rw [if_pos (by simp [lp, cr])] at h1
    have := hx p hp
    have := pWt_rng hV p
    omega
theorem sp_Mworst {w : List KD} {m : Nat → Nat → Int} (s : Nat → Int) (hV : VS s) (hI : MI s m) (a : Int) (hra : -2147483648 ≤ a ∧ a < 2147483648) (b : Int) (hrb : -2147483648 ≤ b ∧ b < 2147483648) : Sp M_X10_worst 6 0 0 [rV 64, iV a, iV b] (WC ++ (WM ++ w), m) (fun r h => r = some (iV (vWorst s a b)) ∧ ∃ m2, h = (WC ++ (WM ++ w), m2) ∧ KQ s m m2) := by
  refine Sp.ofG (ls := [rV 64, iV a, iV b, uV, uV, uV]) (by decide +kernel) rfl (Nat.le_of_ble_eq_true rfl) ?_
  have hC := pC_le hV
  have hN := hV.N
  have hT := hV.T
  have hSc := hV.Sc
  by_cases hab : 0 ≤ a ∧ 0 ≤ b ∧ b ≤ 1
  · skip
    have LN : ∀ n : Nat, n ≤ pC s → ((n : Nat) : Int) ≤ a → ∀ Rm m1, KQ s m m1 → HV s Rm n m1 → G M_X10_worst 6 0 0 62 [rV 64, iV a, iV b, iV (n : Int), uV, uV] [] (WC ++ (WM ++ w), m1) (fun r h => r = some (iV (vWorst s a b)) ∧ ∃ m2, h = (WC ++ (WM ++ w), m2) ∧ KQ s m m2) := by
      refine loop_up (pC s) _ ?_
      intro n hn ih_n hna0
      by_cases hnc : n < pC s
      · have hn0 := hnc
        have LM : ∀ k : Nat, k ≤ pC s → ∀ Rm m1, KQ s m m1 → HV s Rm n m1 → ((n : Nat) : Int) ≤ a → 1 ≤ k → ∀ q : Nat, isMx m1 q k → G M_X10_worst 6 0 0 76 [rV 64, iV a, iV b, iV (n : Int), iV (q : Int), iV (k : Int)] [] (WC ++ (WM ++ w), m1) (fun r h => r = some (iV (vWorst s a b)) ∧ ∃ m2, h = (WC ++ (WM ++ w), m2) ∧ KQ s m m2) := by
          refine loop_up (pC s) _ ?_
          intro k hk ih Rm m1 h1 hv hna hk1 q hx
          refine G_iload d_X10_worst_76 rfl ?_
          refine G_aload_n d_X10_worst_78 rfl ?_
          refine G_getIe (fl_X10_25.r) d_X10_worst_79 (wk_64 _) rfl (h1.2.2.1.1) ?_
          refine G_icmp_ge 112 d_X10_worst_82 (by decide) (by omega) (by omega) (fun c82 => ?_) (fun c82 => ?_)
          · have hke : k = pC s := by omega
            subst hke
            have hqk := hx.1
            have hbq := HV_b hV hv q (by omega)
            refine G_aload_n d_X10_worst_112 rfl ?_
            refine G_getR (r := 81) (fl_X10_89.r) d_X10_worst_113 (wk_64 _) rfl rfl ?_
            refine G_iload d_X10_worst_116 rfl ?_
            refine G_ialdj (q) d_X10_worst_118 (wk_81 _) (by omega) (by omega) (by decide) ?_
            refine G_iconst d_X10_worst_119 ?_
            refine G_icmp_ne 125 d_X10_worst_120 (by decide) (by omega) (by omega) (fun c120 => ?_) (fun c120 => ?_)
            · obtain ⟨x1, x2, x3, x4, x5⟩ := HV_top hV hv hx c120
              refine G_iload_n d_X10_worst_125 rfl ?_
              refine G_iload_n d_X10_worst_126 rfl ?_
              refine G_icmp_ne 147 d_X10_worst_127 (by decide) (by omega) (by omega) (fun c127 => ?_) (fun c127 => ?_)
              · refine G_aload_n d_X10_worst_147 rfl ?_
                refine G_getR (r := 81) (fl_X10_89.r) d_X10_worst_148 (wk_64 _) rfl rfl ?_
                refine G_iload d_X10_worst_151 rfl ?_
                refine G_iconst d_X10_worst_153 ?_
                refine G_iastj (q) d_X10_worst_154 (wk_81 _) (by omega) (by omega) (by decide) ?_
                refine G_iinc d_X10_worst_155 rfl (by decide) rfl ?_
                refine G_goto 62 d_X10_worst_158 (by decide) ?_
                refine G.fg (ih_n (by omega) (by omega) _ _ (h1.up rfl) x5) ?_
                repeat (first | exact trivial | refine wkL_cons (Or.inl rfl) ?_ | refine wkL_cons (Or.inr rfl) ?_)
              · have hw := wrst_found (i := a) hqk x1 (by omega)
                refine G_iload_n d_X10_worst_130 rfl ?_
                refine G_if_ne 139 d_X10_worst_131 (by decide) (by omega) (fun c131 => ?_) (fun c131 => ?_)
                · refine G_aload_n d_X10_worst_139 rfl ?_
                  refine G_getR (r := 81) (fl_X10_89.r) d_X10_worst_140 (wk_64 _) rfl rfl ?_
                  refine G_iload d_X10_worst_143 rfl ?_
                  refine G_ialdj (q) d_X10_worst_145 (wk_81 _) (by omega) (by omega) (by decide) ?_
                  refine G_iret (mc := 0) (ms := 0) (st := []) d_X10_worst_146 rfl ?_
                  exact ⟨Eq.symm (by unfold vWorst; rw [if_pos (by omega), hw, if_neg (by omega), if_neg (by omega), x3]; rfl), m1, rfl, h1⟩
                · refine G_iload d_X10_worst_134 rfl ?_
                  refine G_goto 146 d_X10_worst_136 (by decide) ?_
                  refine G_iret (mc := 0) (ms := 0) (st := []) d_X10_worst_146 rfl ?_
                  exact ⟨Eq.symm (by unfold vWorst; rw [if_pos (by omega), hw, if_neg (by omega), if_pos (by omega)]), m1, rfl, h1⟩
            · refine G_iconst d_X10_worst_123 ?_
              refine G_iret (mc := 0) (ms := 0) (st := []) d_X10_worst_124 rfl ?_
              exact ⟨by unfold vWorst; rw [if_pos (by omega), wrst_none (by have := HV_none hV hv (fun j hj => by have := hx.2.1 j hj; omega); omega), if_pos rfl], m1, rfl, h1⟩
          · refine G_aload_n d_X10_worst_85 rfl ?_
            refine G_getR (r := 81) (fl_X10_89.r) d_X10_worst_86 (wk_64 _) rfl rfl ?_
            refine G_iload d_X10_worst_89 rfl ?_
            have hqk := hx.1
            refine G_ialdj (k) d_X10_worst_91 (wk_81 _) (by omega) (by omega) (by decide) ?_
            refine G_aload_n d_X10_worst_92 rfl ?_
            refine G_getR (r := 81) (fl_X10_89.r) d_X10_worst_93 (wk_64 _) rfl rfl ?_
            refine G_iload d_X10_worst_96 rfl ?_
            refine G_ialdj (q) d_X10_worst_98 (wk_81 _) (by omega) (by omega) (by decide) ?_
            have hbk := HV_b hV hv k (by omega)
            have hbq := HV_b hV hv q (by omega)
            refine G_icmp_le 106 d_X10_worst_99 (by decide) (by omega) (by omega) (fun c99 => ?_) (fun c99 => ?_)
            · refine G_iinc d_X10_worst_106 rfl (by decide) rfl ?_
              refine G_goto 76 d_X10_worst_109 (by decide) ?_
              exact ih (by omega) Rm m1 h1 hv hna (by omega) q ⟨by omega, fun j hj => by
                by_cases e : j = k
                · subst e; omega
                · exact hx.2.1 j (by omega), hx.2.2⟩
            · refine G_iload d_X10_worst_102 rfl ?_
              refine G_istore d_X10_worst_104 (by decide) rfl ?_
              refine G_iinc d_X10_worst_106 rfl (by decide) rfl ?_
              refine G_goto 76 d_X10_worst_109 (by decide) ?_
              exact ih (by omega) Rm m1 h1 hv hna (by omega) k ⟨by omega, fun j hj => by
                by_cases e : j = k
                · subst e; omega
                · have := hx.2.1 j (by omega); omega, fun j hj => by have := hx.2.1 j hj; omega⟩
        intro Rm m1 h1 hv
        refine G_iload_n d_X10_worst_62 rfl ?_
        refine G_aload_n d_X10_worst_63 rfl ?_
        refine G_getIe (fl_X10_25.r) d_X10_worst_64 (wk_64 _) rfl (h1.2.2.1.1) ?_
        refine G_icmp_ge 161 d_X10_worst_67 (by decide) (by omega) (by omega) (fun c67 => ?_) (fun c67 => ?_)
        · omega
        · refine G_iconst d_X10_worst_70 ?_
          refine G_istore d_X10_worst_71 (by decide) rfl ?_
          refine G_iconst d_X10_worst_73 ?_
          refine G_istore d_X10_worst_74 (by decide) rfl ?_
          exact LM 1 (by omega) Rm m1 h1 hv hna0 (Nat.le_refl _) 0 ⟨by omega, fun j hj => by rw [show j = 0 by omega]; exact Int.le_refl _, fun j hj => absurd hj (by omega)⟩
      · intro Rm m1 h1 hv
        refine G_iload_n d_X10_worst_62 rfl ?_
        refine G_aload_n d_X10_worst_63 rfl ?_
        refine G_getIe (fl_X10_25.r) d_X10_worst_64 (wk_64 _) rfl (h1.2.2.1.1) ?_
        refine G_icmp_ge 161 d_X10_worst_67 (by decide) (by omega) (by omega) (fun c67 => ?_) (fun c67 => ?_)
        · refine G_iconst d_X10_worst_161 ?_
          refine G_iret (mc := 0) (ms := 0) (st := []) d_X10_worst_162 rfl ?_
          exact ⟨by unfold vWorst; rw [if_pos (by omega), wrst_none (by have := cntB_le (pLeak s) (pC s); omega), if_pos rfl], m1, rfl, h1⟩
        · omega
    have LF : ∀ k : Nat, k ≤ pC s → ∀ m1, KQ s m m1 → (∀ p, p < k → m1 81 p = if (pLeak s p && !false) = true then pWt s p else -1) → G M_X10_worst 6 0 0 23 [rV 64, iV a, iV b, iV (k : Int), uV, uV] [] (WC ++ (WM ++ w), m1) (fun r h => r = some (iV (vWorst s a b)) ∧ ∃ m2, h = (WC ++ (WM ++ w), m2) ∧ KQ s m m2) := by
      refine loop_up (pC s) _ ?_
      intro k hk ih m1 h1 hz
      refine G_iload_n d_X10_worst_23 rfl ?_
      refine G_aload_n d_X10_worst_24 rfl ?_
      refine G_getIe (fl_X10_25.r) d_X10_worst_25 (wk_64 _) rfl (h1.2.2.1.1) ?_
      refine G_icmp_ge 60 d_X10_worst_28 (by decide) (by omega) (by omega) (fun c28 => ?_) (fun c28 => ?_)
      · refine G_iconst d_X10_worst_60 ?_
        refine G_istore_n d_X10_worst_61 (by decide) rfl ?_
        exact G.fg (LN 0 (by omega) (by omega) (fun _ => false) m1 h1 ⟨fun p hp => hz p (by omega), fun p _ h => Bool.noConfusion h, cntB_zero _, fun p q _ _ h => Bool.noConfusion h⟩) (by
          repeat (first | exact trivial | refine wkL_cons (Or.inl rfl) ?_ | refine wkL_cons (Or.inr rfl) ?_))
      · refine G_aload_n d_X10_worst_31 rfl ?_
        refine G_getR (r := 81) (fl_X10_89.r) d_X10_worst_32 (wk_64 _) rfl rfl ?_
        refine G_iload_n d_X10_worst_35 rfl ?_
        refine G_aload_n d_X10_worst_36 rfl ?_
        refine G_iload_n d_X10_worst_37 rfl ?_
        refine G_callV1 cl_X10_254 rfl d_X10_worst_38 (wk_64 _) (Nat.le_of_ble_eq_true rfl) (by decide) (sp_MisLeak1 s hV h1.2 k (by omega)) ?_
        rintro _ _ ⟨rfl, m2, rfl, h2, hk81⟩
        have h2q := h1.trans h2
        by_cases hl : pLeak s k = true
        · rw [if_pos hl]
          refine G_if_eq 52 d_X10_worst_41 (by decide) (by decide) (fun hd => absurd hd (by decide)) (fun _ => ?_)
          refine G_aload_n d_X10_worst_44 rfl ?_
          refine G_iload_n d_X10_worst_45 rfl ?_
          refine G_callV1 cl_X10_121 rfl d_X10_worst_46 (wk_64 _) (Nat.le_of_ble_eq_true rfl) (by decide) (sp_Mweighs s hV h2q.2.1 h2q.2.2.1 k (by omega)) ?_
          rintro _ _ ⟨rfl, rfl⟩
          refine G_goto 53 d_X10_worst_49 (by decide) ?_
          refine G_iastj (k) d_X10_worst_53 (wk_81 _) (by omega) (by omega) (by decide) ?_
          refine G_iinc d_X10_worst_54 rfl (by decide) rfl ?_
          refine G_goto 23 d_X10_worst_57 (by decide) ?_
          exact ih (by omega) _ (h2q.up rfl) (fun p hp => by
            by_cases e : p = k
            · subst e; rw [upm_same, if_pos (by simp [hl])]
            · rw [upm_ne _ _ (fun _ => e), hk81]; exact hz p (by omega))
        · rw [if_neg hl]
          refine G_if_eq 52 d_X10_worst_41 (by decide) (by decide) (fun _ => ?_) (fun hd => absurd hd (by decide))
          refine G_iconst d_X10_worst_52 ?_
          refine G_iastj (k) d_X10_worst_53 (wk_81 _) (by omega) (by omega) (by decide) ?_
          refine G_iinc d_X10_worst_54 rfl (by decide) rfl ?_
          refine G_goto 23 d_X10_worst_57 (by decide) ?_
          exact ih (by omega) _ (h2q.up rfl) (fun p hp => by
            by_cases e : p = k
            · subst e; rw [upm_same, if_neg (by simp [hl])]
            · rw [upm_ne _ _ (fun _ => e), hk81]; exact hz p (by omega))
    refine G_aload_n d_X10_worst_0 rfl ?_
    refine G_iconst d_X10_worst_1 ?_
    refine G_putII fl_X10_1 d_X10_worst_2 (wk_64 _) rfl ?_
    have hQ0 : KQ s m (upm m 64 0 0) := (KQ.refl hI).fld rfl
    generalize upm m 64 0 0 = m0 at hQ0 ⊢
    refine G_iload_n d_X10_worst_5 rfl ?_
    refine G_if_lt 19 d_X10_worst_6 (by decide) (by omega) (fun c6 => ?_) (fun c6 => ?_)
    · omega
    · refine G_aload_n d_X10_worst_9 rfl ?_
      refine G_iload_n d_X10_worst_10 rfl ?_
      refine G_iconst d_X10_worst_11 ?_
      refine G_iconst d_X10_worst_12 ?_
      refine G_callV3 cl_X10_124 rfl d_X10_worst_13 (wk_64 _) (Nat.le_of_ble_eq_true rfl) (by decide) (sp_MisIn b hrb 0 (by omega) 1 (by omega)) ?_
      rintro _ _ ⟨rfl, rfl⟩
      by_cases hb : 0 ≤ b ∧ b ≤ 1
      · rw [if_pos hb]
        refine G_if_ne 21 d_X10_worst_16 (by decide) (by decide) (fun _ => ?_) (fun hd => absurd hd (by decide))
        refine G_iconst d_X10_worst_21 ?_
        refine G_istore_n d_X10_worst_22 (by decide) rfl ?_
        exact LF 0 (by omega) m0 hQ0 (fun p hp => absurd hp (by omega))
      · omega
  · skip
    refine G_aload_n d_X10_worst_0 rfl ?_
    refine G_iconst d_X10_worst_1 ?_
    refine G_putII fl_X10_1 d_X10_worst_2 (wk_64 _) rfl ?_
    have hQ0 : KQ s m (upm m 64 0 0) := (KQ.refl hI).fld rfl
    generalize upm m 64 0 0 = m0 at hQ0 ⊢
    refine G_iload_n d_X10_worst_5 rfl ?_
    refine G_if_lt 19 d_X10_worst_6 (by decide) (by omega) (fun c6 => ?_) (fun c6 => ?_)
    · refine G_iconst d_X10_worst_19 ?_
      refine G_iret (mc := 0) (ms := 0) (st := []) d_X10_worst_20 rfl ?_
      exact ⟨by unfold vWorst; rw [if_neg hab], m0, rfl, hQ0⟩
    · refine G_aload_n d_X10_worst_9 rfl ?_
      refine G_iload_n d_X10_worst_10 rfl ?_
      refine G_iconst d_X10_worst_11 ?_
      refine G_iconst d_X10_worst_12 ?_
      refine G_callV3 cl_X10_124 rfl d_X10_worst_13 (wk_64 _) (Nat.le_of_ble_eq_true rfl) (by decide) (sp_MisIn b hrb 0 (by omega) 1 (by omega)) ?_
      rintro _ _ ⟨rfl, rfl⟩
      by_cases hb : 0 ≤ b ∧ b ≤ 1
      · omega
      · rw [if_neg hb]
        refine G_if_ne 21 d_X10_worst_16 (by decide) (by decide) (fun hd => absurd hd (by decide)) (fun _ => ?_)
        refine G_iconst d_X10_worst_19 ?_
        refine G_iret (mc := 0) (ms := 0) (st := []) d_X10_worst_20 rfl ?_
        exact ⟨by unfold vWorst; rw [if_neg hab], m0, rfl, hQ0⟩
