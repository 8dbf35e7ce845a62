theorem firstB_at {f : Nat → Bool} {p : Nat} : ∀ {n : Nat}, firstB f n = (p : Int) → p < n ∧ f p = true
  | 0, h => absurd h (by show ¬ (-1 : Int) = (p : Int); omega)
  | n + 1, h => by
    unfold firstB at h
    by_cases c : 0 ≤ firstB f n
    · rw [if_pos c] at h
      have := firstB_at h
      exact ⟨by omega, this.2⟩
    · rw [if_neg c] at h
      cases hf : f n with
      | true =>
        rw [hf, if_pos rfl] at h
        obtain rfl : n = p := by omega
        exact ⟨by omega, hf⟩
      | false =>
        rw [hf, if_neg (by decide)] at h
        omega
theorem sp_Cworst {w : List KD} {m : Nat → Nat → Int} (s : Nat → Int) (hV : VS s) (hI : CI s m) (a : Int) (hra : -2147483648 ≤ a ∧ a < 2147483648) (b : Int) (hrb : -2147483648 ≤ b ∧ b < 2147483648) : Sp M_X9_worst 7 0 0 [rV 0, iV a, iV b] (WC ++ w, m) (fun r h => r = some (iV (vWorst s a b)) ∧ ∃ m2, h = (WC ++ w, m2) ∧ CI s m2 ∧ FXo m m2) := by
  refine Sp.ofG (ls := [rV 0, iV a, iV b, uV]) (by decide +kernel) rfl (Nat.le_of_ble_eq_true rfl) ?_
  have hC := pC_le hV
  have hN := hV.N
  have hT := hV.T
  have hSc := hV.Sc
  refine G_iload_n d_X9_worst_0 rfl ?_
  refine G_if_lt 13 d_X9_worst_1 (by decide) (by omega) (fun c1 => ?_) (fun c1 => ?_)
  · refine G_iconst d_X9_worst_13 ?_
    refine G_iret (mc := 0) (ms := 0) (st := []) d_X9_worst_14 rfl ?_
    exact ⟨by unfold vWorst; rw [if_neg (fun h => by omega)], m, rfl, hI, FXo.refl m⟩
  · refine G_iload_n d_X9_worst_4 rfl ?_
    refine G_if_lt 13 d_X9_worst_5 (by decide) (by omega) (fun c5 => ?_) (fun c5 => ?_)
    · refine G_iconst d_X9_worst_13 ?_
      refine G_iret (mc := 0) (ms := 0) (st := []) d_X9_worst_14 rfl ?_
      exact ⟨by unfold vWorst; rw [if_neg (fun h => by omega)], m, rfl, hI, FXo.refl m⟩
    · refine G_iload_n d_X9_worst_8 rfl ?_
      refine G_iconst d_X9_worst_9 ?_
      refine G_icmp_le 15 d_X9_worst_10 (by decide) (by omega) (by omega) (fun c10 => ?_) (fun c10 => ?_)
      · refine G_aload_n d_X9_worst_15 rfl ?_
        refine G_iload_n d_X9_worst_16 rfl ?_
        refine G_aload_n d_X9_worst_17 rfl ?_
        refine G_callV0 cl_X9_291 rfl d_X9_worst_18 (wk_0 _) (Nat.le_of_ble_eq_true rfl) (by decide) (sp_gatherLeaks s hV hI) ?_
        rintro _ _ ⟨rfl, m2, rfl, h2, hX2, hw2, hg2⟩
        obtain ⟨i0, rfl⟩ : ∃ n : Nat, a = (n : Int) := ⟨a.toNat, by omega⟩
        refine G_callV2 cl_X9_294 rfl d_X9_worst_21 (wk_0 _) (Nat.le_of_ble_eq_true rfl) (by decide) (sp_leakByWeight s hV h2.1 hg2 (cntB (pLeak s) (pC s)) rfl (fun h => h2.1.wk (hw2 h)) i0 (by omega)) ?_
        rintro _ _ ⟨rfl, rfl⟩
        have hwr : -1 ≤ wrstP s (i0 : Int) ∧ wrstP s (i0 : Int) ≤ (pC s : Int) := firstB_rng _ _
        refine G_istore_n d_X9_worst_24 (by decide) rfl ?_
        refine G_iload_n d_X9_worst_25 rfl ?_
        refine G_iconst d_X9_worst_26 ?_
        refine G_icmp_ne 32 d_X9_worst_27 (by decide) (by omega) (by omega) (fun c27 => ?_) (fun c27 => ?_)
        · refine G_iload_n d_X9_worst_32 rfl ?_
          refine G_if_ne 40 d_X9_worst_33 (by decide) (by omega) (fun c33 => ?_) (fun c33 => ?_)
          · refine G_aload_n d_X9_worst_40 rfl ?_
            refine G_getR (r := 25) (fl_X9_43.r) d_X9_worst_41 (wk_0 _) rfl rfl ?_
            refine G_getR (r := 28) fl_X9_282 d_X9_worst_44 (wk_25 _) rfl rfl ?_
            refine G_iload_n d_X9_worst_47 rfl ?_
            obtain ⟨p, hp⟩ : ∃ p : Nat, wrstP s (i0 : Int) = (p : Int) := ⟨(wrstP s (i0 : Int)).toNat, by omega⟩
            have hpf : p < pC s ∧ pLeak s p = true := by
              have h9 := firstB_at (f := isW s (i0 : Int)) (n := pC s) (p := p) hp
              refine ⟨h9.1, ?_⟩
              have h8 := h9.2
              unfold isW at h8
              rw [Bool.and_eq_true_iff] at h8
              exact h8.1
            have hcp : 1 ≤ cntB (pLeak s) (pC s) := by
              apply Nat.pos_of_ne_zero
              intro h0
              have h9 := cntB_all0.mp h0 p hpf.1
              rw [hpf.2] at h9
              exact Bool.noConfusion h9
            have hwk := (h2.1.wk (hw2 hcp) p hpf.1).1
            rw [hp]
            refine G_ialdj (p) d_X9_worst_48 (wk_28 _) (by omega) (by omega) (by decide) ?_
            rw [hwk]
            refine G_iret (mc := 0) (ms := 0) (st := []) d_X9_worst_49 rfl ?_
            exact ⟨by unfold vWorst; rw [if_pos (by omega), if_neg c27, if_neg c33, hp]; rfl, m2, rfl, h2, hX2⟩
          · refine G_iload_n d_X9_worst_36 rfl ?_
            refine G_goto 49 d_X9_worst_37 (by decide) ?_
            refine G_iret (mc := 0) (ms := 0) (st := []) d_X9_worst_49 rfl ?_
            exact ⟨by unfold vWorst; rw [if_pos (by omega), if_neg c27, if_pos c33], m2, rfl, h2, hX2⟩
        · refine G_iconst d_X9_worst_30 ?_
          refine G_iret (mc := 0) (ms := 0) (st := []) d_X9_worst_31 rfl ?_
          exact ⟨by unfold vWorst; rw [if_pos (by omega), if_pos c27], m2, rfl, h2, hX2⟩
      · refine G_iconst d_X9_worst_13 ?_
        refine G_iret (mc := 0) (ms := 0) (st := []) d_X9_worst_14 rfl ?_
        exact ⟨by unfold vWorst; rw [if_neg (fun h => by omega)], m, rfl, hI, FXo.refl m⟩
