/-! Scans: its rows, its residues -/
theorem wk_ph (w : List KD) {k : Nat} (hk : k < 6) : (WC ++ w)[32 + k]? = some (1, 512, []) := by
  rcases (show k = 0 ∨ k = 1 ∨ k = 2 ∨ k = 3 ∨ k = 4 ∨ k = 5 by omega) with rfl | rfl | rfl | rfl | rfl | rfl <;> rfl
theorem wk_tu (w : List KD) {k : Nat} (hk : k < 6) : (WC ++ w)[39 + k]? = some (1, 512, []) := by
  rcases (show k = 0 ∨ k = 1 ∨ k = 2 ∨ k = 3 ∨ k = 4 ∨ k = 5 by omega) with rfl | rfl | rfl | rfl | rfl | rfl <;> rfl
theorem ph_at {k : Nat} (hk : k < 6) : ([32, 33, 34, 35, 36, 37] : List Int)[((k : Nat) : Int).toNat]? = some ((32 + k : Nat) : Int) := by
  rcases (show k = 0 ∨ k = 1 ∨ k = 2 ∨ k = 3 ∨ k = 4 ∨ k = 5 by omega) with rfl | rfl | rfl | rfl | rfl | rfl <;> rfl
theorem tu_at {k : Nat} (hk : k < 6) : ([39, 40, 41, 42, 43, 44] : List Int)[((k : Nat) : Int).toNat]? = some ((39 + k : Nat) : Int) := by
  rcases (show k = 0 ∨ k = 1 ∨ k = 2 ∨ k = 3 ∨ k = 4 ∨ k = 5 by omega) with rfl | rfl | rfl | rfl | rfl | rfl <;> rfl
def SC (s : Nat → Int) (m : Nat → Nat → Int) : Prop := m 30 1 = (pSc s : Int) ∧ m 30 2 = (pT s : Int) ∧ m 30 3 = (pN s : Int)
theorem CY.congr {s : Nat → Int} {m m2 : Nat → Nat → Int} (h : CY s m) (h6 : m2 6 0 = m 6 0) (k : ∀ a, 7 ≤ a → a ≤ 10 → m2 a = m a) : CY s m2 :=
  ⟨by rw [h6]; exact h.1, fun j hj => by rw [k 7 (by decide) (by decide)]; exact h.2.1 j hj, fun j hj => by rw [k 8 (by decide) (by decide)]; exact h.2.2.1 j hj, fun j hj => by rw [k 9 (by decide) (by decide)]; exact h.2.2.2.1 j hj, fun j hj => by rw [k 10 (by decide) (by decide)]; exact h.2.2.2.2 j hj⟩
theorem sp_Csc {w : List KD} {m : Nat → Nat → Int} (s : Nat → Int) (hC : CY s m) : Sp M_X1_countScans 0 0 0 [rV 6] (WC ++ w, m) (fun r h => r = some (iV (pSc s : Int)) ∧ h = (WC ++ w, m)) := by
  have e : (pSc s : Int) = m 7 0 * m 7 1 * m 7 2 * m 7 3 := by
    rw [hC.2.1 0 (by decide), hC.2.1 1 (by decide), hC.2.1 2 (by decide), hC.2.1 3 (by decide)]
    unfold pSc
    rw [Int.natCast_mul, Int.natCast_mul, Int.natCast_mul]
  rw [e]
  exact sp_countScans
/-- all but the rows of phases and what their form is -/
def FB1 (m m2 : Nat → Nat → Int) : Prop := (∀ a, a ≠ 30 → (a < 32 ∨ 37 < a) → m2 a = m a) ∧ ∀ j, j ≠ 1 → j ≠ 2 → j ≠ 3 → m2 30 j = m 30 j
def pTu (s : Nat → Int) (p k t : Nat) : Int := (pLed s p t k - pRcv s t) % (pT s : Int)
theorem addP {f ch o : Int} {T : Nat} (h1 : 0 ≤ ch + 7 * (T : Int)) (h2 : 0 ≤ f + (((ch + 7 * (T : Int)).toNat % T : Nat) : Int) * o) : (((f + (((ch + 7 * (T : Int)).toNat % T : Nat) : Int) * o).toNat % T : Nat) : Int) = (f + ch * o) % (T : Int) := by
  rw [Int.natCast_emod, Int.toNat_of_nonneg h2, Int.natCast_emod, Int.toNat_of_nonneg h1]
  have e1 : (ch + 7 * (T : Int)) % (T : Int) = ch % (T : Int) := Int.add_mul_emod_self_right ch 7 T
  rw [e1, Int.add_emod f (ch % (T : Int) * o), Int.mul_emod (ch % (T : Int)) o, Int.emod_emod, ← Int.mul_emod, ← Int.add_emod]
theorem sp_build {w : List KD} {m : Nat → Nat → Int} (s : Nat → Int) (hV : VS s) (hCY : CY s m) : Sp M_X5_build 1 0 0 [rV 30, rV 6, iV (pN s : Int)] (WC ++ w, m) (fun r h => r = none ∧ ∃ m2, h = (WC ++ w, m2) ∧ SC s m2 ∧ (∀ k, k ≤ pN s → ∀ t, t < pSc s → m2 (32 + k) t = pOwn s k t) ∧ FB1 m m2) := by
  refine Sp.ofG (ls := [rV 30, rV 6, iV (pN s : Int), uV, uV]) (by decide +kernel) rfl (Nat.le_of_ble_eq_true rfl) ?_
  have hC := pC_le hV
  have hN := hV.N
  have hT := hV.T
  have hSc := hV.Sc
  have L : ∀ k : Nat, k ≤ pN s + 1 → ∀ m1, SC s m1 → (∀ k2, k2 < k → ∀ t, t < pSc s → m1 (32 + k2) t = pOwn s k2 t) → FB1 m m1 → ∀ u4 : PV, G M_X5_build 1 0 0 23 [rV 30, rV 6, iV (pN s : Int), iV (k : Int), u4] [] (WC ++ w, m1) (fun r h => r = none ∧ ∃ m2, h = (WC ++ w, m2) ∧ SC s m2 ∧ (∀ k, k ≤ pN s → ∀ t, t < pSc s → m2 (32 + k) t = pOwn s k t) ∧ FB1 m m2) := by
    refine loop_up (pN s + 1) _ ?_
    intro k hk ihk m1 h1 hz hF1 u4
    by_cases hkn : k < pN s + 1
    · skip
      have L1 : ∀ t : Nat, t ≤ pSc s → ∀ m1, SC s m1 → (∀ k2, k2 < k → ∀ t, t < pSc s → m1 (32 + k2) t = pOwn s k2 t) → FB1 m m1 → (∀ t2, t2 < t → m1 (32 + k) t2 = pOwn s k t2) → G M_X5_build 1 0 0 34 [rV 30, rV 6, iV (pN s : Int), iV (k : Int), iV (t : Int)] [] (WC ++ w, m1) (fun r h => r = none ∧ ∃ m2, h = (WC ++ w, m2) ∧ SC s m2 ∧ (∀ k, k ≤ pN s → ∀ t, t < pSc s → m2 (32 + k) t = pOwn s k t) ∧ FB1 m m2) := by
        refine loop_up (pSc s) _ ?_
        intro t ht ih m1 h1 hz hF1 hy
        refine G_iload d_X5_build_34 rfl ?_
        refine G_aload_n d_X5_build_36 rfl ?_
        refine G_getIe (fl_X5_15.r) d_X5_build_37 (wk_30 _) rfl (h1.1) ?_
        refine G_icmp_ge 65 d_X5_build_40 (by decide) (by omega) (by omega) (fun c40 => ?_) (fun c40 => ?_)
        · have hte : t = pSc s := by omega
          rw [hte] at hy
          refine G_iinc d_X5_build_65 rfl (by decide) rfl ?_
          refine G_goto 23 d_X5_build_68 (by decide) ?_
          refine ihk hkn m1 h1 (fun k2 hk2 t2 ht2 => ?_) hF1 _
          by_cases e : k2 = k
          · rw [e]; exact hy t2 ht2
          · exact hz k2 (by omega) t2 ht2
        · refine G_aload_n d_X5_build_43 rfl ?_
          refine G_getR (r := 31) (fl_X5_30.r) d_X5_build_44 (wk_30 _) rfl rfl ?_
          refine G_iload_n d_X5_build_47 rfl ?_
          refine G_aald (r := 32 + k) d_X5_build_48 (wk_31 _) (by omega) (by decide) (ph_at (by omega)) ?_
          refine G_iload d_X5_build_49 rfl ?_
          refine G_aload_n d_X5_build_51 rfl ?_
          refine G_iload_n d_X5_build_52 rfl ?_
          refine G_iload d_X5_build_53 rfl ?_
          refine G_callV2 cl_X5_47 rfl d_X5_build_55 (wk_6 _) (Nat.le_of_ble_eq_true rfl) (by decide) (sp_ownPhase s k t hV (hCY.congr (by rw [hF1.1 6 (by decide) (by decide)]) (fun a h7 h8 => hF1.1 a (by omega) (by omega))) (by omega) (by omega)) ?_
          rintro _ _ ⟨rfl, rfl⟩
          refine G_iastj (t) d_X5_build_58 (wk_ph _ (show k < 6 by omega)) (by omega) (by omega) (by first | decide | assumption | omega) ?_
          refine G_iinc d_X5_build_59 rfl (by decide) rfl ?_
          refine G_goto 34 d_X5_build_62 (by decide) ?_
          refine ih (by omega) _ ⟨by rw [upm_off _ _ (by omega)]; exact h1.1, by rw [upm_off _ _ (by omega)]; exact h1.2.1, by rw [upm_off _ _ (by omega)]; exact h1.2.2⟩ (fun k2 hk2 t2 ht2 => by rw [upm_off _ _ (by omega)]; exact hz k2 hk2 t2 ht2) ⟨fun a h7 h8 => by rw [upm_off _ _ (by omega)]; exact hF1.1 a h7 h8, fun j h7 h8 h9 => by rw [upm_off _ _ (by omega)]; exact hF1.2 j h7 h8 h9⟩ (fun t2 ht2 => ?_)
          by_cases e : t2 = t
          · rw [e, upm_same]
          · rw [upm_ne _ _ (fun _ => e)]; exact hy t2 (by omega)
      refine G_iload_n d_X5_build_23 rfl ?_
      refine G_aload_n d_X5_build_24 rfl ?_
      refine G_getIe (fl_X5_22.r) d_X5_build_25 (wk_30 _) rfl (h1.2.2) ?_
      refine G_icmp_gt 71 d_X5_build_28 (by decide) (by omega) (by omega) (fun c28 => ?_) (fun c28 => ?_)
      · omega
      · refine G_iconst d_X5_build_31 ?_
        refine G_istore d_X5_build_32 (by decide) rfl ?_
        exact L1 0 (by omega) m1 h1 hz hF1 (fun t2 ht2 => absurd ht2 (by omega))
    · have hke : k = pN s + 1 := by omega
      subst hke
      refine G_iload_n d_X5_build_23 rfl ?_
      refine G_aload_n d_X5_build_24 rfl ?_
      refine G_getIe (fl_X5_22.r) d_X5_build_25 (wk_30 _) rfl (h1.2.2) ?_
      refine G_icmp_gt 71 d_X5_build_28 (by decide) (by omega) (by omega) (fun c28 => ?_) (fun c28 => ?_)
      · refine G_vret (mc := 0) (ms := 0) (st := []) d_X5_build_71 rfl ?_
        exact ⟨rfl, m1, rfl, h1, fun k hk => hz k (by omega), hF1⟩
      · omega
  refine G_aload_n d_X5_build_0 rfl ?_
  refine G_aload_n d_X5_build_1 rfl ?_
  refine G_callV0 cl_X5_40 rfl d_X5_build_2 (wk_6 _) (Nat.le_of_ble_eq_true rfl) (by decide) (sp_Csc s hCY) ?_
  rintro _ _ ⟨rfl, rfl⟩
  refine G_putII fl_X5_15 d_X5_build_5 (wk_30 _) rfl ?_
  refine G_aload_n d_X5_build_8 rfl ?_
  refine G_aload_n d_X5_build_9 rfl ?_
  refine G_getIe (v := (pT s : Int)) (fl_X5_46.r) d_X5_build_10 (wk_6 _) rfl ((by rw [upm_off _ _ (by decide)]; exact hCY.1)) ?_
  refine G_putII fl_X5_19 d_X5_build_13 (wk_30 _) rfl ?_
  refine G_aload_n d_X5_build_16 rfl ?_
  refine G_iload_n d_X5_build_17 rfl ?_
  refine G_putII fl_X5_22 d_X5_build_18 (wk_30 _) rfl ?_
  refine G_iconst d_X5_build_21 ?_
  refine G_istore_n d_X5_build_22 (by decide) rfl ?_
  exact L 0 (by omega) _ ⟨by rw [upm_ne _ _ (fun _ => by decide), upm_ne _ _ (fun _ => by decide), upm_same], by rw [upm_ne _ _ (fun _ => by decide), upm_same], upm_same _ _ _ _⟩ (fun k2 hk2 => absurd hk2 (by omega)) ⟨fun a h7 h8 => by rw [upm_off _ _ h7, upm_off _ _ h7, upm_off _ _ h7], fun j h7 h8 h9 => by rw [upm_ne _ _ (fun _ => h9), upm_ne _ _ (fun _ => h8), upm_ne _ _ (fun _ => h7)]⟩ _
theorem sp_addPulse {w : List KD} {m : Nat → Nat → Int} (s : Nat → Int) (hV : VS s) (k F D : Nat) (ch : Int) (f : Nat → Int) (hSC : SC s m) (hk : k < pN s) (hwF : (WC ++ w)[F]? = some (1, 512, [])) (hwD : (WC ++ w)[D]? = some (1, 512, [])) (hD : D ≠ 30) (hDk : D ≠ 32 + k) (hch : -6 ≤ ch ∧ ch ≤ 6) (hph : ∀ t, t < pSc s → m (32 + k) t = pOwn s k t) (hf : ∀ t, t < pSc s → m F t = f t ∧ 0 ≤ f t ∧ f t < (pT s : Int)) : Sp M_X5_addPulse 0 0 0 [rV 30, iV (k : Int), iV ch, rV F, rV D] (WC ++ w, m) (fun r h => r = none ∧ ∃ m2, h = (WC ++ w, m2) ∧ (∀ t, t < pSc s → m2 D t = (f t + ch * pOwn s k t) % (pT s : Int)) ∧ (∀ a, a ≠ D → m2 a = m a) ∧ ∀ t, pSc s ≤ t → m2 D t = m D t) := by
  refine Sp.ofG (ls := [rV 30, iV (k : Int), iV ch, rV F, rV D, uV, uV, uV]) (by decide +kernel) rfl (Nat.le_of_ble_eq_true rfl) ?_
  have hC := pC_le hV
  have hN := hV.N
  have hT := hV.T
  have hSc := hV.Sc
  have htm : (ch + 7 * (pT s : Int)).toNat % pT s < pT s := Nat.mod_lt _ (by omega)
  have L : ∀ t : Nat, t ≤ pSc s → ∀ m1, (∀ t2, t2 < t → m1 D t2 = (f t2 + ch * pOwn s k t2) % (pT s : Int)) → (∀ t2, t ≤ t2 → m1 D t2 = m D t2) → (∀ a, a ≠ D → m1 a = m a) → G M_X5_addPulse 0 0 0 27 [rV 30, iV (k : Int), iV ch, rV F, rV D, iV (((ch + 7 * (pT s : Int)).toNat % pT s : Nat) : Int), rV (32 + k), iV (t : Int)] [] (WC ++ w, m1) (fun r h => r = none ∧ ∃ m2, h = (WC ++ w, m2) ∧ (∀ t, t < pSc s → m2 D t = (f t + ch * pOwn s k t) % (pT s : Int)) ∧ (∀ a, a ≠ D → m2 a = m a) ∧ ∀ t, pSc s ≤ t → m2 D t = m D t) := by
    refine loop_up (pSc s) _ ?_
    intro t ht ih m1 hz hy hfr
    refine G_iload d_X5_addPulse_27 rfl ?_
    refine G_aload_n d_X5_addPulse_29 rfl ?_
    refine G_getIe (v := (pSc s : Int)) (fl_X5_15.r) d_X5_addPulse_30 (wk_30 _) rfl ((by rw [hfr 30 (fun e => hD e.symm)]; exact hSC.1)) ?_
    refine G_icmp_ge 65 d_X5_addPulse_33 (by decide) (by omega) (by omega) (fun c33 => ?_) (fun c33 => ?_)
    · refine G_vret (mc := 0) (ms := 0) (st := []) d_X5_addPulse_65 rfl ?_
      exact ⟨rfl, m1, rfl, fun t2 ht2 => hz t2 (by omega), hfr, fun t2 ht2 => hy t2 (by omega)⟩
    · refine G_aload d_X5_addPulse_36 rfl ?_
      refine G_iload d_X5_addPulse_38 rfl ?_
      refine G_aload_n d_X5_addPulse_40 rfl ?_
      refine G_iload d_X5_addPulse_41 rfl ?_
      have hft : m1 F t = f t := by
        by_cases e : F = D
        · rw [e, hy t (Nat.le_refl _), ← e]; exact (hf t (by omega)).1
        · rw [hfr F e]; exact (hf t (by omega)).1
      have hfb := (hf t (by omega)).2
      have hob := pOwn_rng hV k t
      have hmb := mulb (a := (((ch + 7 * (pT s : Int)).toNat % pT s : Nat) : Int)) (b := pOwn s k t) (A := 48) (B := 48) ⟨by omega, by omega⟩ ⟨hob.1, by omega⟩
      refine G_ialdj (t) d_X5_addPulse_43 hwF (by omega) (by omega) (by first | decide | assumption | omega) ?_
      rw [hft]
      refine G_iload d_X5_addPulse_44 rfl ?_
      refine G_aload d_X5_addPulse_46 rfl ?_
      refine G_iload d_X5_addPulse_48 rfl ?_
      refine G_ialdj (t) d_X5_addPulse_50 (wk_ph _ (show k < 6 by omega)) (by omega) (by omega) (by first | decide | assumption | omega) ?_
      rw [hfr (32 + k) (fun e => hDk e.symm), hph t (by omega)]
      refine G_imul d_X5_addPulse_51 ?_
      refine G_iadd d_X5_addPulse_52 ?_
      refine G_aload_n d_X5_addPulse_53 rfl ?_
      refine G_getIe (v := (pT s : Int)) (fl_X5_19.r) d_X5_addPulse_54 (wk_30 _) rfl ((by rw [hfr 30 (fun e => hD e.symm)]; exact hSC.2.1)) ?_
      refine G_iremN ((f t + (((ch + 7 * (pT s : Int)).toNat % pT s : Nat) : Int) * pOwn s k t).toNat) (pT s) ((by omega)) (rfl) d_X5_addPulse_57 (by omega) (by omega) (by omega) ?_
      refine G_iastj (t) d_X5_addPulse_58 hwD (by omega) (by omega) (by first | decide | assumption | omega) ?_
      refine G_iinc d_X5_addPulse_59 rfl (by decide) rfl ?_
      refine G_goto 27 d_X5_addPulse_62 (by decide) ?_
      refine ih (by omega) _ (fun t2 ht2 => ?_) (fun t2 ht2 => by rw [upm_ne _ _ (fun _ => by omega)]; exact hy t2 (by omega)) (fun a ha => by rw [upm_off _ _ ha]; exact hfr a ha)
      by_cases e : t2 = t
      · rw [e, upm_same, addP (by omega) (by omega)]
      · rw [upm_ne _ _ (fun _ => e)]; exact hz t2 (by omega)
  refine G_iload_n d_X5_addPulse_0 rfl ?_
  refine G_bipush d_X5_addPulse_1 (by decide) ?_
  refine G_aload_n d_X5_addPulse_3 rfl ?_
  refine G_getIe (fl_X5_19.r) d_X5_addPulse_4 (wk_30 _) rfl (hSC.2.1) ?_
  refine G_imul d_X5_addPulse_7 ?_
  refine G_iadd d_X5_addPulse_8 ?_
  refine G_aload_n d_X5_addPulse_9 rfl ?_
  refine G_getIe (fl_X5_19.r) d_X5_addPulse_10 (wk_30 _) rfl (hSC.2.1) ?_
  refine G_iremN ((ch + 7 * (pT s : Int)).toNat) (pT s) ((by omega)) (rfl) d_X5_addPulse_13 (by omega) (by omega) (by omega) ?_
  refine G_istore d_X5_addPulse_14 (by decide) rfl ?_
  refine G_aload_n d_X5_addPulse_16 rfl ?_
  refine G_getR (r := 31) (fl_X5_30.r) d_X5_addPulse_17 (wk_30 _) rfl rfl ?_
  refine G_iload_n d_X5_addPulse_20 rfl ?_
  refine G_aald (r := 32 + k) d_X5_addPulse_21 (wk_31 _) (by omega) (by decide) (ph_at (by omega)) ?_
  refine G_astore d_X5_addPulse_22 (by decide) rfl ?_
  refine G_iconst d_X5_addPulse_24 ?_
  refine G_istore d_X5_addPulse_25 (by decide) rfl ?_
  exact L 0 (by omega) m (fun t2 ht2 => absurd ht2 (by omega)) (fun _ _ => rfl) (fun _ _ => rfl)
