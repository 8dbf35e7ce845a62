def qu32 (A B : Int) : UInt32 := FP.fdiv (FP.i2f (Int32.ofInt A)) (FP.i2f (Int32.ofInt B))
theorem qu32_nn {A B : Int} (hA : 0 ≤ A ∧ A ≤ 2401) (hB : 1 ≤ B ∧ B ≤ 248832) : vf_n32 (FP.fdiv (FP.i2f (Int32.ofInt A)) (FP.i2f (Int32.ofInt B))) ∧ FP.Core.val32 (qu32 A B) ≠ .nan ∧ (qu32 A B).toNat < 2147483648 := by
  by_cases e : A = 0
  · subst e
    have h := FV32.qz (b := B) (by omega)
    unfold qu32
    rw [h]
    exact ⟨by unfold vf_n32; decide +kernel, by decide +kernel, by decide +kernel⟩
  · obtain ⟨c, q, h, h1, h2⟩ := FV32.quo (a := A) (b := B) (by omega) (by omega)
    have hb := h.bits
    have hr := h.rng
    exact ⟨h.nn, by unfold qu32; rw [h.1]; exact fun e => (by cases e), by unfold qu32; rw [hb]; omega⟩
theorem sp_qu32 {w : List KD} {m : Nat → Nat → Int} {A B : Int} (hA : 0 ≤ A ∧ A ≤ 2401) (hB : 1 ≤ B ∧ B ≤ 248832) : Sp M_X9_bitsOfFloat 0 0 0 [vV (.float (FP.fdiv (FP.i2f (Int32.ofInt A)) (FP.i2f (Int32.ofInt B))))] (WC ++ w, m) (fun r h => r = some (iV ((qu32 A B).toNat : Int)) ∧ h = (WC ++ w, m)) := by
  unfold qu32
  by_cases e : A = 0
  · subst e
    rw [FV32.qz (b := B) (by omega)]
    exact sp_bitsZ32
  · obtain ⟨c, q, h, h1, h2⟩ := FV32.quo (a := A) (b := B) (by omega) (by omega)
    exact sp_bitsOfFloat _ c q h (by omega)
def qu64 (A B : Int) : UInt64 := FP.ddiv (FP.i2d (Int32.ofInt A)) (FP.i2d (Int32.ofInt B))
theorem qu64_nn {A B : Int} (hA : 0 ≤ A ∧ A ≤ 2401) (hB : 1 ≤ B ∧ B ≤ 248832) : vf_n64 (FP.ddiv (FP.i2d (Int32.ofInt A)) (FP.i2d (Int32.ofInt B))) ∧ FP.Core.val64 (qu64 A B) ≠ .nan ∧ (qu64 A B).toNat < 9223372036854775808 := by
  by_cases e : A = 0
  · subst e
    have h := FV64.qz (b := B) (by omega)
    unfold qu64
    rw [h]
    exact ⟨by unfold vf_n64; decide +kernel, by decide +kernel, by decide +kernel⟩
  · obtain ⟨c, q, h, h1, h2⟩ := FV64.quo (a := A) (b := B) (by omega) (by omega)
    have hb := h.bits
    have hr := h.rng
    exact ⟨h.nn, by unfold qu64; rw [h.1]; exact fun e => (by cases e), by unfold qu64; rw [hb]; omega⟩
theorem sp_qu64 {w : List KD} {m : Nat → Nat → Int} {A B : Int} (hA : 0 ≤ A ∧ A ≤ 2401) (hB : 1 ≤ B ∧ B ≤ 248832) : Sp M_X9_bitsOfDouble 0 0 0 [vV (.double (FP.ddiv (FP.i2d (Int32.ofInt A)) (FP.i2d (Int32.ofInt B))))] (WC ++ w, m) (fun r h => r = some (lV ((qu64 A B).toNat : Int)) ∧ h = (WC ++ w, m)) := by
  unfold qu64
  by_cases e : A = 0
  · subst e
    rw [FV64.qz (b := B) (by omega)]
    exact sp_bitsZ64
  · obtain ⟨c, q, h, h1, h2⟩ := FV64.quo (a := A) (b := B) (by omega) (by omega)
    exact sp_bitsOfDouble _ c q h (by omega)
def vShare (s : Nat → Int) (a : Int) : Int := if dvS s a ≤ 0 then -1 else ((qu32 (abS s a) (dvS s a)).toNat : Int)
def vPart (s : Nat → Int) (a : Int) : Int := if dvS s a ≤ 0 then -1 else ((qu64 (abS s a) (dvS s a)).toNat : Int)
theorem sp_Cshare {w : List KD} {m : Nat → Nat → Int} (s : Nat → Int) (hV : VS s) (hI : CI s m) (a : Int) (hra : -2147483648 ≤ a ∧ a < 2147483648) : Sp M_X9_share 13 0 0 [rV 0, iV a] (WC ++ w, m) (fun r h => r = some (iV (vShare s a)) ∧ ∃ m2, h = (WC ++ w, m2) ∧ CI s m2 ∧ FXo m m2) := by
  refine Sp.ofG (ls := [rV 0, iV a, uV]) (by decide +kernel) rfl (Nat.le_of_ble_eq_true rfl) ?_
  have hC := pC_le hV
  have hN := hV.N
  have hT := hV.T
  have hSc := hV.Sc
  refine G_aload_n d_X9_share_0 rfl ?_
  refine G_iload_n d_X9_share_1 rfl ?_
  refine G_callV1 cl_X9_367 rfl d_X9_share_2 (wk_0 _) (Nat.le_of_ble_eq_true rfl) (by decide) (sp_Cdivisor s hV hI a hra) ?_
  rintro _ _ ⟨rfl, m2, rfl, hI2, hX2⟩
  have hdr := dvS_rng hV a
  have har := abS_rng hV a
  refine G_istore_n d_X9_share_5 (by decide) rfl ?_
  refine G_iload_n d_X9_share_6 rfl ?_
  refine G_if_gt 12 d_X9_share_7 (by decide) (by omega) (fun c7 => ?_) (fun c7 => ?_)
  · refine G_aload_n d_X9_share_12 rfl ?_
    refine G_iload_n d_X9_share_13 rfl ?_
    refine G_callV1 cl_X9_370 rfl d_X9_share_14 (wk_0 _) (Nat.le_of_ble_eq_true rfl) (by decide) (sp_Cdividend s hV hI2 a hra) ?_
    rintro _ _ ⟨rfl, m3, rfl, hI3, hX3⟩
    refine G_i2f d_X9_share_17 ?_
    refine G_iload_n d_X9_share_18 rfl ?_
    refine G_i2f d_X9_share_19 ?_
    refine G_fdiv d_X9_share_20 ((qu32_nn har (by omega)).1) ?_
    refine G_callS1 cl_X9_373 d_X9_share_21 (Nat.le_of_ble_eq_true rfl) (by decide) (sp_qu32 har (by omega)) ?_
    rintro _ _ ⟨rfl, rfl⟩
    refine G_iret (mc := 0) (ms := 0) (st := []) d_X9_share_24 rfl ?_
    exact ⟨by unfold vShare; rw [if_neg (by omega)], m3, rfl, hI3, hX2.trans hX3⟩
  · refine G_iconst d_X9_share_10 ?_
    refine G_iret (mc := 0) (ms := 0) (st := []) d_X9_share_11 rfl ?_
    exact ⟨by unfold vShare; rw [if_pos (by omega)], m2, rfl, hI2, hX2⟩
theorem sp_Cpart {w : List KD} {m : Nat → Nat → Int} (s : Nat → Int) (hV : VS s) (hI : CI s m) (a : Int) (hra : -2147483648 ≤ a ∧ a < 2147483648) : Sp M_X9_part 13 0 0 [rV 0, iV a] (WC ++ w, m) (fun r h => r = some (lV (vPart s a)) ∧ ∃ m2, h = (WC ++ w, m2) ∧ CI s m2 ∧ FXo m m2) := by
  refine Sp.ofG (ls := [rV 0, iV a, uV]) (by decide +kernel) rfl (Nat.le_of_ble_eq_true rfl) ?_
  have hC := pC_le hV
  have hN := hV.N
  have hT := hV.T
  have hSc := hV.Sc
  refine G_aload_n d_X9_part_0 rfl ?_
  refine G_iload_n d_X9_part_1 rfl ?_
  refine G_callV1 cl_X9_367 rfl d_X9_part_2 (wk_0 _) (Nat.le_of_ble_eq_true rfl) (by decide) (sp_Cdivisor s hV hI a hra) ?_
  rintro _ _ ⟨rfl, m2, rfl, hI2, hX2⟩
  have hdr := dvS_rng hV a
  have har := abS_rng hV a
  refine G_istore_n d_X9_part_5 (by decide) rfl ?_
  refine G_iload_n d_X9_part_6 rfl ?_
  refine G_if_gt 14 d_X9_part_7 (by decide) (by omega) (fun c7 => ?_) (fun c7 => ?_)
  · refine G_aload_n d_X9_part_14 rfl ?_
    refine G_iload_n d_X9_part_15 rfl ?_
    refine G_callV1 cl_X9_370 rfl d_X9_part_16 (wk_0 _) (Nat.le_of_ble_eq_true rfl) (by decide) (sp_Cdividend s hV hI2 a hra) ?_
    rintro _ _ ⟨rfl, m3, rfl, hI3, hX3⟩
    refine G_i2d d_X9_part_19 ?_
    refine G_iload_n d_X9_part_20 rfl ?_
    refine G_i2d d_X9_part_21 ?_
    refine G_ddiv d_X9_part_22 ((qu64_nn har (by omega)).1) ?_
    refine G_callS1 cl_X9_377 d_X9_part_23 (Nat.le_of_ble_eq_true rfl) (by decide) (sp_qu64 har (by omega)) ?_
    rintro _ _ ⟨rfl, rfl⟩
    refine G_lret (mc := 0) (ms := 0) (st := []) d_X9_part_26 rfl ?_
    exact ⟨by unfold vPart; rw [if_neg (by omega)], m3, rfl, hI3, hX2.trans hX3⟩
  · refine G_ldc2 d_X9_part_10 co_X9_350 ?_
    refine G_lret (mc := 0) (ms := 0) (st := []) d_X9_part_13 rfl ?_
    exact ⟨by unfold vPart; rw [if_pos (by omega)], m2, rfl, hI2, hX2⟩
