/-! the class's tape -/
theorem bm_back {x : Int} (h : 0 ≤ x ∧ x ≤ 255) : x.bmod 256 % 256 = x := by
  show x.bmod 256 % ((256 : Nat) : Int) = x
  rw [Int.bmod_emod]
  omega
theorem bm_rng (x : Int) : -128 ≤ x.bmod 256 ∧ x.bmod 256 < 128 := by
  have h1 := Int.le_bmod (x := x) (m := 256) (by decide)
  have h2 := Int.bmod_lt (x := x) (m := 256) (by decide)
  omega
def byC (x : Int) (i : Nat) : Int := (x / ((2 ^ (24 - 8 * i) : Nat) : Int)).bmod 256
theorem byC_rng (x : Int) (i : Nat) : -128 ≤ byC x i ∧ byC x i < 128 := bm_rng _
theorem byC_eq (x : Int) (i : Nat) : byC x i = (byB x i).bmod 256 := by
  unfold byC byB
  exact (Int.emod_bmod _ _).symm
theorem sp_put {w : List KD} {m : Nat → Nat → Int} (a : Int) (hra : -2147483648 ≤ a ∧ a < 2147483648) (n : Nat) (hn : n + 4 ≤ 400) (hz : m 21 0 = (n : Int)) : Sp M_X7_put 0 0 0 [rV 21, iV a] (WC ++ w, m) (fun r h => r = none ∧ h = (WC ++ w, tyM 22 21 0 m n (byC a) 4)) := by
  refine Sp.ofG (ls := [rV 21, iV a, uV]) (by decide +kernel) rfl (Nat.le_of_ble_eq_true rfl) ?_
  have main : G M_X7_put 0 0 0 0 [rV 21, iV a, uV] [] (WC ++ w, tyM 22 21 0 m n (byC a) 0) (fun r h => r = none ∧ h = (WC ++ w, tyM 22 21 0 m n (byC a) 4)) := by
    refine G_bipush d_X7_put_0 (by decide) ?_
    refine G_istore_n d_X7_put_2 (by decide) rfl ?_
    refine G_iload_n d_X7_put_3 rfl ?_
    refine G_if_lt 46 d_X7_put_4 (by decide) (by decide) (fun hd => absurd hd (by decide)) (fun _ => ?_)
    refine G_aload_n d_X7_put_7 rfl ?_
    refine G_getIe (v := ((n + 0 : Nat) : Int)) (fl_X7_9.r) d_X7_put_8 (wk_21 _) rfl (tyM_sz (by decide) m n (byC a) 0) ?_
    refine G_sipush d_X7_put_11 (by decide) ?_
    refine G_icmp_ge 46 d_X7_put_14 (by decide) (by omega) (by omega) (fun c14 => ?_) (fun c14 => ?_)
    · omega
    · refine G_aload_n d_X7_put_17 rfl ?_
      refine G_getR (r := 22) (fl_X7_24.r) d_X7_put_18 (wk_21 _) rfl rfl ?_
      refine G_aload_n d_X7_put_21 rfl ?_
      refine G_getIe (v := ((n + 0 : Nat) : Int)) (fl_X7_9.r) d_X7_put_22 (wk_21 _) rfl (tyM_sz (by decide) m n (byC a) 0) ?_
      refine G_iload_n d_X7_put_25 rfl ?_
      refine G_iload_n d_X7_put_26 rfl ?_
      refine G_ishr (a / ((2 ^ 24 : Nat) : Int)) d_X7_put_27 (shrz hra (by decide)) ?_
      refine G_i2b d_X7_put_28 ?_
      have hbc := byC_rng a 0
      rw [show (a / ((2 ^ 24 : Nat) : Int)).bmod 256 = byC a 0 from rfl]
      refine G_bastj (n + 0) d_X7_put_29 (wk_22 _) (by omega) (by omega) (by decide) (by omega) ?_
      refine G_aload_n d_X7_put_30 rfl ?_
      refine G_dup d_X7_put_31 rfl ?_
      refine G_getIe (v := ((n + 0 : Nat) : Int)) (fl_X7_9.r) d_X7_put_32 (wk_21 _) rfl ((by rw [upm_off _ _ (by decide)]; exact tyM_sz (by decide) m n (byC a) 0)) ?_
      refine G_iconst d_X7_put_35 ?_
      refine G_iadd d_X7_put_36 ?_
      refine G_putII fl_X7_9 d_X7_put_37 (wk_21 _) rfl ?_
      refine G_iinc d_X7_put_40 rfl (by decide) rfl ?_
      refine G_goto 3 d_X7_put_43 (by decide) ?_
      rw [tyM_step (by decide) m n (byC a) 0]
      refine G_iload_n d_X7_put_3 rfl ?_
      refine G_if_lt 46 d_X7_put_4 (by decide) (by decide) (fun hd => absurd hd (by decide)) (fun _ => ?_)
      refine G_aload_n d_X7_put_7 rfl ?_
      refine G_getIe (v := ((n + 1 : Nat) : Int)) (fl_X7_9.r) d_X7_put_8 (wk_21 _) rfl (tyM_sz (by decide) m n (byC a) 1) ?_
      refine G_sipush d_X7_put_11 (by decide) ?_
      refine G_icmp_ge 46 d_X7_put_14 (by decide) (by omega) (by omega) (fun c14 => ?_) (fun c14 => ?_)
      · omega
      · refine G_aload_n d_X7_put_17 rfl ?_
        refine G_getR (r := 22) (fl_X7_24.r) d_X7_put_18 (wk_21 _) rfl rfl ?_
        refine G_aload_n d_X7_put_21 rfl ?_
        refine G_getIe (v := ((n + 1 : Nat) : Int)) (fl_X7_9.r) d_X7_put_22 (wk_21 _) rfl (tyM_sz (by decide) m n (byC a) 1) ?_
        refine G_iload_n d_X7_put_25 rfl ?_
        refine G_iload_n d_X7_put_26 rfl ?_
        refine G_ishr (a / ((2 ^ 16 : Nat) : Int)) d_X7_put_27 (shrz hra (by decide)) ?_
        refine G_i2b d_X7_put_28 ?_
        have hbc := byC_rng a 1
        rw [show (a / ((2 ^ 16 : Nat) : Int)).bmod 256 = byC a 1 from rfl]
        refine G_bastj (n + 1) d_X7_put_29 (wk_22 _) (by omega) (by omega) (by decide) (by omega) ?_
        refine G_aload_n d_X7_put_30 rfl ?_
        refine G_dup d_X7_put_31 rfl ?_
        refine G_getIe (v := ((n + 1 : Nat) : Int)) (fl_X7_9.r) d_X7_put_32 (wk_21 _) rfl ((by rw [upm_off _ _ (by decide)]; exact tyM_sz (by decide) m n (byC a) 1)) ?_
        refine G_iconst d_X7_put_35 ?_
        refine G_iadd d_X7_put_36 ?_
        refine G_putII fl_X7_9 d_X7_put_37 (wk_21 _) rfl ?_
        refine G_iinc d_X7_put_40 rfl (by decide) rfl ?_
        refine G_goto 3 d_X7_put_43 (by decide) ?_
        rw [tyM_step (by decide) m n (byC a) 1]
        refine G_iload_n d_X7_put_3 rfl ?_
        refine G_if_lt 46 d_X7_put_4 (by decide) (by decide) (fun hd => absurd hd (by decide)) (fun _ => ?_)
        refine G_aload_n d_X7_put_7 rfl ?_
        refine G_getIe (v := ((n + 2 : Nat) : Int)) (fl_X7_9.r) d_X7_put_8 (wk_21 _) rfl (tyM_sz (by decide) m n (byC a) 2) ?_
        refine G_sipush d_X7_put_11 (by decide) ?_
        refine G_icmp_ge 46 d_X7_put_14 (by decide) (by omega) (by omega) (fun c14 => ?_) (fun c14 => ?_)
        · omega
        · refine G_aload_n d_X7_put_17 rfl ?_
          refine G_getR (r := 22) (fl_X7_24.r) d_X7_put_18 (wk_21 _) rfl rfl ?_
          refine G_aload_n d_X7_put_21 rfl ?_
          refine G_getIe (v := ((n + 2 : Nat) : Int)) (fl_X7_9.r) d_X7_put_22 (wk_21 _) rfl (tyM_sz (by decide) m n (byC a) 2) ?_
          refine G_iload_n d_X7_put_25 rfl ?_
          refine G_iload_n d_X7_put_26 rfl ?_
          refine G_ishr (a / ((2 ^ 8 : Nat) : Int)) d_X7_put_27 (shrz hra (by decide)) ?_
          refine G_i2b d_X7_put_28 ?_
          have hbc := byC_rng a 2
          rw [show (a / ((2 ^ 8 : Nat) : Int)).bmod 256 = byC a 2 from rfl]
          refine G_bastj (n + 2) d_X7_put_29 (wk_22 _) (by omega) (by omega) (by decide) (by omega) ?_
          refine G_aload_n d_X7_put_30 rfl ?_
          refine G_dup d_X7_put_31 rfl ?_
          refine G_getIe (v := ((n + 2 : Nat) : Int)) (fl_X7_9.r) d_X7_put_32 (wk_21 _) rfl ((by rw [upm_off _ _ (by decide)]; exact tyM_sz (by decide) m n (byC a) 2)) ?_
          refine G_iconst d_X7_put_35 ?_
          refine G_iadd d_X7_put_36 ?_
          refine G_putII fl_X7_9 d_X7_put_37 (wk_21 _) rfl ?_
          refine G_iinc d_X7_put_40 rfl (by decide) rfl ?_
          refine G_goto 3 d_X7_put_43 (by decide) ?_
          rw [tyM_step (by decide) m n (byC a) 2]
          refine G_iload_n d_X7_put_3 rfl ?_
          refine G_if_lt 46 d_X7_put_4 (by decide) (by decide) (fun hd => absurd hd (by decide)) (fun _ => ?_)
          refine G_aload_n d_X7_put_7 rfl ?_
          refine G_getIe (v := ((n + 3 : Nat) : Int)) (fl_X7_9.r) d_X7_put_8 (wk_21 _) rfl (tyM_sz (by decide) m n (byC a) 3) ?_
          refine G_sipush d_X7_put_11 (by decide) ?_
          refine G_icmp_ge 46 d_X7_put_14 (by decide) (by omega) (by omega) (fun c14 => ?_) (fun c14 => ?_)
          · omega
          · refine G_aload_n d_X7_put_17 rfl ?_
            refine G_getR (r := 22) (fl_X7_24.r) d_X7_put_18 (wk_21 _) rfl rfl ?_
            refine G_aload_n d_X7_put_21 rfl ?_
            refine G_getIe (v := ((n + 3 : Nat) : Int)) (fl_X7_9.r) d_X7_put_22 (wk_21 _) rfl (tyM_sz (by decide) m n (byC a) 3) ?_
            refine G_iload_n d_X7_put_25 rfl ?_
            refine G_iload_n d_X7_put_26 rfl ?_
            refine G_ishr (a / ((2 ^ 0 : Nat) : Int)) d_X7_put_27 (shrz hra (by decide)) ?_
            refine G_i2b d_X7_put_28 ?_
            have hbc := byC_rng a 3
            rw [show (a / ((2 ^ 0 : Nat) : Int)).bmod 256 = byC a 3 from rfl]
            refine G_bastj (n + 3) d_X7_put_29 (wk_22 _) (by omega) (by omega) (by decide) (by omega) ?_
            refine G_aload_n d_X7_put_30 rfl ?_
            refine G_dup d_X7_put_31 rfl ?_
            refine G_getIe (v := ((n + 3 : Nat) : Int)) (fl_X7_9.r) d_X7_put_32 (wk_21 _) rfl ((by rw [upm_off _ _ (by decide)]; exact tyM_sz (by decide) m n (byC a) 3)) ?_
            refine G_iconst d_X7_put_35 ?_
            refine G_iadd d_X7_put_36 ?_
            refine G_putII fl_X7_9 d_X7_put_37 (wk_21 _) rfl ?_
            refine G_iinc d_X7_put_40 rfl (by decide) rfl ?_
            refine G_goto 3 d_X7_put_43 (by decide) ?_
            rw [tyM_step (by decide) m n (byC a) 3]
            refine G_iload_n d_X7_put_3 rfl ?_
            refine G_if_lt 46 d_X7_put_4 (by decide) (by decide) (fun _ => ?_) (fun hd => absurd hd (by decide))
            refine G_vret (mc := 0) (ms := 0) (st := []) d_X7_put_46 rfl ?_
            exact ⟨rfl, rfl⟩
  rw [tyM_0 hz] at main
  exact main
theorem sp_Cfeed {w : List KD} {m : Nat → Nat → Int} (a : Int) (hra : -2147483648 ≤ a ∧ a < 2147483648) (b : Int) (hrb : -2147483648 ≤ b ∧ b < 2147483648) (c : Int) (hrc : -2147483648 ≤ c ∧ c < 2147483648) (e : Int) (hre : -2147483648 ≤ e ∧ e < 2147483648) (g : Int) (hrg : -2147483648 ≤ g ∧ g < 2147483648) (z : Nat) (hz9 : z ≤ 400) (hz : m 21 0 = (z : Int)) : Sp M_X9_feed 1 0 0 [rV 0, iV a, iV b, iV c, iV e, iV g] (WC ++ w, m) (fun r h => r = some (iV (if z ≤ 380 then (z : Int) + 20 else -1)) ∧ h = (WC ++ w, if z ≤ 380 then tyM 22 21 0 m z (fun j => byC (arg5 a b c e g (j / 4)) (j % 4)) 20 else m)) := by
  refine Sp.ofG (ls := [rV 0, iV a, iV b, iV c, iV e, iV g]) (by decide +kernel) rfl (Nat.le_of_ble_eq_true rfl) ?_
  refine G_aload_n d_X9_feed_0 rfl ?_
  refine G_getR (r := 21) (fl_X9_36.r) d_X9_feed_1 (wk_0 _) rfl rfl ?_
  refine G_getIe (v := (z : Int)) (fl_X9_187.r) d_X9_feed_4 (wk_21 _) rfl (hz) ?_
  refine G_bipush d_X9_feed_7 (by decide) ?_
  refine G_iadd d_X9_feed_9 ?_
  refine G_sipush d_X9_feed_10 (by decide) ?_
  refine G_icmp_le 18 d_X9_feed_13 (by decide) (by omega) (by omega) (fun c13 => ?_) (fun c13 => ?_)
  · refine G_aload_n d_X9_feed_18 rfl ?_
    refine G_getR (r := 21) (fl_X9_36.r) d_X9_feed_19 (wk_0 _) rfl rfl ?_
    refine G_iload_n d_X9_feed_22 rfl ?_
    refine G_callV1 cl_X9_190 rfl d_X9_feed_23 (wk_21 _) (Nat.le_of_ble_eq_true rfl) (by decide) (sp_put a hra z (by omega) hz) ?_
    rintro _ _ ⟨rfl, rfl⟩
    refine G_aload_n d_X9_feed_26 rfl ?_
    refine G_getR (r := 21) (fl_X9_36.r) d_X9_feed_27 (wk_0 _) rfl rfl ?_
    refine G_iload_n d_X9_feed_30 rfl ?_
    refine G_callV1 cl_X9_190 rfl d_X9_feed_31 (wk_21 _) (Nat.le_of_ble_eq_true rfl) (by decide) (sp_put b hrb (z + 4) (by omega) (tyM_sz (by decide) _ _ _ 4)) ?_
    rintro _ _ ⟨rfl, rfl⟩
    refine G_aload_n d_X9_feed_34 rfl ?_
    refine G_getR (r := 21) (fl_X9_36.r) d_X9_feed_35 (wk_0 _) rfl rfl ?_
    refine G_iload_n d_X9_feed_38 rfl ?_
    refine G_callV1 cl_X9_190 rfl d_X9_feed_39 (wk_21 _) (Nat.le_of_ble_eq_true rfl) (by decide) (sp_put c hrc (z + 4 + 4) (by omega) (tyM_sz (by decide) _ _ _ 4)) ?_
    rintro _ _ ⟨rfl, rfl⟩
    refine G_aload_n d_X9_feed_42 rfl ?_
    refine G_getR (r := 21) (fl_X9_36.r) d_X9_feed_43 (wk_0 _) rfl rfl ?_
    refine G_iload d_X9_feed_46 rfl ?_
    refine G_callV1 cl_X9_190 rfl d_X9_feed_48 (wk_21 _) (Nat.le_of_ble_eq_true rfl) (by decide) (sp_put e hre (z + 4 + 4 + 4) (by omega) (tyM_sz (by decide) _ _ _ 4)) ?_
    rintro _ _ ⟨rfl, rfl⟩
    refine G_aload_n d_X9_feed_51 rfl ?_
    refine G_getR (r := 21) (fl_X9_36.r) d_X9_feed_52 (wk_0 _) rfl rfl ?_
    refine G_iload d_X9_feed_55 rfl ?_
    refine G_callV1 cl_X9_190 rfl d_X9_feed_57 (wk_21 _) (Nat.le_of_ble_eq_true rfl) (by decide) (sp_put g hrg (z + 4 + 4 + 4 + 4) (by omega) (tyM_sz (by decide) _ _ _ 4)) ?_
    rintro _ _ ⟨rfl, rfl⟩
    rw [tyM_five (by decide) m z byC a b c e g]
    refine G_aload_n d_X9_feed_60 rfl ?_
    refine G_getR (r := 21) (fl_X9_36.r) d_X9_feed_61 (wk_0 _) rfl rfl ?_
    refine G_getIe (fl_X9_187.r) d_X9_feed_64 (wk_21 _) rfl (tyM_sz (by decide) m z _ 20) ?_
    refine G_iret (mc := 0) (ms := 0) (st := []) d_X9_feed_67 rfl ?_
    exact ⟨by rw [if_pos (by omega)]; rfl, by rw [if_pos (by omega)]⟩
  · refine G_iconst d_X9_feed_16 ?_
    refine G_iret (mc := 0) (ms := 0) (st := []) d_X9_feed_17 rfl ?_
    exact ⟨by rw [if_neg (by omega)], by rw [if_neg (by omega)]⟩
/-- the tape read from p on -/
def RC (B : Nat → Int) (z p : Nat) (m : Nat → Nat → Int) : Prop := m 21 0 = (z : Int) ∧ m 21 3 = (p : Int) ∧ ∀ j, j < z → m 22 j = (B j).bmod 256
theorem RC.at {B : Nat → Int} {z p : Nat} {m : Nat → Nat → Int} (h : RC B z p m) (q : Nat) : RC B z q (upm m 21 3 (q : Int)) := ⟨by rw [upm_ne _ _ (fun _ => by decide)]; exact h.1, upm_same _ _ _ _, fun j hj => by rw [upm_off _ _ (by decide)]; exact h.2.2 j hj⟩

theorem sp_byteHere {w : List KD} {m : Nat → Nat → Int} (B : Nat → Int) (z : Nat) (hz : z ≤ 400) (hB : ∀ j, j < z → 0 ≤ B j ∧ B j ≤ 255) (p : Nat) (hp : p ≤ 1000) (hR : RC B z p m) : Sp M_X7_byteHere 0 0 0 [rV 21] (WC ++ w, m) (fun r h => r = some (iV (hbF B z p)) ∧ h = (WC ++ w, m)) := by
  refine Sp.ofG (ls := [rV 21]) (by decide +kernel) rfl (Nat.le_of_ble_eq_true rfl) ?_
  refine G_aload_n d_X7_byteHere_0 rfl ?_
  refine G_getIe (v := (p : Int)) (fl_X7_21.r) d_X7_byteHere_1 (wk_21 _) rfl (hR.2.1) ?_
  refine G_aload_n d_X7_byteHere_4 rfl ?_
  refine G_getIe (v := (z : Int)) (fl_X7_9.r) d_X7_byteHere_5 (wk_21 _) rfl (hR.1) ?_
  refine G_icmp_ge 27 d_X7_byteHere_8 (by decide) (by omega) (by omega) (fun c8 => ?_) (fun c8 => ?_)
  · refine G_iconst d_X7_byteHere_27 ?_
    refine G_iret (mc := 0) (ms := 0) (st := []) d_X7_byteHere_28 rfl ?_
    exact ⟨by rw [hbF_out (by omega)], rfl⟩
  · refine G_aload_n d_X7_byteHere_11 rfl ?_
    refine G_getR (r := 22) (fl_X7_24.r) d_X7_byteHere_12 (wk_21 _) rfl rfl ?_
    refine G_aload_n d_X7_byteHere_15 rfl ?_
    refine G_getIe (v := (p : Int)) (fl_X7_21.r) d_X7_byteHere_16 (wk_21 _) rfl (hR.2.1) ?_
    refine G_baldj (p) d_X7_byteHere_19 (wk_22 _) (by omega) (by omega) (by decide) ?_
    rw [hR.2.2 p (by omega)]
    refine G_sipush d_X7_byteHere_20 (by decide) ?_
    refine G_iand ((B p).bmod 256 % 256) d_X7_byteHere_23 (and255 _) ?_
    refine G_goto 28 d_X7_byteHere_24 (by decide) ?_
    refine G_iret (mc := 0) (ms := 0) (st := []) d_X7_byteHere_28 rfl ?_
    exact ⟨by rw [hbF_in (by omega), bm_back (hB p (by omega))], rfl⟩
theorem sp_digitHere {w : List KD} {m : Nat → Nat → Int} (B : Nat → Int) (z : Nat) (hz : z ≤ 400) (hB : ∀ j, j < z → 0 ≤ B j ∧ B j ≤ 255) (p : Nat) (hp : p ≤ 1000) (hR : RC B z p m) : Sp M_X7_digitHere 1 0 0 [rV 21] (WC ++ w, m) (fun r h => r = some (iV (if dgF (hbF B z p) then 1 else 0)) ∧ h = (WC ++ w, m)) := by
  refine Sp.ofG (ls := [rV 21, uV]) (by decide +kernel) rfl (Nat.le_of_ble_eq_true rfl) ?_
  refine G_aload_n d_X7_digitHere_0 rfl ?_
  refine G_callV0 cl_X7_55 rfl d_X7_digitHere_1 (wk_21 _) (Nat.le_of_ble_eq_true rfl) (by decide) (sp_byteHere B z hz hB p (by omega) hR) ?_
  rintro _ _ ⟨rfl, rfl⟩
  have hbr := hbF_rng (z := z) hB p
  refine G_istore_n d_X7_digitHere_4 (by decide) rfl ?_
  refine G_iload_n d_X7_digitHere_5 rfl ?_
  refine G_bipush d_X7_digitHere_6 (by decide) ?_
  refine G_icmp_lt 21 d_X7_digitHere_8 (by decide) (by omega) (by omega) (fun c8 => ?_) (fun c8 => ?_)
  · refine G_iconst d_X7_digitHere_21 ?_
    refine G_zret (mc := 0) (ms := 0) (st := []) d_X7_digitHere_22 rfl (by omega) ?_
    exact ⟨by rw [if_neg (fun h => by have := h.1; omega)], rfl⟩
  · refine G_iload_n d_X7_digitHere_11 rfl ?_
    refine G_bipush d_X7_digitHere_12 (by decide) ?_
    refine G_icmp_gt 21 d_X7_digitHere_14 (by decide) (by omega) (by omega) (fun c14 => ?_) (fun c14 => ?_)
    · refine G_iconst d_X7_digitHere_21 ?_
      refine G_zret (mc := 0) (ms := 0) (st := []) d_X7_digitHere_22 rfl (by omega) ?_
      exact ⟨by rw [if_neg (fun h => by have := h.2; omega)], rfl⟩
    · refine G_iconst d_X7_digitHere_17 ?_
      refine G_goto 22 d_X7_digitHere_18 (by decide) ?_
      refine G_zret (mc := 0) (ms := 0) (st := []) d_X7_digitHere_22 rfl (by omega) ?_
      exact ⟨by rw [if_pos ⟨by omega, by omega⟩], rfl⟩
theorem sp_skipBlanks {w : List KD} {m : Nat → Nat → Int} (B : Nat → Int) (z : Nat) (hz : z ≤ 400) (hB : ∀ j, j < z → 0 ≤ B j ∧ B j ≤ 255) (p : Nat) (hp : p ≤ 500) (hR : RC B z p m) : Sp M_X7_skipBlanks 1 0 0 [rV 21] (WC ++ w, m) (fun r h => r = none ∧ h = (WC ++ w, upm m 21 3 ((skF B z p : Nat) : Int))) := by
  refine Sp.ofG (ls := [rV 21, uV]) (by decide +kernel) rfl (Nat.le_of_ble_eq_true rfl) ?_
  have L : ∀ i : Nat, i ≤ 400 → skF B z p = skF B z (p + i) → G M_X7_skipBlanks 1 0 0 2 [rV 21, iV (i : Int)] [] (WC ++ w, upm m 21 3 ((p + i : Nat) : Int)) (fun r h => r = none ∧ h = (WC ++ w, upm m 21 3 ((skF B z p : Nat) : Int))) := by
    refine loop_up (400) _ ?_
    intro i hi ih hsk
    refine G_iload_n d_X7_skipBlanks_2 rfl ?_
    refine G_sipush d_X7_skipBlanks_3 (by decide) ?_
    refine G_icmp_ge 34 d_X7_skipBlanks_6 (by decide) (by omega) (by omega) (fun c6 => ?_) (fun c6 => ?_)
    · refine G_vret (mc := 0) (ms := 0) (st := []) d_X7_skipBlanks_34 rfl ?_
      exact ⟨rfl, by rw [hsk, skF_no (by rw [hbF_out (by omega)]; decide)]⟩
    · refine G_aload_n d_X7_skipBlanks_9 rfl ?_
      refine G_callV0 cl_X7_55 rfl d_X7_skipBlanks_10 (wk_21 _) (Nat.le_of_ble_eq_true rfl) (by decide) (sp_byteHere B z hz hB (p + i) (by omega) (hR.at (p + i))) ?_
      rintro _ _ ⟨rfl, rfl⟩
      have hbr := hbF_rng (z := z) hB (p + i)
      refine G_bipush d_X7_skipBlanks_13 (by decide) ?_
      refine G_icmp_ne 34 d_X7_skipBlanks_15 (by decide) (by omega) (by omega) (fun c15 => ?_) (fun c15 => ?_)
      · refine G_vret (mc := 0) (ms := 0) (st := []) d_X7_skipBlanks_34 rfl ?_
        exact ⟨rfl, by rw [hsk, skF_no c15]⟩
      · refine G_aload_n d_X7_skipBlanks_18 rfl ?_
        refine G_dup d_X7_skipBlanks_19 rfl ?_
        refine G_getIe (v := ((p + i : Nat) : Int)) (fl_X7_21.r) d_X7_skipBlanks_20 (wk_21 _) rfl (upm_same _ _ _ _) ?_
        refine G_iconst d_X7_skipBlanks_23 ?_
        refine G_iadd d_X7_skipBlanks_24 ?_
        refine G_putII fl_X7_21 d_X7_skipBlanks_25 (wk_21 _) rfl ?_
        rw [upm_upm]
        refine G_iinc d_X7_skipBlanks_28 rfl (by decide) rfl ?_
        refine G_goto 2 d_X7_skipBlanks_31 (by decide) ?_
        rw [show ((p + i : Nat) : Int) + 1 = ((p + (i + 1) : Nat) : Int) by omega]
        exact ih (by omega) (by rw [hsk, skF_yes c15]; rfl)
  refine G_iconst d_X7_skipBlanks_0 ?_
  refine G_istore_n d_X7_skipBlanks_1 (by decide) rfl ?_
  have h9 := L 0 (by omega) rfl
  rw [Nat.add_zero, ← hR.2.1, upm_id] at h9
  exact h9
theorem sp_fail {w : List KD} {m : Nat → Nat → Int} (a b : Int) : Sp M_X7_fail 0 0 0 [rV 21, iV a, iV b] (WC ++ w, m) (fun r h => r = some (iV 0) ∧ h = (WC ++ w, upm (upm m 21 1 a) 21 2 b)) := by
  refine Sp.ofG (ls := [rV 21, iV a, iV b]) (by decide +kernel) rfl (Nat.le_of_ble_eq_true rfl) ?_
  refine G_aload_n d_X7_fail_0 rfl ?_
  refine G_iload_n d_X7_fail_1 rfl ?_
  refine G_putII fl_X7_15 d_X7_fail_2 (wk_21 _) rfl ?_
  refine G_aload_n d_X7_fail_5 rfl ?_
  refine G_iload_n d_X7_fail_6 rfl ?_
  refine G_putII fl_X7_18 d_X7_fail_7 (wk_21 _) rfl ?_
  refine G_iconst d_X7_fail_10 ?_
  refine G_zret (mc := 0) (ms := 0) (st := []) d_X7_fail_11 rfl (by omega) ?_
  exact ⟨rfl, rfl⟩
theorem nmF_end {B : Nat → Int} {z p : Nat} {v : Int} (h : ¬ dgF (hbF B z p) ∨ z ≤ p) : nmF B z (z - p) p v = (v, p) := by
  have h1 : ¬ dgF (hbF B z p) := by
    rcases h with h | h
    · exact h
    · rw [hbF_out h]; decide
  cases hf : z - p with
  | zero => rfl
  | succ f => unfold nmF; rw [if_neg h1]
theorem nmF_go {B : Nat → Int} {z p : Nat} {v : Int} (h : dgF (hbF B z p)) : p < z ∧ nmF B z (z - p) p v = nmF B z (z - (p + 1)) (p + 1) (min (v * 10 + hbF B z p - 48) 48) := by
  have hp : p < z := by
    by_cases c : p < z
    · exact c
    · rw [hbF_out (by omega)] at h; exact absurd h.1 (by decide)
  refine ⟨hp, ?_⟩
  rw [show z - p = (z - (p + 1)) + 1 by omega]
  show (if dgF (hbF B z p) then _ else _) = _
  rw [if_pos h]
theorem sp_readNumber {w : List KD} {m : Nat → Nat → Int} (B : Nat → Int) (z : Nat) (hz : z ≤ 400) (hB : ∀ j, j < z → 0 ≤ B j ∧ B j ≤ 255) (p : Nat) (hp : p ≤ 500) (hR : RC B z p m) : Sp M_X7_readNumber 2 0 0 [rV 21] (WC ++ w, m) (fun r h => r = some (iV (nmF B z (z - p) p 0).1) ∧ h = (WC ++ w, upm m 21 3 (((nmF B z (z - p) p 0).2 : Nat) : Int))) := by
  refine Sp.ofG (ls := [rV 21, uV, uV]) (by decide +kernel) rfl (Nat.le_of_ble_eq_true rfl) ?_
  have L : ∀ i : Nat, i ≤ 400 → ∀ v : Int, 0 ≤ v ∧ v ≤ 48 → nmF B z (z - p) p 0 = nmF B z (z - (p + i)) (p + i) v → G M_X7_readNumber 2 0 0 4 [rV 21, iV v, iV (i : Int)] [] (WC ++ w, upm m 21 3 ((p + i : Nat) : Int)) (fun r h => r = some (iV (nmF B z (z - p) p 0).1) ∧ h = (WC ++ w, upm m 21 3 (((nmF B z (z - p) p 0).2 : Nat) : Int))) := by
    refine loop_up (400) _ ?_
    intro i hi ih v hv hnm
    refine G_iload_n d_X7_readNumber_4 rfl ?_
    refine G_sipush d_X7_readNumber_5 (by decide) ?_
    refine G_icmp_ge 52 d_X7_readNumber_8 (by decide) (by omega) (by omega) (fun c8 => ?_) (fun c8 => ?_)
    · refine G_iload_n d_X7_readNumber_52 rfl ?_
      refine G_iret (mc := 0) (ms := 0) (st := []) d_X7_readNumber_53 rfl ?_
      have e9 := nmF_end (B := B) (z := z) (p := p + i) (v := v) (Or.inr (by omega))
      exact ⟨by rw [hnm, e9], by rw [hnm, e9]⟩
    · refine G_aload_n d_X7_readNumber_11 rfl ?_
      refine G_callV0 cl_X7_62 rfl d_X7_readNumber_12 (wk_21 _) (Nat.le_of_ble_eq_true rfl) (by decide) (sp_digitHere B z hz hB (p + i) (by omega) (hR.at (p + i))) ?_
      rintro _ _ ⟨rfl, rfl⟩
      by_cases hd : dgF (hbF B z (p + i))
      · rw [if_pos hd]
        refine G_if_eq 52 d_X7_readNumber_15 (by decide) (by decide) (fun hd => absurd hd (by decide)) (fun _ => ?_)
        refine G_iload_n d_X7_readNumber_18 rfl ?_
        refine G_bipush d_X7_readNumber_19 (by decide) ?_
        refine G_imul d_X7_readNumber_21 ?_
        refine G_aload_n d_X7_readNumber_22 rfl ?_
        refine G_callV0 cl_X7_55 rfl d_X7_readNumber_23 (wk_21 _) (Nat.le_of_ble_eq_true rfl) (by decide) (sp_byteHere B z hz hB (p + i) (by omega) (hR.at (p + i))) ?_
        rintro _ _ ⟨rfl, rfl⟩
        have hbr := hbF_rng (z := z) hB (p + i)
        refine G_iadd d_X7_readNumber_26 ?_
        refine G_bipush d_X7_readNumber_27 (by decide) ?_
        refine G_isub d_X7_readNumber_29 ?_
        refine G_bipush d_X7_readNumber_30 (by decide) ?_
        refine G_callS2 cl_X7_69 d_X7_readNumber_32 (Nat.le_of_ble_eq_true rfl) (by decide) (sp_min (by omega) (by omega)) ?_
        rintro _ _ ⟨rfl, rfl⟩
        refine G_istore_n d_X7_readNumber_35 (by decide) rfl ?_
        refine G_aload_n d_X7_readNumber_36 rfl ?_
        refine G_dup d_X7_readNumber_37 rfl ?_
        refine G_getIe (v := ((p + i : Nat) : Int)) (fl_X7_21.r) d_X7_readNumber_38 (wk_21 _) rfl (upm_same _ _ _ _) ?_
        refine G_iconst d_X7_readNumber_41 ?_
        refine G_iadd d_X7_readNumber_42 ?_
        refine G_putII fl_X7_21 d_X7_readNumber_43 (wk_21 _) rfl ?_
        rw [upm_upm]
        refine G_iinc d_X7_readNumber_46 rfl (by decide) rfl ?_
        refine G_goto 4 d_X7_readNumber_49 (by decide) ?_
        rw [show ((p + i : Nat) : Int) + 1 = ((p + (i + 1) : Nat) : Int) by omega]
        exact ih (by omega) _ (by have := hd.1; omega) (hnm.trans (nmF_go hd).2)
      · rw [if_neg hd]
        refine G_if_eq 52 d_X7_readNumber_15 (by decide) (by decide) (fun _ => ?_) (fun hd => absurd hd (by decide))
        refine G_iload_n d_X7_readNumber_52 rfl ?_
        refine G_iret (mc := 0) (ms := 0) (st := []) d_X7_readNumber_53 rfl ?_
        have e9 := nmF_end (v := v) (Or.inl hd)
        exact ⟨by rw [hnm, e9], by rw [hnm, e9]⟩
  refine G_iconst d_X7_readNumber_0 ?_
  refine G_istore_n d_X7_readNumber_1 (by decide) rfl ?_
  refine G_iconst d_X7_readNumber_2 ?_
  refine G_istore_n d_X7_readNumber_3 (by decide) rfl ?_
  have h9 := L 0 (by omega) 0 (by decide) rfl
  rw [Nat.add_zero, ← hR.2.1, upm_id] at h9
  exact h9
theorem sp_readName {w : List KD} {m : Nat → Nat → Int} (B : Nat → Int) (z : Nat) (hz : z ≤ 400) (hB : ∀ j, j < z → 0 ≤ B j ∧ B j ≤ 255) (p : Nat) (hp : p ≤ 500) (hR : RC B z p m) (n : Nat) (hn : n ≤ 5) : Sp M_X7_readName 1 0 0 [rV 21, iV (n : Int)] (WC ++ w, m) (fun r h => r = some (iV (naW (naF B z n p))) ∧ h = (WC ++ w, upm m 21 3 ((if hbF B z p = 114 then p + 1 else p + 2 : Nat) : Int))) := by
  refine Sp.ofG (ls := [rV 21, iV (n : Int), uV, uV]) (by decide +kernel) rfl (Nat.le_of_ble_eq_true rfl) ?_
  refine G_aload_n d_X7_readName_0 rfl ?_
  refine G_callV0 cl_X7_55 rfl d_X7_readName_1 (wk_21 _) (Nat.le_of_ble_eq_true rfl) (by decide) (sp_byteHere B z hz hB p (by omega) hR) ?_
  rintro _ _ ⟨rfl, rfl⟩
  have hbr := hbF_rng (z := z) hB p
  refine G_istore_n d_X7_readName_4 (by decide) rfl ?_
  refine G_aload_n d_X7_readName_5 rfl ?_
  refine G_dup d_X7_readName_6 rfl ?_
  refine G_getIe (v := (p : Int)) (fl_X7_21.r) d_X7_readName_7 (wk_21 _) rfl (hR.2.1) ?_
  refine G_iconst d_X7_readName_10 ?_
  refine G_iadd d_X7_readName_11 ?_
  refine G_putII fl_X7_21 d_X7_readName_12 (wk_21 _) rfl ?_
  rw [show (p : Int) + 1 = ((p + 1 : Nat) : Int) by omega]
  refine G_iload_n d_X7_readName_15 rfl ?_
  refine G_bipush d_X7_readName_16 (by decide) ?_
  refine G_icmp_ne 23 d_X7_readName_18 (by decide) (by omega) (by omega) (fun c18 => ?_) (fun c18 => ?_)
  · refine G_aload_n d_X7_readName_23 rfl ?_
    refine G_callV0 cl_X7_55 rfl d_X7_readName_24 (wk_21 _) (Nat.le_of_ble_eq_true rfl) (by decide) (sp_byteHere B z hz hB (p + 1) (by omega) (hR.at (p + 1))) ?_
    rintro _ _ ⟨rfl, rfl⟩
    have hbr2 := hbF_rng (z := z) hB (p + 1)
    refine G_istore_n d_X7_readName_27 (by decide) rfl ?_
    refine G_aload_n d_X7_readName_28 rfl ?_
    refine G_dup d_X7_readName_29 rfl ?_
    refine G_getIe (v := ((p + 1 : Nat) : Int)) (fl_X7_21.r) d_X7_readName_30 (wk_21 _) rfl (upm_same _ _ _ _) ?_
    refine G_iconst d_X7_readName_33 ?_
    refine G_iadd d_X7_readName_34 ?_
    refine G_putII fl_X7_21 d_X7_readName_35 (wk_21 _) rfl ?_
    rw [upm_upm, show ((p + 1 : Nat) : Int) + 1 = ((p + 2 : Nat) : Int) by omega]
    refine G_iload_n d_X7_readName_38 rfl ?_
    refine G_bipush d_X7_readName_39 (by decide) ?_
    refine G_icmp_ne 65 d_X7_readName_41 (by decide) (by omega) (by omega) (fun c41 => ?_) (fun c41 => ?_)
    · refine G_iconst d_X7_readName_65 ?_
      refine G_iret (mc := 0) (ms := 0) (st := []) d_X7_readName_66 rfl ?_
      refine ⟨?_, by rw [if_neg c18]⟩
      unfold naF
      rw [if_neg c18, if_neg (fun h => c41 h.1)]
      rfl
    · refine G_iload_n d_X7_readName_44 rfl ?_
      refine G_bipush d_X7_readName_45 (by decide) ?_
      refine G_icmp_lt 65 d_X7_readName_47 (by decide) (by omega) (by omega) (fun c47 => ?_) (fun c47 => ?_)
      · refine G_iconst d_X7_readName_65 ?_
        refine G_iret (mc := 0) (ms := 0) (st := []) d_X7_readName_66 rfl ?_
        refine ⟨?_, by rw [if_neg c18]⟩
        unfold naF
        rw [if_neg c18, if_neg (fun h => by have := h.2.1; omega)]
        rfl
      · refine G_iload_n d_X7_readName_50 rfl ?_
        refine G_bipush d_X7_readName_51 (by decide) ?_
        refine G_iload_n d_X7_readName_53 rfl ?_
        refine G_iadd d_X7_readName_54 ?_
        refine G_icmp_ge 65 d_X7_readName_55 (by decide) (by omega) (by omega) (fun c55 => ?_) (fun c55 => ?_)
        · refine G_iconst d_X7_readName_65 ?_
          refine G_iret (mc := 0) (ms := 0) (st := []) d_X7_readName_66 rfl ?_
          refine ⟨?_, by rw [if_neg c18]⟩
          unfold naF
          rw [if_neg c18, if_neg (fun h => by have := h.2.2; omega)]
          rfl
        · refine G_iload_n d_X7_readName_58 rfl ?_
          refine G_bipush d_X7_readName_59 (by decide) ?_
          refine G_isub d_X7_readName_61 ?_
          refine G_goto 66 d_X7_readName_62 (by decide) ?_
          refine G_iret (mc := 0) (ms := 0) (st := []) d_X7_readName_66 rfl ?_
          refine ⟨?_, by rw [if_neg c18]⟩
          unfold naF
          rw [if_neg c18, if_pos ⟨c41, by omega, by omega⟩]
          show _ = some (iV (((hbF B z (p + 1) - 49).toNat : Nat) : Int))
          rw [Int.toNat_of_nonneg (by omega)]
  · refine G_iload_n d_X7_readName_21 rfl ?_
    refine G_iret (mc := 0) (ms := 0) (st := []) d_X7_readName_22 rfl ?_
    refine ⟨?_, by rw [if_pos c18]⟩
    unfold naF
    rw [if_pos c18]
    rfl
