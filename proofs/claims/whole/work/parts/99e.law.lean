theorem law_body {nm : String} {X : Nat × Nat × (Nat → Int32)} (hL : X.2.1 ≤ 3072) {i : Nat} (hi : i + 6 ≤ X.2.1) {s : Nat → Int} {m : Nat → Nat → Int} (h : LRL s m) (k : ∀ s2 m2, LRL s2 m2 → GX X (M_LN nm) 14 0 0 1457 [vV (.ref X.1), rV 0, rV 64, iV (i : Int)] [] (WC ++ (WM ++ []), m2) QL) : GX X (M_LN nm) 14 0 0 27 [vV (.ref X.1), rV 0, rV 64, iV (i : Int)] [] (WC ++ (WM ++ []), m) QL := by
  refine GX_aloadv_n d_L_law_27 rfl ?_
  refine GX_iload_n d_L_law_28 rfl ?_
  refine GX_scr d_L_law_29 ⟨by omega, by omega⟩ (by omega) ?_
  refine GX_bipush d_L_law_30 (by decide) ?_
  refine GX_iand (Int32.ofInt (X.2.2 ((i : Int)).toNat).toInt &&& Int32.ofInt 63).toInt d_L_law_32 (oi_eta _).symm ?_
  have hr := oi_rng (Int32.ofInt (X.2.2 ((i : Int)).toNat).toInt &&& Int32.ofInt 63)
  generalize (Int32.ofInt (X.2.2 ((i : Int)).toNat).toInt &&& Int32.ofInt 63).toInt = z at hr ⊢
  by_cases hin : 0 ≤ z ∧ z ≤ 38
  · obtain ⟨n, rfl⟩ := Int.eq_ofNat_of_zero_le hin.1
    rcases (show n = 0 ∨ n = 1 ∨ n = 2 ∨ n = 3 ∨ n = 4 ∨ n = 5 ∨ n = 6 ∨ n = 7 ∨ n = 8 ∨ n = 9 ∨ n = 10 ∨ n = 11 ∨ n = 12 ∨ n = 13 ∨ n = 14 ∨ n = 15 ∨ n = 16 ∨ n = 17 ∨ n = 18 ∨ n = 19 ∨ n = 20 ∨ n = 21 ∨ n = 22 ∨ n = 23 ∨ n = 24 ∨ n = 25 ∨ n = 26 ∨ n = 27 ∨ n = 28 ∨ n = 29 ∨ n = 30 ∨ n = 31 ∨ n = 32 ∨ n = 33 ∨ n = 34 ∨ n = 35 ∨ n = 36 ∨ n = 37 ∨ n = 38 by omega) with rfl | rfl | rfl | rfl | rfl | rfl | rfl | rfl | rfl | rfl | rfl | rfl | rfl | rfl | rfl | rfl | rfl | rfl | rfl | rfl | rfl | rfl | rfl | rfl | rfl | rfl | rfl | rfl | rfl | rfl | rfl | rfl | rfl | rfl | rfl | rfl | rfl | rfl | rfl
    · exact GX_tin 204 d_L_law_33 hr (by decide) (by decide) rfl (by decide) (arm_0 hL hi h k)
    · exact GX_tin 237 d_L_law_33 hr (by decide) (by decide) rfl (by decide) (arm_1 hL hi h k)
    · exact GX_tin 270 d_L_law_33 hr (by decide) (by decide) rfl (by decide) (arm_2 hL hi h k)
    · exact GX_tin 293 d_L_law_33 hr (by decide) (by decide) rfl (by decide) (arm_3 hL hi h k)
    · exact GX_tin 326 d_L_law_33 hr (by decide) (by decide) rfl (by decide) (arm_4 hL hi h k)
    · exact GX_tin 369 d_L_law_33 hr (by decide) (by decide) rfl (by decide) (arm_5 hL hi h k)
    · exact GX_tin 402 d_L_law_33 hr (by decide) (by decide) rfl (by decide) (arm_6 hL hi h k)
    · exact GX_tin 445 d_L_law_33 hr (by decide) (by decide) rfl (by decide) (arm_7 hL hi h k)
    · exact GX_tin 478 d_L_law_33 hr (by decide) (by decide) rfl (by decide) (arm_8 hL hi h k)
    · exact GX_tin 517 d_L_law_33 hr (by decide) (by decide) rfl (by decide) (arm_9 hL hi h k)
    · exact GX_tin 566 d_L_law_33 hr (by decide) (by decide) rfl (by decide) (arm_10 hL hi h k)
    · exact GX_tin 615 d_L_law_33 hr (by decide) (by decide) rfl (by decide) (arm_11 hL hi h k)
    · exact GX_tin 648 d_L_law_33 hr (by decide) (by decide) rfl (by decide) (arm_12 hL hi h k)
    · exact GX_tin 711 d_L_law_33 hr (by decide) (by decide) rfl (by decide) (arm_13 hL hi h k)
    · exact GX_tin 734 d_L_law_33 hr (by decide) (by decide) rfl (by decide) (arm_14 hL hi h k)
    · exact GX_tin 747 d_L_law_33 hr (by decide) (by decide) rfl (by decide) (arm_15 hL hi h k)
    · exact GX_tin 770 d_L_law_33 hr (by decide) (by decide) rfl (by decide) (arm_16 hL hi h k)
    · exact GX_tin 793 d_L_law_33 hr (by decide) (by decide) rfl (by decide) (arm_17 hL hi h k)
    · exact GX_tin 826 d_L_law_33 hr (by decide) (by decide) rfl (by decide) (arm_18 hL hi h k)
    · exact GX_tin 879 d_L_law_33 hr (by decide) (by decide) rfl (by decide) (arm_19 hL hi h k)
    · exact GX_tin 912 d_L_law_33 hr (by decide) (by decide) rfl (by decide) (arm_20 hL hi h k)
    · exact GX_tin 945 d_L_law_33 hr (by decide) (by decide) rfl (by decide) (arm_21 hL hi h k)
    · exact GX_tin 978 d_L_law_33 hr (by decide) (by decide) rfl (by decide) (arm_22 hL hi h k)
    · exact GX_tin 1011 d_L_law_33 hr (by decide) (by decide) rfl (by decide) (arm_23 hL hi h k)
    · exact GX_tin 1034 d_L_law_33 hr (by decide) (by decide) rfl (by decide) (arm_24 hL hi h k)
    · exact GX_tin 1067 d_L_law_33 hr (by decide) (by decide) rfl (by decide) (arm_25 hL hi h k)
    · exact GX_tin 1090 d_L_law_33 hr (by decide) (by decide) rfl (by decide) (arm_26 hL hi h k)
    · exact GX_tin 1113 d_L_law_33 hr (by decide) (by decide) rfl (by decide) (arm_27 hL hi h k)
    · exact GX_tin 1126 d_L_law_33 hr (by decide) (by decide) rfl (by decide) (arm_28 hL hi h k)
    · exact GX_tin 1149 d_L_law_33 hr (by decide) (by decide) rfl (by decide) (arm_29 hL hi h k)
    · exact GX_tin 1182 d_L_law_33 hr (by decide) (by decide) rfl (by decide) (arm_30 hL hi h k)
    · exact GX_tin 1215 d_L_law_33 hr (by decide) (by decide) rfl (by decide) (arm_31 hL hi h k)
    · exact GX_tin 1238 d_L_law_33 hr (by decide) (by decide) rfl (by decide) (arm_32 hL hi h k)
    · exact GX_tin 1261 d_L_law_33 hr (by decide) (by decide) rfl (by decide) (arm_33 hL hi h k)
    · exact GX_tin 1285 d_L_law_33 hr (by decide) (by decide) rfl (by decide) (arm_34 hL hi h k)
    · exact GX_tin 1348 d_L_law_33 hr (by decide) (by decide) rfl (by decide) (arm_35 hL hi h k)
    · exact GX_tin 1371 d_L_law_33 hr (by decide) (by decide) rfl (by decide) (arm_36 hL hi h k)
    · exact GX_tin 1395 d_L_law_33 hr (by decide) (by decide) rfl (by decide) (arm_37 hL hi h k)
    · exact GX_tin 1434 d_L_law_33 hr (by decide) (by decide) rfl (by decide) (arm_38 hL hi h k)
  · exact GX_tout 1457 d_L_law_33 hr (by omega) (by decide) (k s m h)
theorem law_loop {nm : String} {X : Nat × Nat × (Nat → Int32)} (hL : X.2.1 ≤ 3072) : ∀ (n i : Nat) (s : Nat → Int) (m : Nat → Nat → Int), X.2.1 ≤ i + n → i ≤ 3078 → LRL s m → GX X (M_LN nm) 14 0 0 18 [vV (.ref X.1), rV 0, rV 64, iV (i : Int)] [] (WC ++ (WM ++ []), m) QL := by
  intro n
  induction n with
  | zero =>
    intro i s m hn hi h
    refine GX_iload_n d_L_law_18 rfl ?_
    refine GX_aloadv_n d_L_law_19 rfl ?_
    refine GX_slen d_L_law_20 ?_
    refine GX_bipush d_L_law_21 (by decide) ?_
    refine GX_isub d_L_law_23 ?_
    refine GX_icmp_gt 1463 d_L_law_24 (by decide) ⟨by omega, by omega⟩ ⟨by omega, by omega⟩ (fun c => ?_) (fun c => ?_)
    · refine GX_iconst d_L_law_1463 ?_
      exact GX_zret (mc := 0) (ms := 0) (st := []) d_L_law_1464 rfl (by decide) rfl
    · exact absurd c (by omega)
  | succ n ih =>
    intro i s m hn hi h
    refine GX_iload_n d_L_law_18 rfl ?_
    refine GX_aloadv_n d_L_law_19 rfl ?_
    refine GX_slen d_L_law_20 ?_
    refine GX_bipush d_L_law_21 (by decide) ?_
    refine GX_isub d_L_law_23 ?_
    refine GX_icmp_gt 1463 d_L_law_24 (by decide) ⟨by omega, by omega⟩ ⟨by omega, by omega⟩ (fun c => ?_) (fun c => ?_)
    · refine GX_iconst d_L_law_1463 ?_
      exact GX_zret (mc := 0) (ms := 0) (st := []) d_L_law_1464 rfl (by decide) rfl
    · refine law_body hL (by omega) h (fun s2 m2 h2 => ?_)
      refine GX_iinc d_L_law_1457 rfl (Nat.le_of_ble_eq_true rfl) rfl ?_
      rw [show (i : Int) + 6 = ((i + 6 : Nat) : Int) by omega]
      refine GX_goto 18 d_L_law_1460 (by decide) ?_
      exact ih (i + 6) s2 m2 (by omega) (by omega) h2
theorem law_all {nm : String} {X : Nat × Nat × (Nat → Int32)} (hL : X.2.1 ≤ 3072) {m : Nat → Nat → Int} : GX X (M_LN nm) 14 84 93524 0 [vV (.ref X.1), uV, uV, uV] [] ([], m) QL := by
  refine GX_new (mc := 83) (ms := 93508) (o := 0) (N := 16) nw_L_7 d_L_law_0 rfl rfl ?_
  refine GX_wd (w2 := [(0, 9, [-1, -1, -1, -1, -1, -1, -1, -1, -1, -1, -1, -1, -1, -1, -1, -1])]) rfl rfl ?_
  refine GX_dup d_L_law_3 rfl ?_
  refine GX_callI (mc' := 63) (ms' := 41181) (mc := 20) (ms := 52327) (o := 0) [] cl_L_9 d_L_law_4 rfl (Nat.le_of_ble_eq_true rfl) (by decide) sp_X9_init ?_
  rintro _ _ ⟨rfl, m1, rfl, hI, h4, h1, h2, h3⟩
  refine GX_astore_n d_L_law_7 (Nat.le_of_ble_eq_true rfl) rfl ?_
  refine GX_new (mc := 19) (ms := 52297) (o := 64) (N := 30) nw_L_10 d_L_law_8 rfl rfl ?_
  refine GX_wd (w2 := WC ++ [(0, 10, [-1, -1, -1, -1, -1, -1, -1, -1, -1, -1, -1, -1, -1, -1, -1, -1, -1, -1, -1, -1, -1, -1, -1, -1, -1, -1, -1, -1, -1, -1])]) rfl rfl ?_
  refine GX_dup d_L_law_11 rfl ?_
  refine GX_callI (mc' := 19) (ms' := 52297) (mc := 0) (ms := 0) (o := 64) [] cl_L_12 d_L_law_12 rfl (Nat.le_of_ble_eq_true rfl) (by decide) (sp_X10_init (funext (fun j => zer_at m1 64 j))) ?_
  rintro _ _ ⟨rfl, m2, rfl, k, hM, h6, h7, h8, h28⟩
  refine GX_astore_n d_L_law_15 (Nat.le_of_ble_eq_true rfl) rfl ?_
  refine GX_iconst d_L_law_16 ?_
  refine GX_istore_n d_L_law_17 (Nat.le_of_ble_eq_true rfl) rfl ?_
  exact law_loop hL X.2.1 0 s0 m2 (by omega) (by omega) (LRL_new hI h4 h1 h2 h3 (fun a ha => (k a ha).trans (zer_off m1 (by omega))) hM h6 h7 h8 h28)
