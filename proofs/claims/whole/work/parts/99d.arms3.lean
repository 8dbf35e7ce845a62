theorem arm_15 {nm : String} {X : Nat × Nat × (Nat → Int32)} (hL : X.2.1 ≤ 3072) {i : Nat} (hi : i + 6 ≤ X.2.1) {s : Nat → Int} {m : Nat → Nat → Int} (h : LRL s m) (k : ∀ s2 m2, LRL s2 m2 → GX X (M_LN nm) 14 0 0 1457 [vV (.ref X.1), rV 0, rV 64, iV (i : Int)] [] (WC ++ (WM ++ []), m2) QL) : GX X (M_LN nm) 14 0 0 747 [vV (.ref X.1), rV 0, rV 64, iV (i : Int)] [] (WC ++ (WM ++ []), m) QL := by
  obtain ⟨z, hz, e21, e64, hb, e7, e8⟩ := h.2.2.2.1
  refine GX_aload_n d_L_law_747 rfl ?_
  refine GX_arg1 (i := i) 1 rfl rfl rfl d_L_law_748 d_L_law_749 d_L_law_750 d_L_law_751 d_L_law_752 (by omega) hL ?_
  refine GX_cv (X := X) [iV ((X.2.2 (i + 1)).toInt)] cl_L_81 rfl d_L_law_753 (wk_0 _) rfl (Nat.le_of_ble_eq_true rfl) (by decide) (sp_Cfault ((X.2.2 (i + 1)).toInt) (oi_rng _)) ?_
  rintro _ _ ⟨rfl, rfl⟩
  refine GX_aload_n d_L_law_756 rfl ?_
  refine GX_arg1 (i := i) 1 rfl rfl rfl d_L_law_757 d_L_law_758 d_L_law_759 d_L_law_760 d_L_law_761 (by omega) hL ?_
  refine GX_cv (X := X) [iV ((X.2.2 (i + 1)).toInt)] cl_L_85 rfl d_L_law_762 (wk_64 _) rfl (Nat.le_of_ble_eq_true rfl) (by decide) (sp_Mfault s h.1 h.2.1 ((X.2.2 (i + 1)).toInt) (oi_rng _)) ?_
  rintro _ _ ⟨rfl, m2, rfl, hk⟩
  rw [e7, e8]
  refine GX_same 1457 d_L_law_765 (by decide) ?_
  exact k _ _ (h.both h.1 h.2.2.1 (FXo.refl m) hk)
theorem arm_38 {nm : String} {X : Nat × Nat × (Nat → Int32)} (hL : X.2.1 ≤ 3072) {i : Nat} (hi : i + 6 ≤ X.2.1) {s : Nat → Int} {m : Nat → Nat → Int} (h : LRL s m) (k : ∀ s2 m2, LRL s2 m2 → GX X (M_LN nm) 14 0 0 1457 [vV (.ref X.1), rV 0, rV 64, iV (i : Int)] [] (WC ++ (WM ++ []), m2) QL) : GX X (M_LN nm) 14 0 0 1434 [vV (.ref X.1), rV 0, rV 64, iV (i : Int)] [] (WC ++ (WM ++ []), m) QL := by
  obtain ⟨z, hz, e21, e64, hb, e7, e8⟩ := h.2.2.2.1
  refine GX_aload_n d_L_law_1434 rfl ?_
  refine GX_arg1 (i := i) 1 rfl rfl rfl d_L_law_1435 d_L_law_1436 d_L_law_1437 d_L_law_1438 d_L_law_1439 (by omega) hL ?_
  refine GX_cv (X := X) [iV ((X.2.2 (i + 1)).toInt)] cl_L_176 rfl d_L_law_1440 (wk_0 _) rfl (Nat.le_of_ble_eq_true rfl) (by decide) (sp_Clook s h.1 h.2.2.1 ((X.2.2 (i + 1)).toInt) (oi_rng _)) ?_
  rintro _ _ ⟨rfl, m1, rfl, hc, hf⟩
  refine GX_aload_n d_L_law_1443 rfl ?_
  refine GX_arg1 (i := i) 1 rfl rfl rfl d_L_law_1444 d_L_law_1445 d_L_law_1446 d_L_law_1447 d_L_law_1448 (by omega) hL ?_
  refine GX_cv (X := X) [iV ((X.2.2 (i + 1)).toInt)] cl_L_179 rfl d_L_law_1449 (wk_64 _) rfl (Nat.le_of_ble_eq_true rfl) (by decide) (sp_Mlook s h.1 (h.mi hf) ((X.2.2 (i + 1)).toInt) (oi_rng _)) ?_
  rintro _ _ ⟨rfl, m2, rfl, hk⟩
  rw [show m1 64 6 = m 21 0 from by rw [hf.1 64 (by decide) (Or.inr (by decide)), e64, e21]]
  refine GX_same 1457 d_L_law_1452 (by decide) ?_
  exact k _ _ (h.both h.1 hc hf hk)
theorem LRL.end_ {s : Nat → Int} {m m2 : Nat → Nat → Int} (h : LRL s m) (a : Int) (hM : MI s m2) (hq : EQT (if 0 ≤ a ∧ a ≤ m 21 0 then upm m 21 0 a else m) m2) (h67 : m2 67 = (if 0 ≤ a ∧ a ≤ m 21 0 then upm m 21 0 a else m) 67) (h6 : m2 64 6 = if 0 ≤ a ∧ a ≤ m 64 6 then a else m 64 6) : LRL s m2 := by
  obtain ⟨z, hz, e21, e64, hb, e7, e8⟩ := h.2.2.2.1
  obtain ⟨q1, q83, q7, q8, q28⟩ := hq
  rw [e21] at q1 q83 q7 q8 q28 h67
  rw [e64] at h6
  by_cases ha : 0 ≤ a ∧ a ≤ (z : Int)
  · rw [if_pos ha] at q1 q83 q7 q8 q28 h67 h6
    obtain ⟨y, rfl⟩ := Int.eq_ofNat_of_zero_le ha.1
    have e : ∀ b, b ≠ 21 → upm m 21 0 (y : Int) b = m b := fun b hb => upm_off _ _ hb
    have e0 : ∀ j, j ≠ 0 → m2 21 j = m 21 j := fun j hj => by
      rw [q1 21 (by decide)]
      exact upm_ne _ _ (fun _ => hj)
    rw [e 67 (by decide)] at h67
    rw [e 83 (by decide)] at q83
    rw [e 64 (by decide)] at q7 q8 q28
    refine ⟨h.1, hM, h.2.2.1.out h.1.N.2.1 (fun b h1 h2 h3 => by rw [q1 b h3, e b (by omega)]) (fun j _ => by rw [q1 0 (by decide), e 0 (by decide)]), ⟨y, by omega, ?_, h6, fun j hj => ?_, ?_, ?_⟩, h.2.2.2.2.keep q28 ?_ q83 ?_⟩
    · rw [q1 21 (by decide)]; exact upm_same _ _ _ _
    · rw [q1 22 (by decide), e 22 (by decide), h67]; exact hb j (by omega)
    · rw [e0 1 (by decide), q7]; exact e7
    · rw [e0 2 (by decide), q8]; exact e8
    · rw [q1 0 (by decide), e 0 (by decide)]
    · exact fun b h1 h2 => by rw [q1 b (by omega), e b (by omega)]
  · rw [if_neg ha] at q1 q83 q7 q8 q28 h67 h6
    exact ⟨h.1, hM, h.2.2.1.far h.1 q1, h.2.2.2.1.keep (q1 21 (by decide)) (q1 22 (by decide)) h67 (h6.trans e64.symm) q7 q8, h.2.2.2.2.keep q28 (by rw [q1 0 (by decide)]) q83 (fun b h1 h2 => q1 b (by omega))⟩
theorem endM_64 (m : Nat → Nat → Int) (a : Int) {b : Nat} (hb : b ≠ 21) : (if 0 ≤ a ∧ a ≤ m 21 0 then upm m 21 0 a else m) b = m b := by
  by_cases h : 0 ≤ a ∧ a ≤ m 21 0
  · rw [if_pos h]; exact upm_off _ _ hb
  · rw [if_neg h]
theorem arm_13 {nm : String} {X : Nat × Nat × (Nat → Int32)} (hL : X.2.1 ≤ 3072) {i : Nat} (hi : i + 6 ≤ X.2.1) {s : Nat → Int} {m : Nat → Nat → Int} (h : LRL s m) (k : ∀ s2 m2, LRL s2 m2 → GX X (M_LN nm) 14 0 0 1457 [vV (.ref X.1), rV 0, rV 64, iV (i : Int)] [] (WC ++ (WM ++ []), m2) QL) : GX X (M_LN nm) 14 0 0 711 [vV (.ref X.1), rV 0, rV 64, iV (i : Int)] [] (WC ++ (WM ++ []), m) QL := by
  obtain ⟨z, hz, e21, e64, hb, e7, e8⟩ := id h.2.2.2.1
  refine GX_aload_n d_L_law_711 rfl ?_
  refine GX_arg1 (i := i) 1 rfl rfl rfl d_L_law_712 d_L_law_713 d_L_law_714 d_L_law_715 d_L_law_716 (by omega) hL ?_
  refine GX_cv (X := X) [iV ((X.2.2 (i + 1)).toInt)] cl_L_72 rfl d_L_law_717 (wk_0 _) rfl (Nat.le_of_ble_eq_true rfl) (by decide) (sp_Cend ((X.2.2 (i + 1)).toInt) (oi_rng _) ⟨by omega, by omega⟩) ?_
  rintro _ _ ⟨rfl, rfl⟩
  have e9 : ∀ b, b ≠ 21 → (if 0 ≤ ((X.2.2 (i + 1)).toInt) ∧ ((X.2.2 (i + 1)).toInt) ≤ m 21 0 then upm m 21 0 ((X.2.2 (i + 1)).toInt) else m) b = m b := fun b hb => endM_64 m _ hb
  have hM1 : MI s (if 0 ≤ ((X.2.2 (i + 1)).toInt) ∧ ((X.2.2 (i + 1)).toInt) ≤ m 21 0 then upm m 21 0 ((X.2.2 (i + 1)).toInt) else m) := h.2.1.far (fun b hb => e9 b (by omega))
  have e6 : (if 0 ≤ ((X.2.2 (i + 1)).toInt) ∧ ((X.2.2 (i + 1)).toInt) ≤ m 21 0 then upm m 21 0 ((X.2.2 (i + 1)).toInt) else m) 64 6 = m 64 6 := by rw [e9 64 (by decide)]
  refine GX_aload_n d_L_law_720 rfl ?_
  refine GX_arg1 (i := i) 1 rfl rfl rfl d_L_law_721 d_L_law_722 d_L_law_723 d_L_law_724 d_L_law_725 (by omega) hL ?_
  refine GX_cv (X := X) [iV ((X.2.2 (i + 1)).toInt)] cl_L_75 rfl d_L_law_726 (wk_64 _) rfl (Nat.le_of_ble_eq_true rfl) (by decide) (sp_Mend s h.1 hM1 ((X.2.2 (i + 1)).toInt) (oi_rng _) ⟨by omega, by omega⟩) ?_
  rintro _ _ ⟨rfl, m2, rfl, hM2, hq, h67, h6⟩
  rw [e6] at h6
  rw [e6, show m 64 6 = m 21 0 from by rw [e64, e21]]
  refine GX_same 1457 d_L_law_729 (by decide) ?_
  exact k _ _ (h.end_ _ hM2 hq h67 h6)
theorem LRL.rows_ {s : Nat → Int} {m m1 m2 : Nat → Nat → Int} (h : LRL s m) (B : Nat → Int) (z : Nat) (hc : CI (nxRows s B z) m1) (hf : ∀ a, 11 ≤ a → (a < 21 ∨ 63 < a) → m1 a = m a) (h04 : m1 0 4 = m 0 4) (h0 : m1 21 0 = 0) (h1 : m1 21 1 = fkRows s B z) (h2 : m1 21 2 = fpRows s B z) (hM : MI (nxRows s B z) m2) (hq : EQR s B z m1 m2) : LRL (nxRows s B z) m2 := by
  obtain ⟨q1, q67, q83, q28, q6, q7, q8⟩ := hq
  have hV2 := VS_nxRows h.1 B z
  refine ⟨hV2, hM, hc.far hV2 q1, ⟨0, by omega, ?_, q6, fun j hj => absurd hj (Nat.not_lt_zero j), ?_, ?_⟩, h.2.2.2.2.keep ?_ ?_ ?_ ?_⟩
  · rw [q1 21 (by decide)]; exact h0
  · rw [q1 21 (by decide), h1, q7]
  · rw [q1 21 (by decide), h2, q8]
  · rw [q28, hf 64 (by decide) (Or.inr (by decide))]
  · rw [q1 0 (by decide)]; exact h04
  · rw [q83]; exact hf 83 (by decide) (Or.inr (by decide))
  · exact fun a h1 h2 => by rw [q1 a (by omega)]; exact hf a h1 (Or.inl (by omega))
theorem arm_14 {nm : String} {X : Nat × Nat × (Nat → Int32)} (hL : X.2.1 ≤ 3072) {i : Nat} (hi : i + 6 ≤ X.2.1) {s : Nat → Int} {m : Nat → Nat → Int} (h : LRL s m) (k : ∀ s2 m2, LRL s2 m2 → GX X (M_LN nm) 14 0 0 1457 [vV (.ref X.1), rV 0, rV 64, iV (i : Int)] [] (WC ++ (WM ++ []), m2) QL) : GX X (M_LN nm) 14 0 0 734 [vV (.ref X.1), rV 0, rV 64, iV (i : Int)] [] (WC ++ (WM ++ []), m) QL := by
  obtain ⟨z, hz, e21, e64, hb, e7, e8⟩ := id h.2.2.2.1
  refine GX_aload_n d_L_law_734 rfl ?_
  refine GX_cv (X := X) [] cl_L_76 rfl d_L_law_735 (wk_0 _) rfl (Nat.le_of_ble_eq_true rfl) (by decide) (sp_Crows s h.1 h.2.2.1 (m 67) z hz (fun j hj => (hb j hj).1) e21 (fun j hj => (hb j hj).2)) ?_
  rintro _ _ ⟨rfl, m1, rfl, hc, hf, h04, h0, h1, h2⟩
  have f64 : m1 64 = m 64 := hf 64 (by decide) (Or.inr (by decide))
  have f67 : m1 67 = m 67 := hf 67 (by decide) (Or.inr (by decide))
  refine GX_aload_n d_L_law_738 rfl ?_
  refine GX_cv (X := X) [] cl_L_80 rfl d_L_law_739 (wk_64 _) rfl (Nat.le_of_ble_eq_true rfl) (by decide) (sp_Mrows s h.1 (h.2.1.far (fun a ha => hf a (by omega) (Or.inr ha))) (m 67) z hz (fun j hj => (hb j hj).1) (by rw [f64]; exact e64) (fun j _ => by rw [f67])) ?_
  rintro _ _ ⟨rfl, m2, rfl, hM2, hq⟩
  refine GX_same 1457 d_L_law_742 (by decide) ?_
  exact k _ _ (h.rows_ _ _ hc hf h04 h0 h1 h2 hM2 hq)
/-- the class's tape behind feed -/
def fdM (m : Nat → Nat → Int) (z : Nat) (a b c e g : Int) : Nat → Nat → Int := if z ≤ 380 then tyM 22 21 0 m z (fun j => byC (arg5 a b c e g (j / 4)) (j % 4)) 20 else m
theorem fdM_off (m : Nat → Nat → Int) (z : Nat) (a b c e g : Int) {x : Nat} (h1 : x ≠ 21) (h2 : x ≠ 22) : fdM m z a b c e g x = m x := by
  unfold fdM
  by_cases h : z ≤ 380
  · rw [if_pos h]
    funext j
    unfold tyM
    rw [if_neg (fun q => h2 q.1), if_neg (fun q => h1 q.1)]
  · rw [if_neg h]
theorem LRL.feed_ {s : Nat → Int} {m m2 : Nat → Nat → Int} (h : LRL s m) (z : Nat) (hz : z ≤ 400) (e21 : m 21 0 = (z : Int)) (e64 : m 64 6 = (z : Int)) (hb : ∀ j, j < z → (0 ≤ m 67 j ∧ m 67 j ≤ 255) ∧ m 22 j = (m 67 j).bmod 256) (e7 : m 21 1 = m 64 7) (e8 : m 21 2 = m 64 8) (a b c e g : Int) (hM : MI s m2) (hq : EQT (fdM m z a b c e g) m2) (hn : if z ≤ 380 then m2 64 6 = (z : Int) + 20 ∧ ∀ j, m2 67 j = if z ≤ j ∧ j < z + 20 then fdB a b c e g (j - z) else fdM m z a b c e g 67 j else m2 64 6 = fdM m z a b c e g 64 6 ∧ m2 67 = fdM m z a b c e g 67) : LRL s m2 := by
  obtain ⟨q1, q83, q7, q8, q28⟩ := hq
  rw [fdM_off m z a b c e g (x := 83) (by decide) (by decide)] at q83
  rw [fdM_off m z a b c e g (x := 64) (by decide) (by decide)] at q7 q8 q28
  rw [fdM_off m z a b c e g (x := 64) (by decide) (by decide), fdM_off m z a b c e g (x := 67) (by decide) (by decide)] at hn
  have k1 : ∀ x, x < 64 → x ≠ 21 → x ≠ 22 → m2 x = m x := fun x h1 h2 h3 => (q1 x h1).trans (fdM_off m z a b c e g h2 h3)
  refine ⟨h.1, hM, h.2.2.1.out h.1.N.2.1 (fun x h1 h2 h3 => k1 x h3 (by omega) (by omega)) (fun j _ => by rw [k1 0 (by decide) (by decide) (by decide)]), ?_, h.2.2.2.2.keep q28 (by rw [k1 0 (by decide) (by decide) (by decide)]) q83 (fun x h1 h2 => k1 x (by omega) (by omega) (by omega))⟩
  have k21 := q1 21 (by decide)
  have k22 := q1 22 (by decide)
  unfold fdM at k21 k22
  by_cases hz3 : z ≤ 380
  · rw [if_pos hz3] at hn k21 k22
    obtain ⟨n6, n67⟩ := hn
    refine ⟨z + 20, by omega, ?_, by rw [n6]; omega, fun j hj => ?_, ?_, ?_⟩
    · rw [k21]
      unfold tyM
      rw [if_neg (fun q => absurd q.1 (by decide)), if_pos ⟨rfl, rfl⟩]
    · rw [n67 j, k22]
      unfold tyM
      by_cases hj2 : z ≤ j
      · rw [if_pos ⟨hj2, hj⟩, if_pos ⟨rfl, hj2, hj⟩]
        have hr := byB_rng (arg5 a b c e g ((j - z) / 4)) ((j - z) % 4)
        exact ⟨⟨hr.1, by show byB _ _ ≤ 255; omega⟩, byC_eq _ _⟩
      · rw [if_neg (fun q => hj2 q.1), if_neg (fun q => hj2 q.2.1), if_neg (fun q => absurd q.1 (by decide))]
        exact hb j (by omega)
    · rw [k21, q7, ← e7]
      unfold tyM
      rw [if_neg (fun q => absurd q.1 (by decide)), if_neg (fun q => absurd q.2 (by decide))]
    · rw [k21, q8, ← e8]
      unfold tyM
      rw [if_neg (fun q => absurd q.1 (by decide)), if_neg (fun q => absurd q.2 (by decide))]
  · rw [if_neg hz3] at hn k21 k22
    exact TPR.keep ⟨z, hz, e21, e64, hb, e7, e8⟩ k21 k22 hn.2 hn.1 q7 q8
theorem arm_12 {nm : String} {X : Nat × Nat × (Nat → Int32)} (hL : X.2.1 ≤ 3072) {i : Nat} (hi : i + 6 ≤ X.2.1) {s : Nat → Int} {m : Nat → Nat → Int} (h : LRL s m) (k : ∀ s2 m2, LRL s2 m2 → GX X (M_LN nm) 14 0 0 1457 [vV (.ref X.1), rV 0, rV 64, iV (i : Int)] [] (WC ++ (WM ++ []), m2) QL) : GX X (M_LN nm) 14 0 0 648 [vV (.ref X.1), rV 0, rV 64, iV (i : Int)] [] (WC ++ (WM ++ []), m) QL := by
  obtain ⟨z, hz, e21, e64, hb, e7, e8⟩ := id h.2.2.2.1
  refine GX_aload_n d_L_law_648 rfl ?_
  refine GX_arg1 (i := i) 1 rfl rfl rfl d_L_law_649 d_L_law_650 d_L_law_651 d_L_law_652 d_L_law_653 (by omega) hL ?_
  refine GX_arg1 (i := i) 2 rfl rfl rfl d_L_law_654 d_L_law_655 d_L_law_656 d_L_law_657 d_L_law_658 (by omega) hL ?_
  refine GX_arg1 (i := i) 3 rfl rfl rfl d_L_law_659 d_L_law_660 d_L_law_661 d_L_law_662 d_L_law_663 (by omega) hL ?_
  refine GX_arg1 (i := i) 4 rfl rfl rfl d_L_law_664 d_L_law_665 d_L_law_666 d_L_law_667 d_L_law_668 (by omega) hL ?_
  refine GX_arg1 (i := i) 5 rfl rfl rfl d_L_law_669 d_L_law_670 d_L_law_671 d_L_law_672 d_L_law_673 (by omega) hL ?_
  refine GX_cv (X := X) [iV ((X.2.2 (i + 1)).toInt), iV ((X.2.2 (i + 2)).toInt), iV ((X.2.2 (i + 3)).toInt), iV ((X.2.2 (i + 4)).toInt), iV ((X.2.2 (i + 5)).toInt)] cl_L_67 rfl d_L_law_674 (wk_0 _) rfl (Nat.le_of_ble_eq_true rfl) (by decide) (sp_Cfeed ((X.2.2 (i + 1)).toInt) (oi_rng _) ((X.2.2 (i + 2)).toInt) (oi_rng _) ((X.2.2 (i + 3)).toInt) (oi_rng _) ((X.2.2 (i + 4)).toInt) (oi_rng _) ((X.2.2 (i + 5)).toInt) (oi_rng _) z hz e21) ?_
  rintro _ _ ⟨rfl, rfl⟩
  refine GX_wd (m2 := (fdM m z ((X.2.2 (i + 1)).toInt) ((X.2.2 (i + 2)).toInt) ((X.2.2 (i + 3)).toInt) ((X.2.2 (i + 4)).toInt) ((X.2.2 (i + 5)).toInt))) rfl rfl ?_
  have hM1 : MI s (fdM m z ((X.2.2 (i + 1)).toInt) ((X.2.2 (i + 2)).toInt) ((X.2.2 (i + 3)).toInt) ((X.2.2 (i + 4)).toInt) ((X.2.2 (i + 5)).toInt)) := h.2.1.far (fun b hb => fdM_off m z _ _ _ _ _ (by omega) (by omega))
  refine GX_aload_n d_L_law_677 rfl ?_
  refine GX_arg1 (i := i) 1 rfl rfl rfl d_L_law_678 d_L_law_679 d_L_law_680 d_L_law_681 d_L_law_682 (by omega) hL ?_
  refine GX_arg1 (i := i) 2 rfl rfl rfl d_L_law_683 d_L_law_684 d_L_law_685 d_L_law_686 d_L_law_687 (by omega) hL ?_
  refine GX_arg1 (i := i) 3 rfl rfl rfl d_L_law_688 d_L_law_689 d_L_law_690 d_L_law_691 d_L_law_692 (by omega) hL ?_
  refine GX_arg1 (i := i) 4 rfl rfl rfl d_L_law_693 d_L_law_694 d_L_law_695 d_L_law_696 d_L_law_697 (by omega) hL ?_
  refine GX_arg1 (i := i) 5 rfl rfl rfl d_L_law_698 d_L_law_699 d_L_law_700 d_L_law_701 d_L_law_702 (by omega) hL ?_
  refine GX_cv (X := X) [iV ((X.2.2 (i + 1)).toInt), iV ((X.2.2 (i + 2)).toInt), iV ((X.2.2 (i + 3)).toInt), iV ((X.2.2 (i + 4)).toInt), iV ((X.2.2 (i + 5)).toInt)] cl_L_71 rfl d_L_law_703 (wk_64 _) rfl (Nat.le_of_ble_eq_true rfl) (by decide) (sp_Mfeed s h.1 hM1 ((X.2.2 (i + 1)).toInt) (oi_rng _) ((X.2.2 (i + 2)).toInt) (oi_rng _) ((X.2.2 (i + 3)).toInt) (oi_rng _) ((X.2.2 (i + 4)).toInt) (oi_rng _) ((X.2.2 (i + 5)).toInt) (oi_rng _) z hz (by rw [fdM_off m z _ _ _ _ _ (by decide) (by decide)]; exact e64)) ?_
  rintro _ _ ⟨rfl, m2, rfl, hM2, hq, hn⟩
  refine GX_same 1457 d_L_law_706 (by decide) ?_
  exact k _ _ (h.feed_ z hz e21 e64 hb e7 e8 _ _ _ _ _ hM2 hq hn)
theorem LRL.taken_ {s : Nat → Int} {m m1 m2 : Nat → Nat → Int} (h : LRL s m) (hc : CI s m1) (hK : KC s m1) (h04 : m1 0 4 = 1) (hf : ∀ a, 21 ≤ a → (a < 25 ∨ 63 < a) → m1 a = m a) (hM : MI s m2) (hq : EQI m1 m2) (h28 : m2 64 28 = 1) (h83 : ∀ j, j < 2628 → m2 83 j = s j) : LRL s m2 := by
  obtain ⟨q1, q67, q6, q7, q8⟩ := hq
  have f64 : m1 64 = m 64 := hf 64 (by decide) (Or.inr (by decide))
  refine ⟨h.1, hM, hc.far h.1 q1, h.2.2.2.1.keep ?_ ?_ ?_ ?_ ?_ ?_, Or.inr ⟨h28, ?_, s, h.1, h83, hK.keep (fun a h1 h2 => q1 a (by omega))⟩⟩
  · rw [q1 21 (by decide)]; exact hf 21 (by decide) (Or.inl (by decide))
  · rw [q1 22 (by decide)]; exact hf 22 (by decide) (Or.inl (by decide))
  · rw [q67]; exact hf 67 (by decide) (Or.inr (by decide))
  · rw [q6, f64]
  · rw [q7, f64]
  · rw [q8, f64]
  · rw [q1 0 (by decide)]; exact h04
theorem arm_37 {nm : String} {X : Nat × Nat × (Nat → Int32)} (hL : X.2.1 ≤ 3072) {i : Nat} (hi : i + 6 ≤ X.2.1) {s : Nat → Int} {m : Nat → Nat → Int} (h : LRL s m) (k : ∀ s2 m2, LRL s2 m2 → GX X (M_LN nm) 14 0 0 1457 [vV (.ref X.1), rV 0, rV 64, iV (i : Int)] [] (WC ++ (WM ++ []), m2) QL) : GX X (M_LN nm) 14 0 0 1395 [vV (.ref X.1), rV 0, rV 64, iV (i : Int)] [] (WC ++ (WM ++ []), m) QL := by
  by_cases hx : (X.2.2 (i + 1)).toInt = 0
  · rcases h.2.2.2.2 with ⟨h28, h04⟩ | ⟨h28, h04, u, hU, h83, hK⟩
    · refine GX_aload_n d_L_law_1395 rfl ?_
      refine GX_arg1 (i := i) 1 rfl rfl rfl d_L_law_1396 d_L_law_1397 d_L_law_1398 d_L_law_1399 d_L_law_1400 (by omega) hL ?_
      refine GX_bool (oi_rng _) d_L_law_1401 d_L_law_1404 d_L_law_1405 d_L_law_1408 ?_
      rw [show bz ((X.2.2 (i + 1)).toInt) = 0 from if_pos hx]
      refine GX_cv (X := X) [iV 0] cl_L_172 rfl d_L_law_1409 (wk_0 _) rfl (Nat.le_of_ble_eq_true rfl) (by decide) (sp_CimageN h04) ?_
      rintro _ _ ⟨rfl, rfl⟩
      refine GX_aload_n d_L_law_1412 rfl ?_
      refine GX_arg1 (i := i) 1 rfl rfl rfl d_L_law_1413 d_L_law_1414 d_L_law_1415 d_L_law_1416 d_L_law_1417 (by omega) hL ?_
      refine GX_bool (oi_rng _) d_L_law_1418 d_L_law_1421 d_L_law_1422 d_L_law_1425 ?_
      rw [show bz ((X.2.2 (i + 1)).toInt) = 0 from if_pos hx]
      refine GX_cv (X := X) [iV 0] cl_L_175 rfl d_L_law_1426 (wk_64 _) rfl (Nat.le_of_ble_eq_true rfl) (by decide) (sp_MimageN s h.1 h.2.1 h28) ?_
      rintro _ _ ⟨rfl, m2, rfl, hk⟩
      refine GX_same 1457 d_L_law_1429 (by decide) ?_
      exact k _ _ (h.both h.1 h.2.2.1 (FXo.refl m) hk)
    · refine GX_aload_n d_L_law_1395 rfl ?_
      refine GX_arg1 (i := i) 1 rfl rfl rfl d_L_law_1396 d_L_law_1397 d_L_law_1398 d_L_law_1399 d_L_law_1400 (by omega) hL ?_
      refine GX_bool (oi_rng _) d_L_law_1401 d_L_law_1404 d_L_law_1405 d_L_law_1408 ?_
      rw [show bz ((X.2.2 (i + 1)).toInt) = 0 from if_pos hx]
      refine GX_cv (X := X) [iV 0] cl_L_172 rfl d_L_law_1409 (wk_0 _) rfl (Nat.le_of_ble_eq_true rfl) (by decide) (sp_CimageB s h.1 h.2.2.1 u hU hK h04) ?_
      rintro _ _ ⟨rfl, m1, rfl, hc, hf⟩
      refine GX_aload_n d_L_law_1412 rfl ?_
      refine GX_arg1 (i := i) 1 rfl rfl rfl d_L_law_1413 d_L_law_1414 d_L_law_1415 d_L_law_1416 d_L_law_1417 (by omega) hL ?_
      refine GX_bool (oi_rng _) d_L_law_1418 d_L_law_1421 d_L_law_1422 d_L_law_1425 ?_
      rw [show bz ((X.2.2 (i + 1)).toInt) = 0 from if_pos hx]
      refine GX_cv (X := X) [iV 0] cl_L_175 rfl d_L_law_1426 (wk_64 _) rfl (Nat.le_of_ble_eq_true rfl) (by decide) (sp_MimageB s h.1 (h.mi hf) u hU (by rw [hf.1 64 (by decide) (Or.inr (by decide))]; exact h28) (fun j hj => by rw [hf.1 83 (by decide) (Or.inr (by decide))]; exact h83 j hj)) ?_
      rintro _ _ ⟨rfl, m2, rfl, hk⟩
      refine GX_same 1457 d_L_law_1429 (by decide) ?_
      exact k _ _ (h.both hU hc hf hk)
  · refine GX_aload_n d_L_law_1395 rfl ?_
    refine GX_arg1 (i := i) 1 rfl rfl rfl d_L_law_1396 d_L_law_1397 d_L_law_1398 d_L_law_1399 d_L_law_1400 (by omega) hL ?_
    refine GX_bool (oi_rng _) d_L_law_1401 d_L_law_1404 d_L_law_1405 d_L_law_1408 ?_
    rw [show bz ((X.2.2 (i + 1)).toInt) = 1 from if_neg hx]
    refine GX_cv (X := X) [iV 1] cl_L_172 rfl d_L_law_1409 (wk_0 _) rfl (Nat.le_of_ble_eq_true rfl) (by decide) (sp_CimageT s h.1 h.2.2.1) ?_
    rintro _ _ ⟨rfl, m1, rfl, hc, hK, h04, hf⟩
    have hM1 : MI s m1 := h.2.1.far (fun a ha => hf a (by omega) (Or.inr ha))
    refine GX_aload_n d_L_law_1412 rfl ?_
    refine GX_arg1 (i := i) 1 rfl rfl rfl d_L_law_1413 d_L_law_1414 d_L_law_1415 d_L_law_1416 d_L_law_1417 (by omega) hL ?_
    refine GX_bool (oi_rng _) d_L_law_1418 d_L_law_1421 d_L_law_1422 d_L_law_1425 ?_
    rw [show bz ((X.2.2 (i + 1)).toInt) = 1 from if_neg hx]
    refine GX_cv (X := X) [iV 1] cl_L_175 rfl d_L_law_1426 (wk_64 _) rfl (Nat.le_of_ble_eq_true rfl) (by decide) (sp_MimageT s h.1 hM1) ?_
    rintro _ _ ⟨rfl, m2, rfl, hM2, hq, h28, h83⟩
    refine GX_same 1457 d_L_law_1429 (by decide) ?_
    exact k _ _ (h.taken_ hc hK h04 hf hM2 hq h28 h83)
