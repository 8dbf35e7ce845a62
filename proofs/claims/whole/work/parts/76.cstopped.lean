theorem xor_neg (a b : Int32) : ((a ^^^ b).toInt < 0) ↔ ¬ ((a.toInt < 0) ↔ (b.toInt < 0)) := by
  have h : ∀ c : Int32, (c.toInt < 0) ↔ c.toBitVec.msb = true := fun c => by
    rw [BitVec.msb_eq_toInt]
    exact (decide_eq_true_iff).symm
  rw [h, h, h, Int32.toBitVec_xor, BitVec.msb_xor]
  cases a.toBitVec.msb <;> cases b.toBitVec.msb <;> simp
theorem sp_floorMod {w : List KD} {m : Nat → Nat → Int} (x y : Int) (hx : -2147483648 < x ∧ x < 2147483648) (hy : 1 ≤ y ∧ y < 1000000) : Sp M_J9_floorMod_7cf53 0 0 0 [iV x, iV y] (WC ++ w, m) (fun r h => r = some (iV (x % y)) ∧ h = (WC ++ w, m)) := by
  refine Sp.ofGF (ls := [iV x, iV y, uV]) (by decide +kernel) rfl (Nat.le_of_ble_eq_true rfl) ?_
  have ht := Int.tmod_eq_emod (a := x) (b := y)
  have he1 := Int.emod_nonneg x (show y ≠ 0 by omega)
  have he2 := Int.emod_lt_of_pos x (show 0 < y by omega)
  have hdv : y ∣ x ↔ x % y = 0 := ⟨Int.emod_eq_zero_of_dvd, Int.dvd_of_emod_eq_zero⟩
  have hna : (y.natAbs : Int) = y := by omega
  have htr : -1000000 ≤ x.tmod y ∧ x.tmod y ≤ 1000000 := by
    rw [ht]
    split <;> omega
  have hxn := xor_neg (Int32.ofInt x) (Int32.ofInt y)
  rw [oi_toInt ⟨by omega, hx.2⟩, oi_toInt (by omega)] at hxn
  have hxr := (Int32.ofInt x ^^^ Int32.ofInt y).le_toInt
  have hxr2 := (Int32.ofInt x ^^^ Int32.ofInt y).toInt_lt
  refine G_iload_n d_J9_floorMod_7cf53_0 rfl ?_
  refine G_iload_n d_J9_floorMod_7cf53_1 rfl ?_
  refine G_irem d_J9_floorMod_7cf53_2 (by omega) (by omega) (by omega) ?_
  refine G_istore_n d_J9_floorMod_7cf53_3 (by decide) rfl ?_
  refine G_iload_n d_J9_floorMod_7cf53_4 rfl ?_
  refine G_iload_n d_J9_floorMod_7cf53_5 rfl ?_
  refine G_ixor ((Int32.ofInt x ^^^ Int32.ofInt y).toInt) d_J9_floorMod_7cf53_6 ((oi_eta _).symm) ?_
  refine G_if_ge 18 d_J9_floorMod_7cf53_7 (by decide) (by omega) (fun c7 => ?_) (fun c7 => ?_)
  · refine G_iload_n d_J9_floorMod_7cf53_18 rfl ?_
    refine G_iret (mc := 0) (ms := 0) (st := []) d_J9_floorMod_7cf53_19 rfl ?_
    exact ⟨by rw [ht, if_pos (Or.inl (by omega)), Int.natCast_zero, Int.sub_zero], rfl⟩
  · refine G_iload_n d_J9_floorMod_7cf53_10 rfl ?_
    refine G_if_eq 18 d_J9_floorMod_7cf53_11 (by decide) (by omega) (fun c11 => ?_) (fun c11 => ?_)
    · refine G_iload_n d_J9_floorMod_7cf53_18 rfl ?_
      refine G_iret (mc := 0) (ms := 0) (st := []) d_J9_floorMod_7cf53_19 rfl ?_
      by_cases hd : 0 ≤ x ∨ y ∣ x
      · exact ⟨by rw [ht, if_pos hd, Int.natCast_zero, Int.sub_zero], rfl⟩
      · rw [ht, if_neg hd, hna] at c11
        omega
    · refine G_iload_n d_J9_floorMod_7cf53_14 rfl ?_
      refine G_iload_n d_J9_floorMod_7cf53_15 rfl ?_
      refine G_iadd d_J9_floorMod_7cf53_16 ?_
      refine G_iret (mc := 0) (ms := 0) (st := []) d_J9_floorMod_7cf53_17 rfl ?_
      exact ⟨by rw [ht, if_neg (fun h => by rcases h with h | h; (· omega); (· rw [hdv] at h; rw [ht, if_pos (Or.inr (hdv.mpr h))] at c11; omega)), hna, Int.sub_add_cancel], rfl⟩
def pcS (s : Nat → Int) (p j n : Nat) : Int := sumN (fun k => pCh s p k * pS s k j) n
theorem pcS_rng {s : Nat → Int} (h : VS s) (p j n : Nat) (hj : j < 4) (hn : n ≤ 5) : -2000 ≤ pcS s p j n ∧ pcS s p j n ≤ 2000 := by
  have h1 := sumN_bnd (f := fun k => pCh s p k * pS s k j) (B := 288) (n := n) (fun k hk => by
    have h2 := h.St (4 * k + j) (by omega)
    have h3 := pCh_rng h p k
    unfold pS
    rw [show 53 + 4 * k + j = 53 + (4 * k + j) by omega]
    exact chb h3 ⟨h2.1, by omega⟩)
  unfold pcS
  omega
theorem pSum_pc (s : Nat → Int) (p j t n : Nat) : pSum s p j t n = (t : Int) * pcS s p j n := by
  unfold pSum pcS
  induction n with
  | zero => show (0 : Int) = (t : Int) * 0; rw [Int.mul_zero]
  | succ n ih =>
    show sumN _ n + _ = (t : Int) * (sumN _ n + _)
    rw [ih, Int.mul_add]
    congr 1
    show pCh s p n * ((t : Int) * pS s n j) = (t : Int) * (pCh s p n * pS s n j)
    rw [← Int.mul_assoc, Int.mul_comm (pCh s p n) (t : Int), Int.mul_assoc]
def rcS (s : Nat → Int) (j : Nat) : Int := if s 3 = 0 then (if pChief s = -1 then 0 else pcS s (pChief s).toNat j (pN s)) else pS s (pN s) j
theorem pFol_rc (s : Nat → Int) (j t : Nat) : pFol s j t = (t : Int) * rcS s j := by
  unfold pFol rcS
  by_cases c : s 3 = 0
  · rw [if_pos c, if_pos c]
    by_cases d : pChief s = -1
    · rw [if_pos d, if_pos d, Int.mul_zero]
    · rw [if_neg d, if_neg d, pSum_pc]
  · rw [if_neg c, if_neg c]
theorem stR_cl {s : Nat → Int} (hV : VS s) (p j t : Nat) : ((stR s p j t : Nat) : Int) = ((t : Int) * ((pcS s p j (pN s) - rcS s j) % (pT s : Int))) % (pT s : Int) := by
  have hT := hV.T
  unfold stR
  rw [pSum_pc, pFol_rc, ← Int.mul_sub, Int.toNat_of_nonneg (Int.emod_nonneg _ (by omega)), Int.mul_emod, Int.mul_emod (t : Int) ((pcS s p j (pN s) - rcS s j) % (pT s : Int)), Int.emod_emod_of_dvd _ (Int.dvd_refl _)]
theorem SM.nst {s : Nat → Int} {p j t : Nat} {m : Nat → Nat → Int} (h : SM (pT s) (addL (stC s p j t) (stR s p j t) 1) (t + (1 : Int).toNat) m) : SM (pT s) (stC s p j (t + 1)) (t + 1) m := by
  refine SM.congr h (funext (fun x => ?_))
  unfold addL stC
  by_cases e : x = stR s p j t
  · rw [if_pos e, cntB_t (by simp [e]), Int.natCast_add]
    rfl
  · rw [if_neg e, cntB_f (by simpa using fun h => e h.symm)]
theorem sp_pace {w : List KD} {m : Nat → Nat → Int} (s : Nat → Int) (hV : VS s) (hB : CB s m) (p j : Nat) (hp : p < pC s) (hj : j < 4) : Sp M_X9_pace 1 0 0 [rV 0, iV (p : Int), iV (j : Int)] (WC ++ w, m) (fun r h => r = some (iV (pcS s p j (pN s))) ∧ h = (WC ++ w, m)) := by
  refine Sp.ofG (ls := [rV 0, iV (p : Int), iV (j : Int), uV, uV]) (by decide +kernel) rfl (Nat.le_of_ble_eq_true rfl) ?_
  have hC := pC_le hV
  have hN := hV.N
  have hT := hV.T
  have hSc := hV.Sc
  have L : ∀ k : Nat, k ≤ pN s → G M_X9_pace 1 0 0 5 [rV 0, iV (p : Int), iV (j : Int), iV (pcS s p j k), iV (k : Int)] [] (WC ++ w, m) (fun r h => r = some (iV (pcS s p j (pN s))) ∧ h = (WC ++ w, m)) := by
    refine loop_up (pN s) _ ?_
    intro k hk ih
    refine G_iload d_X9_pace_5 rfl ?_
    refine G_aload_n d_X9_pace_7 rfl ?_
    refine G_getR (r := 1) (fl_X9_12.r) d_X9_pace_8 (wk_0 _) rfl rfl ?_
    refine G_getIe (v := (pN s : Int)) (fl_X9_194.r) d_X9_pace_11 (wk_1 _) rfl (hB.1.1) ?_
    refine G_icmp_ge 51 d_X9_pace_14 (by decide) (by omega) (by omega) (fun c14 => ?_) (fun c14 => ?_)
    · refine G_iload_n d_X9_pace_51 rfl ?_
      refine G_iret (mc := 0) (ms := 0) (st := []) d_X9_pace_52 rfl ?_
      exact ⟨by rw [show k = pN s by omega], rfl⟩
    · refine G_iload_n d_X9_pace_17 rfl ?_
      refine G_aload_n d_X9_pace_18 rfl ?_
      refine G_getR (r := 25) (fl_X9_43.r) d_X9_pace_19 (wk_0 _) rfl rfl ?_
      refine G_iload_n d_X9_pace_22 rfl ?_
      refine G_iload d_X9_pace_23 rfl ?_
      refine G_callV2 cl_X9_323 rfl d_X9_pace_25 (wk_25 _) (Nat.le_of_ble_eq_true rfl) (by decide) (sp_Cch s hV hB.2.2.1 p k hp (by omega)) ?_
      rintro _ _ ⟨rfl, rfl⟩
      have hch := pCh_rng hV p k
      refine G_aload_n d_X9_pace_28 rfl ?_
      refine G_getR (r := 6) (fl_X9_19.r) d_X9_pace_29 (wk_0 _) rfl rfl ?_
      refine G_getR (r := 8) fl_X9_149 d_X9_pace_32 (wk_6 _) rfl rfl ?_
      refine G_iload d_X9_pace_35 rfl ?_
      refine G_iconst d_X9_pace_37 ?_
      refine G_imul d_X9_pace_38 ?_
      refine G_iload_n d_X9_pace_39 rfl ?_
      refine G_iadd d_X9_pace_40 ?_
      refine G_ialdj (4 * k + j) d_X9_pace_41 (wk_8 _) (by omega) (by omega) (by decide) ?_
      rw [hB.2.1.1.2.2.1 (4 * k + j) (by omega), show s (53 + (4 * k + j)) = pS s k j by unfold pS; rw [show 53 + 4 * k + j = 53 + (4 * k + j) by omega]]
      refine G_imul d_X9_pace_42 ?_
      refine G_iadd d_X9_pace_43 ?_
      refine G_istore_n d_X9_pace_44 (by decide) rfl ?_
      refine G_iinc d_X9_pace_45 rfl (by decide) rfl ?_
      refine G_goto 5 d_X9_pace_48 (by decide) ?_
      exact ih (by omega)
  refine G_iconst d_X9_pace_0 ?_
  refine G_istore_n d_X9_pace_1 (by decide) rfl ?_
  refine G_iconst d_X9_pace_2 ?_
  refine G_istore d_X9_pace_3 (by decide) rfl ?_
  exact L 0 (by omega)
theorem sp_isStoppedBy {w : List KD} {m : Nat → Nat → Int} (s : Nat → Int) (hV : VS s) (hB : CB s m) (p j : Nat) (hp : p < pC s) (hj : j < 4) : Sp M_X9_isStoppedBy 2 0 0 [rV 0, iV (p : Int), iV (j : Int)] (WC ++ w, m) (fun r h => r = some (iV (if stpB s p j = true then 1 else 0)) ∧ ∃ m2, h = (WC ++ w, m2) ∧ CB s m2 ∧ FBs m m2) := by
  refine Sp.ofG (ls := [rV 0, iV (p : Int), iV (j : Int), uV, uV, uV]) (by decide +kernel) rfl (Nat.le_of_ble_eq_true rfl) ?_
  have hC := pC_le hV
  have hN := hV.N
  have hT := hV.T
  have hSc := hV.Sc
  have hcr := pChief_rng s
  have hFo := hV.F
  have hLj := hV.L j hj
  have hp1 := pcS_rng hV p j (pN s) hj (by omega)
  have hrc : -2000 ≤ rcS s j ∧ rcS s j ≤ 2000 := by
    unfold rcS
    have h1 := pcS_rng hV (pChief s).toNat j (pN s) hj (by omega)
    have h2 := hV.St (4 * pN s + j) (by omega)
    unfold pS
    rw [show 53 + 4 * pN s + j = 53 + (4 * pN s + j) by omega]
    split
    · split <;> omega
    · omega
  have hd1 := Int.emod_nonneg (pcS s p j (pN s) - rcS s j) (show (pT s : Int) ≠ 0 by omega)
  have hd2 := Int.emod_lt_of_pos (pcS s p j (pN s) - rcS s j) (show 0 < (pT s : Int) by omega)
  have L : ∀ t : Nat, t ≤ pL s j → ∀ m1, SM (pT s) (stC s p j t) t m1 → FQ m m1 → G M_X9_isStoppedBy 2 0 0 89 [rV 0, iV (p : Int), iV (j : Int), iV (rcS s j), iV ((pcS s p j (pN s) - rcS s j) % (pT s : Int)), iV (t : Int)] [] (WC ++ w, m1) (fun r h => r = some (iV (if stpB s p j = true then 1 else 0)) ∧ ∃ m2, h = (WC ++ w, m2) ∧ CB s m2 ∧ FBs m m2) := by
    refine loop_up (pL s j) _ ?_
    intro t ht ih m1 hM1 hQ1
    refine G_iload d_X9_isStoppedBy_89 rfl ?_
    refine G_aload_n d_X9_isStoppedBy_91 rfl ?_
    refine G_getR (r := 6) (fl_X9_19.r) d_X9_isStoppedBy_92 (wk_0 _) rfl rfl ?_
    refine G_getR (r := 7) fl_X9_139 d_X9_isStoppedBy_95 (wk_6 _) rfl rfl ?_
    refine G_iload_n d_X9_isStoppedBy_98 rfl ?_
    refine G_ialdj (j) d_X9_isStoppedBy_99 (wk_7 _) (by omega) (by omega) (by decide) ?_
    rw [hQ1 7 (by decide) (by decide) (by decide) (by decide), hB.2.1.1.2.1 j hj]
    refine G_icmp_ge 130 d_X9_isStoppedBy_100 (by decide) (by omega) (by omega) (fun c100 => ?_) (fun c100 => ?_)
    · refine G_aload_n d_X9_isStoppedBy_130 rfl ?_
      refine G_getR (r := 46) (fl_X9_61.r) d_X9_isStoppedBy_131 (wk_0 _) rfl rfl ?_
      have hte : t = pL s j := by omega
      obtain ⟨hB1, hF1⟩ := hB.summed (by omega) (hM1.us (by omega) (by omega)) hQ1
      refine G_callV0 cl_X9_320 rfl d_X9_isStoppedBy_134 (wk_46 _) (Nat.le_of_ble_eq_true rfl) (by decide) (sp_sstate (pT s) t (stC s p j t) (by omega) hM1) ?_
      rintro _ _ ⟨rfl, rfl⟩
      have hsr := stB_rng (pT s) (stC s p j t)
      refine G_if_ne 144 d_X9_isStoppedBy_137 (by decide) (by omega) (fun c137 => ?_) (fun c137 => ?_)
      · refine G_iconst d_X9_isStoppedBy_144 ?_
        refine G_zret (mc := 0) (ms := 0) (st := []) d_X9_isStoppedBy_145 rfl (by omega) ?_
        exact ⟨by rw [if_neg (show ¬ stpB s p j = true from fun h => c137 (by rw [hte]; exact stB_0.mpr h))], m1, rfl, hB1, hF1⟩
      · refine G_iconst d_X9_isStoppedBy_140 ?_
        refine G_goto 145 d_X9_isStoppedBy_141 (by decide) ?_
        refine G_zret (mc := 0) (ms := 0) (st := []) d_X9_isStoppedBy_145 rfl (by omega) ?_
        exact ⟨by rw [if_pos (show stpB s p j = true from stB_0.mp (by rw [hte] at c137; exact c137))], m1, rfl, hB1, hF1⟩
    · refine G_aload_n d_X9_isStoppedBy_103 rfl ?_
      refine G_getR (r := 46) (fl_X9_61.r) d_X9_isStoppedBy_104 (wk_0 _) rfl rfl ?_
      refine G_iload d_X9_isStoppedBy_107 rfl ?_
      refine G_iload d_X9_isStoppedBy_109 rfl ?_
      refine G_imul d_X9_isStoppedBy_111 ?_
      refine G_aload_n d_X9_isStoppedBy_112 rfl ?_
      refine G_getR (r := 6) (fl_X9_19.r) d_X9_isStoppedBy_113 (wk_0 _) rfl rfl ?_
      refine G_getIe (v := (pT s : Int)) (fl_X9_123.r) d_X9_isStoppedBy_116 (wk_6 _) rfl ((by rw [hQ1 6 (by decide) (by decide) (by decide) (by decide)]; exact hB.2.1.1.1)) ?_
      obtain ⟨dn, hdn⟩ : ∃ dn : Nat, ((pcS s p j (pN s) - rcS s j) % (pT s : Int)) = (dn : Int) := ⟨(((pcS s p j (pN s) - rcS s j) % (pT s : Int))).toNat, by omega⟩
      have hmul : t * dn ≤ 12 * 48 := Nat.mul_le_mul (by omega) (by omega)
      rw [hdn]
      refine G_iremN (t * dn) (pT s) ((by rw [Int.natCast_mul])) (rfl) d_X9_isStoppedBy_119 (by omega) (by omega) (by omega) ?_
      refine G_iconst d_X9_isStoppedBy_120 ?_
      have hre : ((t * dn % pT s : Nat) : Int) = ((stR s p j t : Nat) : Int) := by
        rw [stR_cl hV, hdn, Int.natCast_emod, Int.natCast_mul]
      rw [hre, ← hdn]
      have hrl : stR s p j t < pT s := by
        have h8 : t * dn % pT s < pT s := Nat.mod_lt _ (by omega)
        omega
      refine G_callV2 cl_X9_317 rfl d_X9_isStoppedBy_121 (wk_46 _) (Nat.le_of_ble_eq_true rfl) (by decide) (sp_sadd (pT s) (stR s p j t) t 1 (stC s p j t) (by omega) (by omega) hrl (by decide) (by omega) hM1) ?_
      rintro _ _ ⟨rfl, m4, rfl, hM4, hf4⟩
      refine G_iinc d_X9_isStoppedBy_124 rfl (by decide) rfl ?_
      refine G_goto 89 d_X9_isStoppedBy_127 (by decide) ?_
      have h9 := ih (by omega) m4 hM4.nst (fun a a1 a2 a3 a4 => (hf4 a a1 a4).trans (hQ1 a a1 a2 a3 a4))
      exact h9
  have K52 : G M_X9_isStoppedBy 2 0 0 52 [rV 0, iV (p : Int), iV (j : Int), iV (rcS s j), uV, uV] [] (WC ++ w, m) (fun r h => r = some (iV (if stpB s p j = true then 1 else 0)) ∧ ∃ m2, h = (WC ++ w, m2) ∧ CB s m2 ∧ FBs m m2) := by
    refine G_aload_n d_X9_isStoppedBy_52 rfl ?_
    refine G_iload_n d_X9_isStoppedBy_53 rfl ?_
    refine G_iload_n d_X9_isStoppedBy_54 rfl ?_
    refine G_callV2 cl_X9_307 rfl d_X9_isStoppedBy_55 (wk_0 _) (Nat.le_of_ble_eq_true rfl) (by decide) (sp_pace s hV hB p j hp hj) ?_
    rintro _ _ ⟨rfl, rfl⟩
    refine G_iload_n d_X9_isStoppedBy_58 rfl ?_
    refine G_isub d_X9_isStoppedBy_59 ?_
    refine G_aload_n d_X9_isStoppedBy_60 rfl ?_
    refine G_getR (r := 6) (fl_X9_19.r) d_X9_isStoppedBy_61 (wk_0 _) rfl rfl ?_
    refine G_getIe (v := (pT s : Int)) (fl_X9_123.r) d_X9_isStoppedBy_64 (wk_6 _) rfl (hB.2.1.1.1) ?_
    refine G_callS2 cl_X9_310 d_X9_isStoppedBy_67 (Nat.le_of_ble_eq_true rfl) (by decide) (sp_floorMod _ _ (by omega) (by omega)) ?_
    rintro _ _ ⟨rfl, rfl⟩
    refine G_istore d_X9_isStoppedBy_70 (by decide) rfl ?_
    refine G_aload_n d_X9_isStoppedBy_72 rfl ?_
    refine G_getR (r := 46) (fl_X9_61.r) d_X9_isStoppedBy_73 (wk_0 _) rfl rfl ?_
    refine G_aload_n d_X9_isStoppedBy_76 rfl ?_
    refine G_getR (r := 6) (fl_X9_19.r) d_X9_isStoppedBy_77 (wk_0 _) rfl rfl ?_
    refine G_getIe (v := (pT s : Int)) (fl_X9_123.r) d_X9_isStoppedBy_80 (wk_6 _) rfl (hB.2.1.1.1) ?_
    refine G_callV1 cl_X9_315 rfl d_X9_isStoppedBy_83 (wk_46 _) (Nat.le_of_ble_eq_true rfl) (by decide) (sp_sbegin (pT s) (by omega) (by omega) hB.2.2.2.2.2.2) ?_
    rintro _ _ ⟨rfl, m4, rfl, hM4, hQ4⟩
    refine G_iconst d_X9_isStoppedBy_86 ?_
    refine G_istore d_X9_isStoppedBy_87 (by decide) rfl ?_
    exact L 0 (by omega) m4 hM4 hQ4
  refine G_aload_n d_X9_isStoppedBy_0 rfl ?_
  refine G_getR (r := 6) (fl_X9_19.r) d_X9_isStoppedBy_1 (wk_0 _) rfl rfl ?_
  refine G_getR (r := 8) fl_X9_149 d_X9_isStoppedBy_4 (wk_6 _) rfl rfl ?_
  refine G_aload_n d_X9_isStoppedBy_7 rfl ?_
  refine G_getR (r := 1) (fl_X9_12.r) d_X9_isStoppedBy_8 (wk_0 _) rfl rfl ?_
  refine G_getIe (v := (pN s : Int)) (fl_X9_194.r) d_X9_isStoppedBy_11 (wk_1 _) rfl (hB.1.1) ?_
  refine G_iconst d_X9_isStoppedBy_14 ?_
  refine G_imul d_X9_isStoppedBy_15 ?_
  refine G_iload_n d_X9_isStoppedBy_16 rfl ?_
  refine G_iadd d_X9_isStoppedBy_17 ?_
  refine G_ialdj (4 * pN s + j) d_X9_isStoppedBy_18 (wk_8 _) (by omega) (by omega) (by decide) ?_
  rw [hB.2.1.1.2.2.1 (4 * pN s + j) (by omega)]
  refine G_istore_n d_X9_isStoppedBy_19 (by decide) rfl ?_
  refine G_aload_n d_X9_isStoppedBy_20 rfl ?_
  refine G_getR (r := 6) (fl_X9_19.r) d_X9_isStoppedBy_21 (wk_0 _) rfl rfl ?_
  refine G_getIe (v := (if s 3 = 0 then (1 : Int) else 0)) (fl_X9_164.r) d_X9_isStoppedBy_24 (wk_6 _) rfl (hB.2.1.2) ?_
  refine G_if_eq 52 d_X9_isStoppedBy_27 (by decide) (by split <;> omega) (fun c27 => ?_) (fun c27 => ?_)
  · have e3 : ¬ s 3 = 0 := fun h => by rw [if_pos h] at c27; omega
    rw [show s (53 + (4 * pN s + j)) = rcS s j by unfold rcS pS; rw [if_neg e3, show 53 + 4 * pN s + j = 53 + (4 * pN s + j) by omega]]
    exact K52
  · refine G_aload_n d_X9_isStoppedBy_30 rfl ?_
    refine G_getIe (v := pChief s) (fl_X9_47.r) d_X9_isStoppedBy_31 (wk_0 _) rfl (hB.2.2.2.1) ?_
    refine G_iconst d_X9_isStoppedBy_34 ?_
    refine G_icmp_ne 42 d_X9_isStoppedBy_35 (by decide) (by omega) (by omega) (fun c35 => ?_) (fun c35 => ?_)
    · refine G_aload_n d_X9_isStoppedBy_42 rfl ?_
      refine G_aload_n d_X9_isStoppedBy_43 rfl ?_
      refine G_getIe (v := pChief s) (fl_X9_47.r) d_X9_isStoppedBy_44 (wk_0 _) rfl (hB.2.2.2.1) ?_
      refine G_iload_n d_X9_isStoppedBy_47 rfl ?_
      have hcn := Int.toNat_of_nonneg (show 0 ≤ pChief s by omega)
      rw [← hcn]
      refine G_callV2 cl_X9_307 rfl d_X9_isStoppedBy_48 (wk_0 _) (Nat.le_of_ble_eq_true rfl) (by decide) (sp_pace s hV hB (pChief s).toNat j (by omega) hj) ?_
      rintro _ _ ⟨rfl, rfl⟩
      refine G_istore_n d_X9_isStoppedBy_51 (by decide) rfl ?_
      have e3 : s 3 = 0 := by by_cases h : s 3 = 0; (· exact h); (· rw [if_neg h] at c27; omega)
      have e4 : rcS s j = pcS s (pChief s).toNat j (pN s) := by unfold rcS; rw [if_pos e3, if_neg c35]
      rw [e4] at K52
      exact K52
    · refine G_iconst d_X9_isStoppedBy_38 ?_
      refine G_goto 51 d_X9_isStoppedBy_39 (by decide) ?_
      refine G_istore_n d_X9_isStoppedBy_51 (by decide) rfl ?_
      have e3 : s 3 = 0 := by by_cases h : s 3 = 0; (· exact h); (· rw [if_neg h] at c27; omega)
      have e4 : rcS s j = 0 := by unfold rcS; rw [if_pos e3, if_pos c35]
      rw [e4] at K52
      exact K52
theorem or_pow : ∀ j, j < 4 → ∀ x, x < 2 ^ j → Int32.ofInt (x : Nat) ||| Int32.ofInt ((2 ^ j : Nat) : Int) = Int32.ofInt ((x + 2 ^ j : Nat) : Int) := by decide +kernel
theorem shl_pow : ∀ j, j < 4 → Int32.ofInt 1 <<< (Int32.ofInt (j : Nat) &&& 31) = Int32.ofInt ((2 ^ j : Nat) : Int) := by decide +kernel
theorem sp_Cstopped {w : List KD} {m : Nat → Nat → Int} (s : Nat → Int) (hV : VS s) (hI : CI s m) (a : Int) (hra : -2147483648 ≤ a ∧ a < 2147483648) : Sp M_X9_stopped 3 0 0 [rV 0, iV a] (WC ++ w, m) (fun r h => r = some (iV (vStopped s a)) ∧ ∃ m2, h = (WC ++ w, m2) ∧ CI s m2 ∧ FXo m m2) := by
  refine Sp.ofG (ls := [rV 0, iV a, uV, uV]) (by decide +kernel) rfl (Nat.le_of_ble_eq_true rfl) ?_
  have hC := pC_le hV
  have hN := hV.N
  have hT := hV.T
  have hSc := hV.Sc
  have L : ∀ p : Nat, p < pC s → ∀ j : Nat, j ≤ 4 → ∀ m1, CB s m1 → FBs m m1 → G M_X9_stopped 3 0 0 14 [rV 0, iV (p : Int), iV (setN s p j), iV (j : Int)] [] (WC ++ w, m1) (fun r h => r = some (iV (vStopped s (p : Int))) ∧ ∃ m2, h = (WC ++ w, m2) ∧ CI s m2 ∧ FXo m m2) := by
    intro p hp
    refine loop_up 4 _ ?_
    intro j hj ih m1 hB1 hF1
    have hsr := setN_rng s p j
    have e1 : setN s p (j + 1) = setN s p j + (if stpB s p j = true then 2 ^ j else 0) := rfl
    refine G_iload_n d_X9_stopped_14 rfl ?_
    refine G_iconst d_X9_stopped_15 ?_
    refine G_icmp_ge 40 d_X9_stopped_16 (by decide) (by omega) (by omega) (fun c16 => ?_) (fun c16 => ?_)
    · refine G_iload_n d_X9_stopped_40 rfl ?_
      refine G_iret (mc := 0) (ms := 0) (st := []) d_X9_stopped_41 rfl ?_
      have hje : j = 4 := by omega
      subst hje
      exact ⟨by unfold vStopped; rw [if_pos ⟨by omega, by omega⟩]; rfl, m1, rfl, hI.fb hB1 hF1, hF1.x⟩
    · refine G_aload_n d_X9_stopped_19 rfl ?_
      refine G_iload_n d_X9_stopped_20 rfl ?_
      refine G_iload_n d_X9_stopped_21 rfl ?_
      refine G_callV2 cl_X9_304 rfl d_X9_stopped_22 (wk_0 _) (Nat.le_of_ble_eq_true rfl) (by decide) (sp_isStoppedBy s hV hB1 p j hp (by omega)) ?_
      rintro _ _ ⟨rfl, m2, rfl, h2, hF2⟩
      by_cases hs : stpB s p j = true
      · rw [if_pos hs]
        refine G_if_eq 34 d_X9_stopped_25 (by decide) (by decide) (fun hd => absurd hd (by decide)) (fun _ => ?_)
        refine G_iload_n d_X9_stopped_28 rfl ?_
        refine G_iconst d_X9_stopped_29 ?_
        refine G_iload_n d_X9_stopped_30 rfl ?_
        refine G_ishl (((2 ^ j : Nat) : Int)) d_X9_stopped_31 (shl_pow j (by omega)) ?_
        obtain ⟨x, hx⟩ : ∃ x : Nat, setN s p j = (x : Int) := ⟨(setN s p j).toNat, by omega⟩
        have hx2 : x < 2 ^ j := by
          have h9 := hsr.2
          rw [hx] at h9
          exact_mod_cast h9
        refine G_ior ((((setN s p j).toNat + 2 ^ j : Nat) : Int)) d_X9_stopped_32 ((by rw [hx]; exact or_pow j (by omega) x hx2)) ?_
        refine G_istore_n d_X9_stopped_33 (by decide) rfl ?_
        refine G_iinc d_X9_stopped_34 rfl (by decide) rfl ?_
        refine G_goto 14 d_X9_stopped_37 (by decide) ?_
        rw [if_pos hs] at e1
        have e2 : (((setN s p j).toNat + 2 ^ j : Nat) : Int) = setN s p (j + 1) := by rw [e1, Int.natCast_add, Int.toNat_of_nonneg hsr.1, Int.natCast_pow]; rfl
        rw [e2]
        exact ih (by omega) m2 h2 (hF1.trans hF2)
      · rw [if_neg hs]
        refine G_if_eq 34 d_X9_stopped_25 (by decide) (by decide) (fun _ => ?_) (fun hd => absurd hd (by decide))
        refine G_iinc d_X9_stopped_34 rfl (by decide) rfl ?_
        refine G_goto 14 d_X9_stopped_37 (by decide) ?_
        rw [if_neg hs, Int.add_zero] at e1
        rw [e1] at ih
        exact ih (by omega) m2 h2 (hF1.trans hF2)
  refine G_aload_n d_X9_stopped_0 rfl ?_
  refine G_iload_n d_X9_stopped_1 rfl ?_
  refine G_callV1 cl_X9_181 rfl d_X9_stopped_2 (wk_0 _) (Nat.le_of_ble_eq_true rfl) (by decide) (sp_CisPath s hV hI.1 a hra) ?_
  rintro _ _ ⟨rfl, rfl⟩
  by_cases hp : 0 ≤ a ∧ a < (pC s : Int)
  · rw [if_pos hp]
    obtain ⟨p, rfl⟩ : ∃ n : Nat, a = (n : Int) := ⟨a.toNat, by omega⟩
    refine G_if_ne 10 d_X9_stopped_5 (by decide) (by decide) (fun _ => ?_) (fun hd => absurd hd (by decide))
    refine G_iconst d_X9_stopped_10 ?_
    refine G_istore_n d_X9_stopped_11 (by decide) rfl ?_
    refine G_iconst d_X9_stopped_12 ?_
    refine G_istore_n d_X9_stopped_13 (by decide) rfl ?_
    exact L p (by omega) 0 (by omega) m hI.1 (FBs.refl m)
  · rw [if_neg hp]
    refine G_if_ne 10 d_X9_stopped_5 (by decide) (by decide) (fun hd => absurd hd (by decide)) (fun _ => ?_)
    refine G_iconst d_X9_stopped_8 ?_
    refine G_iret (mc := 0) (ms := 0) (st := []) d_X9_stopped_9 rfl ?_
    exact ⟨by unfold vStopped; rw [if_neg hp], m, rfl, hI, FXo.refl m⟩
