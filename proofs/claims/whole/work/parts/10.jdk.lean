def flm (m : Nat → Nat → Int) (a lo hi : Nat) (v : Int) : Nat → Nat → Int := fun a' j => if a' = a ∧ lo ≤ j ∧ j < hi then v else m a' j
theorem flm_nil (m : Nat → Nat → Int) (a lo : Nat) (v : Int) : flm m a lo lo v = m := by
  funext a' j
  unfold flm
  rw [if_neg (by omega)]
theorem flm_step (m : Nat → Nat → Int) (a lo i : Nat) (v : Int) (h : lo ≤ i) : upm (flm m a lo i v) a i v = flm m a lo (i + 1) v := by
  funext a' j
  unfold upm flm
  by_cases h1 : a' = a ∧ j = i
  · rw [if_pos h1, if_pos (by omega)]
  · rw [if_neg h1]
    by_cases h2 : a' = a ∧ lo ≤ j ∧ j < i
    · rw [if_pos h2, if_pos (by omega)]
    · rw [if_neg h2, if_neg (by omega)]
theorem flm_off (m : Nat → Nat → Int) {a a' : Nat} (lo hi : Nat) (v : Int) (h : a' ≠ a) : flm m a lo hi v a' = m a' := by
  funext j
  simp [flm, h]
theorem flm_in (m : Nat → Nat → Int) {a lo hi j : Nat} (v : Int) (h1 : lo ≤ j) (h2 : j < hi) : flm m a lo hi v a j = v := by simp [flm, h1, h2]
theorem flm_out (m : Nat → Nat → Int) {a lo hi j : Nat} (v : Int) (h : j < lo ∨ hi ≤ j) : flm m a lo hi v a j = m a j := by
  unfold flm
  rw [if_neg (by omega)]
theorem sp_fillI {w : List KD} {m : Nat → Nat → Int} {a n : Nat} {rs : List Int} {v : Int} (hw : w[a]? = some (1, n, rs)) (hn : n < 2147483648) : Sp M_J7_fill_53178 0 0 0 [rV a, iV v] (w, m) (fun r h => r = none ∧ h = (w, flm m a 0 n v)) := by
  refine Sp.ofG (ls := [rV a, iV v, uV, uV]) (by decide +kernel) rfl (Nat.le_of_ble_eq_true rfl) ?_
  have L : ∀ i, i ≤ n → G M_J7_fill_53178 0 0 0 5 [rV a, iV v, iV (i : Int), iV (n : Int)] [] (w, flm m a 0 i v) (fun r h => r = none ∧ h = (w, flm m a 0 n v)) := by
    refine loop_up n _ ?_
    intro i hi ih
    refine G_iload_n d_J7_fill_53178_5 rfl ?_
    refine G_iload_n d_J7_fill_53178_6 rfl ?_
    refine G_icmp_ge 20 d_J7_fill_53178_7 (by decide) (by omega) (by omega) (fun c7 => ?_) (fun c7 => ?_)
    · refine G_vret (mc := 0) (ms := 0) (st := []) d_J7_fill_53178_20 rfl ?_
      exact ⟨rfl, by rw [show i = n by omega]⟩
    · refine G_aload_n d_J7_fill_53178_10 rfl ?_
      refine G_iload_n d_J7_fill_53178_11 rfl ?_
      refine G_iload_n d_J7_fill_53178_12 rfl ?_
      refine G_iastj (i) d_J7_fill_53178_13 hw (by first | omega | exact hn) (by first | omega | exact hn) (by first | decide | assumption | omega) ?_
      refine G_iinc d_J7_fill_53178_14 rfl (by decide) rfl ?_
      refine G_goto 5 d_J7_fill_53178_17 (by decide) ?_
      rw [flm_step m a 0 i v (by omega)]
      exact ih (by omega)
  refine G_iconst d_J7_fill_53178_0 ?_
  refine G_istore_n d_J7_fill_53178_1 (by decide) rfl ?_
  refine G_aload_n d_J7_fill_53178_2 rfl ?_
  refine G_alen1 d_J7_fill_53178_3 hw ?_
  refine G_istore_n d_J7_fill_53178_4 (by decide) rfl ?_
  have h0 := L 0 (Nat.zero_le _)
  rw [flm_nil] at h0
  exact h0
theorem sp_fillB {w : List KD} {m : Nat → Nat → Int} {a n : Nat} {rs : List Int} {v : Int} (hw : w[a]? = some (2, n, rs)) (hn : n < 2147483648) (hv : -128 ≤ v ∧ v < 128) : Sp M_J7_fill_031fb 0 0 0 [rV a, iV v] (w, m) (fun r h => r = none ∧ h = (w, flm m a 0 n v)) := by
  refine Sp.ofG (ls := [rV a, iV v, uV, uV]) (by decide +kernel) rfl (Nat.le_of_ble_eq_true rfl) ?_
  have L : ∀ i, i ≤ n → G M_J7_fill_031fb 0 0 0 5 [rV a, iV v, iV (i : Int), iV (n : Int)] [] (w, flm m a 0 i v) (fun r h => r = none ∧ h = (w, flm m a 0 n v)) := by
    refine loop_up n _ ?_
    intro i hi ih
    refine G_iload_n d_J7_fill_031fb_5 rfl ?_
    refine G_iload_n d_J7_fill_031fb_6 rfl ?_
    refine G_icmp_ge 20 d_J7_fill_031fb_7 (by decide) (by omega) (by omega) (fun c7 => ?_) (fun c7 => ?_)
    · refine G_vret (mc := 0) (ms := 0) (st := []) d_J7_fill_031fb_20 rfl ?_
      exact ⟨rfl, by rw [show i = n by omega]⟩
    · refine G_aload_n d_J7_fill_031fb_10 rfl ?_
      refine G_iload_n d_J7_fill_031fb_11 rfl ?_
      refine G_iload_n d_J7_fill_031fb_12 rfl ?_
      refine G_bastj (i) d_J7_fill_031fb_13 hw (by first | omega | exact hn) (by first | omega | exact hn) (by first | decide | assumption | omega) (by omega) ?_
      refine G_iinc d_J7_fill_031fb_14 rfl (by decide) rfl ?_
      refine G_goto 5 d_J7_fill_031fb_17 (by decide) ?_
      rw [flm_step m a 0 i v (by omega)]
      exact ih (by omega)
  refine G_iconst d_J7_fill_031fb_0 ?_
  refine G_istore_n d_J7_fill_031fb_1 (by decide) rfl ?_
  refine G_aload_n d_J7_fill_031fb_2 rfl ?_
  refine G_alen2 d_J7_fill_031fb_3 hw ?_
  refine G_istore_n d_J7_fill_031fb_4 (by decide) rfl ?_
  have h0 := L 0 (Nat.zero_le _)
  rw [flm_nil] at h0
  exact h0
theorem sp_rangeCheck {w : List KD} {m : Nat → Nat → Int} {n a b : Int} (h1 : 0 ≤ a) (h2 : a ≤ b) (h3 : b ≤ n) (h4 : n < 2147483648) : Sp M_J7_rangeCheck_23922 0 0 0 [iV n, iV a, iV b] (w, m) (fun r h => r = none ∧ h = (w, m)) := by
  refine Sp.ofG (ls := [iV n, iV a, iV b]) (by decide +kernel) rfl (Nat.le_of_ble_eq_true rfl) ?_
  refine G_iload_n d_J7_rangeCheck_23922_0 rfl ?_
  refine G_iload_n d_J7_rangeCheck_23922_1 rfl ?_
  refine G_icmp_le 46 d_J7_rangeCheck_23922_2 (by decide) (by omega) (by omega) (fun c2 => ?_) (fun c2 => ?_)
  · refine G_iload_n d_J7_rangeCheck_23922_46 rfl ?_
    refine G_if_ge 59 d_J7_rangeCheck_23922_47 (by decide) (by omega) (fun c47 => ?_) (fun c47 => ?_)
    · refine G_iload_n d_J7_rangeCheck_23922_59 rfl ?_
      refine G_iload_n d_J7_rangeCheck_23922_60 rfl ?_
      refine G_icmp_le 73 d_J7_rangeCheck_23922_61 (by decide) (by omega) (by omega) (fun c61 => ?_) (fun c61 => ?_)
      · refine G_vret (mc := 0) (ms := 0) (st := []) d_J7_rangeCheck_23922_73 rfl ?_
        exact ⟨rfl, rfl⟩
      · exact absurd c61 (by omega)
    · exact absurd c47 (by omega)
  · exact absurd c2 (by omega)
theorem sp_fillR {w : List KD} {m : Nat → Nat → Int} {a n : Nat} {rs : List Int} {v : Int} (lo hi : Nat) (hw : w[a]? = some (1, n, rs)) (hn : n < 2147483648) (h1 : lo ≤ hi) (h2 : hi ≤ n) : Sp M_J7_fill_fda19 1 0 0 [rV a, iV (lo : Int), iV (hi : Int), iV v] (w, m) (fun r h => r = none ∧ h = (w, flm m a lo hi v)) := by
  refine Sp.ofG (ls := [rV a, iV (lo : Int), iV (hi : Int), iV v, uV]) (by decide +kernel) rfl (Nat.le_of_ble_eq_true rfl) ?_
  have L : ∀ i, i ≤ hi → lo ≤ i → G M_J7_fill_fda19 1 0 0 10 [rV a, iV (lo : Int), iV (hi : Int), iV v, iV (i : Int)] [] (w, flm m a lo i v) (fun r h => r = none ∧ h = (w, flm m a lo hi v)) := by
    refine loop_up hi _ ?_
    intro i hi2 ih hlo
    refine G_iload d_J7_fill_fda19_10 rfl ?_
    refine G_iload_n d_J7_fill_fda19_12 rfl ?_
    refine G_icmp_ge 27 d_J7_fill_fda19_13 (by decide) (by omega) (by omega) (fun c13 => ?_) (fun c13 => ?_)
    · refine G_vret (mc := 0) (ms := 0) (st := []) d_J7_fill_fda19_27 rfl ?_
      exact ⟨rfl, by rw [show i = hi by omega]⟩
    · refine G_aload_n d_J7_fill_fda19_16 rfl ?_
      refine G_iload d_J7_fill_fda19_17 rfl ?_
      refine G_iload_n d_J7_fill_fda19_19 rfl ?_
      refine G_iastj (i) d_J7_fill_fda19_20 hw (by first | omega | exact hn) (by first | omega | exact hn) (by first | decide | assumption | omega) ?_
      refine G_iinc d_J7_fill_fda19_21 rfl (by decide) rfl ?_
      refine G_goto 10 d_J7_fill_fda19_24 (by decide) ?_
      rw [flm_step m a lo i v (by omega)]
      exact ih (by omega) (by omega)
  refine G_aload_n d_J7_fill_fda19_0 rfl ?_
  refine G_alen1 d_J7_fill_fda19_1 hw ?_
  refine G_iload_n d_J7_fill_fda19_2 rfl ?_
  refine G_iload_n d_J7_fill_fda19_3 rfl ?_
  refine G_callS3 cl_J7_13 d_J7_fill_fda19_4 (by show _ ≤ _; decide) (by decide) (sp_rangeCheck (by omega) (by omega) (by omega) (by omega)) ?_
  rintro _ _ ⟨rfl, rfl⟩
  refine G_iload_n d_J7_fill_fda19_7 rfl ?_
  refine G_istore d_J7_fill_fda19_8 (by decide) rfl ?_
  have h0 := L lo h1 (Nat.le_refl _)
  rw [flm_nil] at h0
  exact h0
theorem sp_abs {w : List KD} {m : Nat → Nat → Int} {x : Int} (hx : -2147483648 < x ∧ x < 2147483648) : Sp M_J9_abs_0f7a4 0 0 0 [iV x] (w, m) (fun r h => r = some (iV (x.natAbs : Int)) ∧ h = (w, m)) := by
  refine Sp.ofGF (ls := [iV x]) (by decide +kernel) rfl (Nat.le_of_ble_eq_true rfl) ?_
  refine G_iload_n d_J9_abs_0f7a4_0 rfl ?_
  refine G_if_ge 9 d_J9_abs_0f7a4_1 (by decide) (by omega) (fun c1 => ?_) (fun c1 => ?_)
  · refine G_iload_n d_J9_abs_0f7a4_9 rfl ?_
    refine G_iret (mc := 0) (ms := 0) (st := []) d_J9_abs_0f7a4_10 rfl ?_
    exact ⟨by congr 2; omega, rfl⟩
  · refine G_iload_n d_J9_abs_0f7a4_4 rfl ?_
    refine G_ineg d_J9_abs_0f7a4_5 ?_
    refine G_goto 10 d_J9_abs_0f7a4_6 (by decide) ?_
    refine G_iret (mc := 0) (ms := 0) (st := []) d_J9_abs_0f7a4_10 rfl ?_
    exact ⟨by congr 2; omega, rfl⟩
theorem sp_max {w : List KD} {m : Nat → Nat → Int} {x y : Int} (hx : -2147483648 ≤ x ∧ x < 2147483648) (hy : -2147483648 ≤ y ∧ y < 2147483648) : Sp M_J9_max_7cf53 0 0 0 [iV x, iV y] (w, m) (fun r h => r = some (iV (max x y)) ∧ h = (w, m)) := by
  refine Sp.ofGF (ls := [iV x, iV y]) (by decide +kernel) rfl (Nat.le_of_ble_eq_true rfl) ?_
  refine G_iload_n d_J9_max_7cf53_0 rfl ?_
  refine G_iload_n d_J9_max_7cf53_1 rfl ?_
  refine G_icmp_lt 9 d_J9_max_7cf53_2 (by decide) (by omega) (by omega) (fun c2 => ?_) (fun c2 => ?_)
  · refine G_iload_n d_J9_max_7cf53_9 rfl ?_
    refine G_iret (mc := 0) (ms := 0) (st := []) d_J9_max_7cf53_10 rfl ?_
    exact ⟨by congr 2; omega, rfl⟩
  · refine G_iload_n d_J9_max_7cf53_5 rfl ?_
    refine G_goto 10 d_J9_max_7cf53_6 (by decide) ?_
    refine G_iret (mc := 0) (ms := 0) (st := []) d_J9_max_7cf53_10 rfl ?_
    exact ⟨by congr 2; omega, rfl⟩
theorem sp_min {w : List KD} {m : Nat → Nat → Int} {x y : Int} (hx : -2147483648 ≤ x ∧ x < 2147483648) (hy : -2147483648 ≤ y ∧ y < 2147483648) : Sp M_J9_min_7cf53 0 0 0 [iV x, iV y] (w, m) (fun r h => r = some (iV (min x y)) ∧ h = (w, m)) := by
  refine Sp.ofGF (ls := [iV x, iV y]) (by decide +kernel) rfl (Nat.le_of_ble_eq_true rfl) ?_
  refine G_iload_n d_J9_min_7cf53_0 rfl ?_
  refine G_iload_n d_J9_min_7cf53_1 rfl ?_
  refine G_icmp_gt 9 d_J9_min_7cf53_2 (by decide) (by omega) (by omega) (fun c2 => ?_) (fun c2 => ?_)
  · refine G_iload_n d_J9_min_7cf53_9 rfl ?_
    refine G_iret (mc := 0) (ms := 0) (st := []) d_J9_min_7cf53_10 rfl ?_
    exact ⟨by congr 2; omega, rfl⟩
  · refine G_iload_n d_J9_min_7cf53_5 rfl ?_
    refine G_goto 10 d_J9_min_7cf53_6 (by decide) ?_
    refine G_iret (mc := 0) (ms := 0) (st := []) d_J9_min_7cf53_10 rfl ?_
    exact ⟨by congr 2; omega, rfl⟩
