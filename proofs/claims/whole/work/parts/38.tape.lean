theorem and255 (x : Int) : Int32.ofInt x &&& Int32.ofInt 255 = Int32.ofInt (x % 256) := by
  rw [pk_and (Int32.ofInt x) (m := Int32.ofInt 255) 8 (by decide)]
  have h1 : (Int32.ofInt x).toBitVec.toNat % 2 ^ 8 = (x % 256).toNat := by
    rw [Int32.toBitVec_ofInt, BitVec.toNat_ofInt]
    omega
  have h2 : ((x % 256).toNat : Int) = x % 256 := Int.toNat_of_nonneg (by omega)
  rw [h1]
  exact (Int32.ofInt_eq_ofNat (n := (x % 256).toNat)).symm.trans (by rw [h2])
theorem shrz {x y : Int} {k : Nat} (hx : -2147483648 ≤ x ∧ x < 2147483648) (hs : ((Int32.ofInt y &&& 31).toBitVec.smod 32).toNat = k) : Int32.ofInt x >>> (Int32.ofInt y &&& 31) = Int32.ofInt (x / ((2 ^ k : Nat) : Int)) := by
  have hp : (1 : Int) ≤ ((2 ^ k : Nat) : Int) := by have := Nat.two_pow_pos k; omega
  have hb : -2147483648 ≤ x / ((2 ^ k : Nat) : Int) ∧ x / ((2 ^ k : Nat) : Int) < 2147483648 := by
    generalize ((2 ^ k : Nat) : Int) = q at hp ⊢
    constructor
    · rw [Int.le_ediv_iff_mul_le (by omega)]
      omega
    · rw [Int.ediv_lt_iff_lt_mul (by omega)]
      omega
  rw [← Int32.toInt_inj, pk_shr _ _ k hs, oi_toInt hx, oi_toInt hb, Int.shiftRight_eq_div_pow]
/-- the bytes of an int, the highest first -/
def byB (x : Int) (i : Nat) : Int := x / ((2 ^ (24 - 8 * i) : Nat) : Int) % 256
theorem byB_rng (x : Int) (i : Nat) : 0 ≤ byB x i ∧ byB x i < 256 := by unfold byB; omega
def fdB (a b c e g : Int) (j : Nat) : Int := byB (arg5 a b c e g (j / 4)) (j % 4)
/-- f told from n on: i bytes in cell A, their number in field K of cell C -/
def tyM (A C K : Nat) (m : Nat → Nat → Int) (n : Nat) (f : Nat → Int) (i : Nat) : Nat → Nat → Int := fun a j => if a = A ∧ n ≤ j ∧ j < n + i then f (j - n) else if a = C ∧ j = K then ((n + i : Nat) : Int) else m a j
theorem tyM_0 {A C K : Nat} {m : Nat → Nat → Int} {n : Nat} {f : Nat → Int} (h : m C K = (n : Int)) : tyM A C K m n f 0 = m := by
  funext a j
  unfold tyM
  rw [if_neg (by omega)]
  by_cases c : a = C ∧ j = K
  · rw [if_pos c, c.1, c.2, h]; rfl
  · rw [if_neg c]
theorem tyM_sz {A C K : Nat} (hAC : A ≠ C) (m : Nat → Nat → Int) (n : Nat) (f : Nat → Int) (i : Nat) : tyM A C K m n f i C K = ((n + i : Nat) : Int) := by
  unfold tyM
  rw [if_neg (fun h => hAC h.1.symm), if_pos ⟨rfl, rfl⟩]
theorem tyM_step {A C K : Nat} (hAC : A ≠ C) (m : Nat → Nat → Int) (n : Nat) (f : Nat → Int) (i : Nat) : upm (upm (tyM A C K m n f i) A (n + i) (f i)) C K (((n + i : Nat) : Int) + 1) = tyM A C K m n f (i + 1) := by
  funext a j
  unfold upm tyM
  by_cases c : a = C ∧ j = K
  · rw [if_pos c, if_neg (fun h => hAC (h.1.symm.trans c.1)), if_pos c]; rfl
  · rw [if_neg c]
    by_cases d : a = A ∧ j = n + i
    · rw [if_pos d, if_pos ⟨d.1, by omega, by omega⟩, d.2, show n + i - n = i by omega]
    · rw [if_neg d]
      by_cases e : a = A ∧ n ≤ j ∧ j < n + i
      · rw [if_pos e, if_pos ⟨e.1, e.2.1, by omega⟩]
      · rw [if_neg e, if_neg c, if_neg (fun h => by by_cases k : j = n + i <;> omega), if_neg c]
theorem tyM_two {A C K : Nat} (hAC : A ≠ C) (m : Nat → Nat → Int) (n : Nat) (f g : Nat → Int) (i k : Nat) : tyM A C K (tyM A C K m n f i) (n + i) g k = tyM A C K m n (fun j => if j < i then f j else g (j - i)) (i + k) := by
  funext a j
  unfold tyM
  by_cases c : a = A ∧ n + i ≤ j ∧ j < n + i + k
  · rw [if_pos c, if_pos ⟨c.1, by omega, by omega⟩]
    show _ = if j - n < i then f (j - n) else g (j - n - i)
    rw [if_neg (by omega), show j - n - i = j - (n + i) by omega]
  · rw [if_neg c]
    by_cases d : a = C ∧ j = K
    · rw [if_pos d, if_neg (fun h => hAC (h.1.symm.trans d.1)), if_pos d, Nat.add_assoc]
    · rw [if_neg d]
      by_cases e : a = A ∧ n ≤ j ∧ j < n + i
      · rw [if_pos e, if_pos ⟨e.1, e.2.1, by omega⟩]
        show _ = if j - n < i then f (j - n) else g (j - n - i)
        rw [if_pos (by omega)]
      · rw [if_neg e, if_neg d, if_neg (fun h => by by_cases k : j < n + i <;> omega), if_neg d]
theorem tyM_congr {A C K : Nat} {m : Nat → Nat → Int} {n i : Nat} {f g : Nat → Int} (h : ∀ j, j < i → f j = g j) : tyM A C K m n f i = tyM A C K m n g i := by
  funext a j
  unfold tyM
  by_cases e : a = A ∧ n ≤ j ∧ j < n + i
  · rw [if_pos e, if_pos e, h _ (by omega)]
  · rw [if_neg e, if_neg e]
theorem tyM_five {A C K : Nat} (hAC : A ≠ C) (m : Nat → Nat → Int) (n : Nat) (B : Int → Nat → Int) (a b c e g : Int) : tyM A C K (tyM A C K (tyM A C K (tyM A C K (tyM A C K m n (B a) 4) (n + 4) (B b) 4) (n + 4 + 4) (B c) 4) (n + 4 + 4 + 4) (B e) 4) (n + 4 + 4 + 4 + 4) (B g) 4 = tyM A C K m n (fun j => B (arg5 a b c e g (j / 4)) (j % 4)) 20 := by
  rw [tyM_two hAC m n (B a) (B b) 4 4, Nat.add_assoc n 4 4, tyM_two hAC m n _ (B c) (4 + 4) 4, Nat.add_assoc n (4 + 4) 4, tyM_two hAC m n _ (B e) (4 + 4 + 4) 4, Nat.add_assoc n (4 + 4 + 4) 4, tyM_two hAC m n _ (B g) (4 + 4 + 4 + 4) 4]
  refine tyM_congr (fun j hj => ?_)
  by_cases h1 : j < 4
  · rw [if_pos (by omega), if_pos (by omega), if_pos (by omega), if_pos h1, show j / 4 = 0 by omega, show j % 4 = j by omega]; rfl
  by_cases h2 : j < 8
  · rw [if_pos (by omega), if_pos (by omega), if_pos (by omega), if_neg h1, show j / 4 = 1 by omega, show j % 4 = j - 4 by omega]; rfl
  by_cases h3 : j < 12
  · rw [if_pos (by omega), if_pos (by omega), if_neg (by omega), show j / 4 = 2 by omega, show j % 4 = j - (4 + 4) by omega]; rfl
  by_cases h4 : j < 16
  · rw [if_pos (by omega), if_neg (by omega), show j / 4 = 3 by omega, show j % 4 = j - (4 + 4 + 4) by omega]; rfl
  · rw [if_neg (by omega), show j / 4 = 4 by omega, show j % 4 = j - (4 + 4 + 4 + 4) by omega]; rfl
theorem sp_Mtypes {w : List KD} {m : Nat → Nat → Int} (a : Int) (hra : -2147483648 ≤ a ∧ a < 2147483648) (n : Nat) (hn : n + 4 ≤ 400) (hz : m 64 6 = (n : Int)) : Sp M_X10_types 0 0 0 [rV 64, iV a] (WC ++ (WM ++ w), m) (fun r h => r = none ∧ h = (WC ++ (WM ++ w), tyM 67 64 6 m n (byB a) 4)) := by
  refine Sp.ofG (ls := [rV 64, iV a, uV]) (by decide +kernel) rfl (Nat.le_of_ble_eq_true rfl) ?_
  have main : G M_X10_types 0 0 0 0 [rV 64, iV a, uV] [] (WC ++ (WM ++ w), tyM 67 64 6 m n (byB a) 0) (fun r h => r = none ∧ h = (WC ++ (WM ++ w), tyM 67 64 6 m n (byB a) 4)) := by
    refine G_bipush d_X10_types_0 (by decide) ?_
    refine G_istore_n d_X10_types_2 (by decide) rfl ?_
    refine G_iload_n d_X10_types_3 rfl ?_
    refine G_if_lt 39 d_X10_types_4 (by decide) (by decide) (fun hd => absurd hd (by decide)) (fun _ => ?_)
    refine G_aload_n d_X10_types_7 rfl ?_
    refine G_getR (r := 67) (fl_X10_42.r) d_X10_types_8 (wk_64 _) rfl rfl ?_
    refine G_aload_n d_X10_types_11 rfl ?_
    refine G_getIe (fl_X10_166.r) d_X10_types_12 (wk_64 _) rfl (tyM_sz (by decide) m n (byB a) 0) ?_
    refine G_iload_n d_X10_types_15 rfl ?_
    refine G_iload_n d_X10_types_16 rfl ?_
    refine G_ishr (a / ((2 ^ 24 : Nat) : Int)) d_X10_types_17 (shrz hra (by decide)) ?_
    refine G_sipush d_X10_types_18 (by decide) ?_
    refine G_iand (byB a 0) d_X10_types_21 (and255 _) ?_
    refine G_iastj (n + 0) d_X10_types_22 (wk_67 _) (by omega) (by omega) (by decide) ?_
    refine G_aload_n d_X10_types_23 rfl ?_
    refine G_aload_n d_X10_types_24 rfl ?_
    refine G_getIe (v := ((n + 0 : Nat) : Int)) (fl_X10_166.r) d_X10_types_25 (wk_64 _) rfl ((by rw [upm_off _ _ (by decide)]; exact tyM_sz (by decide) m n (byB a) 0)) ?_
    refine G_iconst d_X10_types_28 ?_
    refine G_iadd d_X10_types_29 ?_
    refine G_putII fl_X10_166 d_X10_types_30 (wk_64 _) rfl ?_
    refine G_iinc d_X10_types_33 rfl (by decide) rfl ?_
    refine G_goto 3 d_X10_types_36 (by decide) ?_
    rw [tyM_step (by decide) m n (byB a) 0]
    refine G_iload_n d_X10_types_3 rfl ?_
    refine G_if_lt 39 d_X10_types_4 (by decide) (by decide) (fun hd => absurd hd (by decide)) (fun _ => ?_)
    refine G_aload_n d_X10_types_7 rfl ?_
    refine G_getR (r := 67) (fl_X10_42.r) d_X10_types_8 (wk_64 _) rfl rfl ?_
    refine G_aload_n d_X10_types_11 rfl ?_
    refine G_getIe (fl_X10_166.r) d_X10_types_12 (wk_64 _) rfl (tyM_sz (by decide) m n (byB a) 1) ?_
    refine G_iload_n d_X10_types_15 rfl ?_
    refine G_iload_n d_X10_types_16 rfl ?_
    refine G_ishr (a / ((2 ^ 16 : Nat) : Int)) d_X10_types_17 (shrz hra (by decide)) ?_
    refine G_sipush d_X10_types_18 (by decide) ?_
    refine G_iand (byB a 1) d_X10_types_21 (and255 _) ?_
    refine G_iastj (n + 1) d_X10_types_22 (wk_67 _) (by omega) (by omega) (by decide) ?_
    refine G_aload_n d_X10_types_23 rfl ?_
    refine G_aload_n d_X10_types_24 rfl ?_
    refine G_getIe (v := ((n + 1 : Nat) : Int)) (fl_X10_166.r) d_X10_types_25 (wk_64 _) rfl ((by rw [upm_off _ _ (by decide)]; exact tyM_sz (by decide) m n (byB a) 1)) ?_
    refine G_iconst d_X10_types_28 ?_
    refine G_iadd d_X10_types_29 ?_
    refine G_putII fl_X10_166 d_X10_types_30 (wk_64 _) rfl ?_
    refine G_iinc d_X10_types_33 rfl (by decide) rfl ?_
    refine G_goto 3 d_X10_types_36 (by decide) ?_
    rw [tyM_step (by decide) m n (byB a) 1]
    refine G_iload_n d_X10_types_3 rfl ?_
    refine G_if_lt 39 d_X10_types_4 (by decide) (by decide) (fun hd => absurd hd (by decide)) (fun _ => ?_)
    refine G_aload_n d_X10_types_7 rfl ?_
    refine G_getR (r := 67) (fl_X10_42.r) d_X10_types_8 (wk_64 _) rfl rfl ?_
    refine G_aload_n d_X10_types_11 rfl ?_
    refine G_getIe (fl_X10_166.r) d_X10_types_12 (wk_64 _) rfl (tyM_sz (by decide) m n (byB a) 2) ?_
    refine G_iload_n d_X10_types_15 rfl ?_
    refine G_iload_n d_X10_types_16 rfl ?_
    refine G_ishr (a / ((2 ^ 8 : Nat) : Int)) d_X10_types_17 (shrz hra (by decide)) ?_
    refine G_sipush d_X10_types_18 (by decide) ?_
    refine G_iand (byB a 2) d_X10_types_21 (and255 _) ?_
    refine G_iastj (n + 2) d_X10_types_22 (wk_67 _) (by omega) (by omega) (by decide) ?_
    refine G_aload_n d_X10_types_23 rfl ?_
    refine G_aload_n d_X10_types_24 rfl ?_
    refine G_getIe (v := ((n + 2 : Nat) : Int)) (fl_X10_166.r) d_X10_types_25 (wk_64 _) rfl ((by rw [upm_off _ _ (by decide)]; exact tyM_sz (by decide) m n (byB a) 2)) ?_
    refine G_iconst d_X10_types_28 ?_
    refine G_iadd d_X10_types_29 ?_
    refine G_putII fl_X10_166 d_X10_types_30 (wk_64 _) rfl ?_
    refine G_iinc d_X10_types_33 rfl (by decide) rfl ?_
    refine G_goto 3 d_X10_types_36 (by decide) ?_
    rw [tyM_step (by decide) m n (byB a) 2]
    refine G_iload_n d_X10_types_3 rfl ?_
    refine G_if_lt 39 d_X10_types_4 (by decide) (by decide) (fun hd => absurd hd (by decide)) (fun _ => ?_)
    refine G_aload_n d_X10_types_7 rfl ?_
    refine G_getR (r := 67) (fl_X10_42.r) d_X10_types_8 (wk_64 _) rfl rfl ?_
    refine G_aload_n d_X10_types_11 rfl ?_
    refine G_getIe (fl_X10_166.r) d_X10_types_12 (wk_64 _) rfl (tyM_sz (by decide) m n (byB a) 3) ?_
    refine G_iload_n d_X10_types_15 rfl ?_
    refine G_iload_n d_X10_types_16 rfl ?_
    refine G_ishr (a / ((2 ^ 0 : Nat) : Int)) d_X10_types_17 (shrz hra (by decide)) ?_
    refine G_sipush d_X10_types_18 (by decide) ?_
    refine G_iand (byB a 3) d_X10_types_21 (and255 _) ?_
    refine G_iastj (n + 3) d_X10_types_22 (wk_67 _) (by omega) (by omega) (by decide) ?_
    refine G_aload_n d_X10_types_23 rfl ?_
    refine G_aload_n d_X10_types_24 rfl ?_
    refine G_getIe (v := ((n + 3 : Nat) : Int)) (fl_X10_166.r) d_X10_types_25 (wk_64 _) rfl ((by rw [upm_off _ _ (by decide)]; exact tyM_sz (by decide) m n (byB a) 3)) ?_
    refine G_iconst d_X10_types_28 ?_
    refine G_iadd d_X10_types_29 ?_
    refine G_putII fl_X10_166 d_X10_types_30 (wk_64 _) rfl ?_
    refine G_iinc d_X10_types_33 rfl (by decide) rfl ?_
    refine G_goto 3 d_X10_types_36 (by decide) ?_
    rw [tyM_step (by decide) m n (byB a) 3]
    refine G_iload_n d_X10_types_3 rfl ?_
    refine G_if_lt 39 d_X10_types_4 (by decide) (by decide) (fun _ => ?_) (fun hd => absurd hd (by decide))
    refine G_vret (mc := 0) (ms := 0) (st := []) d_X10_types_39 rfl ?_
    exact ⟨rfl, rfl⟩
  rw [tyM_0 hz] at main
  exact main
theorem MI.tape {s : Nat → Int} {m : Nat → Nat → Int} (h : MI s m) (n : Nat) (f : Nat → Int) (i : Nat) : MI s (tyM 67 64 6 m n f i) := by
  have e : ∀ a, a ≠ 67 → a ≠ 64 → tyM 67 64 6 m n f i a = m a := fun a h1 h2 => by
    funext j
    unfold tyM
    rw [if_neg (fun e => h1 e.1), if_neg (fun e => h2 e.1)]
  have e2 : ∀ j, j ≠ 6 → tyM 67 64 6 m n f i 64 j = m 64 j := fun j h1 => by
    unfold tyM
    rw [if_neg (fun e => absurd e.1 (by decide)), if_neg (fun e => h1 e.2)]
  exact h.congr (e _ (by decide) (by decide)) (e _ (by decide) (by decide)) (e _ (by decide) (by decide)) (e _ (by decide) (by decide)) (e2 _ (by decide)) (e2 _ (by decide)) (e2 _ (by decide))
theorem EQT.tape {m m1 : Nat → Nat → Int} (h : EQT m m1) (n : Nat) (f : Nat → Int) (i : Nat) : EQT m (tyM 67 64 6 m1 n f i) := by
  have e : ∀ a, a ≠ 67 → a ≠ 64 → tyM 67 64 6 m1 n f i a = m1 a := fun a h1 h2 => by
    funext j
    unfold tyM
    rw [if_neg (fun e => h1 e.1), if_neg (fun e => h2 e.1)]
  have e2 : ∀ j, j ≠ 6 → tyM 67 64 6 m1 n f i 64 j = m1 64 j := fun j h1 => by
    unfold tyM
    rw [if_neg (fun e => absurd e.1 (by decide)), if_neg (fun e => h1 e.2)]
  exact ⟨fun a ha => by rw [e a (by omega) (by omega)]; exact h.1 a ha, by rw [e 83 (by decide) (by decide)]; exact h.2.1, by rw [e2 7 (by decide)]; exact h.2.2.1, by rw [e2 8 (by decide)]; exact h.2.2.2.1, by rw [e2 28 (by decide)]; exact h.2.2.2.2⟩
theorem sp_Mfeed {w : List KD} {m : Nat → Nat → Int} (s : Nat → Int) (hV : VS s) (hI : MI s m) (a : Int) (hra : -2147483648 ≤ a ∧ a < 2147483648) (b : Int) (hrb : -2147483648 ≤ b ∧ b < 2147483648) (c : Int) (hrc : -2147483648 ≤ c ∧ c < 2147483648) (e : Int) (hre : -2147483648 ≤ e ∧ e < 2147483648) (g : Int) (hrg : -2147483648 ≤ g ∧ g < 2147483648) (z : Nat) (hz9 : z ≤ 400) (hz : m 64 6 = (z : Int)) : Sp M_X10_feed 1 0 0 [rV 64, iV a, iV b, iV c, iV e, iV g] (WC ++ (WM ++ w), m) (fun r h => r = some (iV (if z ≤ 380 then (z : Int) + 20 else -1)) ∧ ∃ m2, h = (WC ++ (WM ++ w), m2) ∧ MI s m2 ∧ EQT m m2 ∧ (if z ≤ 380 then m2 64 6 = (z : Int) + 20 ∧ ∀ j, m2 67 j = if z ≤ j ∧ j < z + 20 then fdB a b c e g (j - z) else m 67 j else m2 64 6 = m 64 6 ∧ m2 67 = m 67)) := by
  refine Sp.ofG (ls := [rV 64, iV a, iV b, iV c, iV e, iV g]) (by decide +kernel) rfl (Nat.le_of_ble_eq_true rfl) ?_
  have hC := pC_le hV
  have hN := hV.N
  have hT := hV.T
  have hSc := hV.Sc
  refine G_aload_n d_X10_feed_0 rfl ?_
  refine G_iconst d_X10_feed_1 ?_
  refine G_putII fl_X10_1 d_X10_feed_2 (wk_64 _) rfl ?_
  have hQ0 : KQ s m (upm m 64 0 0) := (KQ.refl hI).fld rfl
  generalize upm m 64 0 0 = m0 at hQ0 ⊢
  have h6 : m0 64 6 = (z : Int) := hQ0.1.2.2.2.1.trans hz
  refine G_aload_n d_X10_feed_5 rfl ?_
  refine G_getIe (fl_X10_166.r) d_X10_feed_6 (wk_64 _) rfl (h6) ?_
  refine G_sipush d_X10_feed_9 (by decide) ?_
  refine G_icmp_le 17 d_X10_feed_12 (by decide) (by omega) (by omega) (fun c12 => ?_) (fun c12 => ?_)
  · refine G_aload_n d_X10_feed_17 rfl ?_
    refine G_iload_n d_X10_feed_18 rfl ?_
    refine G_callV1 cl_X10_169 rfl d_X10_feed_19 (wk_64 _) (Nat.le_of_ble_eq_true rfl) (by decide) (sp_Mtypes a hra z (by omega) h6) ?_
    rintro _ _ ⟨rfl, rfl⟩
    refine G_aload_n d_X10_feed_22 rfl ?_
    refine G_iload_n d_X10_feed_23 rfl ?_
    refine G_callV1 cl_X10_169 rfl d_X10_feed_24 (wk_64 _) (Nat.le_of_ble_eq_true rfl) (by decide) (sp_Mtypes b hrb (z + 4) (by omega) (tyM_sz (by decide) _ _ _ 4)) ?_
    rintro _ _ ⟨rfl, rfl⟩
    refine G_aload_n d_X10_feed_27 rfl ?_
    refine G_iload_n d_X10_feed_28 rfl ?_
    refine G_callV1 cl_X10_169 rfl d_X10_feed_29 (wk_64 _) (Nat.le_of_ble_eq_true rfl) (by decide) (sp_Mtypes c hrc (z + 4 + 4) (by omega) (tyM_sz (by decide) _ _ _ 4)) ?_
    rintro _ _ ⟨rfl, rfl⟩
    refine G_aload_n d_X10_feed_32 rfl ?_
    refine G_iload d_X10_feed_33 rfl ?_
    refine G_callV1 cl_X10_169 rfl d_X10_feed_35 (wk_64 _) (Nat.le_of_ble_eq_true rfl) (by decide) (sp_Mtypes e hre (z + 4 + 4 + 4) (by omega) (tyM_sz (by decide) _ _ _ 4)) ?_
    rintro _ _ ⟨rfl, rfl⟩
    refine G_aload_n d_X10_feed_38 rfl ?_
    refine G_iload d_X10_feed_39 rfl ?_
    refine G_callV1 cl_X10_169 rfl d_X10_feed_41 (wk_64 _) (Nat.le_of_ble_eq_true rfl) (by decide) (sp_Mtypes g hrg (z + 4 + 4 + 4 + 4) (by omega) (tyM_sz (by decide) _ _ _ 4)) ?_
    rintro _ _ ⟨rfl, rfl⟩
    rw [tyM_five (by decide) m0 z byB a b c e g]
    refine G_aload_n d_X10_feed_44 rfl ?_
    refine G_getIe (fl_X10_166.r) d_X10_feed_45 (wk_64 _) rfl (tyM_sz (by decide) m0 z _ 20) ?_
    refine G_iret (mc := 0) (ms := 0) (st := []) d_X10_feed_48 rfl ?_
    refine ⟨by rw [if_pos (by omega)]; rfl, _, rfl, hQ0.2.tape _ _ _, hQ0.1.t.tape _ _ _, ?_⟩
    rw [if_pos (by omega)]
    refine ⟨tyM_sz (by decide) m0 z _ 20, fun j => ?_⟩
    unfold tyM
    by_cases c : z ≤ j ∧ j < z + 20
    · rw [if_pos ⟨rfl, c⟩, if_pos c]; rfl
    · rw [if_neg (fun h => c h.2), if_neg (fun h => absurd h.1 (by decide)), if_neg c, hQ0.1.2.1]
  · refine G_iconst d_X10_feed_15 ?_
    refine G_iret (mc := 0) (ms := 0) (st := []) d_X10_feed_16 rfl ?_
    exact ⟨by rw [if_neg (by omega)], m0, rfl, hQ0.2, hQ0.1.t, by rw [if_neg (by omega)]; exact ⟨hQ0.1.2.2.2.1, hQ0.1.2.1⟩⟩
/-! what a tape says: B its bytes, z their number; n pulses, T units -/
def hbF (B : Nat → Int) (z p : Nat) : Int := if p < z then B p else -1
def skF (B : Nat → Int) (z p : Nat) : Nat := ffr (fun i => !(hbF B z i == 32)) (z - p) p
abbrev dgF (x : Int) : Prop := 48 ≤ x ∧ x ≤ 57
def nmF (B : Nat → Int) (z : Nat) : Nat → Nat → Int → Int × Nat
  | 0, p, v => (v, p)
  | f + 1, p, v => if dgF (hbF B z p) then nmF B z f (p + 1) (min (v * 10 + hbF B z p - 48) 48) else (v, p)
def upV (V : Nat → Int) (k : Nat) (x : Int) : Nat → Int := fun i => if i = k then x else V i
def nbF (B : Nat → Int) (z T w : Nat) : Nat → Nat → Nat → (Nat → Int) → (Int × Nat) ⊕ (Nat × Nat × (Nat → Int))
  | 0, i, p, V => if 0 < i ∧ hbF B z (skF B z p) = 59 then .inr (skF B z p + 1, i, V) else .inl (1, skF B z p)
  | f + 1, i, p, V => if 0 < i ∧ hbF B z (skF B z p) = 59 then .inr (skF B z p + 1, i, V) else if ¬ dgF (hbF B z (skF B z p)) then .inl (1, skF B z p)
    else if (T : Int) ≤ (nmF B z (z - skF B z p) (skF B z p) 0).1 then .inl (2, skF B z p)
    else nbF B z T w f (i + 1) (nmF B z (z - skF B z p) (skF B z p) 0).2 (upV V (24 * w + i) (nmF B z (z - skF B z p) (skF B z p) 0).1)
def naF (B : Nat → Int) (z n p : Nat) : Option (Nat × Nat) := if hbF B z p = 114 then some (n, p + 1) else if hbF B z p = 112 ∧ 49 ≤ hbF B z (p + 1) ∧ hbF B z (p + 1) < 49 + (n : Int) then some ((hbF B z (p + 1) - 49).toNat, p + 2) else none
def lnF (B : Nat → Int) (z n T p : Nat) (L : Nat → Nat) (V : Nat → Int) : (Int × Nat) ⊕ (Nat × (Nat → Nat) × (Nat → Int)) :=
  match naF B z n p with
  | none => .inl (1, p)
  | some (w, p1) => if 0 < L w then .inl (3, p) else if ¬ hbF B z (skF B z p1) = 61 then .inl (1, skF B z p1) else
    match nbF B z T w 24 0 (skF B z p1 + 1) V with
    | .inl e => .inl e
    | .inr (p2, i, V2) => .inr (p2, upN L w i, V2)
def lsF (B : Nat → Int) (z n T : Nat) : Nat → Nat → Nat → (Nat → Nat) → (Nat → Int) → (Int × Nat) ⊕ (Nat × (Nat → Nat) × (Nat → Int))
  | 0, _, c, L, V => .inr (c, L, V)
  | f + 1, p, c, L, V => if z ≤ skF B z p then .inr (c, L, V) else
    match lnF B z n T (skF B z p) L V with
    | .inl e => .inl e
    | .inr (p2, L2, V2) => lsF B z n T f p2 (c + 1) L2 V2
theorem hbF_in {B : Nat → Int} {z p : Nat} (h : p < z) : hbF B z p = B p := if_pos h
theorem hbF_out {B : Nat → Int} {z p : Nat} (h : z ≤ p) : hbF B z p = -1 := if_neg (by omega)
theorem hbF_rng {B : Nat → Int} {z : Nat} (hB : ∀ j, j < z → 0 ≤ B j ∧ B j ≤ 255) (p : Nat) : -1 ≤ hbF B z p ∧ hbF B z p ≤ 255 := by
  unfold hbF
  by_cases h : p < z
  · rw [if_pos h]; have := hB p h; omega
  · rw [if_neg h]; decide
theorem skF_yes {B : Nat → Int} {z p : Nat} (h : hbF B z p = 32) : skF B z p = skF B z (p + 1) := by
  have hp : p < z := by
    by_cases c : p < z
    · exact c
    · rw [hbF_out (by omega)] at h; exact absurd h (by decide)
  unfold skF
  rw [show z - p = (z - (p + 1)) + 1 by omega]
  exact ffr_f (by simp [h])
theorem skF_no {B : Nat → Int} {z p : Nat} (h : hbF B z p ≠ 32) : skF B z p = p := ffr_t (by simp [h])
theorem skF_ge (B : Nat → Int) (z p : Nat) : p ≤ skF B z p ∧ skF B z p ≤ p + (z - p) := ffr_ge _ _ _
theorem skF_nb (B : Nat → Int) (z : Nat) : ∀ d p : Nat, z - p = d → hbF B z (skF B z p) ≠ 32 := by
  intro d
  induction d with
  | zero =>
    intro p hp
    have h := hbF_out (B := B) (z := z) (p := p) (by omega)
    rw [skF_no (by rw [h]; decide), h]
    decide
  | succ d ih =>
    intro p hp
    by_cases h : hbF B z p = 32
    · rw [skF_yes h]; exact ih (p + 1) (by omega)
    · rw [skF_no h]; exact h
theorem skF_id (B : Nat → Int) (z p : Nat) : skF B z (skF B z p) = skF B z p := skF_no (skF_nb B z _ p rfl)
theorem nmF_rng {B : Nat → Int} {z : Nat} : ∀ (f p : Nat) (v : Int), 0 ≤ v ∧ v ≤ 48 → (0 ≤ (nmF B z f p v).1 ∧ (nmF B z f p v).1 ≤ 48) ∧ p ≤ (nmF B z f p v).2 ∧ (nmF B z f p v).2 ≤ p + f := by
  intro f
  induction f with
  | zero => intro p v hv; exact ⟨hv, Nat.le_refl _, Nat.le_refl _⟩
  | succ f ih =>
    intro p v hv
    unfold nmF
    by_cases h : dgF (hbF B z p)
    · rw [if_pos h]
      have := ih (p + 1) (min (v * 10 + hbF B z p - 48) 48) (by have := h.1; omega)
      omega
    · rw [if_neg h]; omega
/-- what a reading leaves behind: at most 24 numbers a row, all below T, nothing behind them -/
def RdP (T : Nat) (L : Nat → Nat) (V : Nat → Int) : Prop := (∀ k, L k ≤ 24) ∧ (∀ j, 0 ≤ V j ∧ V j < T) ∧ ∀ k, k < 6 → ∀ i, L k ≤ i → i < 24 → V (24 * k + i) = 0
theorem nbF_ok {B : Nat → Int} {z T w : Nat} (hw : w < 6) : ∀ (f i p : Nat) (L : Nat → Nat) (V : Nat → Int), i + f = 24 → RdP T (upN L w i) V → ∀ p2 i2 V2, nbF B z T w f i p V = .inr (p2, i2, V2) → RdP T (upN L w i2) V2 ∧ p < p2 := by
  intro f
  induction f with
  | zero =>
    intro i p L V hi hP p2 i2 V2 h
    unfold nbF at h
    have hs := skF_ge B z p
    by_cases c : 0 < i ∧ hbF B z (skF B z p) = 59
    · rw [if_pos c] at h
      simp only [Sum.inr.injEq, Prod.mk.injEq] at h
      obtain ⟨rfl, rfl, rfl⟩ := h
      exact ⟨hP, by omega⟩
    · rw [if_neg c] at h; exact absurd h (by simp)
  | succ f ih =>
    intro i p L V hi hP p2 i2 V2 h
    unfold nbF at h
    have hs := skF_ge B z p
    by_cases c : 0 < i ∧ hbF B z (skF B z p) = 59
    · rw [if_pos c] at h
      simp only [Sum.inr.injEq, Prod.mk.injEq] at h
      obtain ⟨rfl, rfl, rfl⟩ := h
      exact ⟨hP, by omega⟩
    · rw [if_neg c] at h
      by_cases d : ¬ dgF (hbF B z (skF B z p))
      · rw [if_pos d] at h; exact absurd h (by simp)
      · rw [if_neg d] at h
        by_cases e : (T : Int) ≤ (nmF B z (z - skF B z p) (skF B z p) 0).1
        · rw [if_pos e] at h; exact absurd h (by simp)
        · rw [if_neg e] at h
          have hr := nmF_rng (B := B) (z := z) (z - skF B z p) (skF B z p) 0 ⟨by decide, by decide⟩
          have h9 := ih (i + 1) _ L _ (by omega) ⟨fun k => ?_, fun j => ?_, fun k hk j h1 h2 => ?_⟩ p2 i2 V2 h
          · exact ⟨h9.1, by omega⟩
          · unfold upN
            by_cases x : k = w
            · rw [if_pos x]; omega
            · rw [if_neg x]; have := hP.1 k; unfold upN at this; rw [if_neg x] at this; exact this
          · unfold upV
            by_cases x : j = 24 * w + i
            · rw [if_pos x]; omega
            · rw [if_neg x]; exact hP.2.1 j
          · have hz := hP.2.2 k hk j
            unfold upN at h1 hz
            unfold upV
            by_cases x : k = w
            · rw [if_pos x] at h1 hz
              rw [if_neg (by omega)]
              exact hz (by omega) h2
            · rw [if_neg x] at h1 hz
              rw [if_neg (by omega)]
              exact hz h1 h2
theorem naF_w {B : Nat → Int} {z n p w p1 : Nat} (h : naF B z n p = some (w, p1)) : w ≤ n ∧ p < p1 ∧ p1 ≤ p + 2 := by
  unfold naF at h
  by_cases c : hbF B z p = 114
  · rw [if_pos c] at h
    simp only [Option.some.injEq, Prod.mk.injEq] at h
    omega
  · rw [if_neg c] at h
    by_cases d : hbF B z p = 112 ∧ 49 ≤ hbF B z (p + 1) ∧ hbF B z (p + 1) < 49 + (n : Int)
    · rw [if_pos d] at h
      simp only [Option.some.injEq, Prod.mk.injEq] at h
      omega
    · rw [if_neg d] at h; exact absurd h (by simp)
theorem lnF_ok {B : Nat → Int} {z n T p : Nat} (hn : n ≤ 5) {L : Nat → Nat} {V : Nat → Int} (hP : RdP T L V) {p2 : Nat} {L2 : Nat → Nat} {V2 : Nat → Int} (h : lnF B z n T p L V = .inr (p2, L2, V2)) : RdP T L2 V2 ∧ p < p2 := by
  unfold lnF at h
  cases hna : naF B z n p with
  | none => rw [hna] at h; exact absurd h (by simp)
  | some q =>
    obtain ⟨w, p1⟩ := q
    have hw := naF_w hna
    have hs := skF_ge B z p1
    rw [hna] at h
    simp only at h
    by_cases c : 0 < L w
    · rw [if_pos c] at h; exact absurd h (by simp)
    · rw [if_neg c] at h
      by_cases d : ¬ hbF B z (skF B z p1) = 61
      · rw [if_pos d] at h; exact absurd h (by simp)
      · rw [if_neg d] at h
        cases hnb : nbF B z T w 24 0 (skF B z p1 + 1) V with
        | inl e => rw [hnb] at h; exact absurd h (by simp)
        | inr t =>
          obtain ⟨q2, i2, W2⟩ := t
          rw [hnb] at h
          simp only [Sum.inr.injEq, Prod.mk.injEq] at h
          obtain ⟨rfl, rfl, rfl⟩ := h
          have h9 := nbF_ok (B := B) (z := z) (T := T) (w := w) (by omega) 24 0 (skF B z p1 + 1) L V rfl (by rw [upN_self (by omega)]; exact hP) _ _ _ hnb
          exact ⟨h9.1, by omega⟩
theorem lsF_ok {B : Nat → Int} {z n T : Nat} (hn : n ≤ 5) : ∀ (f p c : Nat) (L : Nat → Nat) (V : Nat → Int), RdP T L V → ∀ c2 L2 V2, lsF B z n T f p c L V = .inr (c2, L2, V2) → RdP T L2 V2 := by
  intro f
  induction f with
  | zero =>
    intro p c L V hP c2 L2 V2 h
    unfold lsF at h
    simp only [Sum.inr.injEq, Prod.mk.injEq] at h
    obtain ⟨-, rfl, rfl⟩ := h
    exact hP
  | succ f ih =>
    intro p c L V hP c2 L2 V2 h
    unfold lsF at h
    by_cases d : z ≤ skF B z p
    · rw [if_pos d] at h
      simp only [Sum.inr.injEq, Prod.mk.injEq] at h
      obtain ⟨-, rfl, rfl⟩ := h
      exact hP
    · rw [if_neg d] at h
      cases hl : lnF B z n T (skF B z p) L V with
      | inl e => rw [hl] at h; exact absurd h (by simp)
      | inr t =>
        obtain ⟨q2, L3, V3⟩ := t
        rw [hl] at h
        exact ih _ _ _ _ (lnF_ok hn hP hl).1 _ _ _ h
/-- all that a reading finds -/
def rdF (s : Nat → Int) (B : Nat → Int) (z : Nat) : (Int × Nat) ⊕ (Nat × (Nat → Nat) × (Nat → Int)) := lsF B z (pN s) (pT s) 400 0 0 (fun _ => 0) (fun _ => 0)
def rwS (s : Nat → Int) (L : Nat → Nat) (V : Nat → Int) : Nat → Int := fun i => if 77 ≤ i ∧ i < 83 then ((L (i - 77) - 1 : Nat) : Int) else if 83 ≤ i ∧ i < 227 then V (i - 83) else s i
def nxRows (s : Nat → Int) (B : Nat → Int) (z : Nat) : Nat → Int := match rdF s B z with
  | .inl _ => s
  | .inr (_, L, V) => rwS s L V
def vRows (s : Nat → Int) (B : Nat → Int) (z : Nat) : Int := match rdF s B z with
  | .inl _ => -1
  | .inr (c, _, _) => (c : Int)
def fkRows (s : Nat → Int) (B : Nat → Int) (z : Nat) : Int := match rdF s B z with
  | .inl e => e.1
  | .inr _ => 0
def fpRows (s : Nat → Int) (B : Nat → Int) (z : Nat) : Int := match rdF s B z with
  | .inl e => (e.2 : Int)
  | .inr _ => -1
theorem rdF_ok {s : Nat → Int} (hV : VS s) {B : Nat → Int} {z c : Nat} {L : Nat → Nat} {V : Nat → Int} (h : rdF s B z = .inr (c, L, V)) : RdP (pT s) L V := by
  have hN := hV.N
  have hT := hV.T
  exact lsF_ok (by omega) 400 0 0 _ _ ⟨fun _ => Nat.zero_le _, fun _ => ⟨by decide, show (0 : Int) < _ by omega⟩, fun _ _ _ _ _ => rfl⟩ _ _ _ h
theorem VS_rows {s : Nat → Int} (hV : VS s) {L : Nat → Nat} {V : Nat → Int} (hP : RdP (pT s) L V) : VS (rwS s L V) := by
  have hu := VS_un hV
  have hs := hV.Sc
  have hT := hV.T
  obtain ⟨g0, g1, g2, g3, -⟩ := hV
  have e : ∀ i, i < 77 ∨ 227 ≤ i → rwS s L V i = s i := fun i h1 => by unfold rwS; rw [if_neg (by omega), if_neg (by omega)]
  refine VS_mk (by rw [e 0 (by omega)]; exact g0) (by rw [e 1 (by omega)]; exact g1) (by rw [e 2 (by omega)]; exact g2) (by rw [e 3 (by omega)]; exact g3) (fun i h1 h2 => ?_) ?_
  · rw [e 2 (by omega)]
    by_cases c : 77 ≤ i ∧ i < 83
    · rw [show rwS s L V i = ((L (i - 77) - 1 : Nat) : Int) by unfold rwS; rw [if_pos c]]
      have := hP.1 (i - 77)
      omega
    · by_cases c2 : 83 ≤ i ∧ i < 227
      · rw [show rwS s L V i = V (i - 83) by unfold rwS; rw [if_neg c, if_pos c2]]
        have := hP.2.1 (i - 83)
        omega
      · rw [e i (by omega)]; exact hu i h1 h2
  · have e2 : ∀ j, j < 4 → pL (rwS s L V) j = pL s j := fun j hj => by unfold pL; rw [e _ (by omega)]
    unfold pSc at hs ⊢
    rw [e2 0 (by decide), e2 1 (by decide), e2 2 (by decide), e2 3 (by decide)]
    exact hs.2
