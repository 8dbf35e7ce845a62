theorem G_iremN {M : MD} {d mc ms pc : Nat} {ls st : List PV} {w : List KD} {m : Nat → Nat → Int} {Q : Ps} {X Y : Int} (x y : Nat) (hX : X = (x : Int)) (hY : Y = (y : Int)) (hd : decode M.2.1 pc = .ok (.irem, 1)) (hx : x < 2147483648) (hy : y < 2147483648) (h0 : 0 < y) (k : G M d mc ms (pc + 1) ls (iV ((x % y : Nat) : Int) :: st) (w, m) Q) : G M d mc ms pc ls (iV Y :: iV X :: st) (w, m) Q := by
  subst hX
  subst hY
  refine G_irem hd ⟨by omega, by omega⟩ ⟨by omega, by omega⟩ (by omega) ?_
  rw [← Int.ofNat_tmod]
  exact k
theorem G_idivN {M : MD} {d mc ms pc : Nat} {ls st : List PV} {w : List KD} {m : Nat → Nat → Int} {Q : Ps} {X Y : Int} (x y : Nat) (hX : X = (x : Int)) (hY : Y = (y : Int)) (hd : decode M.2.1 pc = .ok (.idiv, 1)) (hx : x < 2147483648) (hy : y < 2147483648) (h0 : 0 < y) (k : G M d mc ms (pc + 1) ls (iV ((x / y : Nat) : Int) :: st) (w, m) Q) : G M d mc ms pc ls (iV Y :: iV X :: st) (w, m) Q := by
  subst hX
  subst hY
  refine G_idiv hd ⟨by omega, by omega⟩ ⟨by omega, by omega⟩ (by omega) ?_
  rw [← Int.ofNat_tdiv]
  exact k
theorem G_i2bS {M : MD} {d mc ms pc : Nat} {ls st : List PV} {w : List KD} {m : Nat → Nat → Int} {Q : Ps} {x : Int} (hd : decode M.2.1 pc = .ok (.i2b, 1)) (hx : -128 ≤ x ∧ x < 128) (k : G M d mc ms (pc + 1) ls (iV x :: st) (w, m) Q) : G M d mc ms pc ls (iV x :: st) (w, m) Q := by
  refine G_i2b hd ?_
  rw [Int.bmod_eq_of_le (by omega) (by omega)]
  exact k
def cOrd (m : Nat → Nat → Int) (p k : Nat) : Int := m 26 (5 * p + k)
def cChg (m : Nat → Nat → Int) (p k : Nat) : Int := if k = 0 then m 26 (5 * p) else m 26 (5 * p + k) - m 26 (5 * p + k - 1)
theorem sp_orderOf {w : List KD} {m : Nat → Nat → Int} (p k : Nat) (hp : p < 2401) (hk : k < 5) : Sp M_X3_orderOf 0 0 0 [rV 25, iV (p : Int), iV (k : Int)] (WC ++ w, m) (fun r h => r = some (iV (cOrd m p k)) ∧ h = (WC ++ w, m)) := by
  refine Sp.ofG (ls := [rV 25, iV (p : Int), iV (k : Int)]) (by decide +kernel) rfl (Nat.le_of_ble_eq_true rfl) ?_
  refine G_aload_n d_X3_orderOf_0 rfl ?_
  refine G_getR (r := 26) (fl_X3_19.r) d_X3_orderOf_1 (wk_25 _) rfl rfl ?_
  refine G_iload_n d_X3_orderOf_4 rfl ?_
  refine G_iconst d_X3_orderOf_5 ?_
  refine G_imul d_X3_orderOf_6 ?_
  refine G_iload_n d_X3_orderOf_7 rfl ?_
  refine G_iadd d_X3_orderOf_8 ?_
  refine G_baldj (5 * p + k) d_X3_orderOf_9 (wk_26 _) (by omega) (by omega) (by decide) ?_
  refine G_iret (mc := 0) (ms := 0) (st := []) d_X3_orderOf_10 rfl ?_
  exact ⟨rfl, rfl⟩
theorem sp_changeOf {w : List KD} {m : Nat → Nat → Int} (p k : Nat) (hp : p < 2401) (hk : k < 5) : Sp M_X3_changeOf 0 0 0 [rV 25, iV (p : Int), iV (k : Int)] (WC ++ w, m) (fun r h => r = some (iV (cChg m p k)) ∧ h = (WC ++ w, m)) := by
  refine Sp.ofG (ls := [rV 25, iV (p : Int), iV (k : Int), uV]) (by decide +kernel) rfl (Nat.le_of_ble_eq_true rfl) ?_
  refine G_iload_n d_X3_changeOf_0 rfl ?_
  refine G_iconst d_X3_changeOf_1 ?_
  refine G_imul d_X3_changeOf_2 ?_
  refine G_iload_n d_X3_changeOf_3 rfl ?_
  refine G_iadd d_X3_changeOf_4 ?_
  refine G_istore_n d_X3_changeOf_5 (by decide) rfl ?_
  refine G_iload_n d_X3_changeOf_6 rfl ?_
  refine G_if_ne 19 d_X3_changeOf_7 (by decide) (by omega) (fun c7 => ?_) (fun c7 => ?_)
  · refine G_aload_n d_X3_changeOf_19 rfl ?_
    refine G_getR (r := 26) (fl_X3_19.r) d_X3_changeOf_20 (wk_25 _) rfl rfl ?_
    refine G_iload_n d_X3_changeOf_23 rfl ?_
    refine G_baldj (5 * p + k) d_X3_changeOf_24 (wk_26 _) (by omega) (by omega) (by decide) ?_
    refine G_aload_n d_X3_changeOf_25 rfl ?_
    refine G_getR (r := 26) (fl_X3_19.r) d_X3_changeOf_26 (wk_25 _) rfl rfl ?_
    refine G_iload_n d_X3_changeOf_29 rfl ?_
    refine G_iconst d_X3_changeOf_30 ?_
    refine G_isub d_X3_changeOf_31 ?_
    refine G_baldj (5 * p + k - 1) d_X3_changeOf_32 (wk_26 _) (by omega) (by omega) (by decide) ?_
    refine G_isub d_X3_changeOf_33 ?_
    refine G_iret (mc := 0) (ms := 0) (st := []) d_X3_changeOf_34 rfl ?_
    exact ⟨by unfold cChg; first | rw [if_neg (by omega)] | rw [if_pos (by omega)], rfl⟩
  · refine G_aload_n d_X3_changeOf_10 rfl ?_
    refine G_getR (r := 26) (fl_X3_19.r) d_X3_changeOf_11 (wk_25 _) rfl rfl ?_
    refine G_iload_n d_X3_changeOf_14 rfl ?_
    refine G_baldj (5 * p) d_X3_changeOf_15 (wk_26 _) (by omega) (by omega) (by decide) ?_
    refine G_goto 34 d_X3_changeOf_16 (by decide) ?_
    refine G_iret (mc := 0) (ms := 0) (st := []) d_X3_changeOf_34 rfl ?_
    exact ⟨by unfold cChg; first | rw [if_neg (by omega)] | rw [if_pos (by omega)], rfl⟩
theorem sp_isGoneP {w : List KD} {m : Nat → Nat → Int} (p : Nat) (hp : p < 2401) (h1 : -128 ≤ m 29 p ∧ m 29 p < 128) (h2 : -2147483648 ≤ m 28 p ∧ m 28 p < 2147483648) : Sp M_X3_isGone 0 0 0 [rV 25, iV (p : Int)] (WC ++ w, m) (fun r h => r = some (iV (if m 29 p ≠ 0 ∨ m 28 p = 0 then 1 else 0)) ∧ h = (WC ++ w, m)) := by
  refine Sp.ofG (ls := [rV 25, iV (p : Int)]) (by decide +kernel) rfl (Nat.le_of_ble_eq_true rfl) ?_
  refine G_aload_n d_X3_isGone_0 rfl ?_
  refine G_getR (r := 29) (fl_X3_31.r) d_X3_isGone_1 (wk_25 _) rfl rfl ?_
  refine G_iload_n d_X3_isGone_4 rfl ?_
  refine G_baldj (p) d_X3_isGone_5 (wk_29 _) (by omega) (by omega) (by decide) ?_
  refine G_if_ne 18 d_X3_isGone_6 (by decide) (by omega) (fun c6 => ?_) (fun c6 => ?_)
  · refine G_iconst d_X3_isGone_18 ?_
    refine G_goto 23 d_X3_isGone_19 (by decide) ?_
    refine G_zret (mc := 0) (ms := 0) (st := []) d_X3_isGone_23 rfl (by omega) ?_
    exact ⟨by first | rw [if_pos (by omega)] | rw [if_neg (by omega)], rfl⟩
  · refine G_aload_n d_X3_isGone_9 rfl ?_
    refine G_getR (r := 28) (fl_X3_27.r) d_X3_isGone_10 (wk_25 _) rfl rfl ?_
    refine G_iload_n d_X3_isGone_13 rfl ?_
    refine G_ialdj (p) d_X3_isGone_14 (wk_28 _) (by omega) (by omega) (by decide) ?_
    refine G_if_ne 22 d_X3_isGone_15 (by decide) (by omega) (fun c15 => ?_) (fun c15 => ?_)
    · refine G_iconst d_X3_isGone_22 ?_
      refine G_zret (mc := 0) (ms := 0) (st := []) d_X3_isGone_23 rfl (by omega) ?_
      exact ⟨by first | rw [if_pos (by omega)] | rw [if_neg (by omega)], rfl⟩
    · refine G_iconst d_X3_isGone_18 ?_
      refine G_goto 23 d_X3_isGone_19 (by decide) ?_
      refine G_zret (mc := 0) (ms := 0) (st := []) d_X3_isGone_23 rfl (by omega) ?_
      exact ⟨by first | rw [if_pos (by omega)] | rw [if_neg (by omega)], rfl⟩
theorem wkL_cons {v u : PV} {vs us : List PV} (h : v = uV ∨ v = u) (t : wkL vs us) : wkL (v :: vs) (u :: us) := ⟨h, t⟩
theorem allN_false {p : Nat → Bool} : ∀ {n : Nat} (k : Nat), k < n → p k = false → allN p n = false
  | 0, k, h, _ => absurd h (by omega)
  | n + 1, k, h, hp => by
    unfold allN
    by_cases e : k = n
    · rw [← e, hp, Bool.and_false]
    · rw [allN_false k (by omega) hp, Bool.false_and]
def spl (m : Nat → Nat → Int) (cnt n M c q : Nat) : Nat → Nat → Int := fun a j => if a = 26 ∧ 5 * cnt + q ≤ j ∧ j < 5 * cnt + n then dg n M c (j - 5 * cnt) else m a j
theorem spl_first (m : Nat → Nat → Int) (cnt n M c : Nat) (hn : 1 ≤ n) : upm m 26 (5 * cnt + n - 1) (-1) = spl m cnt n M c (n - 1) := by
  funext a j
  unfold upm spl
  by_cases h : a = 26 ∧ j = 5 * cnt + n - 1
  · rw [if_pos h, if_pos (by omega)]
    unfold dg
    rw [if_pos (by omega)]
  · rw [if_neg h, if_neg (by omega)]
theorem spl_step (m : Nat → Nat → Int) (cnt n M c q : Nat) (hq : q + 2 ≤ n) : upm (spl m cnt n M c (q + 1)) 26 (5 * cnt + q) (((c / bs M ^ (n - 2 - q) % bs M : Nat) : Int) - M) = spl m cnt n M c q := by
  funext a j
  unfold upm spl
  by_cases h : a = 26 ∧ j = 5 * cnt + q
  · rw [if_pos h, if_pos (by omega)]
    unfold dg
    rw [if_neg (by omega), show j - 5 * cnt = q by omega]
  · rw [if_neg h]
    by_cases h2 : a = 26 ∧ 5 * cnt + (q + 1) ≤ j ∧ j < 5 * cnt + n
    · rw [if_pos h2, if_pos (by omega)]
    · rw [if_neg h2, if_neg (by omega)]
theorem sp_spell {w : List KD} {m : Nat → Nat → Int} (n M cnt : Nat) (hn : m 1 0 = (n : Int)) (hM : m 1 1 = (M : Int)) (hn1 : 1 ≤ n ∧ n ≤ 5) (hM1 : 1 ≤ M ∧ M ≤ 3) (c : Nat) (hc : m 25 0 = (cnt : Int)) (hcc : c < 2401) (hcnt : cnt < 2401) : Sp M_X3_spell 0 0 0 [rV 25, iV (c : Int), rV 1] (WC ++ w, m) (fun r h => r = none ∧ h = (WC ++ w, spl m cnt n M c 0)) := by
  refine Sp.ofG (ls := [rV 25, iV (c : Int), rV 1, uV, uV, uV, uV]) (by decide +kernel) rfl (Nat.le_of_ble_eq_true rfl) ?_
  have hbs : 2 * (M : Int) + 1 = ((bs M : Nat) : Int) := by unfold bs; omega
  have hb7 : bs M ≤ 7 ∧ 1 ≤ bs M := by unfold bs; omega
  have hdl : ∀ e, c / bs M ^ e ≤ c := fun e => Nat.div_le_self _ _
  have L : ∀ q : Nat, q ≤ n - 1 → G M_X3_spell 0 0 0 43 [rV 25, iV (c : Int), rV 1, iV (2 * (M : Int) + 1), iV ((c / bs M ^ (n - 1 - q) : Nat) : Int), iV ((cnt : Int) * 5), iV ((q : Int) - 1)] [] (WC ++ w, spl m cnt n M c q) (fun r h => r = none ∧ h = (WC ++ w, spl m cnt n M c 0)) := by
    refine loop_down _ ?_
    intro q ih hq
    have hd1 := hdl (n - 1 - q)
    refine G_iload d_X3_spell_43 rfl ?_
    refine G_if_lt 80 d_X3_spell_45 (by decide) (by omega) (fun c45 => ?_) (fun c45 => ?_)
    · have hq0 : q = 0 := by omega
      subst hq0
      refine G_vret (mc := 0) (ms := 0) (st := []) d_X3_spell_80 rfl ?_
      exact ⟨rfl, rfl⟩
    · obtain ⟨q2, rfl⟩ : ∃ q2, q = q2 + 1 := ⟨q - 1, by omega⟩
      refine G_aload_n d_X3_spell_48 rfl ?_
      refine G_getR (r := 26) (fl_X3_19.r) d_X3_spell_49 (wk_25 _) rfl rfl ?_
      refine G_iload d_X3_spell_52 rfl ?_
      refine G_iload d_X3_spell_54 rfl ?_
      refine G_iadd d_X3_spell_56 ?_
      refine G_iload d_X3_spell_57 rfl ?_
      refine G_iload_n d_X3_spell_59 rfl ?_
      refine G_iremN (c / bs M ^ (n - 1 - (q2 + 1))) (bs M) (rfl) (hbs) d_X3_spell_60 (by omega) (by omega) (by omega) ?_
      refine G_aload_n d_X3_spell_61 rfl ?_
      refine G_getIe (v := (M : Int)) (fl_X3_39.r) d_X3_spell_62 (wk_1 _) rfl (by unfold spl; rw [if_neg (by omega)]; exact hM) ?_
      refine G_isub d_X3_spell_65 ?_
      refine G_i2bS d_X3_spell_66 (by have h9 : c / bs M ^ (n - 1 - (q2 + 1)) % bs M < bs M := Nat.mod_lt _ (by omega); omega) ?_
      refine G_bastj (5 * cnt + q2) d_X3_spell_67 (wk_26 _) (by omega) (by omega) (by decide) (by have h9 : c / bs M ^ (n - 1 - (q2 + 1)) % bs M < bs M := Nat.mod_lt _ (by omega); omega) ?_
      rw [show n - 1 - (q2 + 1) = n - 2 - q2 by omega, spl_step m cnt n M c q2 (by omega)]
      refine G_iload d_X3_spell_68 rfl ?_
      refine G_iload_n d_X3_spell_70 rfl ?_
      have hd2 := hdl (n - 2 - q2)
      refine G_idivN (c / bs M ^ (n - 2 - q2)) (bs M) (rfl) (hbs) d_X3_spell_71 (by omega) (by omega) (by omega) ?_
      rw [Nat.div_div_eq_div_mul, ← Nat.pow_succ, show (n - 2 - q2).succ = n - 1 - q2 by omega]
      refine G_istore d_X3_spell_72 (by decide) rfl ?_
      skip
      refine G_iinc d_X3_spell_74 rfl (by decide) rfl ?_
      refine G_goto 43 d_X3_spell_77 (by decide) ?_
      rw [show ((q2 + 1 : Nat) : Int) - 1 + -1 = (q2 : Int) - 1 by omega]
      exact ih q2 rfl (by omega)
  refine G_iconst d_X3_spell_0 ?_
  refine G_aload_n d_X3_spell_1 rfl ?_
  refine G_getIe (fl_X3_39.r) d_X3_spell_2 (wk_1 _) rfl (hM) ?_
  refine G_imul d_X3_spell_5 ?_
  refine G_iconst d_X3_spell_6 ?_
  refine G_iadd d_X3_spell_7 ?_
  refine G_istore_n d_X3_spell_8 (by decide) rfl ?_
  refine G_iload_n d_X3_spell_9 rfl ?_
  refine G_istore d_X3_spell_10 (by decide) rfl ?_
  refine G_aload_n d_X3_spell_12 rfl ?_
  refine G_getIe (fl_X3_9.r) d_X3_spell_13 (wk_25 _) rfl (hc) ?_
  refine G_iconst d_X3_spell_16 ?_
  refine G_imul d_X3_spell_17 ?_
  refine G_istore d_X3_spell_18 (by decide) rfl ?_
  refine G_aload_n d_X3_spell_20 rfl ?_
  refine G_getR (r := 26) (fl_X3_19.r) d_X3_spell_21 (wk_25 _) rfl rfl ?_
  refine G_iload d_X3_spell_24 rfl ?_
  refine G_aload_n d_X3_spell_26 rfl ?_
  refine G_getIe (fl_X3_34.r) d_X3_spell_27 (wk_1 _) rfl (hn) ?_
  refine G_iadd d_X3_spell_30 ?_
  refine G_iconst d_X3_spell_31 ?_
  refine G_isub d_X3_spell_32 ?_
  refine G_iconst d_X3_spell_33 ?_
  refine G_bastj (5 * cnt + n - 1) d_X3_spell_34 (wk_26 _) (by omega) (by omega) (by decide) (by omega) ?_
  rw [spl_first m cnt n M c hn1.1]
  refine G_aload_n d_X3_spell_35 rfl ?_
  refine G_getIe (fl_X3_34.r) d_X3_spell_36 (wk_1 _) rfl (hn) ?_
  refine G_iconst d_X3_spell_39 ?_
  refine G_isub d_X3_spell_40 ?_
  refine G_istore d_X3_spell_41 (by decide) rfl ?_
  have h0 := L (n - 1) (Nat.le_refl _)
  rw [show n - 1 - (n - 1) = 0 by omega, Nat.pow_zero, Nat.div_one, show (((n - 1 : Nat) : Int) - 1) = (n : Int) - 2 by omega] at h0
  exact h0
theorem allN_true {p : Nat → Bool} : ∀ {n : Nat}, (∀ i, i < n → p i = true) → allN p n = true
  | 0, _ => rfl
  | n + 1, h => by
    unfold allN
    rw [allN_true (fun i hi => h i (by omega)), h n (by omega)]
    rfl
theorem sp_keepsKinds {w : List KD} {m : Nat → Nat → Int} (n M cnt : Nat) (hn : m 1 0 = (n : Int)) (hM : m 1 1 = (M : Int)) (hn1 : 1 ≤ n ∧ n ≤ 5) (hM1 : 1 ≤ M ∧ M ≤ 3) (c : Nat) (K : Nat → Int) (hc : m 25 0 = (cnt : Int)) (hcc : c < 2401) (hcnt : cnt < 2401) (hKm : ∀ k, k < n → m 2 k = K k) (hK : ∀ k, k < n → 0 ≤ K k ∧ K k ≤ 2) (hO : ∀ k, k < n → m 26 (5 * cnt + k) = dg n M c k) : Sp M_X3_keepsKinds 1 0 0 [rV 25, rV 1] (WC ++ w, m) (fun r h => r = some (iV (if okc n M K c = true then 1 else 0)) ∧ h = (WC ++ w, m)) := by
  refine Sp.ofG (ls := [rV 25, rV 1, uV, uV, uV, uV]) (by decide +kernel) rfl (Nat.le_of_ble_eq_true rfl) ?_
  have hpr : ∀ k, -3 ≤ prevO n M c k ∧ prevO n M c k ≤ 3 := fun k => by have := prevO_rng n M c k hM1.1; omega
  have hdr : ∀ k, -3 ≤ dg n M c k ∧ dg n M c k ≤ 3 := fun k => by have := dg_rng n M c k hM1.1; omega
  have L : ∀ k : Nat, k ≤ n → (∀ i, i < k → okk (K i) (prevO n M c i) (dg n M c i) = true) → G M_X3_keepsKinds 1 0 0 4 [rV 25, rV 1, iV (prevO n M c k), iV (k : Int), uV, uV] [] (WC ++ w, m) (fun r h => r = some (iV (if okc n M K c = true then 1 else 0)) ∧ h = (WC ++ w, m)) := by
    refine loop_up n _ ?_
    intro k hk ih hok
    have h1 := hpr k
    have h2 := hdr k
    have hKz := hK
    refine G_iload_n d_X3_keepsKinds_4 rfl ?_
    refine G_aload_n d_X3_keepsKinds_5 rfl ?_
    refine G_getIe (fl_X3_34.r) d_X3_keepsKinds_6 (wk_1 _) rfl (hn) ?_
    refine G_icmp_ge 74 d_X3_keepsKinds_9 (by decide) (by omega) (by omega) (fun c9 => ?_) (fun c9 => ?_)
    · refine G_iconst d_X3_keepsKinds_74 ?_
      refine G_zret (mc := 0) (ms := 0) (st := []) d_X3_keepsKinds_75 rfl (by omega) ?_
      exact ⟨by rw [if_pos]; exact allN_true (fun i hi => hok i (by omega)), rfl⟩
    · refine G_aload_n d_X3_keepsKinds_12 rfl ?_
      refine G_aload_n d_X3_keepsKinds_13 rfl ?_
      refine G_getIe (fl_X3_9.r) d_X3_keepsKinds_14 (wk_25 _) rfl (hc) ?_
      refine G_iload_n d_X3_keepsKinds_17 rfl ?_
      refine G_callV2 cl_X3_50 rfl d_X3_keepsKinds_18 (wk_25 _) (Nat.le_of_ble_eq_true rfl) (by decide) (sp_orderOf cnt k (by omega) (by omega)) ?_
      rintro _ _ ⟨rfl, rfl⟩
      rw [show cOrd m cnt k = dg n M c k from hO k (by omega)]
      have hnx : prevO n M c (k + 1) = dg n M c k := by unfold prevO; rw [if_neg (by omega)]; rfl
      have h3 := hK k (by omega)
      refine G_istore d_X3_keepsKinds_21 (by decide) rfl ?_
      refine G_aload_n d_X3_keepsKinds_23 rfl ?_
      refine G_getR (r := 2) fl_X3_54 d_X3_keepsKinds_24 (wk_1 _) rfl rfl ?_
      refine G_iload_n d_X3_keepsKinds_27 rfl ?_
      refine G_ialdj (k) d_X3_keepsKinds_28 (wk_2 _) (by omega) (by omega) (by decide) ?_
      rw [show m 2 k = K k from hKm k (by omega)]
      refine G_istore d_X3_keepsKinds_29 (by decide) rfl ?_
      refine G_iload d_X3_keepsKinds_31 rfl ?_
      refine G_iconst d_X3_keepsKinds_33 ?_
      refine G_icmp_ne 46 d_X3_keepsKinds_34 (by decide) (by omega) (by omega) (fun c34 => ?_) (fun c34 => ?_)
      · refine G_iload d_X3_keepsKinds_46 rfl ?_
        refine G_iconst d_X3_keepsKinds_48 ?_
        refine G_icmp_ne 65 d_X3_keepsKinds_49 (by decide) (by omega) (by omega) (fun c49 => ?_) (fun c49 => ?_)
        · refine G_iload d_X3_keepsKinds_65 rfl ?_
          refine G_istore_n d_X3_keepsKinds_67 (by decide) rfl ?_
          refine G_iinc d_X3_keepsKinds_68 rfl (by decide) rfl ?_
          refine G_goto 4 d_X3_keepsKinds_71 (by decide) ?_
          refine G.fg (ih (by omega) (fun i hi => ?_)) ?_
          · by_cases e : i = k
            · rw [e]; unfold okk; simp only [Bool.and_eq_true, Bool.not_eq_true', Bool.and_eq_false_iff, beq_eq_false_iff_ne, beq_iff_eq, decide_eq_true_eq, decide_eq_false_iff_not, ne_eq, Bool.not_eq_false', Bool.not_eq_eq_eq_not, Bool.not_false, Bool.not_true, Bool.decide_and, Bool.and_eq_true]; omega
            · exact hok i (by omega)
          · rw [hnx]
            repeat (first | exact trivial | refine wkL_cons (Or.inl rfl) ?_ | refine wkL_cons (Or.inr rfl) ?_)
        · refine G_iload d_X3_keepsKinds_52 rfl ?_
          refine G_iload_n d_X3_keepsKinds_54 rfl ?_
          refine G_isub d_X3_keepsKinds_55 ?_
          refine G_callS1 cl_X3_57 d_X3_keepsKinds_56 (Nat.le_of_ble_eq_true rfl) (by decide) (sp_abs (by omega)) ?_
          rintro _ _ ⟨rfl, rfl⟩
          refine G_iconst d_X3_keepsKinds_59 ?_
          refine G_icmp_le 65 d_X3_keepsKinds_60 (by decide) (by omega) (by omega) (fun c60 => ?_) (fun c60 => ?_)
          · refine G_iload d_X3_keepsKinds_65 rfl ?_
            refine G_istore_n d_X3_keepsKinds_67 (by decide) rfl ?_
            refine G_iinc d_X3_keepsKinds_68 rfl (by decide) rfl ?_
            refine G_goto 4 d_X3_keepsKinds_71 (by decide) ?_
            refine G.fg (ih (by omega) (fun i hi => ?_)) ?_
            · by_cases e : i = k
              · rw [e]; unfold okk; simp only [Bool.and_eq_true, Bool.not_eq_true', Bool.and_eq_false_iff, beq_eq_false_iff_ne, beq_iff_eq, decide_eq_true_eq, decide_eq_false_iff_not, ne_eq, Bool.not_eq_false', Bool.not_eq_eq_eq_not, Bool.not_false, Bool.not_true, Bool.decide_and, Bool.and_eq_true]; omega
              · exact hok i (by omega)
            · rw [hnx]
              repeat (first | exact trivial | refine wkL_cons (Or.inl rfl) ?_ | refine wkL_cons (Or.inr rfl) ?_)
          · refine G_iconst d_X3_keepsKinds_63 ?_
            refine G_zret (mc := 0) (ms := 0) (st := []) d_X3_keepsKinds_64 rfl (by omega) ?_
            exact ⟨by rw [if_neg]; rw [Bool.not_eq_true]; exact allN_false k (by omega) (by unfold okk; simp; omega), rfl⟩
      · refine G_iload d_X3_keepsKinds_37 rfl ?_
        refine G_iload_n d_X3_keepsKinds_39 rfl ?_
        refine G_ineg d_X3_keepsKinds_40 ?_
        refine G_icmp_eq 46 d_X3_keepsKinds_41 (by decide) (by omega) (by omega) (fun c41 => ?_) (fun c41 => ?_)
        · refine G_iload d_X3_keepsKinds_46 rfl ?_
          refine G_iconst d_X3_keepsKinds_48 ?_
          refine G_icmp_ne 65 d_X3_keepsKinds_49 (by decide) (by omega) (by omega) (fun c49 => ?_) (fun c49 => ?_)
          · refine G_iload d_X3_keepsKinds_65 rfl ?_
            refine G_istore_n d_X3_keepsKinds_67 (by decide) rfl ?_
            refine G_iinc d_X3_keepsKinds_68 rfl (by decide) rfl ?_
            refine G_goto 4 d_X3_keepsKinds_71 (by decide) ?_
            refine G.fg (ih (by omega) (fun i hi => ?_)) ?_
            · by_cases e : i = k
              · rw [e]; unfold okk; simp only [Bool.and_eq_true, Bool.not_eq_true', Bool.and_eq_false_iff, beq_eq_false_iff_ne, beq_iff_eq, decide_eq_true_eq, decide_eq_false_iff_not, ne_eq, Bool.not_eq_false', Bool.not_eq_eq_eq_not, Bool.not_false, Bool.not_true, Bool.decide_and, Bool.and_eq_true]; omega
              · exact hok i (by omega)
            · rw [hnx]
              repeat (first | exact trivial | refine wkL_cons (Or.inl rfl) ?_ | refine wkL_cons (Or.inr rfl) ?_)
          · refine G_iload d_X3_keepsKinds_52 rfl ?_
            refine G_iload_n d_X3_keepsKinds_54 rfl ?_
            refine G_isub d_X3_keepsKinds_55 ?_
            refine G_callS1 cl_X3_57 d_X3_keepsKinds_56 (Nat.le_of_ble_eq_true rfl) (by decide) (sp_abs (by omega)) ?_
            rintro _ _ ⟨rfl, rfl⟩
            refine G_iconst d_X3_keepsKinds_59 ?_
            refine G_icmp_le 65 d_X3_keepsKinds_60 (by decide) (by omega) (by omega) (fun c60 => ?_) (fun c60 => ?_)
            · refine G_iload d_X3_keepsKinds_65 rfl ?_
              refine G_istore_n d_X3_keepsKinds_67 (by decide) rfl ?_
              refine G_iinc d_X3_keepsKinds_68 rfl (by decide) rfl ?_
              refine G_goto 4 d_X3_keepsKinds_71 (by decide) ?_
              refine G.fg (ih (by omega) (fun i hi => ?_)) ?_
              · by_cases e : i = k
                · rw [e]; unfold okk; simp only [Bool.and_eq_true, Bool.not_eq_true', Bool.and_eq_false_iff, beq_eq_false_iff_ne, beq_iff_eq, decide_eq_true_eq, decide_eq_false_iff_not, ne_eq, Bool.not_eq_false', Bool.not_eq_eq_eq_not, Bool.not_false, Bool.not_true, Bool.decide_and, Bool.and_eq_true]; omega
                · exact hok i (by omega)
              · rw [hnx]
                repeat (first | exact trivial | refine wkL_cons (Or.inl rfl) ?_ | refine wkL_cons (Or.inr rfl) ?_)
            · refine G_iconst d_X3_keepsKinds_63 ?_
              refine G_zret (mc := 0) (ms := 0) (st := []) d_X3_keepsKinds_64 rfl (by omega) ?_
              exact ⟨by rw [if_neg]; rw [Bool.not_eq_true]; exact allN_false k (by omega) (by unfold okk; simp; omega), rfl⟩
        · refine G_iconst d_X3_keepsKinds_44 ?_
          refine G_zret (mc := 0) (ms := 0) (st := []) d_X3_keepsKinds_45 rfl (by omega) ?_
          exact ⟨by rw [if_neg]; rw [Bool.not_eq_true]; exact allN_false k (by omega) (by unfold okk; simp; omega), rfl⟩
  refine G_iconst d_X3_keepsKinds_0 ?_
  refine G_istore_n d_X3_keepsKinds_1 (by decide) rfl ?_
  refine G_iconst d_X3_keepsKinds_2 ?_
  refine G_istore_n d_X3_keepsKinds_3 (by decide) rfl ?_
  exact L 0 (by omega) (fun i hi => absurd hi (by omega))
/-- the paths as they lie in the class's cells, of the first C codes -/
def cLP (n M : Nat) (K : Nat → Int) (C : Nat) (m : Nat → Nat → Int) : Prop := m 25 0 = ((kl n M K C).length : Int) ∧ (∀ p, p < (kl n M K C).length → ∀ k, k < n → m 26 (5 * p + k) = dg n M ((kl n M K C).getD p 0) k) ∧ ∀ c, c < C → m 27 c = if okc n M K c = true then ((kl n M K c).length : Int) else -1
def cLPI (n M : Nat) (K : Nat → Int) (C : Nat) (m0 m : Nat → Nat → Int) : Prop := (∀ a, a ≠ 25 → a ≠ 26 → a ≠ 27 → m a = m0 a) ∧ (∀ j, j ≠ 0 → m 25 j = m0 25 j) ∧ cLP n M K C m
theorem cLPI_no {n M : Nat} {K : Nat → Int} {C : Nat} {m0 m : Nat → Nat → Int} (hn : 1 ≤ n ∧ n ≤ 5) (h : cLPI n M K C m0 m) (hk : ¬ okc n M K C = true) (cnt : Nat) (hc : cnt = (kl n M K C).length) : cLPI n M K (C + 1) m0 (upm (spl m cnt n M C 0) 27 C (-1)) := by
  obtain ⟨h1, h2, h3, h4, h5⟩ := h
  have e : kl n M K (C + 1) = kl n M K C := by rw [kl_succ, if_neg hk, List.append_nil]
  refine ⟨fun a a1 a2 a3 => ?_, fun j hj => ?_, ?_, fun p hp k hk2 => ?_, fun c hc2 => ?_⟩
  · rw [upm_off _ _ a3]
    funext j
    unfold spl
    rw [if_neg (by omega)]
    exact congrFun (h1 a a1 a2 a3) j
  · rw [upm_off _ _ (by decide)]
    unfold spl
    rw [if_neg (by omega)]
    exact h2 j hj
  · rw [upm_off _ _ (by decide), e]
    unfold spl
    rw [if_neg (by omega)]
    exact h3
  · rw [e] at hp ⊢
    rw [upm_off _ _ (by decide)]
    unfold spl
    rw [if_neg (by omega)]
    exact h4 p hp k hk2
  · by_cases e2 : c = C
    · subst e2
      rw [upm_same, if_neg hk]
    · rw [upm_ne _ _ (fun _ => e2)]
      unfold spl
      rw [if_neg (by omega)]
      exact h5 c (by omega)
theorem cLPI_yes {n M : Nat} {K : Nat → Int} {C : Nat} {m0 m : Nat → Nat → Int} (hn : 1 ≤ n ∧ n ≤ 5) (h : cLPI n M K C m0 m) (hk : okc n M K C = true) (cnt : Nat) (hc : cnt = (kl n M K C).length) : cLPI n M K (C + 1) m0 (upm (upm (upm (spl m cnt n M C 0) 27 C (-1)) 27 C (cnt : Int)) 25 0 ((cnt : Int) + 1)) := by
  obtain ⟨h1, h2, h3, h4, h5⟩ := h
  have e : kl n M K (C + 1) = kl n M K C ++ [C] := by rw [kl_succ, if_pos hk]
  have el : (kl n M K (C + 1)).length = cnt + 1 := by rw [e, List.length_append, hc]; rfl
  refine ⟨fun a a1 a2 a3 => ?_, fun j hj => ?_, ?_, fun p hp k hk2 => ?_, fun c hc2 => ?_⟩
  · rw [upm_off _ _ a1, upm_off _ _ a3, upm_off _ _ a3]
    funext j
    unfold spl
    rw [if_neg (by omega)]
    exact congrFun (h1 a a1 a2 a3) j
  · rw [upm_ne _ _ (fun _ => hj), upm_off _ _ (by decide), upm_off _ _ (by decide)]
    unfold spl
    rw [if_neg (by omega)]
    exact h2 j hj
  · rw [upm_same, el]
    omega
  · rw [el] at hp
    rw [upm_off _ _ (by decide), upm_off _ _ (by decide), upm_off _ _ (by decide)]
    unfold spl
    by_cases e2 : p = cnt
    · subst e2
      rw [if_pos (by omega), show 5 * p + k - 5 * p = k by omega]
      congr 1
      rw [e, List.getD_eq_getElem?_getD, List.getElem?_append_right (by omega), ← hc, Nat.sub_self]
      rfl
    · rw [if_neg (by omega), h4 p (by omega) k hk2]
      congr 1
      rw [e, List.getD_eq_getElem?_getD, List.getD_eq_getElem?_getD, List.getElem?_append_left (by omega)]
  · rw [upm_off _ _ (by decide)]
    by_cases e2 : c = C
    · subst e2
      rw [upm_same, if_pos hk, hc]
    · rw [upm_ne _ _ (fun _ => e2), upm_ne _ _ (fun _ => e2)]
      unfold spl
      rw [if_neg (by omega)]
      exact h5 c (by omega)
theorem sp_list {w : List KD} {m : Nat → Nat → Int} (n M : Nat) (K : Nat → Int) (hn : m 1 0 = (n : Int)) (hM : m 1 1 = (M : Int)) (hn1 : 1 ≤ n ∧ n ≤ 5) (hM1 : 1 ≤ M ∧ M ≤ 3) (hKm : ∀ k, k < n → m 2 k = K k) (hK : ∀ k, k < n → 0 ≤ K k ∧ K k ≤ 2) : Sp M_X3_list 2 0 0 [rV 25, rV 1] (WC ++ w, m) (fun r h => r = none ∧ ∃ m2, h = (WC ++ w, m2) ∧ cLPI n M K (nC n M) m m2) := by
  refine Sp.ofG (ls := [rV 25, rV 1, uV, uV]) (by decide +kernel) rfl (Nat.le_of_ble_eq_true rfl) ?_
  have hnC := nC_le hn1 hM1
  have hpw := fun k hk => pw_le M hM1 k hk
  have hbs : 2 * (M : Int) + 1 = ((bs M : Nat) : Int) := by unfold bs; omega
  have L2 : ∀ C : Nat, C ≤ nC n M → ∀ m1, cLPI n M K C m m1 → G M_X3_list 2 0 0 38 [rV 25, rV 1, iV ((nC n M : Nat) : Int), iV (C : Int)] [] (WC ++ w, m1) (fun r h => r = none ∧ ∃ m2, h = (WC ++ w, m2) ∧ cLPI n M K (nC n M) m m2) := by
    refine loop_up (nC n M) _ ?_
    intro C hC ih m1 hI
    have hn' : m1 1 0 = (n : Int) := by rw [hI.1 1 (by decide) (by decide) (by decide)]; exact hn
    have hM' : m1 1 1 = (M : Int) := by rw [hI.1 1 (by decide) (by decide) (by decide)]; exact hM
    have hc := hI.2.2.1
    have hle := kl_len_le n M K C
    generalize hcnt : (kl n M K C).length = cnt at hc hle
    refine G_iload_n d_X3_list_38 rfl ?_
    refine G_iload_n d_X3_list_39 rfl ?_
    refine G_icmp_ge 91 d_X3_list_40 (by decide) (by omega) (by omega) (fun c40 => ?_) (fun c40 => ?_)
    · refine G_vret (mc := 0) (ms := 0) (st := []) d_X3_list_91 rfl ?_
      exact ⟨rfl, _, rfl, by rw [show nC n M = C by omega]; exact hI⟩
    · refine G_aload_n d_X3_list_43 rfl ?_
      refine G_iload_n d_X3_list_44 rfl ?_
      refine G_aload_n d_X3_list_45 rfl ?_
      refine G_callV2 cl_X3_42 rfl d_X3_list_46 (wk_25 _) (Nat.le_of_ble_eq_true rfl) (by decide) (sp_spell n M cnt hn' hM' hn1 hM1 C hc (by omega) (by omega)) ?_
      rintro _ _ ⟨rfl, rfl⟩
      refine G_aload_n d_X3_list_49 rfl ?_
      refine G_getR (r := 27) (fl_X3_23.r) d_X3_list_50 (wk_25 _) rfl rfl ?_
      refine G_iload_n d_X3_list_53 rfl ?_
      refine G_iconst d_X3_list_54 ?_
      refine G_sastj (C) d_X3_list_55 (wk_27 _) (by omega) (by omega) (by decide) (by omega) ?_
      refine G_aload_n d_X3_list_56 rfl ?_
      refine G_aload_n d_X3_list_57 rfl ?_
      have hn'' : upm (spl m1 cnt n M C 0) 27 C (-1) 1 0 = (n : Int) := hn'
      have hM'' : upm (spl m1 cnt n M C 0) 27 C (-1) 1 1 = (M : Int) := hM'
      have hc' : upm (spl m1 cnt n M C 0) 27 C (-1) 25 0 = (cnt : Int) := hc
      have hK2 : ∀ k, k < n → upm (spl m1 cnt n M C 0) 27 C (-1) 2 k = K k := fun k hk => by
        show m1 2 k = K k
        rw [hI.1 2 (by decide) (by decide) (by decide)]
        exact hKm k hk
      have hO2 : ∀ k, k < n → upm (spl m1 cnt n M C 0) 27 C (-1) 26 (5 * cnt + k) = dg n M C k := fun k hk => by
        rw [upm_off _ _ (by decide)]
        unfold spl
        rw [if_pos (by omega), show 5 * cnt + k - 5 * cnt = k by omega]
      refine G_callV1 cl_X3_46 rfl d_X3_list_58 (wk_25 _) (Nat.le_of_ble_eq_true rfl) (by decide) (sp_keepsKinds n M cnt hn'' hM'' hn1 hM1 C K hc' (by omega) (by omega) hK2 hK hO2) ?_
      rintro _ _ ⟨rfl, rfl⟩
      by_cases hok : okc n M K C = true
      · rw [if_pos hok]
        refine G_if_eq 85 d_X3_list_61 (by decide) (by decide) (fun hd => absurd hd (by decide)) (fun _ => ?_)
        refine G_aload_n d_X3_list_64 rfl ?_
        refine G_getR (r := 27) (fl_X3_23.r) d_X3_list_65 (wk_25 _) rfl rfl ?_
        refine G_iload_n d_X3_list_68 rfl ?_
        refine G_aload_n d_X3_list_69 rfl ?_
        refine G_getIe (fl_X3_9.r) d_X3_list_70 (wk_25 _) rfl (hc') ?_
        refine G_i2s d_X3_list_73 (by omega) ?_
        refine G_sastj (C) d_X3_list_74 (wk_27 _) (by omega) (by omega) (by decide) (by omega) ?_
        refine G_aload_n d_X3_list_75 rfl ?_
        refine G_dup d_X3_list_76 rfl ?_
        refine G_getIe (fl_X3_9.r) d_X3_list_77 (wk_25 _) rfl (show _ = (cnt : Int) from hc') ?_
        refine G_iconst d_X3_list_80 ?_
        refine G_iadd d_X3_list_81 ?_
        refine G_putII fl_X3_9 d_X3_list_82 (wk_25 _) rfl ?_
        refine G_iinc d_X3_list_85 rfl (by decide) rfl ?_
        refine G_goto 38 d_X3_list_88 (by decide) ?_
        exact ih (by omega) _ (cLPI_yes hn1 hI hok cnt hcnt.symm)
      · rw [if_neg hok]
        refine G_if_eq 85 d_X3_list_61 (by decide) (by decide) (fun _ => ?_) (fun hd => absurd hd (by decide))
        refine G_iinc d_X3_list_85 rfl (by decide) rfl ?_
        refine G_goto 38 d_X3_list_88 (by decide) ?_
        exact ih (by omega) _ (cLPI_no hn1 hI hok cnt hcnt.symm)
  have cLPI0 : cLPI n M K 0 m (upm m 25 0 0) := ⟨fun a a1 _ _ => upm_off _ _ a1, fun j hj => upm_ne _ _ (fun _ => hj), upm_same _ _ _ _, fun p hp => absurd hp (by simp [kl]), fun c hc => absurd hc (by omega)⟩
  have L1 : ∀ q : Nat, q ≤ n - 1 → G M_X3_list 2 0 0 4 [rV 25, rV 1, iV ((bs M ^ q : Nat) : Int), iV (q : Int)] [] (WC ++ w, m) (fun r h => r = none ∧ ∃ m2, h = (WC ++ w, m2) ∧ cLPI n M K (nC n M) m m2) := by
    refine loop_up (n - 1) _ ?_
    intro q hq ih
    refine G_iload_n d_X3_list_4 rfl ?_
    refine G_aload_n d_X3_list_5 rfl ?_
    refine G_getIe (fl_X3_34.r) d_X3_list_6 (wk_1 _) rfl (hn) ?_
    refine G_iconst d_X3_list_9 ?_
    refine G_isub d_X3_list_10 ?_
    refine G_icmp_ge 31 d_X3_list_11 (by decide) (by omega) (by omega) (fun c11 => ?_) (fun c11 => ?_)
    · refine G_aload_n d_X3_list_31 rfl ?_
      refine G_iconst d_X3_list_32 ?_
      refine G_putII fl_X3_9 d_X3_list_33 (wk_25 _) rfl ?_
      refine G_iconst d_X3_list_36 ?_
      refine G_istore_n d_X3_list_37 (by decide) rfl ?_
      have hq1 : q = n - 1 := by omega
      subst hq1
      exact L2 0 (by omega) _ cLPI0
    · refine G_iload_n d_X3_list_14 rfl ?_
      refine G_iconst d_X3_list_15 ?_
      refine G_aload_n d_X3_list_16 rfl ?_
      refine G_getIe (fl_X3_39.r) d_X3_list_17 (wk_1 _) rfl (hM) ?_
      refine G_imul d_X3_list_20 ?_
      refine G_iconst d_X3_list_21 ?_
      refine G_iadd d_X3_list_22 ?_
      refine G_imul d_X3_list_23 ?_
      refine G_istore_n d_X3_list_24 (by decide) rfl ?_
      refine G_iinc d_X3_list_25 rfl (by decide) rfl ?_
      refine G_goto 4 d_X3_list_28 (by decide) ?_
      rw [hbs, ← Int.natCast_mul, ← Nat.pow_succ]
      exact ih (by omega)
  refine G_iconst d_X3_list_0 ?_
  refine G_istore_n d_X3_list_1 (by decide) rfl ?_
  refine G_iconst d_X3_list_2 ?_
  refine G_istore_n d_X3_list_3 (by decide) rfl ?_
  have h0 := L1 0 (by omega)
  rw [Nat.pow_zero] at h0
  exact h0
theorem cChg_congr {m1 m : Nat → Nat → Int} (h : m1 26 = m 26) (p k : Nat) : cChg m1 p k = cChg m p k := by unfold cChg; rw [h]
theorem cOrd_congr {m1 m : Nat → Nat → Int} (h : m1 26 = m 26) (p k : Nat) : cOrd m1 p k = cOrd m p k := by unfold cOrd; rw [h]
def wtC (m : Nat → Nat → Int) (n p : Nat) : Int := prodN (fun k => m 4 (7 * k + (cChg m p k).natAbs)) n
def slC (m : Nat → Nat → Int) (n p : Nat) : Int := sumN (fun k => cOrd m p k * m 3 k) n
def WI (n P : Nat) (m m1 : Nat → Nat → Int) : Prop := (∀ a, a ≠ 28 → a ≠ 29 → m1 a = m a) ∧ ∀ p, p < P → m1 28 p = wtC m n p ∧ m1 29 p = if slC m n p ≠ 0 then 1 else 0
theorem sumN_bnd {f : Nat → Int} {B : Int} : ∀ {n : Nat}, (∀ i, i < n → -B ≤ f i ∧ f i ≤ B) → -(n * B) ≤ sumN f n ∧ sumN f n ≤ n * B
  | 0, _ => by simp [sumN]
  | n + 1, h => by
    have h1 := sumN_bnd (n := n) (fun i hi => h i (by omega))
    have h2 := h n (by omega)
    unfold sumN
    have e : ((n + 1 : Nat) : Int) * B = n * B + B := by rw [Int.natCast_add, Int.add_mul]; omega
    rw [e]
    omega
theorem WI_step {n P : Nat} {m m1 : Nat → Nat → Int} (h : WI n P m m1) (x : Int) (hx : x = if slC m n P ≠ 0 then 1 else 0) : WI n (P + 1) m (upm (upm m1 28 P (wtC m n P)) 29 P x) := by
  refine ⟨fun a h1 h2 => by rw [upm_off _ _ h2, upm_off _ _ h1]; exact h.1 a h1 h2, fun p hp => ?_⟩
  by_cases e : p = P
  · subst e
    exact ⟨by rw [upm_off _ _ (by decide), upm_same], by rw [upm_same]; exact hx⟩
  · exact ⟨by rw [upm_off _ _ (by decide), upm_ne _ _ (fun _ => e)]; exact (h.2 p (by omega)).1, by rw [upm_ne _ _ (fun _ => e), upm_off _ _ (by decide)]; exact (h.2 p (by omega)).2⟩
theorem sp_weigh {w : List KD} {m : Nat → Nat → Int} (n cnt : Nat) (hn : m 1 0 = (n : Int)) (hc : m 25 0 = (cnt : Int)) (hn1 : 1 ≤ n ∧ n ≤ 5) (hcc : cnt ≤ 2401) (hO : ∀ p k, p < cnt → k < n → -3 ≤ cOrd m p k ∧ cOrd m p k ≤ 3) (hG : ∀ k, k < n → -9 ≤ m 3 k ∧ m 3 k ≤ 9) : Sp M_X3_weigh 1 0 0 [rV 25, rV 1] (WC ++ w, m) (fun r h => r = none ∧ ∃ m2, h = (WC ++ w, upm m2 25 1 1) ∧ WI n cnt m m2) := by
  refine Sp.ofG (ls := [rV 25, rV 1, uV, uV, uV, uV]) (by decide +kernel) rfl (Nat.le_of_ble_eq_true rfl) ?_
  have hsb : ∀ p, p < cnt → -(((n : Nat) : Int) * 27) ≤ slC m n p ∧ slC m n p ≤ ((n : Nat) : Int) * 27 := fun p hp => sumN_bnd (fun i hi => by
    have h1 := hO p i hp hi
    have h2 := hG i hi
    have e1 : cOrd m p i = -3 ∨ cOrd m p i = -2 ∨ cOrd m p i = -1 ∨ cOrd m p i = 0 ∨ cOrd m p i = 1 ∨ cOrd m p i = 2 ∨ cOrd m p i = 3 := by omega
    rcases e1 with e | e | e | e | e | e | e <;> rw [e] <;> omega)
  have hch : ∀ p k, p < cnt → k < n → -6 ≤ cChg m p k ∧ cChg m p k ≤ 6 := fun p k hp hk => by
    unfold cChg
    by_cases h0 : k = 0
    · rw [if_pos h0]
      have := hO p 0 hp (by omega)
      unfold cOrd at this
      rw [Nat.add_zero] at this
      omega
    · rw [if_neg h0]
      have h1 := hO p k hp hk
      have h2 := hO p (k - 1) hp (by omega)
      unfold cOrd at h1 h2
      rw [show 5 * p + (k - 1) = 5 * p + k - 1 by omega] at h2
      omega
  have L : ∀ p : Nat, p ≤ cnt → ∀ m1, WI n p m m1 → G M_X3_weigh 1 0 0 2 [rV 25, rV 1, iV (p : Int), uV, uV, uV] [] (WC ++ w, m1) (fun r h => r = none ∧ ∃ m2, h = (WC ++ w, upm m2 25 1 1) ∧ WI n cnt m m2) := by
    refine loop_up cnt _ ?_
    intro p hp ih m1 hI
    have e25 := hI.1 25 (by decide) (by decide)
    have e1 := hI.1 1 (by decide) (by decide)
    have e26 := hI.1 26 (by decide) (by decide)
    have e4 := hI.1 4 (by decide) (by decide)
    have e3 := hI.1 3 (by decide) (by decide)
    have L2 : p < cnt → ∀ k : Nat, k ≤ n → G M_X3_weigh 1 0 0 18 [rV 25, rV 1, iV (p : Int), iV (prodN (fun k => m 4 (7 * k + (cChg m p k).natAbs)) k), iV (sumN (fun k => cOrd m p k * m 3 k) k), iV (k : Int)] [] (WC ++ w, m1) (fun r h => r = none ∧ ∃ m2, h = (WC ++ w, upm m2 25 1 1) ∧ WI n cnt m m2) := by
      intro hpc
      refine loop_up n _ ?_
      intro k hk ih2
      have hcb := hch p k hpc
      refine G_iload d_X3_weigh_18 rfl ?_
      refine G_aload_n d_X3_weigh_20 rfl ?_
      refine G_getIe (fl_X3_34.r) d_X3_weigh_21 (wk_1 _) rfl ((congrFun e1 0).trans hn) ?_
      refine G_icmp_ge 77 d_X3_weigh_24 (by decide) (by omega) (by omega) (fun c24 => ?_) (fun c24 => ?_)
      · have hke : k = n := by omega
        subst hke
        have hs := hsb p hpc
        have hs5 : ((k : Nat) : Int) * 27 ≤ 135 := by omega
        refine G_aload_n d_X3_weigh_77 rfl ?_
        refine G_getR (r := 28) (fl_X3_27.r) d_X3_weigh_78 (wk_25 _) rfl rfl ?_
        refine G_iload_n d_X3_weigh_81 rfl ?_
        refine G_iload_n d_X3_weigh_82 rfl ?_
        refine G_iastj (p) d_X3_weigh_83 (wk_28 _) (by omega) (by omega) (by decide) ?_
        refine G_aload_n d_X3_weigh_84 rfl ?_
        refine G_getR (r := 29) (fl_X3_31.r) d_X3_weigh_85 (wk_25 _) rfl rfl ?_
        refine G_iload_n d_X3_weigh_88 rfl ?_
        refine G_iload d_X3_weigh_89 rfl ?_
        refine G_if_eq 98 d_X3_weigh_91 (by decide) (by unfold slC at hs; omega) (fun c91 => ?_) (fun c91 => ?_)
        · refine G_iconst d_X3_weigh_98 ?_
          refine G_i2bS d_X3_weigh_99 (by omega) ?_
          refine G_bastj (p) d_X3_weigh_100 (wk_29 _) (by omega) (by omega) (by decide) (by omega) ?_
          refine G_iinc d_X3_weigh_101 rfl (by decide) rfl ?_
          refine G_goto 2 d_X3_weigh_104 (by decide) ?_
          refine G.fg (ih (by omega) _ (WI_step hI 0 ?_)) ?_
          · rw [if_neg]; exact fun h => h c91
          · repeat (first | exact trivial | refine wkL_cons (Or.inl rfl) ?_ | refine wkL_cons (Or.inr rfl) ?_)
        · refine G_iconst d_X3_weigh_94 ?_
          refine G_goto 99 d_X3_weigh_95 (by decide) ?_
          refine G_i2bS d_X3_weigh_99 (by omega) ?_
          refine G_bastj (p) d_X3_weigh_100 (wk_29 _) (by omega) (by omega) (by decide) (by omega) ?_
          refine G_iinc d_X3_weigh_101 rfl (by decide) rfl ?_
          refine G_goto 2 d_X3_weigh_104 (by decide) ?_
          refine G.fg (ih (by omega) _ (WI_step hI 1 ?_)) ?_
          · rw [if_pos]; exact c91
          · repeat (first | exact trivial | refine wkL_cons (Or.inl rfl) ?_ | refine wkL_cons (Or.inr rfl) ?_)
      · refine G_iload_n d_X3_weigh_27 rfl ?_
        refine G_aload_n d_X3_weigh_28 rfl ?_
        refine G_getR (r := 4) fl_X3_63 d_X3_weigh_29 (wk_1 _) rfl rfl ?_
        refine G_iload d_X3_weigh_32 rfl ?_
        refine G_bipush d_X3_weigh_34 (by decide) ?_
        refine G_imul d_X3_weigh_36 ?_
        refine G_aload_n d_X3_weigh_37 rfl ?_
        refine G_iload_n d_X3_weigh_38 rfl ?_
        refine G_iload d_X3_weigh_39 rfl ?_
        refine G_callV2 cl_X3_64 rfl d_X3_weigh_41 (wk_25 _) (Nat.le_of_ble_eq_true rfl) (by decide) (sp_changeOf p k (by omega) (by omega)) ?_
        rintro _ _ ⟨rfl, rfl⟩
        rw [cChg_congr e26]
        have hcb := hcb (by omega)
        refine G_callS1 cl_X3_57 d_X3_weigh_44 (Nat.le_of_ble_eq_true rfl) (by decide) (sp_abs (by omega)) ?_
        rintro _ _ ⟨rfl, rfl⟩
        refine G_iadd d_X3_weigh_47 ?_
        refine G_ialdj (7 * k + (cChg m p k).natAbs) d_X3_weigh_48 (wk_4 _) (by omega) (by omega) (by decide) ?_
        rw [e4]
        refine G_imul d_X3_weigh_49 ?_
        refine G_istore_n d_X3_weigh_50 (by decide) rfl ?_
        refine G_iload d_X3_weigh_51 rfl ?_
        refine G_aload_n d_X3_weigh_53 rfl ?_
        refine G_iload_n d_X3_weigh_54 rfl ?_
        refine G_iload d_X3_weigh_55 rfl ?_
        refine G_callV2 cl_X3_50 rfl d_X3_weigh_57 (wk_25 _) (Nat.le_of_ble_eq_true rfl) (by decide) (sp_orderOf p k (by omega) (by omega)) ?_
        rintro _ _ ⟨rfl, rfl⟩
        rw [cOrd_congr e26]
        refine G_aload_n d_X3_weigh_60 rfl ?_
        refine G_getR (r := 3) fl_X3_67 d_X3_weigh_61 (wk_1 _) rfl rfl ?_
        refine G_iload d_X3_weigh_64 rfl ?_
        refine G_ialdj (k) d_X3_weigh_66 (wk_3 _) (by omega) (by omega) (by decide) ?_
        rw [e3]
        refine G_imul d_X3_weigh_67 ?_
        refine G_iadd d_X3_weigh_68 ?_
        refine G_istore d_X3_weigh_69 (by decide) rfl ?_
        refine G_iinc d_X3_weigh_71 rfl (by decide) rfl ?_
        refine G_goto 18 d_X3_weigh_74 (by decide) ?_
        exact ih2 (by omega)
    refine G_iload_n d_X3_weigh_2 rfl ?_
    refine G_aload_n d_X3_weigh_3 rfl ?_
    refine G_getIe (fl_X3_9.r) d_X3_weigh_4 (wk_25 _) rfl ((congrFun e25 0).trans hc) ?_
    refine G_icmp_ge 107 d_X3_weigh_7 (by decide) (by omega) (by omega) (fun c7 => ?_) (fun c7 => ?_)
    · refine G_aload_n d_X3_weigh_107 rfl ?_
      refine G_iconst d_X3_weigh_108 ?_
      refine G_putZ fl_X3_15 d_X3_weigh_109 (wk_25 _) rfl (by omega) ?_
      refine G_vret (mc := 0) (ms := 0) (st := []) d_X3_weigh_112 rfl ?_
      exact ⟨rfl, m1, rfl, by rw [show cnt = p by omega]; exact hI⟩
    · refine G_iconst d_X3_weigh_10 ?_
      refine G_istore_n d_X3_weigh_11 (by decide) rfl ?_
      refine G_iconst d_X3_weigh_12 ?_
      refine G_istore d_X3_weigh_13 (by decide) rfl ?_
      refine G_iconst d_X3_weigh_15 ?_
      refine G_istore d_X3_weigh_16 (by decide) rfl ?_
      exact L2 (by omega) 0 (by omega)
  refine G_iconst d_X3_weigh_0 ?_
  refine G_istore_n d_X3_weigh_1 (by decide) rfl ?_
  exact L 0 (by omega) m ⟨fun _ _ _ => rfl, fun p hp => absurd hp (by omega)⟩
