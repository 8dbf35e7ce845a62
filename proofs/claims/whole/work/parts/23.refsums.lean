theorem G_lcmpz {M : MD} {d mc ms pc : Nat} {ls st : List PV} {w : List KD} {m : Nat → Nat → Int} {Q : Ps} {x y : Int} (hd : decode M.2.1 pc = .ok (.lcmp, 1)) (k : G M d mc ms (pc + 1) ls (iV (lg_cmp (Int64.ofInt x) (Int64.ofInt y)).toInt :: st) (w, m) Q) : G M d mc ms pc ls (lV y :: lV x :: st) (w, m) Q :=
  G_lcmp _ hd (oi_eta _).symm k
theorem lcz_0 {a b : Int64} : (lg_cmp a b).toInt = 0 ↔ a = b := by
  unfold lg_cmp
  by_cases h1 : a > b
  · rw [if_pos h1]
    refine ⟨fun h => absurd h (by decide), fun h => ?_⟩
    subst h
    have := Int64.lt_iff_toInt_lt.mp h1
    omega
  · rw [if_neg h1]
    by_cases h2 : a = b
    · rw [if_pos h2]
      exact ⟨fun _ => h2, fun _ => rfl⟩
    · rw [if_neg h2]
      exact ⟨fun h => absurd h (by decide), fun h => absurd h h2⟩
theorem absb {x y A B : Int} (h1 : -A ≤ x ∧ x ≤ A) (h2 : -B ≤ y ∧ y ≤ B) : -(A * B) ≤ x * y ∧ x * y ≤ A * B := by
  have e1 : x.natAbs ≤ A.natAbs := by omega
  have e2 : y.natAbs ≤ B.natAbs := by omega
  have e3 := Nat.mul_le_mul e1 e2
  rw [← Int.natAbs_mul, ← Int.natAbs_mul] at e3
  have e4 : 0 ≤ A * B := Int.mul_nonneg (by omega) (by omega)
  omega
theorem btL_rng {T k a : Nat} : ∀ l : List (Nat × Int), (∀ q ∈ l, -1 ≤ q.2 ∧ q.2 ≤ 1) → -(l.length : Int) ≤ btL T k a l ∧ btL T k a l ≤ l.length
  | [], _ => by simp [btL]
  | q :: l, h => by
    have h1 := btL_rng (T := T) (k := k) (a := a) l (fun q hq => h q (List.mem_cons_of_mem _ hq))
    have h2 := h q List.mem_cons_self
    unfold btL
    rw [List.length_cons]
    by_cases c : (k + q.1) % T = a
    · rw [if_pos c]; omega
    · rw [if_neg c]; omega
theorem Bf_rng {T : Nat} (h1 : 2 ≤ T) (h2 : T ≤ 48) {f : Nat → Int} (hf : ∀ r, r < T → 0 ≤ f r ∧ f r ≤ 512) (a : Nat) : -200000 ≤ Bf T f a ∧ Bf T f a ≤ 200000 := by
  obtain ⟨-, -, -, -, -, g6, g7, -⟩ := c3_facts h1 h2
  have h3 := sumN_bnd (f := fun k => f k * bt T k a) (B := 4096) (n := T) (fun k hk => by
    have h4 := hf k hk
    have h5 := btL_rng (T := T) (k := k) (a := a) (shL.getD T []) (fun q hq => (g6 q hq).2)
    have h6 := absb (x := f k) (y := bt T k a) (A := 512) (B := 8) (by omega) (by unfold bt; omega)
    omega)
  unfold Bf
  omega
/-- the reference's polynomial of T -/
def PRI (T : Nat) (m : Nat → Nat → Int) : Prop := m 64 16 = (degF T : Int) ∧ ∀ j, j ≤ degF T → m 72 j = cycF T j
def LI (T k : Nat) (f L : Nat → Int) (m : Nat → Nat → Int) : Prop := (∀ j, j < T → Int64.ofInt (m 73 j) = Int64.ofInt (L j)) ∧ (∀ a, a < T → Bf T L a = Bf T f a) ∧ ∀ j, k ≤ j → j < T → L j = 0
theorem cntB_le (f : Nat → Bool) : ∀ n : Nat, cntB f n ≤ n
  | 0 => Nat.le_refl _
  | n + 1 => by
    have := cntB_le f n
    unfold cntB
    by_cases h : f n = true
    · rw [if_pos h]; omega
    · rw [if_neg h]; omega
def redM (m : Nat → Nat → Int) (T k i : Nat) : Nat → Nat → Int := fun a j => if a = 73 ∧ k - degF T ≤ j ∧ j < k - degF T + i then m 73 j - m 73 k * cycF T (j - (k - degF T)) else m a j
theorem redM_0 (m : Nat → Nat → Int) (T k : Nat) : redM m T k 0 = m := by
  funext a j
  unfold redM
  rw [if_neg (by omega)]
theorem redM_step (m : Nat → Nat → Int) (T k i : Nat) : upm (redM m T k i) 73 (k - degF T + i) (m 73 (k - degF T + i) - m 73 k * cycF T i) = redM m T k (i + 1) := by
  funext a j
  unfold upm redM
  by_cases h : a = 73 ∧ j = k - degF T + i
  · rw [if_pos h, if_pos (by omega), h.2, show k - degF T + i - (k - degF T) = i by omega]
  · rw [if_neg h]
    by_cases h2 : a = 73 ∧ k - degF T ≤ j ∧ j < k - degF T + i
    · rw [if_pos h2, if_pos (by omega)]
    · rw [if_neg h2, if_neg (by omega)]
theorem redM_off (m : Nat → Nat → Int) {T k i a : Nat} (h : a ≠ 73) : redM m T k i a = m a := by
  funext j
  unfold redM
  rw [if_neg (by omega)]
theorem LI_skip {T k : Nat} {f L : Nat → Int} {m : Nat → Nat → Int} (h1 : 2 ≤ T) (h2 : T ≤ 48) (hk : degF T ≤ k) (hk2 : k < T) (h : LI T (k + 1) f L m) (h0 : Int64.ofInt (m 73 k) = Int64.ofInt 0) : LI T k f (redS T k L) m := by
  obtain ⟨g1, g2, g3, -, -, -, -, -⟩ := c3_facts h1 h2
  obtain ⟨a1, a2, a3⟩ := h
  have hk0 := a1 k hk2
  refine ⟨fun j hj => ?_, fun a ha => by rw [Bf_redS h1 h2 hk hk2 L a ha]; exact a2 a ha, fun j hj hj2 => ?_⟩
  · unfold redS
    by_cases c : k - degF T ≤ j ∧ j ≤ k
    · rw [if_pos c, Int64.ofInt_sub, Int64.ofInt_mul, ← hk0, h0, a1 j hj]
      have : Int64.ofInt 0 = 0 := rfl
      rw [this, Int64.zero_mul, Int64.sub_zero]
    · rw [if_neg c]; exact a1 j hj
  · unfold redS
    by_cases e : j = k
    · subst e
      rw [if_pos (by omega), show j - (j - degF T) = degF T by omega, g3, Int.mul_one]
      omega
    · rw [if_neg (by omega)]
      exact a3 j (by omega) hj2
theorem LI_step {T k : Nat} {f L : Nat → Int} {m : Nat → Nat → Int} (h1 : 2 ≤ T) (h2 : T ≤ 48) (hk : degF T ≤ k) (hk2 : k < T) (h : LI T (k + 1) f L m) : LI T k f (redS T k L) (redM m T k (degF T + 1)) := by
  obtain ⟨g1, g2, g3, -, -, -, -, -⟩ := c3_facts h1 h2
  obtain ⟨a1, a2, a3⟩ := h
  have hk0 := a1 k hk2
  refine ⟨fun j hj => ?_, fun a ha => by rw [Bf_redS h1 h2 hk hk2 L a ha]; exact a2 a ha, fun j hj hj2 => ?_⟩
  · unfold redS redM
    by_cases c : k - degF T ≤ j ∧ j ≤ k
    · rw [if_pos c, if_pos (by omega), Int64.ofInt_sub, Int64.ofInt_sub, Int64.ofInt_mul, Int64.ofInt_mul, hk0, a1 j hj]
    · rw [if_neg c, if_neg (by omega)]; exact a1 j hj
  · unfold redS
    by_cases e : j = k
    · subst e
      rw [if_pos (by omega), show j - (j - degF T) = degF T by omega, g3, Int.mul_one]
      omega
    · rw [if_neg (by omega)]
      exact a3 j (by omega) hj2
/-- at the end the lower places, as the machine holds them, are 0 just if what the class keeps is 0 -/
theorem LI_end {T : Nat} {f L : Nat → Int} {m : Nat → Nat → Int} (h1 : 2 ≤ T) (h2 : T ≤ 48) (hf : ∀ r, r < T → 0 ≤ f r ∧ f r ≤ 512) (h : LI T (degF T) f L m) : (∀ j, j < degF T → Int64.ofInt (m 73 j) = Int64.ofInt 0) ↔ ∀ a, a < T → Bf T f a = 0 := by
  obtain ⟨g1, g2, g3, g4, g5, -, -, -⟩ := c3_facts h1 h2
  obtain ⟨a1, a2, a3⟩ := h
  have hlow := fun j hj => Bf_low h1 h2 L a3 j hj
  have hbd : ∀ j, j < degF T → -9223372036854775808 ≤ L j ∧ L j < 9223372036854775808 := fun j hj => by
    have h3 := sumN_bnd (f := fun a => Bf T L a * sF T a j) (B := 2000000000) (n := T) (fun a ha => by
      have h4 := Bf_rng h1 h2 hf a
      rw [← a2 a ha] at h4
      have h6 := absb (x := Bf T L a) (y := sF T a j) (A := 200000) (B := 10000) (by omega) (by have := g5 a ha j hj; omega)
      omega)
    rw [← hlow j hj] at h3
    have h5 : (L j).natAbs ≤ (mF T * L j).natAbs := by
      rw [Int.natAbs_mul]
      exact Nat.le_mul_of_pos_left _ (by omega)
    omega
  constructor
  · intro h0 a ha
    have hz : ∀ j, j < T → L j = 0 := fun j hj => by
      by_cases e : j < degF T
      · have h3 := (a1 j hj).symm.trans (h0 j e)
        have h4 := congrArg Int64.toInt h3
        rw [oj_toInt (hbd j e), oj_toInt (by decide)] at h4
        exact h4
      · exact a3 j (by omega) hj
    rw [← a2 a ha]
    exact sumN_zero (fun k hk => by rw [hz k hk, Int.zero_mul])
  · intro h0 j hj
    rw [a1 j (by omega)]
    congr 1
    have h3 := hlow j hj
    rw [sumN_zero (fun a ha => by rw [a2 a ha, h0 a ha, Int.zero_mul])] at h3
    rcases Int.mul_eq_zero.mp h3 with h4 | h4
    · omega
    · exact h4
theorem sp_MisNothing {w : List KD} {m : Nat → Nat → Int} (s : Nat → Int) (hV : VS s) (hO : MO s m) (f : Nat → Int) (hR : PRI (pT s) m) (hc : CN f m) (hf : ∀ r, r < pT s → 0 ≤ f r ∧ f r ≤ 512) : Sp M_X10_isNothing 1 0 0 [rV 64] (WC ++ (WM ++ w), m) (fun r h => r = some (iV (if allN (fun a => Bf (pT s) f a == 0) (pT s) = true then 1 else 0)) ∧ ∃ m2, h = (WC ++ (WM ++ w), m2) ∧ ∀ a, a ≠ 73 → m2 a = m a) := by
  refine Sp.ofG (ls := [rV 64, uV, uV, uV, uV, uV]) (by decide +kernel) rfl (Nat.le_of_ble_eq_true rfl) ?_
  have hT := hV.T
  obtain ⟨gd1, gd2, -, -, -, -, -, -⟩ := c3_facts hT.1 hT.2.1
  have L4 : ∀ k : Nat, k ≤ degF (pT s) → ∀ L m1, (∀ a, a ≠ 73 → m1 a = m a) → LI (pT s) (degF (pT s)) f L m1 → (∀ j, j < k → Int64.ofInt (m1 73 j) = Int64.ofInt 0) → G M_X10_isNothing 1 0 0 123 [rV 64, iV (pT s : Int), iV (k : Int), uV, uV, uV] [] (WC ++ (WM ++ w), m1) (fun r h => r = some (iV (if allN (fun a => Bf (pT s) f a == 0) (pT s) = true then 1 else 0)) ∧ ∃ m2, h = (WC ++ (WM ++ w), m2) ∧ ∀ a, a ≠ 73 → m2 a = m a) := by
    refine loop_up (degF (pT s)) _ ?_
    intro k hk ih L m1 hm hL hz
    refine G_iload_n d_X10_isNothing_123 rfl ?_
    refine G_aload_n d_X10_isNothing_124 rfl ?_
    refine G_getIe (fl_X10_224.r) d_X10_isNothing_125 (wk_64 _) rfl ((congrFun (hm 64 (by decide)) 16).trans hR.1) ?_
    refine G_icmp_ge 150 d_X10_isNothing_128 (by decide) (by omega) (by omega) (fun c128 => ?_) (fun c128 => ?_)
    · refine G_iconst d_X10_isNothing_150 ?_
      refine G_zret (mc := 0) (ms := 0) (st := []) d_X10_isNothing_151 rfl (by omega) ?_
      refine ⟨?_, m1, rfl, hm⟩
      rw [if_pos]
      have h9 := (LI_end hT.1 hT.2.1 hf hL).mp (fun j hj => hz j (by omega))
      exact allN_true (fun a ha => by simpa using h9 a ha)
    · refine G_aload_n d_X10_isNothing_131 rfl ?_
      refine G_getR (r := 73) (fl_X10_64.r) d_X10_isNothing_132 (wk_64 _) rfl rfl ?_
      refine G_iload_n d_X10_isNothing_135 rfl ?_
      refine G_laldj (k) d_X10_isNothing_136 (wk_73 _) (by omega) (by omega) (by decide) ?_
      refine G_lconst d_X10_isNothing_137 ?_
      refine G_lcmpz d_X10_isNothing_138 ?_
      refine G_if_eq 144 d_X10_isNothing_139 (by decide) (by exact oi_rng _) (fun c139 => ?_) (fun c139 => ?_)
      · refine G_iinc d_X10_isNothing_144 rfl (by decide) rfl ?_
        refine G_goto 123 d_X10_isNothing_147 (by decide) ?_
        exact G.fg (ih (by omega) L m1 hm hL (fun j hj => by
          by_cases e : j = k
          · subst e; exact lcz_0.mp c139
          · exact hz j (by omega))) (by
          repeat (first | exact trivial | refine wkL_cons (Or.inl rfl) ?_ | refine wkL_cons (Or.inr rfl) ?_))
      · refine G_iconst d_X10_isNothing_142 ?_
        refine G_zret (mc := 0) (ms := 0) (st := []) d_X10_isNothing_143 rfl (by omega) ?_
        refine ⟨?_, m1, rfl, hm⟩
        rw [if_neg]
        intro hv
        have h9 := (LI_end hT.1 hT.2.1 hf hL).mpr (fun a ha => by have := allN_of hv a ha; simpa using this)
        exact c139 (lcz_0.mpr (h9 k (by omega)))
  have L3 : ∀ k, degF (pT s) ≤ k → k < pT s → (∀ m1, (∀ a, a ≠ 73 → m1 a = m a) → (∃ L, LI (pT s) k f L m1) → G M_X10_isNothing 1 0 0 35 [rV 64, iV (pT s : Int), iV ((k : Int) - 1), uV, uV, uV] [] (WC ++ (WM ++ w), m1) (fun r h => r = some (iV (if allN (fun a => Bf (pT s) f a == 0) (pT s) = true then 1 else 0)) ∧ ∃ m2, h = (WC ++ (WM ++ w), m2) ∧ ∀ a, a ≠ 73 → m2 a = m a)) → ∀ L m1, (∀ a, a ≠ 73 → m1 a = m a) → LI (pT s) (k + 1) f L m1 → ∀ i, i ≤ degF (pT s) + 1 → G M_X10_isNothing 1 0 0 62 [rV 64, iV (pT s : Int), iV (k : Int), lV (m1 73 k), uV, iV (i : Int)] [] (WC ++ (WM ++ w), redM m1 (pT s) k i) (fun r h => r = some (iV (if allN (fun a => Bf (pT s) f a == 0) (pT s) = true then 1 else 0)) ∧ ∃ m2, h = (WC ++ (WM ++ w), m2) ∧ ∀ a, a ≠ 73 → m2 a = m a) := by
    intro k hk1 hk2 hnext L m1 hm hL
    refine loop_up (degF (pT s) + 1) _ ?_
    intro i hi ih
    refine G_iload d_X10_isNothing_62 rfl ?_
    refine G_aload_n d_X10_isNothing_64 rfl ?_
    refine G_getIe (v := (degF (pT s) : Int)) (fl_X10_224.r) d_X10_isNothing_65 (wk_64 _) rfl (by rw [redM_off _ (by decide)]; exact (congrFun (hm 64 (by decide)) 16).trans hR.1) ?_
    refine G_icmp_gt 115 d_X10_isNothing_68 (by decide) (by omega) (by omega) (fun c68 => ?_) (fun c68 => ?_)
    · have hie : i = degF (pT s) + 1 := by omega
      subst hie
      refine G_iinc d_X10_isNothing_115 rfl (by decide) rfl ?_
      refine G_goto 35 d_X10_isNothing_118 (by decide) ?_
      refine G.fg (hnext _ (fun a ha => by rw [redM_off _ ha]; exact hm a ha) ⟨_, LI_step hT.1 hT.2.1 hk1 hk2 hL⟩) ?_
      repeat (first | exact trivial | refine wkL_cons (Or.inl rfl) ?_ | refine wkL_cons (Or.inr rfl) ?_)
    · refine G_aload_n d_X10_isNothing_71 rfl ?_
      refine G_getR (r := 73) (fl_X10_64.r) d_X10_isNothing_72 (wk_64 _) rfl rfl ?_
      refine G_iload_n d_X10_isNothing_75 rfl ?_
      refine G_aload_n d_X10_isNothing_76 rfl ?_
      refine G_getIe (v := (degF (pT s) : Int)) (fl_X10_224.r) d_X10_isNothing_77 (wk_64 _) rfl (by rw [redM_off _ (by decide)]; exact (congrFun (hm 64 (by decide)) 16).trans hR.1) ?_
      refine G_isub d_X10_isNothing_80 ?_
      refine G_iload d_X10_isNothing_81 rfl ?_
      refine G_iadd d_X10_isNothing_83 ?_
      refine G_aload_n d_X10_isNothing_84 rfl ?_
      refine G_getR (r := 73) (fl_X10_64.r) d_X10_isNothing_85 (wk_64 _) rfl rfl ?_
      refine G_iload_n d_X10_isNothing_88 rfl ?_
      refine G_aload_n d_X10_isNothing_89 rfl ?_
      refine G_getIe (v := (degF (pT s) : Int)) (fl_X10_224.r) d_X10_isNothing_90 (wk_64 _) rfl (by rw [redM_off _ (by decide)]; exact (congrFun (hm 64 (by decide)) 16).trans hR.1) ?_
      refine G_isub d_X10_isNothing_93 ?_
      refine G_iload d_X10_isNothing_94 rfl ?_
      refine G_iadd d_X10_isNothing_96 ?_
      refine G_laldj (k - degF (pT s) + i) d_X10_isNothing_97 (wk_73 _) (by omega) (by omega) (by decide) ?_
      rw [show redM m1 (pT s) k i 73 (k - degF (pT s) + i) = m1 73 (k - degF (pT s) + i) by unfold redM; rw [if_neg (by omega)]]
      refine G_lload_n d_X10_isNothing_98 rfl ?_
      refine G_aload_n d_X10_isNothing_99 rfl ?_
      refine G_getR (r := 72) (fl_X10_60.r) d_X10_isNothing_100 (wk_64 _) rfl rfl ?_
      refine G_iload d_X10_isNothing_103 rfl ?_
      refine G_laldj (i) d_X10_isNothing_105 (wk_72 _) (by omega) (by omega) (by decide) ?_
      rw [show redM m1 (pT s) k i 72 i = cycF (pT s) i by rw [redM_off _ (by decide), hm 72 (by decide)]; exact hR.2 i (by omega)]
      refine G_lmul d_X10_isNothing_106 ?_
      refine G_lsub d_X10_isNothing_107 ?_
      refine G_lastj (k - degF (pT s) + i) d_X10_isNothing_108 (wk_73 _) (by omega) (by omega) (by decide) ?_
      refine G_iinc d_X10_isNothing_109 rfl (by decide) rfl ?_
      refine G_goto 62 d_X10_isNothing_112 (by decide) ?_
      rw [redM_step]
      exact ih (by omega)
  have L2 : ∀ q : Nat, q ≤ pT s - degF (pT s) → ∀ m1, (∀ a, a ≠ 73 → m1 a = m a) → (∃ L, LI (pT s) (degF (pT s) + q) f L m1) → G M_X10_isNothing 1 0 0 35 [rV 64, iV (pT s : Int), iV ((degF (pT s) + q : Nat) - 1 : Int), uV, uV, uV] [] (WC ++ (WM ++ w), m1) (fun r h => r = some (iV (if allN (fun a => Bf (pT s) f a == 0) (pT s) = true then 1 else 0)) ∧ ∃ m2, h = (WC ++ (WM ++ w), m2) ∧ ∀ a, a ≠ 73 → m2 a = m a) := by
    refine loop_down _ ?_
    intro q ih hq m1 hm hLe
    obtain ⟨L, hL⟩ := hLe
    have hdr : ((degF (pT s) + q : Nat) : Int) = (degF (pT s) : Int) + q := by omega
    rw [hdr]
    refine G_iload_n d_X10_isNothing_35 rfl ?_
    refine G_aload_n d_X10_isNothing_36 rfl ?_
    refine G_getIe (fl_X10_224.r) d_X10_isNothing_37 (wk_64 _) rfl ((congrFun (hm 64 (by decide)) 16).trans hR.1) ?_
    refine G_icmp_lt 121 d_X10_isNothing_40 (by decide) (by omega) (by omega) (fun c40 => ?_) (fun c40 => ?_)
    · have hq0 : q = 0 := by omega
      subst hq0
      rw [Nat.add_zero] at hL
      refine G_iconst d_X10_isNothing_121 ?_
      refine G_istore_n d_X10_isNothing_122 (by decide) rfl ?_
      exact G.fg (L4 0 (by omega) L m1 hm hL (fun j hj => absurd hj (by omega))) (by
        repeat (first | exact trivial | refine wkL_cons (Or.inl rfl) ?_ | refine wkL_cons (Or.inr rfl) ?_))
    · obtain ⟨q2, rfl⟩ : ∃ q2, q = q2 + 1 := ⟨q - 1, by omega⟩
      rw [show (degF (pT s) : Int) + ((q2 + 1 : Nat) : Int) - 1 = ((degF (pT s) + q2 : Nat) : Int) by omega]
      have hnext := ih q2 rfl (by omega)
      refine G_aload_n d_X10_isNothing_43 rfl ?_
      refine G_getR (r := 73) (fl_X10_64.r) d_X10_isNothing_44 (wk_64 _) rfl rfl ?_
      refine G_iload_n d_X10_isNothing_47 rfl ?_
      refine G_laldj (degF (pT s) + q2) d_X10_isNothing_48 (wk_73 _) (by omega) (by omega) (by decide) ?_
      refine G_lstore_n d_X10_isNothing_49 (by decide) rfl ?_
      refine G_lload_n d_X10_isNothing_50 rfl ?_
      refine G_lconst d_X10_isNothing_51 ?_
      refine G_lcmpz d_X10_isNothing_52 ?_
      refine G_if_ne 59 d_X10_isNothing_53 (by decide) (by exact oi_rng _) (fun c53 => ?_) (fun c53 => ?_)
      · refine G_iconst d_X10_isNothing_59 ?_
        refine G_istore d_X10_isNothing_60 (by decide) rfl ?_
        have h3 := L3 (degF (pT s) + q2) (by omega) (by omega) hnext L m1 hm hL 0 (by omega)
        rw [redM_0] at h3
        exact h3
      · refine G_goto 115 d_X10_isNothing_56 (by decide) ?_
        refine G_iinc d_X10_isNothing_115 rfl (by decide) rfl ?_
        refine G_goto 35 d_X10_isNothing_118 (by decide) ?_
        refine G.fg (hnext m1 hm ⟨_, LI_skip hT.1 hT.2.1 (by omega) (by omega) hL (lcz_0.mp c53)⟩) ?_
        repeat (first | exact trivial | refine wkL_cons (Or.inl rfl) ?_ | refine wkL_cons (Or.inr rfl) ?_)
  have L1 : ∀ k : Nat, k ≤ pT s → ∀ m1, (∀ a, a ≠ 73 → m1 a = m a) → (∀ j, j < k → m1 73 j = f j) → G M_X10_isNothing 1 0 0 7 [rV 64, iV (pT s : Int), iV (k : Int), uV, uV, uV] [] (WC ++ (WM ++ w), m1) (fun r h => r = some (iV (if allN (fun a => Bf (pT s) f a == 0) (pT s) = true then 1 else 0)) ∧ ∃ m2, h = (WC ++ (WM ++ w), m2) ∧ ∀ a, a ≠ 73 → m2 a = m a) := by
    refine loop_up (pT s) _ ?_
    intro k hk ih m1 hm hz
    refine G_iload_n d_X10_isNothing_7 rfl ?_
    refine G_iload_n d_X10_isNothing_8 rfl ?_
    refine G_icmp_ge 31 d_X10_isNothing_9 (by decide) (by omega) (by omega) (fun c9 => ?_) (fun c9 => ?_)
    · refine G_iload_n d_X10_isNothing_31 rfl ?_
      refine G_iconst d_X10_isNothing_32 ?_
      refine G_isub d_X10_isNothing_33 ?_
      refine G_istore_n d_X10_isNothing_34 (by decide) rfl ?_
      have hke : k = pT s := by omega
      subst hke
      refine G.fg (L2 (pT s - degF (pT s)) (Nat.le_refl _) m1 hm ⟨f, fun j hj => by rw [hz j hj], fun _ _ => rfl, fun j h1 h2 => absurd h1 (by omega)⟩) ?_
      rw [show ((degF (pT s) + (pT s - degF (pT s)) : Nat) : Int) - 1 = (pT s : Int) - 1 by omega]
      repeat (first | exact trivial | refine wkL_cons (Or.inl rfl) ?_ | refine wkL_cons (Or.inr rfl) ?_)
    · refine G_aload_n d_X10_isNothing_12 rfl ?_
      refine G_getR (r := 73) (fl_X10_64.r) d_X10_isNothing_13 (wk_64 _) rfl rfl ?_
      refine G_iload_n d_X10_isNothing_16 rfl ?_
      refine G_aload_n d_X10_isNothing_17 rfl ?_
      refine G_getR (r := 71) (fl_X10_57.r) d_X10_isNothing_18 (wk_64 _) rfl rfl ?_
      refine G_iload_n d_X10_isNothing_21 rfl ?_
      refine G_ialdj (k) d_X10_isNothing_22 (wk_71 _) (by omega) (by omega) (by decide) ?_
      rw [show m1 71 k = f k by rw [hm 71 (by decide)]; exact hc k (by omega)]
      have hfk := hf k (by omega)
      refine G_i2l d_X10_isNothing_23 (by omega) ?_
      refine G_lastj (k) d_X10_isNothing_24 (wk_73 _) (by omega) (by omega) (by decide) ?_
      refine G_iinc d_X10_isNothing_25 rfl (by decide) rfl ?_
      refine G_goto 7 d_X10_isNothing_28 (by decide) ?_
      exact ih (by omega) _ (fun a ha => by rw [upm_off _ _ ha]; exact hm a ha) (fun j hj => by
        by_cases e : j = k
        · rw [e, upm_same]
        · rw [upm_ne _ _ (fun _ => e)]; exact hz j (by omega))
  refine G_aload_n d_X10_isNothing_0 rfl ?_
  refine G_callV0 cl_X10_148 rfl d_X10_isNothing_1 (wk_64 _) (Nat.le_of_ble_eq_true rfl) (by decide) (sp_Mt s hV hO) ?_
  rintro _ _ ⟨rfl, rfl⟩
  refine G_istore_n d_X10_isNothing_4 (by decide) rfl ?_
  refine G_iconst d_X10_isNothing_5 ?_
  refine G_istore_n d_X10_isNothing_6 (by decide) rfl ?_
  exact L1 0 (by omega) m (fun _ _ => rfl) (fun j hj => absurd hj (by omega))
theorem sp_MisOneAlone {w : List KD} {m : Nat → Nat → Int} (s : Nat → Int) (hV : VS s) (hO : MO s m) (f : Nat → Int) (hc : CN f m) (hf : ∀ r, r < pT s → 0 ≤ f r ∧ f r ≤ 512) : Sp M_X10_isOneAlone 1 0 0 [rV 64] (WC ++ (WM ++ w), m) (fun r h => r = some (iV (if cntB (fun r => decide (f r > 0)) (pT s) = 1 then 1 else 0)) ∧ h = (WC ++ (WM ++ w), m)) := by
  refine Sp.ofG (ls := [rV 64, uV, uV]) (by decide +kernel) rfl (Nat.le_of_ble_eq_true rfl) ?_
  have hT := hV.T
  have L : ∀ k : Nat, k ≤ pT s → G M_X10_isOneAlone 1 0 0 4 [rV 64, iV (cntB (fun r => decide (f r > 0)) k : Nat), iV (k : Int)] [] (WC ++ (WM ++ w), m) (fun r h => r = some (iV (if cntB (fun r => decide (f r > 0)) (pT s) = 1 then 1 else 0)) ∧ h = (WC ++ (WM ++ w), m)) := by
    refine loop_up (pT s) _ ?_
    intro k hk ih
    refine G_iload_n d_X10_isOneAlone_4 rfl ?_
    refine G_aload_n d_X10_isOneAlone_5 rfl ?_
    refine G_callV0 cl_X10_148 rfl d_X10_isOneAlone_6 (wk_64 _) (Nat.le_of_ble_eq_true rfl) (by decide) (sp_Mt s hV hO) ?_
    rintro _ _ ⟨rfl, rfl⟩
    refine G_icmp_ge 31 d_X10_isOneAlone_9 (by decide) (by omega) (by omega) (fun c9 => ?_) (fun c9 => ?_)
    · have hke : k = pT s := by omega
      subst hke
      have hcl := cntB_le (fun r => decide (f r > 0)) (pT s)
      refine G_iload_n d_X10_isOneAlone_31 rfl ?_
      refine G_iconst d_X10_isOneAlone_32 ?_
      refine G_icmp_ne 40 d_X10_isOneAlone_33 (by decide) (by omega) (by omega) (fun c33 => ?_) (fun c33 => ?_)
      · refine G_iconst d_X10_isOneAlone_40 ?_
        refine G_zret (mc := 0) (ms := 0) (st := []) d_X10_isOneAlone_41 rfl (by omega) ?_
        exact ⟨by rw [if_neg (by omega)], rfl⟩
      · refine G_iconst d_X10_isOneAlone_36 ?_
        refine G_goto 41 d_X10_isOneAlone_37 (by decide) ?_
        refine G_zret (mc := 0) (ms := 0) (st := []) d_X10_isOneAlone_41 rfl (by omega) ?_
        exact ⟨by rw [if_pos (by omega)], rfl⟩
    · refine G_aload_n d_X10_isOneAlone_12 rfl ?_
      refine G_getR (r := 71) (fl_X10_57.r) d_X10_isOneAlone_13 (wk_64 _) rfl rfl ?_
      refine G_iload_n d_X10_isOneAlone_16 rfl ?_
      refine G_ialdj (k) d_X10_isOneAlone_17 (wk_71 _) (by omega) (by omega) (by decide) ?_
      rw [show m 71 k = f k from hc k (by omega)]
      have hfk := hf k (by omega)
      refine G_if_le 25 d_X10_isOneAlone_18 (by decide) (by omega) (fun c18 => ?_) (fun c18 => ?_)
      · refine G_iinc d_X10_isOneAlone_25 rfl (by decide) rfl ?_
        refine G_goto 4 d_X10_isOneAlone_28 (by decide) ?_
        rw [cntB_f (f := fun r => decide (f r > 0)) (by simpa using c18)] at ih
        exact ih (by omega)
      · refine G_iload_n d_X10_isOneAlone_21 rfl ?_
        refine G_iconst d_X10_isOneAlone_22 ?_
        refine G_iadd d_X10_isOneAlone_23 ?_
        refine G_istore_n d_X10_isOneAlone_24 (by decide) rfl ?_
        refine G_iinc d_X10_isOneAlone_25 rfl (by decide) rfl ?_
        refine G_goto 4 d_X10_isOneAlone_28 (by decide) ?_
        rw [cntB_t (f := fun r => decide (f r > 0)) (by simpa using c18)] at ih
        exact ih (by omega)
  refine G_iconst d_X10_isOneAlone_0 ?_
  refine G_istore_n d_X10_isOneAlone_1 (by decide) rfl ?_
  refine G_iconst d_X10_isOneAlone_2 ?_
  refine G_istore_n d_X10_isOneAlone_3 (by decide) rfl ?_
  exact L 0 (by omega)
theorem sp_MstateNow {w : List KD} {m : Nat → Nat → Int} (s : Nat → Int) (hV : VS s) (hO : MO s m) (f : Nat → Int) (hR : PRI (pT s) m) (hc : CN f m) (hf : ∀ r, r < pT s → 0 ≤ f r ∧ f r ≤ 512) : Sp M_X10_stateNow 2 0 0 [rV 64] (WC ++ (WM ++ w), m) (fun r h => r = some (iV (stB (pT s) f)) ∧ ∃ m2, h = (WC ++ (WM ++ w), m2) ∧ ∀ a, a ≠ 73 → m2 a = m a) := by
  refine Sp.ofG (ls := [rV 64]) (by decide +kernel) rfl (Nat.le_of_ble_eq_true rfl) ?_
  refine G_aload_n d_X10_stateNow_0 rfl ?_
  refine G_callV0 cl_X10_227 rfl d_X10_stateNow_1 (wk_64 _) (Nat.le_of_ble_eq_true rfl) (by decide) (sp_MisNothing s hV hO f hR hc hf) ?_
  rintro _ _ ⟨rfl, m1, rfl, hm1⟩
  by_cases hn : allN (fun a => Bf (pT s) f a == 0) (pT s) = true
  · rw [if_pos hn]
    refine G_if_eq 11 d_X10_stateNow_4 (by decide) (by decide) (fun hd => absurd hd (by decide)) (fun _ => ?_)
    refine G_iconst d_X10_stateNow_7 ?_
    refine G_goto 23 d_X10_stateNow_8 (by decide) ?_
    refine G_iret (mc := 0) (ms := 0) (st := []) d_X10_stateNow_23 rfl ?_
    exact ⟨by unfold stB; rw [if_pos hn], m1, rfl, hm1⟩
  · rw [if_neg hn]
    refine G_if_eq 11 d_X10_stateNow_4 (by decide) (by decide) (fun _ => ?_) (fun hd => absurd hd (by decide))
    refine G_aload_n d_X10_stateNow_11 rfl ?_
    refine G_callV0 cl_X10_230 rfl d_X10_stateNow_12 (wk_64 _) (Nat.le_of_ble_eq_true rfl) (by decide) (sp_MisOneAlone s hV (fun j hj => (congrFun (hm1 65 (by decide)) j).trans (hO j hj)) f (fun r hr => (congrFun (hm1 71 (by decide)) r).trans (hc r hr)) hf) ?_
    rintro _ _ ⟨rfl, rfl⟩
    by_cases h1 : cntB (fun r => decide (f r > 0)) (pT s) = 1
    · rw [if_pos h1]
      refine G_if_eq 22 d_X10_stateNow_15 (by decide) (by decide) (fun hd => absurd hd (by decide)) (fun _ => ?_)
      refine G_iconst d_X10_stateNow_18 ?_
      refine G_goto 23 d_X10_stateNow_19 (by decide) ?_
      refine G_iret (mc := 0) (ms := 0) (st := []) d_X10_stateNow_23 rfl ?_
      exact ⟨by unfold stB; rw [if_neg hn, if_pos h1], m1, rfl, hm1⟩
    · rw [if_neg h1]
      refine G_if_eq 22 d_X10_stateNow_15 (by decide) (by decide) (fun _ => ?_) (fun hd => absurd hd (by decide))
      refine G_iconst d_X10_stateNow_22 ?_
      refine G_iret (mc := 0) (ms := 0) (st := []) d_X10_stateNow_23 rfl ?_
      exact ⟨by unfold stB; rw [if_neg hn, if_neg h1], m1, rfl, hm1⟩
