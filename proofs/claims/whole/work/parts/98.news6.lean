theorem WC_len : WC.length = 64 := rfl
def iniR (m : Nat → Nat → Int) : Nat → Nat → Int := (zer (zer (zer (zer (zer (zer (zer (zer (zer (zer (zer (zer (zer (zer (zer (zer (upm (zer (zer (zer m (64 + 1)) (64 + 2)) (64 + 3)) 64 8 (-1)) (64 + 4)) (64 + 5)) (64 + 6)) (64 + 7)) (64 + 8)) (64 + 9)) (64 + 10)) (64 + 11)) (64 + 12)) (64 + 13)) (64 + 14)) (64 + 15)) (64 + 16)) (64 + 17)) (64 + 18)) (64 + 19))
theorem iniR_off1 (m : Nat → Nat → Int) (a : Nat) (h : a < 64) : iniR m a = m a := by
  have e : ∀ k, a ≠ 64 + k := fun k => by omega
  have e0 : a ≠ 64 := e 0
  unfold iniR
  simp only [zer_off _ (e _), upm_off _ _ e0]
theorem iniR_65 (m : Nat → Nat → Int) (j : Nat) : iniR m 65 j = 0 := by simp [iniR, upm, zer]
theorem iniR_64 (m : Nat → Nat → Int) (j : Nat) (h : j ≠ 8) : iniR m 64 j = m 64 j := by simp [iniR, upm, zer, h]
theorem iniR_64_8 (m : Nat → Nat → Int) : iniR m 64 8 = -1 := by simp [iniR, upm, zer]
theorem iniR_MO (m : Nat → Nat → Int) : MO s0 (iniR m) := fun j _ => iniR_65 m j
theorem iniR_MO2 {m m1 : Nat → Nat → Int} (h1 : RLP s0 (iniR m) m1) : MO s0 m1 := fun j _ => by
  rw [h1.1 65 (by decide) (by decide)]
  exact iniR_65 m j
abbrev LPR (m1 m2 : Nat → Nat → Int) : Prop := (∀ a, a ≠ 64 → a ≠ 72 → a ≠ 73 → a ≠ 74 → a ≠ 75 → m2 a = m1 a) ∧ (∀ j, j ≠ 16 → m2 64 j = m1 64 j) ∧ PRI (pT s0) m2
theorem iniR_off {m m1 m2 : Nat → Nat → Int} (hm : m 64 = fun _ => 0) (h1 : RLP s0 (iniR m) m1) (h2 : LPR m1 m2) : ∀ a, a < 64 → m2 a = m a := fun a ha => by
  rw [h2.1 a (by omega) (by omega) (by omega) (by omega) (by omega), h1.1 a (by omega) (by omega), iniR_off1 m a ha]
theorem iniR_MI {m m1 m2 : Nat → Nat → Int} (hm : m 64 = fun _ => 0) (h1 : RLP s0 (iniR m) m1) (h2 : LPR m1 m2) : MI s0 m2 := by
  refine ⟨fun j hj => ?_, ⟨?_, fun p hp k hk => ?_⟩, h2.2.2, Or.inl ?_⟩
  · rw [h2.1 65 (by decide) (by decide) (by decide) (by decide) (by decide)]; exact iniR_MO2 h1 j hj
  · rw [h2.2.1 3 (by decide)]; exact h1.2.2.2.1
  · rw [h2.1 66 (by decide) (by decide) (by decide) (by decide) (by decide)]; exact h1.2.2.2.2 p hp k hk
  · rw [h2.2.1 2 (by decide)]; exact h1.2.2.1
theorem iniR_tape {m m1 m2 : Nat → Nat → Int} (hm : m 64 = fun _ => 0) (h1 : RLP s0 (iniR m) m1) (h2 : LPR m1 m2) : m2 64 6 = 0 ∧ m2 64 7 = 0 ∧ m2 64 8 = -1 ∧ m2 64 28 = 0 := by
  have e : ∀ j, j ≠ 16 → j ≠ 2 → j ≠ 3 → m2 64 j = iniR m 64 j := fun j h a b => (h2.2.1 j h).trans (h1.2.1 j a b)
  rw [e 6 (by decide) (by decide) (by decide), e 7 (by decide) (by decide) (by decide), e 8 (by decide) (by decide) (by decide), e 28 (by decide) (by decide) (by decide), iniR_64 m 6 (by decide), iniR_64 m 7 (by decide), iniR_64 m 28 (by decide), iniR_64_8, hm]
  exact ⟨rfl, rfl, rfl, rfl⟩
set_option maxHeartbeats 2000000 in
theorem sp_X10_init {m : Nat → Nat → Int} (hm : m 64 = fun _ => 0) : Sp M_X10_init 3 19 52297 [rV 64] (WC ++ [(0, 10, [-1, -1, -1, -1, -1, -1, -1, -1, -1, -1, -1, -1, -1, -1, -1, -1, -1, -1, -1, -1, -1, -1, -1, -1, -1, -1, -1, -1, -1, -1])], m) (fun r h => r = none ∧ ∃ m2, h = (WC ++ (WM ++ []), m2) ∧ (∀ a, a < 64 → m2 a = m a) ∧ MI s0 m2 ∧ m2 64 6 = 0 ∧ m2 64 7 = 0 ∧ m2 64 8 = -1 ∧ m2 64 28 = 0) := by
  refine Sp.ofG (ls := [rV 64]) (by decide +kernel) rfl (Nat.le_of_ble_eq_true rfl) ?_
  refine G_aload_n d_X10_init_0 rfl ?_
  refine G_obj d_X10_init_1 ob_X10_36 ob_ins ob_cod (Nat.le_of_ble_eq_true rfl) (by decide) ?_
  refine G_aload_n d_X10_init_4 rfl ?_
  refine G_sipush d_X10_init_5 (by decide) ?_
  refine G_newai (mc := 18) (ms := 49669) (n := 2628) (o := 64 + 1) d_X10_init_8 ar_int (by decide) rfl ?_
  rw [nw_app]
  refine G_putR (r := 64 + 1) fl_X10_7 d_X10_init_10 (nw_at WC_len _ _) rfl rfl (by simp) ?_
  rw [nw_set WC_len]
  refine G_aload_n d_X10_init_13 rfl ?_
  refine G_sipush d_X10_init_14 (by decide) ?_
  refine G_newai (mc := 17) (ms := 37664) (n := 12005) (o := 64 + 2) d_X10_init_17 ar_int (by decide) rfl ?_
  rw [nw_app]
  refine G_putR (r := 64 + 2) fl_X10_15 d_X10_init_19 (nw_at WC_len _ _) rfl rfl (by simp) ?_
  rw [nw_set WC_len]
  refine G_aload_n d_X10_init_22 rfl ?_
  refine G_sipush d_X10_init_23 (by decide) ?_
  refine G_newai (mc := 16) (ms := 37264) (n := 400) (o := 64 + 3) d_X10_init_26 ar_int (by decide) rfl ?_
  rw [nw_app]
  refine G_putR (r := 64 + 3) fl_X10_42 d_X10_init_28 (nw_at WC_len _ _) rfl rfl (by simp) ?_
  rw [nw_set WC_len]
  refine G_aload_n d_X10_init_31 rfl ?_
  refine G_iconst d_X10_init_32 ?_
  refine G_putII fl_X10_45 d_X10_init_33 (nw_at WC_len _ _) rfl ?_
  refine G_aload_n d_X10_init_36 rfl ?_
  refine G_bipush d_X10_init_37 (by decide) ?_
  refine G_newai (mc := 15) (ms := 37258) (n := 6) (o := 64 + 4) d_X10_init_39 ar_int (by decide) rfl ?_
  rw [nw_app]
  refine G_putR (r := 64 + 4) fl_X10_48 d_X10_init_41 (nw_at WC_len _ _) rfl rfl (by simp) ?_
  rw [nw_set WC_len]
  refine G_aload_n d_X10_init_44 rfl ?_
  refine G_sipush d_X10_init_45 (by decide) ?_
  refine G_newai (mc := 14) (ms := 37114) (n := 144) (o := 64 + 5) d_X10_init_48 ar_int (by decide) rfl ?_
  rw [nw_app]
  refine G_putR (r := 64 + 5) fl_X10_51 d_X10_init_50 (nw_at WC_len _ _) rfl rfl (by simp) ?_
  rw [nw_set WC_len]
  refine G_aload_n d_X10_init_53 rfl ?_
  refine G_sipush d_X10_init_54 (by decide) ?_
  refine G_newai (mc := 13) (ms := 34042) (n := 3072) (o := 64 + 6) d_X10_init_57 ar_int (by decide) rfl ?_
  rw [nw_app]
  refine G_putR (r := 64 + 6) fl_X10_54 d_X10_init_59 (nw_at WC_len _ _) rfl rfl (by simp) ?_
  rw [nw_set WC_len]
  refine G_aload_n d_X10_init_62 rfl ?_
  refine G_bipush d_X10_init_63 (by decide) ?_
  refine G_newai (mc := 12) (ms := 33994) (n := 48) (o := 64 + 7) d_X10_init_65 ar_int (by decide) rfl ?_
  rw [nw_app]
  refine G_putR (r := 64 + 7) fl_X10_57 d_X10_init_67 (nw_at WC_len _ _) rfl rfl (by simp) ?_
  rw [nw_set WC_len]
  refine G_aload_n d_X10_init_70 rfl ?_
  refine G_bipush d_X10_init_71 (by decide) ?_
  refine G_newal (mc := 11) (ms := 33945) (n := 49) (o := 64 + 8) d_X10_init_73 ar_long (by decide) rfl ?_
  rw [nw_app]
  refine G_putR (r := 64 + 8) fl_X10_60 d_X10_init_75 (nw_at WC_len _ _) rfl rfl (by simp) ?_
  rw [nw_set WC_len]
  refine G_aload_n d_X10_init_78 rfl ?_
  refine G_bipush d_X10_init_79 (by decide) ?_
  refine G_newal (mc := 10) (ms := 33896) (n := 49) (o := 64 + 9) d_X10_init_81 ar_long (by decide) rfl ?_
  rw [nw_app]
  refine G_putR (r := 64 + 9) fl_X10_64 d_X10_init_83 (nw_at WC_len _ _) rfl rfl (by simp) ?_
  rw [nw_set WC_len]
  refine G_aload_n d_X10_init_86 rfl ?_
  refine G_sipush d_X10_init_87 (by decide) ?_
  refine G_newal (mc := 9) (ms := 31495) (n := 2401) (o := 64 + 10) d_X10_init_90 ar_long (by decide) rfl ?_
  rw [nw_app]
  refine G_putR (r := 64 + 10) fl_X10_67 d_X10_init_92 (nw_at WC_len _ _) rfl rfl (by simp) ?_
  rw [nw_set WC_len]
  refine G_aload_n d_X10_init_95 rfl ?_
  refine G_bipush d_X10_init_96 (by decide) ?_
  refine G_newai (mc := 8) (ms := 31446) (n := 49) (o := 64 + 11) d_X10_init_98 ar_int (by decide) rfl ?_
  rw [nw_app]
  refine G_putR (r := 64 + 11) fl_X10_70 d_X10_init_100 (nw_at WC_len _ _) rfl rfl (by simp) ?_
  rw [nw_set WC_len]
  refine G_aload_n d_X10_init_103 rfl ?_
  refine G_sipush d_X10_init_104 (by decide) ?_
  refine G_newai (mc := 7) (ms := 29045) (n := 2401) (o := 64 + 12) d_X10_init_107 ar_int (by decide) rfl ?_
  rw [nw_app]
  refine G_putR (r := 64 + 12) fl_X10_73 d_X10_init_109 (nw_at WC_len _ _) rfl rfl (by simp) ?_
  rw [nw_set WC_len]
  refine G_aload_n d_X10_init_112 rfl ?_
  refine G_sipush d_X10_init_113 (by decide) ?_
  refine G_newai (mc := 6) (ms := 17040) (n := 12005) (o := 64 + 13) d_X10_init_116 ar_int (by decide) rfl ?_
  rw [nw_app]
  refine G_putR (r := 64 + 13) fl_X10_76 d_X10_init_118 (nw_at WC_len _ _) rfl rfl (by simp) ?_
  rw [nw_set WC_len]
  refine G_aload_n d_X10_init_121 rfl ?_
  refine G_sipush d_X10_init_122 (by decide) ?_
  refine G_newaz (mc := 5) (ms := 14639) (n := 2401) (o := 64 + 14) d_X10_init_125 ar_boolean (by decide) rfl ?_
  rw [nw_app]
  refine G_putR (r := 64 + 14) fl_X10_79 d_X10_init_127 (nw_at WC_len _ _) rfl rfl (by simp) ?_
  rw [nw_set WC_len]
  refine G_aload_n d_X10_init_130 rfl ?_
  refine G_iconst d_X10_init_131 ?_
  refine G_newai (mc := 4) (ms := 14634) (n := 5) (o := 64 + 15) d_X10_init_132 ar_int (by decide) rfl ?_
  rw [nw_app]
  refine G_putR (r := 64 + 15) fl_X10_83 d_X10_init_134 (nw_at WC_len _ _) rfl rfl (by simp) ?_
  rw [nw_set WC_len]
  refine G_aload_n d_X10_init_137 rfl ?_
  refine G_iconst d_X10_init_138 ?_
  refine G_newai (mc := 3) (ms := 14629) (n := 5) (o := 64 + 16) d_X10_init_139 ar_int (by decide) rfl ?_
  rw [nw_app]
  refine G_putR (r := 64 + 16) fl_X10_86 d_X10_init_141 (nw_at WC_len _ _) rfl rfl (by simp) ?_
  rw [nw_set WC_len]
  refine G_aload_n d_X10_init_144 rfl ?_
  refine G_sipush d_X10_init_145 (by decide) ?_
  refine G_newai (mc := 2) (ms := 12228) (n := 2401) (o := 64 + 17) d_X10_init_148 ar_int (by decide) rfl ?_
  rw [nw_app]
  refine G_putR (r := 64 + 17) fl_X10_89 d_X10_init_150 (nw_at WC_len _ _) rfl rfl (by simp) ?_
  rw [nw_set WC_len]
  refine G_aload_n d_X10_init_153 rfl ?_
  refine G_sipush d_X10_init_154 (by decide) ?_
  refine G_newai (mc := 1) (ms := 2628) (n := 9600) (o := 64 + 18) d_X10_init_157 ar_int (by decide) rfl ?_
  rw [nw_app]
  refine G_putR (r := 64 + 18) fl_X10_92 d_X10_init_159 (nw_at WC_len _ _) rfl rfl (by simp) ?_
  rw [nw_set WC_len]
  refine G_aload_n d_X10_init_162 rfl ?_
  refine G_sipush d_X10_init_163 (by decide) ?_
  refine G_newai (mc := 0) (ms := 0) (n := 2628) (o := 64 + 19) d_X10_init_166 ar_int (by decide) rfl ?_
  rw [nw_app]
  refine G_putR (r := 64 + 19) fl_X10_95 d_X10_init_168 (nw_at WC_len _ _) rfl rfl (by simp) ?_
  rw [nw_set WC_len]
  refine G_aload_n d_X10_init_171 rfl ?_
  refine G_wd (w2 := WC ++ (WM ++ [])) (m2 := iniR m) rfl rfl ?_
  refine G_callV0 cl_X10_98 rfl d_X10_init_172 (wk_64 _) (Nat.le_of_ble_eq_true rfl) (by decide) (sp_MlaysPaths s0 VS_s0 (iniR_MO m)) ?_
  rintro _ _ ⟨rfl, m1, rfl, h1⟩
  refine G_aload_n d_X10_init_175 rfl ?_
  refine G_callV0 cl_X10_101 rfl d_X10_init_176 (wk_64 _) (Nat.le_of_ble_eq_true rfl) (by decide) (sp_MlaysPrimitive s0 VS_s0 (iniR_MO2 h1)) ?_
  rintro _ _ ⟨rfl, m2, rfl, h2⟩
  refine G_vret (mc := 0) (ms := 0) (st := []) d_X10_init_179 rfl ?_
  exact ⟨rfl, m2, rfl, iniR_off hm h1 h2, iniR_MI hm h1 h2, iniR_tape hm h1 h2⟩
