/-- scratch changed, too -/
def FZ (m m2 : Nat → Nat → Int) : Prop := (∀ a, a ≠ 25 → a ≠ 28 → a ≠ 29 → a ≠ 51 → (a < 30 ∨ 49 < a) → m2 a = m a) ∧ (m 25 1 = 1 → m2 25 1 = 1)
theorem FZ.refl (m : Nat → Nat → Int) : FZ m m := ⟨fun _ _ _ _ _ _ => rfl, fun h => h⟩
theorem FZ.trans {m m1 m2 : Nat → Nat → Int} (h : FZ m m1) (k : FZ m1 m2) : FZ m m2 := ⟨fun a h1 h2 h3 h4 h5 => (k.1 a h1 h2 h3 h4 h5).trans (h.1 a h1 h2 h3 h4 h5), fun h1 => k.2 (h.2 h1)⟩
theorem FBs.z {m m2 : Nat → Nat → Int} (h : FBs m m2) : FZ m m2 := ⟨fun a h2 h3 h4 _ h5 => h.1 a h2 h3 h4 h5, h.2.2⟩
theorem FZ.scr {m m2 : Nat → Nat → Int} (k : ∀ a, a ≠ 51 → m2 a = m a) : FZ m m2 := ⟨fun a _ _ _ h _ => k a h, fun h => by rw [k 25 (by decide)]; exact h⟩
theorem CI.fz {s : Nat → Int} {m m2 : Nat → Nat → Int} (h : CI s m) (hB : CB s m2) (k : FZ m m2) : CI s m2 ∧ FXo m m2 := by
  have e0 := k.1 0 (by decide) (by decide) (by decide) (by decide) (by decide)
  exact ⟨⟨hB, h.2.1.keep (by rw [e0]) (k.1 50 (by decide) (by decide) (by decide) (by decide) (by decide)), h.2.2.keep (fun a a1 a2 => k.1 a (by omega) (by omega) (by omega) (by omega) (by omega)) k.2⟩, fun a a1 a2 => k.1 a (by omega) (by omega) (by omega) (by omega) (by omega), by rw [e0]⟩
theorem CB.scr {s : Nat → Int} {m m2 : Nat → Nat → Int} (h : CB s m) (hN : pN s ≤ 5) (k : ∀ a, a ≠ 51 → m2 a = m a) : CB s m2 := h.far hN (fun a ha => k a (by omega))
theorem gdN_iff {s : Nat → Int} {n p : Nat} (h : pMat s p = true) : gdN s n p = true ↔ (stB (pT s) (pCnt s p n) = 0 ↔ ¬ pMk s p = 1) := by
  unfold pMat at h
  unfold gdN
  by_cases c : pMk s p = 1
  · have ho : pOther s p = false := by unfold pOther; simp [c]
    rw [if_pos (Or.inr c), ho]
    by_cases d : stB (pT s) (pCnt s p n) = 0 <;> simp [c, d]
  · have ho : pOther s p = true := by simpa [c] using h
    rw [if_pos (Or.inl ho), ho]
    by_cases d : stB (pT s) (pCnt s p n) = 0 <;> simp [c, d]
theorem gdN_no {s : Nat → Int} {n p : Nat} (h : ¬ pMat s p = true) : gdN s n p = true := by
  unfold pMat at h
  unfold gdN
  rw [if_neg (fun g => h (by rcases g with g | g <;> simp [g]))]
def skM (s : Nat → Int) (p t : Nat) (m : Nat → Nat → Int) (u : Nat) : Int := if u < t ∧ gdN s (u + 1) p = false then 0 else m 51 u
theorem skM_y {s : Nat → Int} {p t : Nat} {m : Nat → Nat → Int} (h : gdN s (t + 1) p = true) (u : Nat) : skM s p (t + 1) m u = skM s p t m u := by
  unfold skM
  by_cases c : u < t ∧ gdN s (u + 1) p = false
  · rw [if_pos c, if_pos ⟨by omega, c.2⟩]
  · rw [if_neg c, if_neg (fun e => ?_)]
    by_cases d : u = t
    · subst d; rw [h] at e; exact Bool.noConfusion e.2
    · exact c ⟨by omega, e.2⟩
theorem skM_n {s : Nat → Int} {p t : Nat} {m : Nat → Nat → Int} (h : gdN s (t + 1) p = false) (u : Nat) : skM s p (t + 1) m u = if u = t then 0 else skM s p t m u := by
  unfold skM
  by_cases d : u = t
  · subst d; rw [if_pos rfl, if_pos ⟨by omega, h⟩]
  · rw [if_neg d]
    by_cases c : u < t ∧ gdN s (u + 1) p = false
    · rw [if_pos c, if_pos ⟨by omega, c.2⟩]
    · rw [if_neg c, if_neg (fun e => c ⟨by omega, e.2⟩)]
theorem SM.kp {T N : Nat} {L : Nat → Int} {m m2 : Nat → Nat → Int} (h : SM T L N m) (k : ∀ a, 46 ≤ a → a ≤ 49 → m2 a = m a) : SM T L N m2 := by
  unfold SM FS at *
  unfold FX at *
  rw [k 46 (by decide) (by decide), k 47 (by decide) (by decide), k 48 (by decide) (by decide), k 49 (by decide) (by decide)]
  exact h
theorem sp_strikeScans {w : List KD} {m : Nat → Nat → Int} (s : Nat → Int) (hV : VS s) (p : Nat) (hp : p < pC s) (hB : CB s m) (h30 : m 30 0 = 1) (hmt : pMat s p = true) : Sp M_X9_strikeScans 3 0 0 [rV 0, iV (p : Int)] (WC ++ w, m) (fun r h => r = none ∧ ∃ m2, h = (WC ++ w, m2) ∧ CB s m2 ∧ FZ m m2 ∧ m2 30 0 = 1 ∧ ∀ t, t < pSc s → m2 51 t = skM s p (pSc s) m t) := by
  refine Sp.ofG (ls := [rV 0, iV (p : Int), uV, uV, uV]) (by decide +kernel) rfl (Nat.le_of_ble_eq_true rfl) ?_
  have hC := pC_le hV
  have hN := hV.N
  have hT := hV.T
  have hSc := hV.Sc
  have L : ∀ wb : Int, wb = (if pMk s p = 1 then 1 else 0) → ∀ m3, CB s m3 → FBs m m3 → m3 30 0 = 1 → m3 30 1 = (pSc s : Int) → (∀ t, t < pSc s → m3 (39 + pN s) t = ((pRes s p t : Nat) : Int)) → ∀ t : Nat, t ≤ pSc s → ∀ m1, SM (pT s) (pCnt s p t) t m1 → (∀ a, a ≠ 46 → a ≠ 47 → a ≠ 48 → a ≠ 49 → a ≠ 51 → m1 a = m3 a) → (∀ u, u < pSc s → m1 51 u = skM s p t m u) → G M_X9_strikeScans 3 0 0 49 [rV 0, iV (p : Int), iV wb, rV (39 + pN s), iV (t : Int)] [] (WC ++ w, m1) (fun r h => r = none ∧ ∃ m2, h = (WC ++ w, m2) ∧ CB s m2 ∧ FZ m m2 ∧ m2 30 0 = 1 ∧ ∀ t, t < pSc s → m2 51 t = skM s p (pSc s) m t) := by
    intro wb hwb m3 hB3 hF3 hk3 hc3 hr3
    refine loop_up (pSc s) _ ?_
    intro t ht ih m1 hM1 hfr hk
    have hwr : 0 ≤ wb ∧ wb ≤ 1 := by rw [hwb]; split <;> omega
    have hw1 : wb = 1 ↔ pMk s p = 1 := by rw [hwb]; split <;> simp_all
    refine G_iload d_X9_strikeScans_49 rfl ?_
    refine G_aload_n d_X9_strikeScans_51 rfl ?_
    refine G_getR (r := 30) (fl_X9_54.r) d_X9_strikeScans_52 (wk_0 _) rfl rfl ?_
    refine G_getIe (v := (pSc s : Int)) (fl_X9_258.r) d_X9_strikeScans_55 (wk_30 _) rfl ((by rw [hfr 30 (by decide) (by decide) (by decide) (by decide) (by decide)]; exact hc3)) ?_
    refine G_icmp_ge 106 d_X9_strikeScans_58 (by decide) (by omega) (by omega) (fun c58 => ?_) (fun c58 => ?_)
    · refine G_vret (mc := 0) (ms := 0) (st := []) d_X9_strikeScans_106 rfl ?_
      have hte : t = pSc s := by omega
      rw [hte] at hk
      have hx : ∀ a, a ≠ 51 → (if a = 51 then m3 51 else m1 a) = m1 a := fun a h => if_neg h
      have hQ : FQ m3 (fun a => if a = 51 then m3 51 else m1 a) := fun a a1 a2 a3 a4 => by
        by_cases e : a = 51
        · rw [e]; rfl
        · exact (hx a e).trans (hfr a a1 a2 a3 a4 e)
      obtain ⟨hB9, hF9⟩ := hB3.summed (by omega) ((hM1.us (by omega) (by omega)).keep (m2 := fun a => if a = 51 then m3 51 else m1 a) rfl rfl rfl) hQ
      have hkk : ∀ a, a ≠ 51 → m1 a = (fun a => if a = 51 then m3 51 else m1 a) a := fun a h => (hx a h).symm
      exact ⟨rfl, m1, rfl, hB9.scr (by omega) hkk, ((hF3.trans hF9).z).trans (FZ.scr hkk), by rw [hfr 30 (by decide) (by decide) (by decide) (by decide) (by decide)]; exact hk3, hk⟩
    · refine G_aload_n d_X9_strikeScans_61 rfl ?_
      refine G_getR (r := 46) (fl_X9_61.r) d_X9_strikeScans_62 (wk_0 _) rfl rfl ?_
      refine G_aload_n d_X9_strikeScans_65 rfl ?_
      refine G_iload d_X9_strikeScans_66 rfl ?_
      refine G_ialdj (t) d_X9_strikeScans_68 (wk_tu _ (show pN s < 6 by omega)) (by omega) (by omega) (by first | decide | assumption | omega) ?_
      rw [hfr (39 + pN s) (by omega) (by omega) (by omega) (by omega) (by omega), hr3 t (by omega)]
      have hrl := pRes_lt hV p t
      refine G_iconst d_X9_strikeScans_69 ?_
      refine G_callV2 cl_X9_317 rfl d_X9_strikeScans_70 (wk_46 _) (Nat.le_of_ble_eq_true rfl) (by decide) (sp_sadd (pT s) (pRes s p t) t 1 (pCnt s p t) (by omega) (by omega) hrl (by decide) (by omega) hM1) ?_
      rintro _ _ ⟨rfl, m4, rfl, hM4, hf4⟩
      have hM5 := hM4.next
      refine G_aload_n d_X9_strikeScans_73 rfl ?_
      refine G_getR (r := 46) (fl_X9_61.r) d_X9_strikeScans_74 (wk_0 _) rfl rfl ?_
      refine G_callV0 cl_X9_320 rfl d_X9_strikeScans_77 (wk_46 _) (Nat.le_of_ble_eq_true rfl) (by decide) (sp_sstate (pT s) (t + 1) (pCnt s p (t + 1)) (by omega) hM5) ?_
      rintro _ _ ⟨rfl, rfl⟩
      have hsr := stB_rng (pT s) (pCnt s p (t + 1))
      refine G_if_ne 87 d_X9_strikeScans_80 (by decide) (by omega) (fun c80 => ?_) (fun c80 => ?_)
      · refine G_iconst d_X9_strikeScans_87 ?_
        refine G_iload_n d_X9_strikeScans_88 rfl ?_
        refine G_icmp_ne 100 d_X9_strikeScans_89 (by decide) (by omega) (by omega) (fun c89 => ?_) (fun c89 => ?_)
        · refine G_iinc d_X9_strikeScans_100 rfl (by decide) rfl ?_
          refine G_goto 49 d_X9_strikeScans_103 (by decide) ?_
          by_cases hw9 : wb = 0
          · omega
          · have h9 := ih (by omega) m4 hM5 (fun a a1 a2 a3 a4 a5 => (hf4 a a1 a4).trans (hfr a a1 a2 a3 a4 a5)) (fun u hu => by rw [hf4 51 (by decide) (by decide), hk u hu, skM_y (show gdN s (t + 1) p = true from (gdN_iff hmt).mpr (⟨fun e => absurd e c80, fun e => absurd (hw1.mp (by omega)) e⟩))])
            rw [Int.natCast_add] at h9
            exact h9
        · refine G_aload_n d_X9_strikeScans_92 rfl ?_
          refine G_getR (r := 51) (fl_X9_72.r) d_X9_strikeScans_93 (wk_0 _) rfl rfl ?_
          refine G_iload d_X9_strikeScans_96 rfl ?_
          refine G_iconst d_X9_strikeScans_98 ?_
          refine G_iastj (t) d_X9_strikeScans_99 (wk_51 _) (by omega) (by omega) (by decide) ?_
          refine G_iinc d_X9_strikeScans_100 rfl (by decide) rfl ?_
          refine G_goto 49 d_X9_strikeScans_103 (by decide) ?_
          have h9 := ih (by omega) (upm m4 51 t 0) (hM5.kp (fun a ha ha2 => upm_off _ _ (by omega))) (fun a a1 a2 a3 a4 a5 => by rw [upm_off _ _ a5]; exact (hf4 a a1 a4).trans (hfr a a1 a2 a3 a4 a5)) (fun u hu => by
            rw [skM_n (show gdN s (t + 1) p = false from by rw [← Bool.not_eq_true]; exact fun e => (fun h => c80 (h.mpr (fun e => by have := hw1.mpr e; omega))) ((gdN_iff hmt).mp e))]
            by_cases e : u = t
            · rw [e, upm_same, if_pos rfl]
            · rw [upm_ne _ _ (fun _ => e), if_neg e, hf4 51 (by decide) (by decide), hk u hu])
          rw [Int.natCast_add] at h9
          exact h9
      · refine G_iconst d_X9_strikeScans_83 ?_
        refine G_goto 88 d_X9_strikeScans_84 (by decide) ?_
        refine G_iload_n d_X9_strikeScans_88 rfl ?_
        refine G_icmp_ne 100 d_X9_strikeScans_89 (by decide) (by omega) (by omega) (fun c89 => ?_) (fun c89 => ?_)
        · refine G_iinc d_X9_strikeScans_100 rfl (by decide) rfl ?_
          refine G_goto 49 d_X9_strikeScans_103 (by decide) ?_
          by_cases hw9 : wb = 1
          · omega
          · have h9 := ih (by omega) m4 hM5 (fun a a1 a2 a3 a4 a5 => (hf4 a a1 a4).trans (hfr a a1 a2 a3 a4 a5)) (fun u hu => by rw [hf4 51 (by decide) (by decide), hk u hu, skM_y (show gdN s (t + 1) p = true from (gdN_iff hmt).mpr (⟨fun _ e => hw9 (hw1.mpr e), fun _ => c80⟩))])
            rw [Int.natCast_add] at h9
            exact h9
        · refine G_aload_n d_X9_strikeScans_92 rfl ?_
          refine G_getR (r := 51) (fl_X9_72.r) d_X9_strikeScans_93 (wk_0 _) rfl rfl ?_
          refine G_iload d_X9_strikeScans_96 rfl ?_
          refine G_iconst d_X9_strikeScans_98 ?_
          refine G_iastj (t) d_X9_strikeScans_99 (wk_51 _) (by omega) (by omega) (by decide) ?_
          refine G_iinc d_X9_strikeScans_100 rfl (by decide) rfl ?_
          refine G_goto 49 d_X9_strikeScans_103 (by decide) ?_
          have h9 := ih (by omega) (upm m4 51 t 0) (hM5.kp (fun a ha ha2 => upm_off _ _ (by omega))) (fun a a1 a2 a3 a4 a5 => by rw [upm_off _ _ a5]; exact (hf4 a a1 a4).trans (hfr a a1 a2 a3 a4 a5)) (fun u hu => by
            rw [skM_n (show gdN s (t + 1) p = false from by rw [← Bool.not_eq_true]; exact fun e => (fun h => h.mp c80 (hw1.mp (by omega))) ((gdN_iff hmt).mp e))]
            by_cases e : u = t
            · rw [e, upm_same, if_pos rfl]
            · rw [upm_ne _ _ (fun _ => e), if_neg e, hf4 51 (by decide) (by decide), hk u hu])
          rw [Int.natCast_add] at h9
          exact h9
  refine G_aload_n d_X9_strikeScans_0 rfl ?_
  refine G_getR (r := 1) (fl_X9_12.r) d_X9_strikeScans_1 (wk_0 _) rfl rfl ?_
  refine G_getR (r := 5) fl_X9_178 d_X9_strikeScans_4 (wk_1 _) rfl rfl ?_
  refine G_iload_n d_X9_strikeScans_7 rfl ?_
  refine G_baldj (p) d_X9_strikeScans_8 (wk_5 _) (by omega) (by omega) (by decide) ?_
  rw [hB.1.2.2.2.2.2 p (by omega), show s (227 + p) = pMk s p from rfl]
  have hMk := hV.Mk p (by omega)
  have hS := hB.sb h30
  refine G_iconst d_X9_strikeScans_9 ?_
  refine G_icmp_ne 17 d_X9_strikeScans_10 (by decide) (by omega) (by omega) (fun c10 => ?_) (fun c10 => ?_)
  · refine G_iconst d_X9_strikeScans_17 ?_
    refine G_istore_n d_X9_strikeScans_18 (by decide) rfl ?_
    refine G_aload_n d_X9_strikeScans_19 rfl ?_
    refine G_getR (r := 30) (fl_X9_54.r) d_X9_strikeScans_20 (wk_0 _) rfl rfl ?_
    refine G_aload_n d_X9_strikeScans_23 rfl ?_
    refine G_getR (r := 25) (fl_X9_43.r) d_X9_strikeScans_24 (wk_0 _) rfl rfl ?_
    refine G_iload_n d_X9_strikeScans_27 rfl ?_
    refine G_callV2 cl_X9_254 rfl d_X9_strikeScans_28 (wk_30 _) (Nat.le_of_ble_eq_true rfl) (by decide) (sp_residues s hV hB.2.2.1 hS p (by omega)) ?_
    rintro _ _ ⟨rfl, m3, rfl, hS3, hr3, hF3⟩
    obtain ⟨hB3, hF3b, h303⟩ := hB.tally h30 hS3 (fun a h1 h2 => hF3.1 a h1 (by omega)) hF3.2
    refine G_astore_n d_X9_strikeScans_31 (by decide) rfl ?_
    refine G_aload_n d_X9_strikeScans_32 rfl ?_
    refine G_getR (r := 46) (fl_X9_61.r) d_X9_strikeScans_33 (wk_0 _) rfl rfl ?_
    refine G_aload_n d_X9_strikeScans_36 rfl ?_
    refine G_getR (r := 6) (fl_X9_19.r) d_X9_strikeScans_37 (wk_0 _) rfl rfl ?_
    refine G_getIe (v := (pT s : Int)) (fl_X9_123.r) d_X9_strikeScans_40 (wk_6 _) rfl (hB3.2.1.1.1) ?_
    refine G_callV1 cl_X9_315 rfl d_X9_strikeScans_43 (wk_46 _) (Nat.le_of_ble_eq_true rfl) (by decide) (sp_sbegin (pT s) (by omega) (by omega) hB3.2.2.2.2.2.2) ?_
    rintro _ _ ⟨rfl, m4, rfl, hM4, hQ4⟩
    refine G_iconst d_X9_strikeScans_46 ?_
    refine G_istore d_X9_strikeScans_47 (by decide) rfl ?_
    exact L 0 (by rw [if_neg c10]) m3 hB3 hF3b h303 hS3.1.1.1 hr3 0 (by omega) m4 hM4 (fun a a1 a2 a3 a4 _ => hQ4 a a1 a2 a3 a4) (fun u hu => by rw [hQ4 51 (by decide) (by decide) (by decide) (by decide), hF3b.1 51 (by decide) (by decide) (by decide) (by decide)]; unfold skM; rw [if_neg (by omega)])
  · refine G_iconst d_X9_strikeScans_13 ?_
    refine G_goto 18 d_X9_strikeScans_14 (by decide) ?_
    refine G_istore_n d_X9_strikeScans_18 (by decide) rfl ?_
    refine G_aload_n d_X9_strikeScans_19 rfl ?_
    refine G_getR (r := 30) (fl_X9_54.r) d_X9_strikeScans_20 (wk_0 _) rfl rfl ?_
    refine G_aload_n d_X9_strikeScans_23 rfl ?_
    refine G_getR (r := 25) (fl_X9_43.r) d_X9_strikeScans_24 (wk_0 _) rfl rfl ?_
    refine G_iload_n d_X9_strikeScans_27 rfl ?_
    refine G_callV2 cl_X9_254 rfl d_X9_strikeScans_28 (wk_30 _) (Nat.le_of_ble_eq_true rfl) (by decide) (sp_residues s hV hB.2.2.1 hS p (by omega)) ?_
    rintro _ _ ⟨rfl, m3, rfl, hS3, hr3, hF3⟩
    obtain ⟨hB3, hF3b, h303⟩ := hB.tally h30 hS3 (fun a h1 h2 => hF3.1 a h1 (by omega)) hF3.2
    refine G_astore_n d_X9_strikeScans_31 (by decide) rfl ?_
    refine G_aload_n d_X9_strikeScans_32 rfl ?_
    refine G_getR (r := 46) (fl_X9_61.r) d_X9_strikeScans_33 (wk_0 _) rfl rfl ?_
    refine G_aload_n d_X9_strikeScans_36 rfl ?_
    refine G_getR (r := 6) (fl_X9_19.r) d_X9_strikeScans_37 (wk_0 _) rfl rfl ?_
    refine G_getIe (v := (pT s : Int)) (fl_X9_123.r) d_X9_strikeScans_40 (wk_6 _) rfl (hB3.2.1.1.1) ?_
    refine G_callV1 cl_X9_315 rfl d_X9_strikeScans_43 (wk_46 _) (Nat.le_of_ble_eq_true rfl) (by decide) (sp_sbegin (pT s) (by omega) (by omega) hB3.2.2.2.2.2.2) ?_
    rintro _ _ ⟨rfl, m4, rfl, hM4, hQ4⟩
    refine G_iconst d_X9_strikeScans_46 ?_
    refine G_istore d_X9_strikeScans_47 (by decide) rfl ?_
    exact L 1 (by rw [if_pos c10]) m3 hB3 hF3b h303 hS3.1.1.1 hr3 0 (by omega) m4 hM4 (fun a a1 a2 a3 a4 _ => hQ4 a a1 a2 a3 a4) (fun u hu => by rw [hQ4 51 (by decide) (by decide) (by decide) (by decide), hF3b.1 51 (by decide) (by decide) (by decide) (by decide)]; unfold skM; rw [if_neg (by omega)])
theorem sp_Csoonest {w : List KD} {m : Nat → Nat → Int} (s : Nat → Int) (hV : VS s) (hI : CI s m)  : Sp M_X9_soonest 5 0 0 [rV 0] (WC ++ w, m) (fun r h => r = some (iV (vSoonest s)) ∧ ∃ m2, h = (WC ++ w, m2) ∧ CI s m2 ∧ FXo m m2) := by
  refine Sp.ofG (ls := [rV 0, uV]) (by decide +kernel) rfl (Nat.le_of_ble_eq_true rfl) ?_
  have hC := pC_le hV
  have hN := hV.N
  have hT := hV.T
  have hSc := hV.Sc
  have hcr := pChief_rng s
  have K : pC s ≤ 200 → pChief s ≠ -1 → anyGone s = false → ∀ m1, CB s m1 → FZ m m1 → m1 30 1 = (pSc s : Int) → (∀ t, t < pSc s → m1 51 t = if goodN s (t + 1) = true then 1 else 0) → ∀ t : Nat, t ≤ pSc s → (∀ u, u < t → goodN s (u + 1) = false) → G M_X9_soonest 5 0 0 87 [rV 0, iV (t : Int)] [] (WC ++ w, m1) (fun r h => r = some (iV (vSoonest s)) ∧ ∃ m2, h = (WC ++ w, m2) ∧ CI s m2 ∧ FXo m m2) := by
    intro h200 hch hag m1 hB1 hF1 hk1 hg
    refine loop_up (pSc s) _ ?_
    intro t ht ih hno
    have hok : pC s ≤ 200 ∧ pChief s ≠ -1 ∧ ¬ anyGone s = true := ⟨h200, hch, by rw [hag]; decide⟩
    obtain ⟨hC1, hX1⟩ := hI.fz hB1 hF1
    refine G_iload_n d_X9_soonest_87 rfl ?_
    refine G_aload_n d_X9_soonest_88 rfl ?_
    refine G_getR (r := 30) (fl_X9_54.r) d_X9_soonest_89 (wk_0 _) rfl rfl ?_
    refine G_getIe (v := (pSc s : Int)) (fl_X9_258.r) d_X9_soonest_92 (wk_30 _) rfl (hk1) ?_
    refine G_icmp_ge 118 d_X9_soonest_95 (by decide) (by omega) (by omega) (fun c95 => ?_) (fun c95 => ?_)
    · refine G_iconst d_X9_soonest_118 ?_
      refine G_iret (mc := 0) (ms := 0) (st := []) d_X9_soonest_119 rfl ?_
      exact ⟨by unfold vSoonest; rw [if_pos hok, firstB_none (fun u hu => hno u (by omega))]; rfl, m1, rfl, hC1, hX1⟩
    · refine G_aload_n d_X9_soonest_98 rfl ?_
      refine G_getR (r := 51) (fl_X9_72.r) d_X9_soonest_99 (wk_0 _) rfl rfl ?_
      refine G_iload_n d_X9_soonest_102 rfl ?_
      refine G_ialdj (t) d_X9_soonest_103 (wk_51 _) (by omega) (by omega) (by decide) ?_
      rw [hg t (by omega)]
      refine G_iconst d_X9_soonest_104 ?_
      refine G_icmp_ne 112 d_X9_soonest_105 (by decide) (by first | omega | (split <;> omega)) (by first | omega | (split <;> omega)) (fun c105 => ?_) (fun c105 => ?_)
      · refine G_iinc d_X9_soonest_112 rfl (by decide) rfl ?_
        refine G_goto 87 d_X9_soonest_115 (by decide) ?_
        exact ih (by omega) (fun u hu => by
          by_cases e : u = t
          · rw [e]
            cases hgt : goodN s (t + 1) with
            | false => rfl
            | true => rw [hgt] at c105; exact absurd rfl c105
          · exact hno u (by omega))
      · refine G_iload_n d_X9_soonest_108 rfl ?_
        refine G_iconst d_X9_soonest_109 ?_
        refine G_iadd d_X9_soonest_110 ?_
        refine G_iret (mc := 0) (ms := 0) (st := []) d_X9_soonest_111 rfl ?_
        have hgt : goodN s (t + 1) = true := by
          cases hgt : goodN s (t + 1) with
          | true => rfl
          | false => rw [hgt, if_neg (by decide)] at c105; exact absurd c105 (by decide)
        exact ⟨by unfold vSoonest; rw [if_pos hok, firstB_found t (by omega) hno hgt]; unfold fst1; rw [if_neg (by omega)], m1, rfl, hC1, hX1⟩
  have L : ∀ p : Nat, p ≤ pC s → pC s ≤ 200 → pChief s ≠ -1 → ∀ m1, CB s m1 → FZ m m1 → m1 30 0 = 1 → (∀ t, t < pSc s → m1 51 t = if allN (gdN s (t + 1)) p = true then 1 else 0) → (∀ q, q < p → (!(pMk s q == 1 && pGone s q)) = true) → G M_X9_soonest 5 0 0 45 [rV 0, iV (p : Int)] [] (WC ++ w, m1) (fun r h => r = some (iV (vSoonest s)) ∧ ∃ m2, h = (WC ++ w, m2) ∧ CI s m2 ∧ FXo m m2) := by
    refine loop_up (pC s) _ ?_
    intro p hp ih h200 hch m1 hB1 hF1 hk1 hg hno
    refine G_iload_n d_X9_soonest_45 rfl ?_
    refine G_aload_n d_X9_soonest_46 rfl ?_
    refine G_getR (r := 25) (fl_X9_43.r) d_X9_soonest_47 (wk_0 _) rfl rfl ?_
    refine G_getIe (v := (pC s : Int)) (fl_X9_110.r) d_X9_soonest_50 (wk_25 _) rfl (hB1.2.2.1.1) ?_
    refine G_icmp_ge 85 d_X9_soonest_53 (by decide) (by omega) (by omega) (fun c53 => ?_) (fun c53 => ?_)
    · refine G_iconst d_X9_soonest_85 ?_
      refine G_istore_n d_X9_soonest_86 (by decide) rfl ?_
      have hpe : p = pC s := by omega
      subst hpe
      exact K h200 hch (by unfold anyGone; rw [allN_true hno]; rfl) m1 hB1 hF1 (hB1.sb hk1).1.1.1 hg 0 (by omega) (fun u hu => absurd hu (by omega))
    · refine G_aload_n d_X9_soonest_56 rfl ?_
      refine G_iload_n d_X9_soonest_57 rfl ?_
      refine G_callV1 cl_X9_332 rfl d_X9_soonest_58 (wk_0 _) (Nat.le_of_ble_eq_true rfl) (by decide) (sp_Cmatters s hV hB1 p (by omega)) ?_
      rintro _ _ ⟨rfl, m2, rfl, h2, hF2, h30e⟩
      have h30 : m2 30 0 = m1 30 0 := by rw [h30e]
      have e51 : m2 51 = m1 51 := hF2.1 51 (by decide) (by decide) (by decide) (by decide)
      by_cases hmt : pMat s p = true
      · rw [if_pos hmt]
        refine G_if_eq 79 d_X9_soonest_61 (by decide) (by decide) (fun hd => absurd hd (by decide)) (fun _ => ?_)
        refine G_aload_n d_X9_soonest_64 rfl ?_
        refine G_iload_n d_X9_soonest_65 rfl ?_
        refine G_callV1 cl_X9_283 rfl d_X9_soonest_66 (wk_0 _) (Nat.le_of_ble_eq_true rfl) (by decide) (sp_CisGone s hV h2 p (by omega)) ?_
        rintro _ _ ⟨rfl, m3, rfl, h3, hF3, h31e⟩
        have f51 : m3 51 = m1 51 := (hF3.1 51 (by decide) (by decide) (by decide) (by decide)).trans e51
        have hk3 : m3 30 0 = 1 := by rw [h31e, h30]; exact hk1
        have hF3 := (hF1.trans hF2.z).trans hF3.z
        by_cases hgo : pGone s p = true
        · rw [if_pos hgo]
          refine G_if_eq 74 d_X9_soonest_69 (by decide) (by decide) (fun hd => absurd hd (by decide)) (fun _ => ?_)
          refine G_iconst d_X9_soonest_72 ?_
          refine G_iret (mc := 0) (ms := 0) (st := []) d_X9_soonest_73 rfl ?_
          have hmk : (pMk s p == 1) = true := by
            unfold pMat pOther at hmt
            rw [hgo] at hmt
            simpa using hmt
          have hag : anyGone s = true := by
            unfold anyGone
            rw [allN_false p (show p < pC s by omega) (by rw [hmk, hgo]; rfl)]
            rfl
          obtain ⟨hC1, hX1⟩ := hI.fz h3 hF3
          exact ⟨by unfold vSoonest; rw [if_neg (fun h => h.2.2 hag)], m3, rfl, hC1, hX1⟩
        · rw [if_neg hgo]
          refine G_if_eq 74 d_X9_soonest_69 (by decide) (by decide) (fun _ => ?_) (fun hd => absurd hd (by decide))
          refine G_aload_n d_X9_soonest_74 rfl ?_
          refine G_iload_n d_X9_soonest_75 rfl ?_
          refine G_callV1 cl_X9_344 rfl d_X9_soonest_76 (wk_0 _) (Nat.le_of_ble_eq_true rfl) (by decide) (sp_strikeScans s hV p (by omega) h3 hk3 hmt) ?_
          rintro _ _ ⟨rfl, m4, rfl, h4, hF4, hk4, hs4⟩
          have skM_51 : ∀ t, t < pSc s → skM s p (pSc s) m3 t = if gdN s (t + 1) p = false then 0 else m3 51 t := fun t ht => by
            unfold skM
            by_cases c : gdN s (t + 1) p = false
            · rw [if_pos ⟨ht, c⟩, if_pos c]
            · rw [if_neg (fun e => c e.2), if_neg c]
          refine G_iinc d_X9_soonest_79 rfl (by decide) rfl ?_
          refine G_goto 45 d_X9_soonest_82 (by decide) ?_
          exact ih (by omega) h200 hch m4 h4 (hF3.trans hF4) (hk4) (fun t ht => by rw [hs4 t ht, skM_51 t ht, f51, hg t ht]; show _ = if (allN (gdN s (t + 1)) p && gdN s (t + 1) p) = true then 1 else 0; cases gdN s (t + 1) p <;> cases allN (gdN s (t + 1)) p <;> rfl) (fun q hq => by
            by_cases e : q = p
            · rw [e]; simp [show pGone s p = false by simpa using hgo]
            · exact hno q (by omega))
      · rw [if_neg hmt]
        refine G_if_eq 79 d_X9_soonest_61 (by decide) (by decide) (fun _ => ?_) (fun hd => absurd hd (by decide))
        refine G_iinc d_X9_soonest_79 rfl (by decide) rfl ?_
        refine G_goto 45 d_X9_soonest_82 (by decide) ?_
        exact ih (by omega) h200 hch m2 h2 (hF1.trans hF2.z) (h30.trans hk1) (fun t ht => by rw [e51, hg t ht]; have h9 : gdN s (t + 1) p = true := gdN_no hmt; show _ = if (allN (gdN s (t + 1)) p && gdN s (t + 1) p) = true then 1 else 0; rw [h9, Bool.and_true]) (fun q hq => by
          by_cases e : q = p
          · rw [e]; unfold pMat at hmt; cases h1 : (pMk s p == 1) <;> simp_all
          · exact hno q (by omega))
  refine G_aload_n d_X9_soonest_0 rfl ?_
  refine G_getIe (v := pChief s) (fl_X9_47.r) d_X9_soonest_1 (wk_0 _) rfl (hI.1.2.2.2.1) ?_
  refine G_iconst d_X9_soonest_4 ?_
  refine G_icmp_eq 21 d_X9_soonest_5 (by decide) (by omega) (by omega) (fun c5 => ?_) (fun c5 => ?_)
  · refine G_iconst d_X9_soonest_21 ?_
    refine G_iret (mc := 0) (ms := 0) (st := []) d_X9_soonest_22 rfl ?_
    exact ⟨by unfold vSoonest; rw [if_neg (fun h => h.2.1 c5)], m, rfl, hI, FXo.refl m⟩
  · refine G_aload_n d_X9_soonest_8 rfl ?_
    refine G_getR (r := 25) (fl_X9_43.r) d_X9_soonest_9 (wk_0 _) rfl rfl ?_
    refine G_getIe (v := (pC s : Int)) (fl_X9_110.r) d_X9_soonest_12 (wk_25 _) rfl (hI.1.2.2.1.1) ?_
    refine G_sipush d_X9_soonest_15 (by decide) ?_
    refine G_icmp_le 23 d_X9_soonest_18 (by decide) (by omega) (by omega) (fun c18 => ?_) (fun c18 => ?_)
    · refine G_aload_n d_X9_soonest_23 rfl ?_
      refine G_callV0 cl_X9_247 rfl d_X9_soonest_24 (wk_0 _) (Nat.le_of_ble_eq_true rfl) (by decide) (sp_CbuildScans s hV hI.1) ?_
      rintro _ _ ⟨rfl, m2, rfl, hB2, hF2, h302, hS2⟩
      refine G_aload_n d_X9_soonest_27 rfl ?_
      refine G_getR (r := 51) (fl_X9_72.r) d_X9_soonest_28 (wk_0 _) rfl rfl ?_
      refine G_iconst d_X9_soonest_31 ?_
      refine G_aload_n d_X9_soonest_32 rfl ?_
      refine G_getR (r := 30) (fl_X9_54.r) d_X9_soonest_33 (wk_0 _) rfl rfl ?_
      refine G_getIe (v := (pSc s : Int)) (fl_X9_258.r) d_X9_soonest_36 (wk_30 _) rfl (hS2.1.1.1) ?_
      refine G_iconst d_X9_soonest_39 ?_
      refine G_callS4 cl_X9_338 d_X9_soonest_40 (Nat.le_of_ble_eq_true rfl) (by decide) (sp_fillR 0 (pSc s) (wk_51 _) (by decide) (by omega) (by omega)) ?_
      rintro _ _ ⟨rfl, rfl⟩
      refine G_iconst d_X9_soonest_43 ?_
      refine G_istore_n d_X9_soonest_44 (by decide) rfl ?_
      exact L 0 (by omega) (by omega) c5 _ (hB2.scr (by omega) (fun a ha => flm_off _ _ _ _ ha)) (hF2.z.trans (FZ.scr (fun a ha => flm_off _ _ _ _ ha))) (by rw [flm_off _ _ _ _ (by decide)]; exact h302) (fun t ht => by rw [flm_in _ _ (by omega) (by omega)]; rfl) (fun q hq => absurd hq (by omega))
    · refine G_iconst d_X9_soonest_21 ?_
      refine G_iret (mc := 0) (ms := 0) (st := []) d_X9_soonest_22 rfl ?_
      exact ⟨by unfold vSoonest; rw [if_neg (fun h => by have := h.1; omega)], m, rfl, hI, FXo.refl m⟩
