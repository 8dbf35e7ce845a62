/-! when the row of numbers changes, what the searches and the scans keep -/
/-- alike in all but the cycle and whether it follows -/
def AS (s s2 : Nat → Int) : Prop := AP s s2 ∧ s2 2 = s 2 ∧ (∀ k, k < 5 → s2 (9 + k) = s (9 + k)) ∧ (∀ i, i < 35 → s2 (14 + i) = s (14 + i)) ∧ ∀ p, s2 (227 + p) = s (227 + p)
theorem AS.T {s s2 : Nat → Int} (h : AS s s2) : pT s2 = pT s := by unfold pT; rw [h.2.1]
theorem AS.mk {s s2 : Nat → Int} (h : AS s s2) : pMk s2 = pMk s := funext (fun p => h.2.2.2.2 p)
theorem AP.gone {s s2 : Nat → Int} (h : AP s s2) (hV : VS s) (hg : ∀ k, k < 5 → s2 (9 + k) = s (9 + k)) (hw : ∀ i, i < 35 → s2 (14 + i) = s (14 + i)) : pGone s2 = pGone s := funext (fun p => by
  unfold pGone
  rw [h.Sp hV hg, h.Wt hV hw])
theorem AS.gone {s s2 : Nat → Int} (h : AS s s2) (hV : VS s) : pGone s2 = pGone s := h.1.gone hV h.2.2.1 h.2.2.2.1
theorem AS.oth {s s2 : Nat → Int} (h : AS s s2) (hV : VS s) : pOther s2 = pOther s := funext (fun p => by
  unfold pOther
  rw [h.gone hV, h.mk])
theorem AS.chief {s s2 : Nat → Int} (h : AS s s2) (hV : VS s) : pChief s2 = pChief s := h.1.chief hV (fun p _ => by rw [h.2.2.2.2 p])
theorem AS.gap {s s2 : Nat → Int} (h : AS s s2) (hV : VS s) : gapD s2 = gapD s := funext (fun p => funext (fun k => by
  unfold gapD
  rw [h.chief hV, h.1.Ch hV, h.1.Ch hV]))
theorem AS.posbE {s s2 : Nat → Int} (h : AS s s2) (hV : VS s) : posb s2 = posb s := by
  unfold posb
  rw [h.chief hV]
  unfold anyGone
  rw [h.gone hV, h.mk, h.1.C hV]
theorem AS.okLE {s s2 : Nat → Int} (h : AS s s2) (hV : VS s) : okL s2 = okL s := funext (fun L => by
  unfold okL
  rw [h.oth hV, h.mk, h.1.C hV])
theorem AS.lftE {s s2 : Nat → Int} (h : AS s s2) (hV : VS s) : lft s2 = lft s := funext (fun N => funext (fun p => by
  unfold lft
  rw [h.gap hV, h.1.N]))
theorem AS.lfcE {s s2 : Nat → Int} (h : AS s s2) (hV : VS s) : lfc s2 = lfc s := funext (fun N => funext (fun l => funext (fun p => by
  unfold lfc cgS
  rw [h.gap hV, h.1.N])))
theorem AS.stepFE {s s2 : Nat → Int} (h : AS s s2) (hV : VS s) : stepF s2 = stepF s := funext (fun a => funext (fun N => by
  unfold stepF prN
  rw [h.1.N, h.okLE hV, h.lftE hV]))
theorem AS.resFE {s s2 : Nat → Int} (h : AS s s2) (hV : VS s) : resF s2 = resF s := by
  unfold resF
  rw [h.posbE hV, h.stepFE hV, h.1.N, h.T]
theorem AS.stepCE {s s2 : Nat → Int} (h : AS s s2) (hV : VS s) : stepC s2 = stepC s := funext (fun l => funext (fun a => funext (fun N => by
  unfold stepC okc2
  rw [h.okLE hV, h.lfcE hV])))
theorem AS.runCE {s s2 : Nat → Int} (h : AS s s2) (hV : VS s) : runC s2 = runC s := funext (fun l => by
  unfold runC
  rw [h.stepCE hV, h.1.N])
theorem AS.fndCE {s s2 : Nat → Int} (h : AS s s2) (hV : VS s) : ∀ l, fndC s2 l = fndC s l
  | 0 => rfl
  | l + 1 => by
    unfold fndC
    rw [h.fndCE hV l, h.T, h.runCE hV]
theorem AS.resCE {s s2 : Nat → Int} (h : AS s s2) (hV : VS s) : resC s2 = resC s := by
  unfold resC
  rw [h.posbE hV, h.1.C hV, h.fndCE hV]
theorem AS.cm {s s2 : Nat → Int} (h : AS s s2) (hV : VS s) (k : Nat) : ∀ n, cmF s2 k n = cmF s k n
  | 0 => rfl
  | n + 1 => by
    unfold cmF
    rw [h.cm hV k n, h.mk, h.gap hV]
theorem AS.ls {s s2 : Nat → Int} (h : AS s s2) (hV : VS s) (p : Nat) : ∀ n, lsF9 s2 p n = lsF9 s p n
  | 0 => rfl
  | n + 1 => by
    unfold lsF9
    rw [h.ls hV p n, h.gap hV]
theorem AS.otlE {s s2 : Nat → Int} (h : AS s s2) (hV : VS s) (n : Nat) : otl s2 n = otl s n := by
  unfold otl
  rw [h.oth hV]
theorem WN.as {s s2 : Nat → Int} {m : Nat → Nat → Int} (h : WN s m) (a : AS s s2) (hV : VS s) : WN s2 m := by
  unfold WN at *
  rw [a.1.N, a.posbE hV, a.chief hV, a.1.C hV, a.otlE hV]
  refine ⟨h.1, h.2.1, fun hc => ?_⟩
  obtain ⟨g1, g2, g3, g4⟩ := h.2.2 hc
  exact ⟨fun k hk => by rw [a.1.Ch hV]; exact g1 k hk, fun k hk => by rw [a.cm hV]; exact g2 k hk, fun p hp => by rw [a.ls hV]; exact g3 p hp, g4⟩
theorem SE.as {s s2 : Nat → Int} {m : Nat → Nat → Int} (h : SE s m) (a : AS s s2) (hV : VS s) : SE s2 m := by
  refine ⟨?_, ?_⟩
  · rcases h.1 with g | ⟨g1, g2, g3⟩
    · exact Or.inl g
    · exact Or.inr ⟨g1, g2.as a hV, g3⟩
  · have h2 := h.2
    unfold FW FN CG GN at *
    rw [a.resFE hV, a.resCE hV, a.1.N]
    exact h2
theorem AP.wgh {s s2 : Nat → Int} {m : Nat → Nat → Int} (a : AP s s2) (hV : VS s) (hg : ∀ k, k < 5 → s2 (9 + k) = s (9 + k)) (hw : ∀ i, i < 35 → s2 (14 + i) = s (14 + i)) (h : WGh s m) : WGh s2 m := by
  rcases h with h | ⟨h1, h2⟩
  · exact Or.inl h
  · exact Or.inr ⟨h1, fun p hp => by rw [a.Wt hV hw, a.Sp hV hg]; exact h2 p (by rw [a.C hV] at hp; exact hp)⟩
theorem AP.cl {s s2 : Nat → Int} {m : Nat → Nat → Int} (a : AP s s2) (hV : VS s) (h : CL s m) : CL s2 m := by
  have hN := hV.N
  have e : ∀ C, kl (pN s) (pM s) (pK s2) C = kl (pN s) (pM s) (pK s) C := kl_congr (fun k hk => a.2.2 k (by omega))
  have e2 : ∀ c, okc (pN s) (pM s) (pK s2) c = okc (pN s) (pM s) (pK s) c := okc_congr (fun k hk => a.2.2 k (by omega))
  unfold CL cLP at *
  rw [a.N, a.M]
  simp only [e, e2]
  exact h
theorem AC.led {s s2 : Nat → Int} (h : AC s s2) (ha : AP s s2) (hV : VS s) (p t : Nat) {k : Nat} (hk : k ≤ 5) : pLed s2 p t k = pLed s p t k := by
  unfold pLed
  exact sumN_congr (fun j hj => by rw [ha.Ch hV, h.Own hV (by omega)])
theorem AC.tu {s s2 : Nat → Int} (h : AC s s2) (ha : AP s s2) (hV : VS s) (hc : s 3 = 0 → pChief s2 = pChief s) (p t : Nat) {k : Nat} (hk : k ≤ 5) : pTu s2 p k t = pTu s p k t := by
  unfold pTu
  rw [h.led ha hV p t hk, h.Rcv ha hV hc, h.T]
theorem SN.ac {s s2 : Nat → Int} {m : Nat → Nat → Int} (h : SN s m) (a : AC s s2) (ha : AP s s2) (hV : VS s) (hc : s 3 = 0 → pChief s2 = pChief s) : SN s2 m := by
  have hN := hV.N
  rcases h with h | ⟨h1, h2, h3, h4⟩
  · exact Or.inl h
  · refine Or.inr ⟨h1, ⟨⟨by rw [a.Sc]; exact h2.1.1, by rw [a.T]; exact h2.1.2.1, by rw [ha.N]; exact h2.1.2.2⟩, fun k hk t ht => ?_⟩, fun t ht => ?_, ?_⟩
    · rw [ha.N] at hk
      rw [a.Sc] at ht
      rw [a.Ph ha hV hc (by omega)]
      exact h2.2 k hk t ht
    · rw [a.Sc] at ht
      rw [a.tu ha hV hc 0 t (by omega)]
      exact h3 t ht
    · rcases h4 with h4 | ⟨p0, g1, g2, g3⟩
      · exact Or.inl h4
      · refine Or.inr ⟨p0, by rw [ha.C hV]; exact g1, g2, fun k hk t ht => ?_⟩
        rw [ha.N] at hk
        rw [a.Sc] at ht
        rw [a.tu ha hV hc p0 t (by omega)]
        exact g3 k hk t ht
theorem ST.ac {s s2 : Nat → Int} {m : Nat → Nat → Int} (h : ST s m) (a : AC s s2) (ha : AP s s2) (hV : VS s) (hc : s 3 = 0 → pChief s2 = pChief s) : ST s2 m := by
  rcases h with h | ⟨h1, h2⟩
  · exact Or.inl h
  · exact Or.inr ⟨h1, fun p hp => by rw [a.St ha hV hc]; exact h2 p (by rw [ha.C hV] at hp; exact hp)⟩
/-- what no call that tells of pulses or the cycle changes -/
def FXo (m m2 : Nat → Nat → Int) : Prop := (∀ a, 11 ≤ a → (a < 25 ∨ 63 < a) → m2 a = m a) ∧ m2 0 4 = m 0 4
theorem FXo.refl (m : Nat → Nat → Int) : FXo m m := ⟨fun _ _ _ => rfl, rfl⟩
theorem FXo.trans {m m1 m2 : Nat → Nat → Int} (h : FXo m m1) (k : FXo m1 m2) : FXo m m2 := ⟨fun a h1 h2 => (k.1 a h1 h2).trans (h.1 a h1 h2), k.2.trans h.2⟩
theorem FPs.x {m m2 : Nat → Nat → Int} (h : FPs m m2) : FXo m m2 := ⟨fun a h1 h2 => h.1 a (by omega) (by omega) (by omega) (by omega) (by omega), h.2.2.1 4 (by decide)⟩
theorem FSe.x {m m2 : Nat → Nat → Int} (h : FSe m m2) : FXo m m2 := ⟨fun a h1 h2 => h.1 a (by omega) (by omega) (by omega) (by omega) (by omega), by rw [h.1 0 (by decide) (by decide) (by decide) (by decide) (by decide)]⟩
theorem FBs.x {m m2 : Nat → Nat → Int} (h : FBs m m2) : FXo m m2 := h.p.x
/-- the cycle told -/
theorem CI.cyc {s s2 : Nat → Int} {m m2 : Nat → Nat → Int} (h : CI s m) (hV : VS s) (a : AS s s2) (k : ∀ c, c ≠ 0 → (c < 6 ∨ 10 < c) → c ≠ 30 → m2 c = m c) (k0 : ∀ j, j ≠ 11 → m2 0 j = m 0 j) (hC : CFo s2 m2) (h1 : m2 0 11 = 0) (h2 : m2 30 0 = 0) : CI s2 m2 ∧ FXo m m2 := by
  refine ⟨⟨⟨?_, hC, a.1.cl hV (h.1.2.2.1.keep2 (by rw [k 25 (by decide) (by decide) (by decide)]) (k 26 (by decide) (by decide) (by decide)) (k 27 (by decide) (by decide) (by decide))), by rw [k0 7 (by decide), a.chief hV]; exact h.1.2.2.2.1, a.1.wgh hV a.2.2.1 a.2.2.2.1 (h.1.2.2.2.2.1.keep (by rw [k 25 (by decide) (by decide) (by decide)]) (k 28 (by decide) (by decide) (by decide)) (k 29 (by decide) (by decide) (by decide))), Or.inl h2, h.1.2.2.2.2.2.2.keep (k 46 (by decide) (by decide) (by decide)) (k 47 (by decide) (by decide) (by decide)) (k 48 (by decide) (by decide) (by decide))⟩, Or.inl h1, (h.2.2.keep (fun c c1 c2 => k c (by omega) (by omega) (by omega)) (fun e => by rw [k 25 (by decide) (by decide) (by decide)]; exact e)).as a hV⟩, fun c c1 c2 => k c (by omega) (by omega) (by omega), k0 4 (by decide)⟩
  have h0 := h.1.1.keep (m2 := m2) (fun c c1 c2 => k c (by omega) (by omega) (by omega))
  exact ⟨by rw [a.1.N]; exact h0.1, by rw [a.1.M]; exact h0.2.1, fun i hi => by rw [a.1.2.2 i hi]; exact h0.2.2.1 i hi, fun i hi => by rw [a.2.2.1 i hi]; exact h0.2.2.2.1 i hi, fun i hi => by rw [a.2.2.2.1 i hi]; exact h0.2.2.2.2.1 i hi, fun p hp => by rw [a.2.2.2.2 p]; exact h0.2.2.2.2.2 p hp⟩
/-- pulses, marks told: scans and states stay, if the chief does or none follows -/
theorem CI.tld {s s2 : Nat → Int} {m m2 : Nat → Nat → Int} (h : CI s m) (hV : VS s) (a : AC s s2) (ap : AP s s2) (k : ∀ c, c ≠ 0 → (c < 2 ∨ 5 < c) → c ≠ 25 → c ≠ 30 → c ≠ 52 → c ≠ 57 → c ≠ 60 → m2 c = m c) (k0 : m2 0 4 = m 0 4) (k25 : m2 25 0 = m 25 0) (hT : TO s2 m2) (h7 : m2 0 7 = pChief s2) (hw : WGh s2 m2) (hS : (m2 30 0 = 0 ∧ m2 0 11 = 0) ∨ ((s 3 = 0 → pChief s2 = pChief s) ∧ m2 30 = m 30 ∧ m2 0 11 = m 0 11)) (h1 : m2 52 0 = 0) (h2 : m2 57 0 = 0) (h3 : m2 60 0 = 0) : CI s2 m2 ∧ FXo m m2 := by
  have hN := hV.N
  have e : ∀ c, (6 ≤ c ∧ c < 25) ∨ (26 ≤ c ∧ c < 30) ∨ (31 ≤ c ∧ c < 52) ∨ 61 ≤ c → m2 c = m c := fun c hc => k c (by omega) (by omega) (by omega) (by omega) (by omega) (by omega) (by omega)
  have hCF : CFo s m2 := h.1.2.1.keep (fun c c1 c2 => e c (by omega))
  have hCF2 : CFo s2 m2 := ⟨⟨by rw [a.T]; exact hCF.1.1, fun j hj => by rw [a.L hj]; exact hCF.1.2.1 j hj, fun i hi => by rw [a.2.2 _ (by omega) (by omega)]; exact hCF.1.2.2.1 i hi, fun i hi => by rw [a.2.2 _ (by omega) (by omega)]; exact hCF.1.2.2.2.1 i hi, fun i hi => by
    have : pRL s2 i = pRL s i := by unfold pRL; rw [a.2.2 _ (by omega) (by omega)]
    rw [this]; exact hCF.1.2.2.2.2 i hi⟩, by rw [a.2.1]; exact hCF.2⟩
  refine ⟨⟨⟨hT, hCF2, ap.cl hV (h.1.2.2.1.keep2 k25 (e 26 (by decide)) (e 27 (by decide))), h7, hw, ?_, h.1.2.2.2.2.2.2.keep (e 46 (by decide)) (e 47 (by decide)) (e 48 (by decide))⟩, ?_, Or.inl h1, Or.inl h2, Or.inl h3⟩, fun c c1 c2 => e c (by omega), k0⟩
  · rcases hS with hS | ⟨hc, g1, g2⟩
    · exact Or.inl hS.1
    · exact (h.1.2.2.2.2.2.1.keep (by omega) (fun c c1 c2 => by
        by_cases c30 : c = 30
        · rw [c30, g1]
        · exact e c (by omega))).ac a ap hV hc
  · rcases hS with hS | ⟨hc, g1, g2⟩
    · exact Or.inl hS.2
    · exact (h.2.1.keep g2 (e 50 (by decide))).ac a ap hV hc
