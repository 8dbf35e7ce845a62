theorem VS_nxPulses {s : Nat → Int} (hV : VS s) (a b : Int) : VS (nxPulses s a b) := by
  unfold nxPulses
  by_cases h : okPulses a b
  · rw [if_pos h]; exact VS_pulses hV h.1 h.2
  · rw [if_neg h]; exact hV
theorem VS_nxKind {s : Nat → Int} (hV : VS s) (a b : Int) : VS (nxKind s a b) := by
  have hN := hV.N
  unfold nxKind
  by_cases h : okKind s a b
  · rw [if_pos h]; exact VS_kind hV (by obtain ⟨⟨h1, h2⟩, h3⟩ := h; omega) h.2
  · rw [if_neg h]; exact hV
theorem VS_nxTurn {s : Nat → Int} (hV : VS s) (a : Int) : VS (nxTurn s a) := by
  unfold nxTurn
  by_cases h : okTurn a
  · rw [if_pos h]; exact VS_turn hV h
  · rw [if_neg h]; exact hV
theorem VS_nxCounter {s : Nat → Int} (hV : VS s) (a b : Int) : VS (nxCounter s a b) := by
  unfold nxCounter
  by_cases h : okCounter s a b
  · rw [if_pos h]
    obtain ⟨⟨h1, h2⟩, ⟨h3, h4⟩, h5⟩ := h
    have hb := Int.toNat_of_nonneg (show 0 ≤ b by omega)
    have h9 := VS_len hV (j := a.toNat) (l := b.toNat) (by omega) ⟨by omega, by omega⟩ (by rw [← hb, ← Int.natCast_mul] at h5; omega)
    rw [hb] at h9
    exact h9
  · rw [if_neg h]; exact hV
theorem VS_nxSwap {s : Nat → Int} (hV : VS s) (a b : Int) : VS (nxSwap s a b) := by
  unfold nxSwap
  by_cases h : okSwap a b
  · rw [if_pos h]
    obtain ⟨⟨h1, h2⟩, ⟨h3, h4⟩, h5⟩ := h
    exact VS_swap hV (by omega) (by omega) (by omega)
  · rw [if_neg h]; exact hV
theorem VS_nxFreeAll {s : Nat → Int} (hV : VS s) (a b : Int) : VS (nxFreeAll s a b) := by
  unfold nxFreeAll
  by_cases h : okFreeAll s a b
  · rw [if_pos h]; exact VS_freeAll hV _ _
  · rw [if_neg h]; exact hV
theorem VS_nxRows {s : Nat → Int} (hV : VS s) (B : Nat → Int) (z : Nat) : VS (nxRows s B z) := by
  unfold nxRows
  cases h : rdF s B z with
  | inl e => exact hV
  | inr q =>
    obtain ⟨c, L, V⟩ := q
    exact VS_rows hV (rdF_ok hV h)
theorem VS_nxLay {s : Nat → Int} (hV : VS s) (w : Int) : VS (nxLay s w) := by
  have hrr := resF_rng hV
  unfold nxLay
  by_cases h0 : w = 0
  · rw [if_pos h0]
    by_cases h : okLayF s
    · rw [if_pos h]
      exact (layFk_ok hV (N := (resF s).2) (fun k hk => ⟨((hrr.2.2.2 k hk).2 h.1).1, (hrr.2.2.2 k hk).1⟩) h.2.1 (by rw [resF_pr hV h.1]; exact h.2.2) (pN s) (Nat.le_refl _)).1
    · rw [if_neg h]; exact hV
  · rw [if_neg h0]
    by_cases h1 : w = 1
    · rw [if_pos h1]
      by_cases h : lC (resC s) ≠ -1
      · rw [if_pos h]
        cases hq : resC s with
        | none => rw [hq] at h; exact absurd rfl h
        | some v =>
          have h9 := resC_N hq
          exact (layCk_ok hV (l := v.1) (N := v.2) ⟨h9.1, h9.2.1⟩ h9.2.2.1 h9.2.2.2 (pN s) (Nat.le_refl _)).1
      · rw [if_neg h]; exact hV
    · rw [if_neg h1]; exact hV
theorem VS_one {s : Nat → Int} (hV : VS s) (j : Nat) (x : Int) (hj : j = 3 ∨ (9 ≤ j ∧ j < 49) ∨ (53 ≤ j ∧ j < 77) ∨ 227 ≤ j) (h3 : j = 3 → 0 ≤ x ∧ x ≤ 1) (h9 : 9 ≤ j → j < 14 → -9 ≤ x ∧ x ≤ 9) (h14 : 14 ≤ j → j < 49 → -1 ≤ x ∧ x ≤ 8) (h53 : 53 ≤ j → j < 77 → 0 ≤ x ∧ x < s 2 + 24) (h227 : 227 ≤ j → 0 ≤ x ∧ x ≤ 2) : VS (sU s j x) :=
  VS_sU hV j x (by omega) h3 ⟨fun h1 h2 => by omega, h9, h14, fun h1 h2 => by omega, h53, fun h1 h2 => by omega, fun h1 h2 => by omega, h227⟩ (by rw [pSc_sU (by omega)]; exact hV.Sc.2)
theorem VS_nxStep {s : Nat → Int} (hV : VS s) (a b c : Int) : VS (nxStep s a b c) := by
  have hN := hV.N
  have hT := hV.T
  unfold nxStep
  by_cases h : okStep s a b c
  · rw [if_pos h]
    obtain ⟨⟨h1, h2⟩, ⟨h3, h4⟩, h5, h6⟩ := h
    exact VS_one hV _ c (by omega) (fun h => by omega) (fun h => by omega) (fun h => by omega) (fun _ _ => by omega) (fun h => by omega)
  · rw [if_neg h]; exact hV
theorem VS_nxGradient {s : Nat → Int} (hV : VS s) (a b : Int) : VS (nxGradient s a b) := by
  have hN := hV.N
  unfold nxGradient
  by_cases h : okGradient s a b
  · rw [if_pos h]
    obtain ⟨⟨h1, h2⟩, h3, h4⟩ := h
    exact VS_one hV _ b (by omega) (fun h => by omega) (fun _ _ => by omega) (fun h => by omega) (fun h => by omega) (fun h => by omega)
  · rw [if_neg h]; exact hV
theorem VS_nxWeight {s : Nat → Int} (hV : VS s) (a b c : Int) : VS (nxWeight s a b c) := by
  have hN := hV.N
  unfold nxWeight
  by_cases h : okWeight s a b c
  · rw [if_pos h]
    obtain ⟨⟨h1, h2⟩, ⟨h3, h4⟩, h5, h6⟩ := h
    exact VS_one hV _ (c - 1) (by omega) (fun h => by omega) (fun _ _ => by omega) (fun _ _ => by omega) (fun h => by omega) (fun h => by omega)
  · rw [if_neg h]; exact hV
theorem VS_nxFollow {s : Nat → Int} (hV : VS s) (x : Int) (hx : x = 0 ∨ x = 1) : VS (nxFollow s x) := by
  unfold nxFollow
  by_cases h : okFollow s x
  · rw [if_pos h]
    exact VS_one hV 3 (1 - x) (by omega) (fun _ => by omega) (fun h => by omega) (fun h => by omega) (fun h => by omega) (fun h => by omega)
  · rw [if_neg h]; exact hV
theorem VS_nxMark {s : Nat → Int} (hV : VS s) (v p x : Int) (hv : 1 ≤ v ∧ v ≤ 2) : VS (nxMark s v p x) := by
  unfold nxMark
  by_cases h : okMark s v p x
  · rw [if_pos h]
    exact VS_one hV _ _ (by omega) (fun h => by omega) (fun _ _ => by omega) (fun _ _ => by omega) (fun _ _ => by omega) (fun _ => by split <;> omega)
  · rw [if_neg h]; exact hV
