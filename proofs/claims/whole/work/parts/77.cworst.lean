theorem cnt_ex {f : Nat → Bool} {k : Nat} : ∀ {n : Nat}, k < cntB f n → ∃ q, q < n ∧ f q = true ∧ cntB f q = k
  | 0, h => absurd h (Nat.not_lt_zero _)
  | n + 1, h => by
    by_cases c : k < cntB f n
    · obtain ⟨q, h1, h2, h3⟩ := cnt_ex c
      exact ⟨q, by omega, h2, h3⟩
    · cases hf : f n with
      | true => rw [cntB_t hf] at h; exact ⟨n, by omega, hf, by omega⟩
      | false => rw [cntB_f hf] at h; exact absurd h c
theorem cnt_tr {f g : Nat → Bool} {o : Nat → Nat} {P : Nat} (h : ∀ q, q < P → f q = true → o (cntB f q) = q) : ∀ p, p ≤ P → cntB (fun q => f q && g q) p = cntB (fun k => g (o k)) (cntB f p)
  | 0, _ => rfl
  | p + 1, hp => by
    have ih := cnt_tr (g := g) h p (by omega)
    cases hf : f p with
    | false =>
      rw [cntB_f hf, cntB_f (f := fun q => f q && g q) (by simp [hf])]
      exact ih
    | true =>
      rw [cntB_t hf]
      cases hg : g p with
      | true => rw [cntB_t (f := fun q => f q && g q) (by simp [hf, hg]), cntB_t (f := fun k => g (o k)) (by simp [h p (by omega) hf, hg]), ih]
      | false => rw [cntB_f (f := fun q => f q && g q) (by simp [hf, hg]), cntB_f (f := fun k => g (o k)) (by simp [h p (by omega) hf, hg]), ih]
theorem cnt_or {f g e : Nat → Bool} : ∀ {n : Nat}, (∀ i, i < n → (e i = true ↔ f i = true ∨ g i = true) ∧ ¬ (f i = true ∧ g i = true)) → cntB e n = cntB f n + cntB g n
  | 0, _ => rfl
  | n + 1, h => by
    have ih := cnt_or (n := n) (fun i hi => h i (by omega))
    have h1 := h n (by omega)
    unfold cntB
    rw [ih]
    cases he : e n <;> cases hf : f n <;> cases hg : g n <;> simp_all <;> omega
theorem cnt_cut {f : Nat → Bool} {p : Nat} : ∀ {n : Nat}, p ≤ n → cntB (fun q => f q && decide (q < p)) n = cntB f p
  | 0, h => by obtain rfl : p = 0 := by omega
               rfl
  | n + 1, h => by
    by_cases e : p = n + 1
    · subst e
      exact cntB_congr (fun i hi => by simp [hi])
    · rw [cntB_f (f := fun q => f q && decide (q < p)) (by simp; omega)]
      exact cnt_cut (by omega)
def tpF (W : Nat → Int) (L : Int) : Nat → Int
  | 0 => -1
  | k + 1 => if W k < L ∧ tpF W L k < W k then W k else tpF W L k
theorem tp_ge {W : Nat → Int} {L : Int} : ∀ (k j : Nat), j < k → W j < L → W j ≤ tpF W L k
  | 0, j, h, _ => absurd h (by omega)
  | k + 1, j, h, hl => by
    have ih := fun hj => tp_ge k j hj hl
    unfold tpF
    by_cases e : j = k
    · subst e
      by_cases c : W j < L ∧ tpF W L j < W j
      · rw [if_pos c]; omega
      · rw [if_neg c]; omega
    · have ih := ih (by omega)
      by_cases c : W k < L ∧ tpF W L k < W k
      · rw [if_pos c]; omega
      · rw [if_neg c]; omega
theorem tp_lt {W : Nat → Int} {L : Int} : ∀ k : Nat, tpF W L k = -1 ∨ (tpF W L k < L ∧ ∃ j, j < k ∧ W j = tpF W L k)
  | 0 => Or.inl rfl
  | k + 1 => by
    have ih := tp_lt (W := W) (L := L) k
    unfold tpF
    by_cases c : W k < L ∧ tpF W L k < W k
    · rw [if_pos c]
      exact Or.inr ⟨c.1, k, by omega, rfl⟩
    · rw [if_neg c]
      rcases ih with h | ⟨h1, j, h2, h3⟩
      · exact Or.inl h
      · exact Or.inr ⟨h1, j, by omega, h3⟩
abbrev alF (W : Nat → Int) (L : Int) (k : Nat) : Nat := cntB (fun j => W j == tpF W L k) k
theorem al_new {W : Nat → Int} {L : Int} {k : Nat} (h : W k < L ∧ tpF W L k < W k) : tpF W L (k + 1) = W k ∧ alF W L (k + 1) = 1 := by
  have e1 : tpF W L (k + 1) = W k := if_pos h
  refine ⟨e1, ?_⟩
  unfold alF
  rw [e1, cntB_t (f := fun j => W j == W k) (by simp)]
  have : cntB (fun j => W j == W k) k = 0 := cntB_all0.mpr (fun j hj => by
    have := fun hl => tp_ge (W := W) (L := L) k j hj hl
    simp only [beq_eq_false_iff_ne, ne_eq]
    omega)
  omega
theorem al_old {W : Nat → Int} {L : Int} {k : Nat} (h : ¬ (W k < L ∧ tpF W L k < W k)) : tpF W L (k + 1) = tpF W L k ∧ alF W L (k + 1) = alF W L k + (if W k = tpF W L k then 1 else 0) := by
  have e1 : tpF W L (k + 1) = tpF W L k := if_neg h
  refine ⟨e1, ?_⟩
  unfold alF
  rw [e1]
  by_cases c : W k = tpF W L k
  · rw [if_pos c, cntB_t (f := fun j => W j == tpF W L k) (by simp [c])]
  · rw [if_neg c, cntB_f (f := fun j => W j == tpF W L k) (by simp [c])]
    rfl
abbrev gwF (W : Nat → Int) (L : Int) (n : Nat) : Nat := cntB (fun j => decide (L ≤ W j)) n
theorem gw_next {W : Nat → Int} {L : Int} {n : Nat} (hW : ∀ j, j < n → 0 ≤ W j) (hL : -1 ≤ L) : gwF W (tpF W L n) n = gwF W L n + alF W L n := by
  refine cnt_or (fun j hj => ?_)
  have h1 := tp_lt (W := W) (L := L) n
  have h2 := fun hl => tp_ge (W := W) (L := L) n j hj hl
  have h3 := hW j hj
  have h4 : tpF W L n = -1 ∨ tpF W L n < L := by rcases h1 with h | h; (· exact Or.inl h); (· exact Or.inr h.1)
  simp only [decide_eq_true_eq, beq_iff_eq]
  omega
theorem gw_go {W : Nat → Int} {L : Int} {n t : Nat} (hW : ∀ j, j < n → 0 ≤ W j) (hL : -1 ≤ L) (h : t ≤ gwF W L n ∨ gwF W L n = n) : t + 1 ≤ gwF W (tpF W L n) n ∨ gwF W (tpF W L n) n = n := by
  have h1 := gw_next (n := n) hW hL
  have h2 := cntB_le (fun j => decide (tpF W L n ≤ W j)) n
  have h2 : gwF W (tpF W L n) n ≤ n := h2
  rcases h with h | h
  · rcases tp_lt (W := W) (L := L) n with g | ⟨-, j, g1, g2⟩
    · right
      have h5 : gwF W (-1) n = n := by
        unfold gwF
        have := cnt_or (f := fun j => decide ((-1 : Int) ≤ W j)) (g := fun j => !decide ((-1 : Int) ≤ W j)) (e := fun _ => true) (n := n) (fun i hi => by cases decide ((-1 : Int) ≤ W i) <;> simp)
        have h7 : cntB (fun j => !decide ((-1 : Int) ≤ W j)) n = 0 := cntB_all0.mpr (fun i hi => by have := hW i hi; simp; omega)
        have h8 : ∀ n, cntB (fun _ => true) n = n := fun n => by
          induction n with
          | zero => rfl
          | succ n ih => rw [cntB_t rfl, ih]
        rw [h8] at this
        omega
      rw [g]
      exact h5
    · left
      have : 1 ≤ alF W L n := by
        apply Nat.pos_of_ne_zero
        intro h0
        have h9 := cntB_all0.mp h0 j g1
        simp [g2] at h9
      omega
  · right
    omega
