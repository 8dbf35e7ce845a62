/-! codes -/
theorem dvd_code {B x : Nat} (hB : 0 < B) (e : Nat) : x / B ^ e = x / B ^ (e + 1) * B + x / B ^ e % B := by
  have h1 : x / B ^ (e + 1) = x / B ^ e / B := by rw [Nat.pow_succ, Nat.div_div_eq_div_mul]
  rw [h1, Nat.mul_comm]
  exact (Nat.div_add_mod _ _).symm
theorem dg_in {n M c k : Nat} (hk : k + 1 < n) : dg n M c k + M = ((c / bs M ^ (n - 2 - k) % bs M : Nat) : Int) := by
  unfold dg
  rw [if_neg (by omega)]
  omega
theorem code_eq {n M c d : Nat} : ∀ k, k + 1 ≤ n → c < bs M ^ (n - 1) → d < bs M ^ (n - 1) → (∀ i, i < k → dg n M c i = dg n M d i) → c / bs M ^ (n - 1 - k) = d / bs M ^ (n - 1 - k)
  | 0, _, hc, hd, _ => by rw [Nat.sub_zero, Nat.div_eq_of_lt hc, Nat.div_eq_of_lt hd]
  | k + 1, hk, hc, hd, h => by
    have ih := code_eq (n := n) (M := M) (c := c) (d := d) k (by omega) hc hd (fun i hi => h i (by omega))
    have hB : 0 < bs M := by unfold bs; omega
    have hd1 := dg_in (M := M) (c := c) (n := n) (k := k) (by omega)
    have hd2 := dg_in (M := M) (c := d) (n := n) (k := k) (by omega)
    have he := h k (by omega)
    rw [show n - 1 - (k + 1) = n - 2 - k by omega, dvd_code hB, dvd_code (x := d) hB, show n - 2 - k + 1 = n - 1 - k by omega, ih]
    omega
theorem dg_inj {n M c d : Nat} (hn : 1 ≤ n) (hc : c < bs M ^ (n - 1)) (hd : d < bs M ^ (n - 1)) (h : ∀ i, i + 1 < n → dg n M c i = dg n M d i) : c = d := by
  have h1 := code_eq (n - 1) (by omega) hc hd (fun i hi => h i (by omega))
  rw [Nat.sub_self, Nat.pow_zero, Nat.div_one, Nat.div_one] at h1
  exact h1
theorem kl_back {n M : Nat} {K : Nat → Int} : ∀ (C p : Nat), p < (kl n M K C).length → (kl n M K ((kl n M K C).getD p 0)).length = p
  | 0, p, h => absurd h (by simp [kl])
  | C + 1, p, h => by
    rw [kl_succ] at h ⊢
    by_cases c : p < (kl n M K C).length
    · rw [List.getD_eq_getElem?_getD, List.getElem?_append_left c, ← List.getD_eq_getElem?_getD]
      exact kl_back C p c
    · by_cases o : okc n M K C = true
      · rw [if_pos o] at h ⊢
        have hp : p = (kl n M K C).length := by simp at h; omega
        subst hp
        rw [List.getD_eq_getElem?_getD, List.getElem?_append_right (Nat.le_refl _), Nat.sub_self]
        rfl
      · rw [if_neg o] at h
        simp at h
        exact absurd h c
theorem kl_idx {n M : Nat} {K : Nat → Int} {c : Nat} (ho : okc n M K c = true) : ∀ C : Nat, c < C → (kl n M K c).length < (kl n M K C).length ∧ (kl n M K C).getD (kl n M K c).length 0 = c
  | 0, h => absurd h (by omega)
  | C + 1, h => by
    rw [kl_succ]
    by_cases e : c = C
    · subst e
      rw [if_pos ho]
      refine ⟨by simp, ?_⟩
      rw [List.getD_eq_getElem?_getD, List.getElem?_append_right (Nat.le_refl _), Nat.sub_self]
      rfl
    · have ih := kl_idx ho C (by omega)
      refine ⟨by rw [List.length_append]; omega, ?_⟩
      rw [List.getD_eq_getElem?_getD, List.getElem?_append_left ih.1, ← List.getD_eq_getElem?_getD]
      exact ih.2
theorem pths_lt {s : Nat → Int} {p : Nat} (hp : p < pC s) : (pths s).getD p 0 < nC (pN s) (pM s) := (kl_get_lt hp).1
theorem pO_inj {s : Nat → Int} (hV : VS s) {p q : Nat} (hp : p < pC s) (hq : q < pC s) (h : ∀ k, k < pN s → pO s p k = pO s q k) : p = q := by
  have hN := hV.N
  have h1 : (pths s).getD p 0 = (pths s).getD q 0 := dg_inj (n := pN s) (M := pM s) (by omega) (pths_lt hp) (pths_lt hq) (fun i hi => h i (by omega))
  have h2 := kl_back (n := pN s) (M := pM s) (K := pK s) (nC (pN s) (pM s)) p hp
  have h3 := kl_back (n := pN s) (M := pM s) (K := pK s) (nC (pN s) (pM s)) q hq
  have e1 : (kl (pN s) (pM s) (pK s) (nC (pN s) (pM s))).getD p 0 = (kl (pN s) (pM s) (pK s) (nC (pN s) (pM s))).getD q 0 := h1
  rw [e1] at h2
  omega
theorem ch_sum (s : Nat → Int) (p : Nat) : ∀ k, sumN (fun i => pCh s p i) (k + 1) = pO s p k
  | 0 => by
    show (0 : Int) + pCh s p 0 = _
    rw [Int.zero_add]
    exact if_pos rfl
  | k + 1 => by
    show sumN (fun i => pCh s p i) (k + 1) + pCh s p (k + 1) = _
    rw [ch_sum s p k, show pCh s p (k + 1) = pO s p (k + 1) - pO s p (k + 1 - 1) from if_neg (by omega), Nat.add_sub_cancel]
    omega
theorem ch_eq_O {s : Nat → Int} {p q n : Nat} (h : ∀ k, k < n → pCh s p k = pCh s q k) (k : Nat) (hk : k < n) : pO s p k = pO s q k := by
  rw [← ch_sum, ← ch_sum]
  exact sumN_congr (fun i hi => h i (by omega))
theorem ch_tot {s : Nat → Int} (hV : VS s) (p : Nat) : sumN (fun i => pCh s p i) (pN s) = -1 := by
  have hN := hV.N
  have h1 := ch_sum s p (pN s - 1)
  rw [show pN s - 1 + 1 = pN s by omega] at h1
  rw [h1]
  exact if_pos (by omega)
theorem sumN_sub (f g : Nat → Int) : ∀ n : Nat, sumN (fun i => f i - g i) n = sumN f n - sumN g n
  | 0 => rfl
  | n + 1 => by
    unfold sumN
    rw [sumN_sub f g n]
    omega
theorem gap_tot {s : Nat → Int} (hV : VS s) (p : Nat) : sumN (fun i => gapD s p i) (pN s) = 0 := by
  show sumN (fun i => pCh s p i - pCh s (pChief s).toNat i) (pN s) = 0
  rw [sumN_sub, ch_tot hV, ch_tot hV]
  rfl
theorem chief_is {s : Nat → Int} (hc : pChief s ≠ -1) : (pChief s).toNat < pC s ∧ pMk s (pChief s).toNat = 1 := by
  have h1 := pChief_rng s
  have key : ∀ n : Nat, firstB (fun p => pMk s p == 1) n ≠ -1 → (firstB (fun p => pMk s p == 1) n).toNat < n ∧ pMk s (firstB (fun p => pMk s p == 1) n).toNat = 1 := by
    intro n
    induction n with
    | zero => intro h; exact absurd rfl h
    | succ n ih =>
      intro h
      unfold firstB at h ⊢
      by_cases c : 0 ≤ firstB (fun p => pMk s p == 1) n
      · rw [if_pos c]
        have := ih (by omega)
        exact ⟨by omega, this.2⟩
      · rw [if_neg c] at h ⊢
        by_cases d : (pMk s n == 1) = true
        · rw [if_pos d]
          exact ⟨by show n < n + 1; omega, by simpa using d⟩
        · rw [if_neg d] at h; exact absurd rfl h
  exact key (pC s) hc
/-- none that is not wished goes all the way with the chief -/
theorem last_other {s : Nat → Int} (hV : VS s) (hc : pChief s ≠ -1) {p : Nat} (hp : p < pC s) (ho : pOther s p = true) : 0 ≤ lsF9 s p (pN s) := by
  have hr := lsF9_rng s p (pN s)
  by_cases h : 0 ≤ lsF9 s p (pN s)
  · exact h
  · exfalso
    have hg : ∀ k, k < pN s → gapD s p k = 0 := fun k hk => lsF9_after (pN s) k hk (by omega)
    have h1 := chief_is hc
    have h2 : p = (pChief s).toNat := pO_inj hV hp h1.1 (fun k hk => ch_eq_O (n := pN s) (fun i hi => by have := hg i hi; unfold gapD at this; omega) k hk)
    rw [h2] at ho
    unfold pOther at ho
    simp [h1.2] at ho
/-! cogs -/
theorem cgS_congr {s : Nat → Int} {N N' : Nat → Nat} {p n : Nat} (h : ∀ i, i < n → N' i = N i) : cgS s N' p n = cgS s N p n := sumN_congr (fun i hi => by rw [h i hi])
theorem okc2_congr {s : Nat → Int} {l : Nat} {N N' : Nat → Nat} (h : ∀ i, i < pN s → N' i = N i) : okc2 s l N' = okc2 s l N := by
  unfold okc2 okL lfc
  refine allN_congr (fun p _ => ?_)
  rw [cgS_congr h]
theorem cgS_mod {s : Nat → Int} {a : Nat → Int} {p l : Nat} : ∀ n : Nat, sumN (fun i => gapD s p i * (a i % (l : Int))) n % (l : Int) = sumN (fun i => gapD s p i * a i) n % (l : Int)
  | 0 => rfl
  | n + 1 => by
    show (sumN _ n + gapD s p n * (a n % (l : Int))) % (l : Int) = (sumN _ n + gapD s p n * a n) % (l : Int)
    rw [Int.add_emod, cgS_mod n, Int.mul_emod, Int.emod_emod, ← Int.mul_emod, ← Int.add_emod]
theorem okc2_shift {s : Nat → Int} (hV : VS s) {l d : Nat} {N : Nat → Nat} (hd : d ≤ l) : okc2 s l (fun i => (N i + (l - d)) % l) = okc2 s l N := by
  unfold okc2 okL lfc
  refine allN_congr (fun p _ => ?_)
  have e : cgS s (fun i => (N i + (l - d)) % l) p (pN s) % (l : Int) = cgS s N p (pN s) % (l : Int) := by
    unfold cgS
    have h1 := cgS_mod (s := s) (a := fun i => ((N i + (l - d) : Nat) : Int)) (p := p) (l := l) (pN s)
    have h2 : sumN (fun i => gapD s p i * (((N i + (l - d)) % l : Nat) : Int)) (pN s) = sumN (fun i => gapD s p i * (((N i + (l - d) : Nat) : Int) % (l : Int))) (pN s) := sumN_congr (fun i _ => by rw [Int.natCast_emod])
    rw [h2, h1]
    congr 1
    rw [show (fun i => gapD s p i * ((N i + (l - d) : Nat) : Int)) = (fun i => gapD s p i * (N i : Int) + ((l - d : Nat) : Int) * gapD s p i) from funext (fun i => by rw [Int.natCast_add, Int.mul_add, Int.mul_comm (gapD s p i) ((l - d : Nat) : Int)]), sumN_add, sumN_mul, gap_tot hV, Int.mul_zero, Int.add_zero]
  rw [e]
theorem foldl_some {β : Type} {f : Option (Nat → Nat) → β → Option (Nat → Nat)} (hf : ∀ x b, f (some x) b = some x) : ∀ (l : List β) (x : Nat → Nat), l.foldl f (some x) = some x
  | [], _ => rfl
  | b :: l, x => by rw [List.foldl_cons, hf]; exact foldl_some hf l x
theorem runC_some {s : Nat → Int} {l : Nat} (x : Nat → Nat) : ∀ (j : Nat) (N : Nat → Nat), run (pN s) (D0 l) (stepC s l) j N (some x) = some x
  | 0, _ => rfl
  | j + 1, N => by
    unfold run
    exact foldl_some (fun y d => runC_some y j _) _ x
theorem foldl_none {β : Type} {f : Option (Nat → Nat) → β → Option (Nat → Nat)} (hf : ∀ x b, f (some x) b = some x) : ∀ (l : List β), l.foldl f none = none → ∀ b, b ∈ l → f none b = none
  | [], _, b, hb => absurd hb (by simp)
  | c :: l, h, b, hb => by
    rw [List.foldl_cons] at h
    cases hc : f none c with
    | some y => rw [hc, foldl_some hf] at h; exact absurd h (by simp)
    | none =>
      rw [hc] at h
      rcases List.mem_cons.mp hb with e | e
      · rw [e]; exact hc
      · exact foldl_none hf l h b e
theorem runC_none {s : Nat → Int} {l : Nat} : ∀ (j : Nat) (N : Nat → Nat), j ≤ pN s → run (pN s) (D0 l) (stepC s l) j N none = none → ∀ N', (∀ i, i < pN s - j → N' i = N i) → (∀ i, pN s - j ≤ i → i < pN s → N' i < l) → okc2 s l N' = false
  | 0, N, _, h, N', h1, _ => by
    have h2 : stepC s l none N = none := h
    unfold stepC at h2
    rw [okc2_congr (N := N) (fun i hi => h1 i (by omega))]
    by_cases c : okc2 s l N = true
    · simp only [if_pos c] at h2
      exact absurd h2 (by simp)
    · simpa using c
  | j + 1, N, hj, h, N', h1, h2 => by
    unfold run at h
    have h3 := foldl_none (fun y d => runC_some y j _) _ h (N' (pN s - (j + 1))) (List.mem_range.mpr (h2 _ (Nat.le_refl _) (by omega)))
    refine runC_none j _ (by omega) h3 N' (fun i hi => ?_) (fun i hi hi2 => h2 i (by omega) hi2)
    unfold upN
    by_cases e : i = pN s - (j + 1)
    · rw [if_pos e, e]
    · rw [if_neg e]; exact h1 i (by omega)
theorem runC_all {s : Nat → Int} {l : Nat} (j : Nat) (N : Nat → Nat) (hj : j ≤ pN s) (h : ∀ N', (∀ i, i < pN s - j → N' i = N i) → (∀ i, pN s - j ≤ i → i < pN s → N' i < l) → okc2 s l N' = false) : run (pN s) (D0 l) (stepC s l) j N none = none :=
  run_pre (pN s) (D0 l) (stepC s l) none j N hj (fun N' h1 h2 => by
    have h3 := h N' h1 (fun i hi hi2 => List.mem_range.mp (h2 i hi hi2))
    show (if okc2 s l N' = true then some N' else none) = none
    rw [h3]
    exact if_neg (by decide))
/-- what pulse 0 gets can be 0 -/
theorem runC_0 {s : Nat → Int} (hV : VS s) {l : Nat} (hl : 1 ≤ l) : runC s l = run (pN s) (D0 l) (stepC s l) (pN s - 1) (upN (fun _ => 0) 0 0) none := by
  have hN := hV.N
  obtain ⟨n, hn⟩ : ∃ n, pN s = n + 1 := ⟨pN s - 1, by omega⟩
  have e0 : runC s l = (D0 l).foldl (fun a d => run (pN s) (D0 l) (stepC s l) (pN s - 1) (upN (fun _ => 0) 0 d) a) none := by
    show run (pN s) (D0 l) (stepC s l) (pN s) (fun _ => 0) none = _
    have : ∀ m, m = n + 1 → run (pN s) (D0 l) (stepC s l) m (fun _ => 0) none = (D0 l).foldl (fun a d => run (pN s) (D0 l) (stepC s l) (m - 1) (upN (fun _ => 0) (pN s - m) d) a) none := by
      rintro m rfl
      rfl
    rw [this (pN s) hn, Nat.sub_self]
  obtain ⟨k, rfl⟩ : ∃ k, l = k + 1 := ⟨l - 1, by omega⟩
  have e1 : D0 (k + 1) = 0 :: (List.range k).map Nat.succ := List.range_succ_eq_map
  rw [e0, e1, List.foldl_cons, ← e1]
  cases hx : run (pN s) (D0 (k + 1)) (stepC s (k + 1)) (pN s - 1) (upN (fun _ => 0) 0 0) none with
  | some y => exact foldl_some (fun y d => runC_some y _ _) _ y
  | none =>
    have hall := runC_none (pN s - 1) _ (by omega) hx
    have key : ∀ r : List Nat, (∀ d, d ∈ r → d < k + 1) → r.foldl (fun a d => run (pN s) (D0 (k + 1)) (stepC s (k + 1)) (pN s - 1) (upN (fun _ => 0) 0 d) a) none = none := by
      intro r
      induction r with
      | nil => intro _; rfl
      | cons d r ih =>
        intro hd
        have hdl := hd d List.mem_cons_self
        rw [List.foldl_cons, runC_all (pN s - 1) (upN (fun _ => 0) 0 d) (by omega) (fun N' h1 h2 => ?_)]
        · exact ih (fun d2 h2 => hd d2 (List.mem_cons_of_mem _ h2))
        · have h0 : N' 0 = d := by rw [h1 0 (by omega)]; rfl
          rw [← okc2_shift hV (N := N') (show d ≤ k + 1 by omega)]
          refine hall _ (fun i hi => ?_) (fun i _ _ => Nat.mod_lt _ (by omega))
          obtain rfl : i = 0 := by omega
          show (N' 0 + (k + 1 - d)) % (k + 1) = 0
          rw [h0, show d + (k + 1 - d) = k + 1 by omega, Nat.mod_self]
    exact key _ (fun d hd => by
      obtain ⟨i, hi, rfl⟩ := List.mem_map.mp hd
      have := List.mem_range.mp hi
      omega)
