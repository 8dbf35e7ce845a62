/-! what changes of the row of numbers change, and what not -/
theorem allN_congr {f g : Nat → Bool} : ∀ {n : Nat}, (∀ i, i < n → f i = g i) → allN f n = allN g n
  | 0, _ => rfl
  | n + 1, h => by
    unfold allN
    rw [allN_congr (n := n) (fun i hi => h i (by omega)), h n (by omega)]
theorem firstB_congr {f g : Nat → Bool} : ∀ {n : Nat}, (∀ i, i < n → f i = g i) → firstB f n = firstB g n
  | 0, _ => rfl
  | n + 1, h => by
    unfold firstB
    rw [firstB_congr (n := n) (fun i hi => h i (by omega)), h n (by omega)]
theorem prodN_congr {f g : Nat → Int} : ∀ {n : Nat}, (∀ i, i < n → f i = g i) → prodN f n = prodN g n
  | 0, _ => rfl
  | n + 1, h => by
    unfold prodN
    rw [prodN_congr (n := n) (fun i hi => h i (by omega)), h n (by omega)]
theorem okc_congr {n M : Nat} {K K2 : Nat → Int} (h : ∀ k, k < n → K2 k = K k) (c : Nat) : okc n M K2 c = okc n M K c :=
  allN_congr (fun k hk => by rw [h k hk])
theorem kl_congr {n M : Nat} {K K2 : Nat → Int} (h : ∀ k, k < n → K2 k = K k) (C : Nat) : kl n M K2 C = kl n M K C := by
  unfold kl
  rw [show okc n M K2 = okc n M K from funext (fun c => okc_congr h c)]
/-- alike in all that paths are made of -/
def AP (s s2 : Nat → Int) : Prop := s2 0 = s 0 ∧ s2 1 = s 1 ∧ ∀ k, k < 5 → s2 (4 + k) = s (4 + k)
theorem AP.N {s s2 : Nat → Int} (h : AP s s2) : pN s2 = pN s := by unfold pN; rw [h.1]
theorem AP.M {s s2 : Nat → Int} (h : AP s s2) : pM s2 = pM s := by unfold pM; rw [h.2.1]
theorem AP.P {s s2 : Nat → Int} (h : AP s s2) (hV : VS s) : pths s2 = pths s := by
  have hN := hV.N
  unfold pths
  rw [h.N, h.M]
  exact kl_congr (fun k hk => h.2.2 k (by omega)) _
theorem AP.C {s s2 : Nat → Int} (h : AP s s2) (hV : VS s) : pC s2 = pC s := by unfold pC; rw [h.P hV]
theorem AP.O {s s2 : Nat → Int} (h : AP s s2) (hV : VS s) (p k : Nat) : pO s2 p k = pO s p k := by unfold pO; rw [h.P hV, h.N, h.M]
theorem AP.Ch {s s2 : Nat → Int} (h : AP s s2) (hV : VS s) (p k : Nat) : pCh s2 p k = pCh s p k := by unfold pCh; simp only [h.O hV]
theorem AP.mp {s s2 : Nat → Int} (h : AP s s2) (hV : VS s) {m : Nat → Nat → Int} (hP : MP s m) : MP s2 m :=
  ⟨by rw [h.C hV]; exact hP.1, fun p hp k hk => by rw [h.O hV]; exact hP.2 p (by rw [h.C hV] at hp; exact hp) k (by rw [h.N] at hk; exact hk)⟩
theorem AP.chief {s s2 : Nat → Int} (h : AP s s2) (hV : VS s) (hm : ∀ p, p < pC s → (s2 (227 + p) == 1) = (s (227 + p) == 1)) : pChief s2 = pChief s := by
  unfold pChief
  rw [h.C hV]
  exact firstB_congr (fun p hp => hm p hp)
/-- alike in the cycle -/
def AC (s s2 : Nat → Int) : Prop := s2 2 = s 2 ∧ s2 3 = s 3 ∧ ∀ i, 49 ≤ i → i < 227 → s2 i = s i
theorem AC.T {s s2 : Nat → Int} (h : AC s s2) : pT s2 = pT s := by unfold pT; rw [h.1]
theorem AC.L {s s2 : Nat → Int} (h : AC s s2) {j : Nat} (hj : j < 4) : pL s2 j = pL s j := by unfold pL; rw [h.2.2 _ (by omega) (by omega)]
theorem AC.Sc {s s2 : Nat → Int} (h : AC s s2) : pSc s2 = pSc s := by unfold pSc; rw [h.L (by decide), h.L (by decide), h.L (by decide), h.L (by decide)]
theorem AC.Rs {s s2 : Nat → Int} (h : AC s s2) (t : Nat) : ∀ j, j ≤ 4 → pRs s2 t j = pRs s t j
  | 0, _ => rfl
  | j + 1, hj => by
    show pRs s2 t j / pL s2 j = pRs s t j / pL s j
    rw [h.Rs t j (by omega), h.L (by omega)]
theorem AC.Own {s s2 : Nat → Int} (h : AC s s2) {k : Nat} (hV : VS s) (hk : k ≤ 5) (t : Nat) : pOwn s2 k t = pOwn s k t := by
  have hRL := hV.RL k (by omega)
  have e1 : pRL s2 k = pRL s k := by unfold pRL; rw [h.2.2 _ (by omega) (by omega)]
  have hx0 : t % pRL s k < pRL s k := Nat.mod_lt _ (by omega)
  have e2 : pR s2 k (t % pRL s2 k) = pR s k (t % pRL s k) := by
    rw [e1]
    unfold pR
    rw [h.2.2 _ (by omega) (by omega)]
  unfold pOwn
  rw [h.T]
  congr 1
  unfold pOwS
  rw [e2]
  congr 1
  refine sumN_congr (fun j hj => ?_)
  unfold plc pS
  rw [h.Rs t j (by omega), h.L hj, h.2.2 _ (by omega) (by omega)]
theorem AC.Rcv {s s2 : Nat → Int} (h : AC s s2) (ha : AP s s2) (hV : VS s) (hc : s 3 = 0 → pChief s2 = pChief s) (t : Nat) : pRcv s2 t = pRcv s t := by
  have hN := hV.N
  unfold pRcv
  rw [h.2.1]
  by_cases h3 : s 3 = 0
  · rw [if_pos h3, if_pos h3, hc h3]
    by_cases c : pChief s = -1
    · rw [if_pos c, if_pos c]
    · rw [if_neg c, if_neg c, ha.N, h.T]
      congr 1
      refine sumN_congr (fun k hk => ?_)
      rw [ha.Ch hV, h.Own hV (by omega)]
  · rw [if_neg h3, if_neg h3, ha.N, h.Own hV (by omega)]
theorem AC.Ph {s s2 : Nat → Int} (h : AC s s2) (ha : AP s s2) (hV : VS s) (hc : s 3 = 0 → pChief s2 = pChief s) {k : Nat} (hk : k ≤ 5) (t : Nat) : pPh s2 k t = pPh s k t := by
  unfold pPh
  rw [ha.N]
  by_cases e : k = pN s
  · rw [if_pos e, if_pos e, h.Rcv ha hV hc]
  · rw [if_neg e, if_neg e, h.Own hV hk]
theorem AC.Res {s s2 : Nat → Int} (h : AC s s2) (ha : AP s s2) (hV : VS s) (hc : s 3 = 0 → pChief s2 = pChief s) (p t : Nat) : pRes s2 p t = pRes s p t := by
  have hN := hV.N
  unfold pRes
  rw [h.Rcv ha hV hc, ha.N, h.T]
  congr 3
  refine sumN_congr (fun k hk => ?_)
  rw [ha.Ch hV, h.Own hV (by omega)]
theorem AC.Cnt {s s2 : Nat → Int} (h : AC s s2) (ha : AP s s2) (hV : VS s) (hc : s 3 = 0 → pChief s2 = pChief s) (p n : Nat) : pCnt s2 p n = pCnt s p n := by
  funext r
  unfold pCnt
  rw [show (fun t => pRes s2 p t == r) = (fun t => pRes s p t == r) from funext (fun t => by rw [h.Res ha hV hc])]
theorem AC.St {s s2 : Nat → Int} (h : AC s s2) (ha : AP s s2) (hV : VS s) (hc : s 3 = 0 → pChief s2 = pChief s) (p : Nat) : pSt s2 p = pSt s p := by
  unfold pSt
  rw [h.T, h.Cnt ha hV hc, h.Sc]
/-- alike in what paths weigh -/
theorem AP.Wt {s s2 : Nat → Int} (h : AP s s2) (hV : VS s) (hw : ∀ i, i < 35 → s2 (14 + i) = s (14 + i)) (p : Nat) : pWt s2 p = pWt s p := by
  have hN := hV.N
  unfold pWt
  rw [h.N]
  refine prodN_congr (fun k hk => ?_)
  rw [h.Ch hV]
  have hc := pCh_rng hV p k
  unfold pW
  rw [show 14 + 7 * k + (pCh s p k).natAbs = 14 + (7 * k + (pCh s p k).natAbs) by omega, hw _ (by omega)]
theorem AP.Sp {s s2 : Nat → Int} (h : AP s s2) (hV : VS s) (hg : ∀ k, k < 5 → s2 (9 + k) = s (9 + k)) (p : Nat) : pSp s2 p = pSp s p := by
  have hN := hV.N
  unfold pSp
  rw [h.N]
  refine sumN_congr (fun k hk => ?_)
  rw [h.O hV]
  unfold pG
  rw [hg k (by omega)]
def sU (s : Nat → Int) (j : Nat) (x : Int) : Nat → Int := fun i => if i = j then x else s i
theorem sU_at (s : Nat → Int) (j : Nat) (x : Int) : sU s j x j = x := by unfold sU; rw [if_pos rfl]
theorem sU_ne (s : Nat → Int) {i j : Nat} (x : Int) (h : i ≠ j) : sU s j x i = s i := by unfold sU; rw [if_neg h]
def oth (s : Nat → Int) (j : Nat) : Nat := if j = 0 then pL s 1 * pL s 2 * pL s 3 else if j = 1 then pL s 0 * pL s 2 * pL s 3 else if j = 2 then pL s 0 * pL s 1 * pL s 3 else pL s 0 * pL s 1 * pL s 2
theorem oth_mul {s : Nat → Int} {j : Nat} (hj : j < 4) : pSc s = oth s j * pL s j := by
  unfold pSc oth
  rcases (show j = 0 ∨ j = 1 ∨ j = 2 ∨ j = 3 by omega) with rfl | rfl | rfl | rfl
  · rw [if_pos rfl, Nat.mul_comm (pL s 1 * pL s 2 * pL s 3), ← Nat.mul_assoc, ← Nat.mul_assoc]
  · rw [if_neg (by decide), if_pos rfl, Nat.mul_right_comm (pL s 0) (pL s 2) (pL s 3), Nat.mul_right_comm (pL s 0) (pL s 1) (pL s 2), Nat.mul_right_comm _ (pL s 1) (pL s 3), Nat.mul_right_comm (pL s 0) (pL s 2) (pL s 3)]
  · rw [if_neg (by decide), if_neg (by decide), if_pos rfl, Nat.mul_right_comm]
  · rw [if_neg (by decide), if_neg (by decide), if_neg (by decide)]
theorem oth_div {s : Nat → Int} (hV : VS s) {j : Nat} (hj : j < 4) : pSc s / pL s j = oth s j := by
  rw [oth_mul hj]
  exact Nat.mul_div_cancel _ (by have := hV.L j hj; omega)
theorem oth_rng {s : Nat → Int} (hV : VS s) {j : Nat} (hj : j < 4) : 1 ≤ oth s j ∧ oth s j ≤ 512 := by
  have h1 := hV.Sc
  have h2 := hV.L j hj
  rw [oth_mul hj] at h1
  constructor
  · exact Nat.pos_of_ne_zero (fun e => by rw [e, Nat.zero_mul] at h1; omega)
  · exact Nat.le_trans (Nat.le_mul_of_pos_right _ (by omega)) h1.2
theorem oth_len {s : Nat → Int} {j l : Nat} (hj : j < 4) (hl : 1 ≤ l) : pSc (sU s (49 + j) ((l : Int) - 1)) = oth s j * l := by
  have e0 : pL (sU s (49 + j) ((l : Int) - 1)) j = l := by unfold pL; rw [sU_at]; omega
  have e1 : ∀ i, i ≠ j → pL (sU s (49 + j) ((l : Int) - 1)) i = pL s i := fun i hi => by unfold pL; rw [sU_ne _ _ (by omega)]
  rw [oth_mul hj, e0]
  congr 1
  unfold oth
  rcases (show j = 0 ∨ j = 1 ∨ j = 2 ∨ j = 3 by omega) with rfl | rfl | rfl | rfl
  · rw [if_pos rfl, if_pos rfl, e1 1 (by decide), e1 2 (by decide), e1 3 (by decide)]
  · rw [if_neg (by decide), if_pos rfl, if_neg (by decide), if_pos rfl, e1 0 (by decide), e1 2 (by decide), e1 3 (by decide)]
  · rw [if_neg (by decide), if_neg (by decide), if_pos rfl, if_neg (by decide), if_neg (by decide), if_pos rfl, e1 0 (by decide), e1 1 (by decide), e1 3 (by decide)]
  · rw [if_neg (by decide), if_neg (by decide), if_neg (by decide), if_neg (by decide), if_neg (by decide), if_neg (by decide), e1 0 (by decide), e1 1 (by decide), e1 2 (by decide)]
/-- VS by its parts -/
theorem VS_mk {s : Nat → Int} (h0 : -2 ≤ s 0 ∧ s 0 ≤ 2) (h1 : 0 ≤ s 1 ∧ s 1 ≤ 2) (h2 : -22 ≤ s 2 ∧ s 2 ≤ 24) (h3 : 0 ≤ s 3 ∧ s 3 ≤ 1) (h : ∀ i, 4 ≤ i → i < 2628 → (i < 9 → 0 ≤ s i ∧ s i ≤ 2) ∧ (9 ≤ i → i < 14 → -9 ≤ s i ∧ s i ≤ 9) ∧ (14 ≤ i → i < 49 → -1 ≤ s i ∧ s i ≤ 8) ∧ (49 ≤ i → i < 53 → 0 ≤ s i ∧ s i ≤ 11) ∧ (53 ≤ i → i < 77 → 0 ≤ s i ∧ s i < s 2 + 24) ∧ (77 ≤ i → i < 83 → 0 ≤ s i ∧ s i ≤ 23) ∧ (83 ≤ i → i < 227 → 0 ≤ s i ∧ s i < s 2 + 24) ∧ (227 ≤ i → 0 ≤ s i ∧ s i ≤ 2)) (hs : pSc s ≤ 512) : VS s :=
  ⟨h0, h1, h2, h3, fun k hk => (h (4 + k) (by omega) (by omega)).1 (by omega), fun k hk => (h (9 + k) (by omega) (by omega)).2.1 (by omega) (by omega), fun i hi => (h (14 + i) (by omega) (by omega)).2.2.1 (by omega) (by omega), fun i hi => (h (49 + i) (by omega) (by omega)).2.2.2.1 (by omega) (by omega), hs, fun i hi => (h (53 + i) (by omega) (by omega)).2.2.2.2.1 (by omega) (by omega), fun i hi => (h (77 + i) (by omega) (by omega)).2.2.2.2.2.1 (by omega) (by omega), fun i hi => (h (83 + i) (by omega) (by omega)).2.2.2.2.2.2.1 (by omega) (by omega), fun i hi => (h (227 + i) (by omega) (by omega)).2.2.2.2.2.2.2 (by omega)⟩
theorem VS_un {s : Nat → Int} (h : VS s) : ∀ i, 4 ≤ i → i < 2628 → (i < 9 → 0 ≤ s i ∧ s i ≤ 2) ∧ (9 ≤ i → i < 14 → -9 ≤ s i ∧ s i ≤ 9) ∧ (14 ≤ i → i < 49 → -1 ≤ s i ∧ s i ≤ 8) ∧ (49 ≤ i → i < 53 → 0 ≤ s i ∧ s i ≤ 11) ∧ (53 ≤ i → i < 77 → 0 ≤ s i ∧ s i < s 2 + 24) ∧ (77 ≤ i → i < 83 → 0 ≤ s i ∧ s i ≤ 23) ∧ (83 ≤ i → i < 227 → 0 ≤ s i ∧ s i < s 2 + 24) ∧ (227 ≤ i → 0 ≤ s i ∧ s i ≤ 2) := by
  obtain ⟨g0, g1, g2, g3, g4, g5, g6, g7, g8, g9, ga, gb, gc⟩ := h
  intro i h1 h2
  refine ⟨fun h3 => ?_, fun h3 h4 => ?_, fun h3 h4 => ?_, fun h3 h4 => ?_, fun h3 h4 => ?_, fun h3 h4 => ?_, fun h3 h4 => ?_, fun h3 => ?_⟩
  · have := g4 (i - 4) (by omega); rwa [show 4 + (i - 4) = i by omega] at this
  · have := g5 (i - 9) (by omega); rwa [show 9 + (i - 9) = i by omega] at this
  · have := g6 (i - 14) (by omega); rwa [show 14 + (i - 14) = i by omega] at this
  · have := g7 (i - 49) (by omega); rwa [show 49 + (i - 49) = i by omega] at this
  · have := g9 (i - 53) (by omega); rwa [show 53 + (i - 53) = i by omega] at this
  · have := ga (i - 77) (by omega); rwa [show 77 + (i - 77) = i by omega] at this
  · have := gb (i - 83) (by omega); rwa [show 83 + (i - 83) = i by omega] at this
  · have := gc (i - 227) (by omega); rwa [show 227 + (i - 227) = i by omega] at this
/-- one number of a row changed, not n, m, t -/
theorem VS_sU {s : Nat → Int} (h : VS s) (j : Nat) (x : Int) (hj : 3 ≤ j) (h3 : j = 3 → 0 ≤ x ∧ x ≤ 1) (hx : (4 ≤ j → j < 9 → 0 ≤ x ∧ x ≤ 2) ∧ (9 ≤ j → j < 14 → -9 ≤ x ∧ x ≤ 9) ∧ (14 ≤ j → j < 49 → -1 ≤ x ∧ x ≤ 8) ∧ (49 ≤ j → j < 53 → 0 ≤ x ∧ x ≤ 11) ∧ (53 ≤ j → j < 77 → 0 ≤ x ∧ x < s 2 + 24) ∧ (77 ≤ j → j < 83 → 0 ≤ x ∧ x ≤ 23) ∧ (83 ≤ j → j < 227 → 0 ≤ x ∧ x < s 2 + 24) ∧ (227 ≤ j → 0 ≤ x ∧ x ≤ 2)) (hs : pSc (sU s j x) ≤ 512) : VS (sU s j x) := by
  have hu := VS_un h
  obtain ⟨g0, g1, g2, g3, -⟩ := h
  have e2 : sU s j x 2 = s 2 := sU_ne _ _ (by omega)
  refine VS_mk (by rw [sU_ne _ _ (by omega)]; exact g0) (by rw [sU_ne _ _ (by omega)]; exact g1) (by rw [e2]; exact g2) ?_ (fun i h1 h2 => ?_) hs
  · by_cases e : j = 3
    · subst e; rw [sU_at]; exact h3 rfl
    · rw [sU_ne _ _ (by omega)]; exact g3
  · rw [e2]
    by_cases e : i = j
    · subst e
      rw [sU_at]
      obtain ⟨x1, x2, x3, x4, x5, x6, x7, x8⟩ := hx
      exact ⟨x1 h1, x2, x3, x4, x5, x6, x7, x8⟩
    · rw [sU_ne _ _ e]
      exact hu i h1 h2
theorem pSc_sU {s : Nat → Int} {j : Nat} {x : Int} (h : j < 49 ∨ 53 ≤ j) : pSc (sU s j x) = pSc s := by
  have e : ∀ i, i < 4 → pL (sU s j x) i = pL s i := fun i hi => by unfold pL; rw [sU_ne _ _ (by omega)]
  unfold pSc
  rw [e 0 (by decide), e 1 (by decide), e 2 (by decide), e 3 (by decide)]
/-! the changes by calls -/
def uPulses (s : Nat → Int) (n m : Int) : Nat → Int := fun i => if i = 0 then n - 3 else if i = 1 then m - 1 else if 4 ≤ i then 0 else s i
def uKind (s : Nat → Int) (p : Nat) (k : Int) : Nat → Int := fun i => if 227 ≤ i then 0 else if i = 4 + p then k else s i
def uTurn (s : Nat → Int) (t : Int) : Nat → Int := fun i => if i = 2 then t - 24 else if 49 ≤ i ∧ i < 227 then 0 else s i
def uClr (s : Nat → Int) : Nat → Int := fun i => if i = 3 then 0 else if 49 ≤ i ∧ i < 227 then 0 else s i
def uSwap (s : Nat → Int) (a b : Nat) : Nat → Int := fun i => if i = 49 + a then s (49 + b) else if i = 49 + b then s (49 + a) else if 53 ≤ i ∧ i < 77 ∧ (i - 53) % 4 = a then s (i - a + b) else if 53 ≤ i ∧ i < 77 ∧ (i - 53) % 4 = b then s (i - b + a) else s i
def uFreeAll (s : Nat → Int) (k : Nat) (o : Int) : Nat → Int := fun i => if 227 ≤ i ∧ i < 227 + pC s ∧ pO s (i - 227) k = o ∧ s i = 0 then 2 else s i
theorem pSc_one {s : Nat → Int} (h : ∀ j, j < 4 → s (49 + j) = 0) : pSc s = 1 := by
  have e : ∀ j, j < 4 → pL s j = 1 := fun j hj => by unfold pL; rw [h j hj]; rfl
  unfold pSc
  rw [e 0 (by decide), e 1 (by decide), e 2 (by decide), e 3 (by decide)]
theorem VS_pulses {s : Nat → Int} (h : VS s) {n m : Int} (hn : 1 ≤ n ∧ n ≤ 5) (hm : 1 ≤ m ∧ m ≤ 3) : VS (uPulses s n m) := by
  have hT := h.T
  obtain ⟨g0, g1, g2, g3, -⟩ := h
  refine VS_mk (show -2 ≤ n - 3 ∧ n - 3 ≤ 2 by omega) (show 0 ≤ m - 1 ∧ m - 1 ≤ 2 by omega) g2 g3 (fun i h1 h2 => ?_) (by rw [pSc_one (fun j _ => by unfold uPulses; rw [if_neg (by omega), if_neg (by omega), if_pos (by omega)])]; decide)
  rw [show uPulses s n m i = 0 by unfold uPulses; rw [if_neg (by omega), if_neg (by omega), if_pos h1], show uPulses s n m 2 = s 2 from rfl]
  omega
theorem VS_kind {s : Nat → Int} (h : VS s) {p : Nat} {k : Int} (hp : p < 5) (hk : 0 ≤ k ∧ k ≤ 2) : VS (uKind s p k) := by
  have hu := VS_un h
  have hs := h.Sc
  obtain ⟨g0, g1, g2, g3, -⟩ := h
  have e : ∀ i, i < 227 → i ≠ 4 + p → uKind s p k i = s i := fun i h1 h2 => by unfold uKind; rw [if_neg (by omega), if_neg h2]
  refine VS_mk (by rw [e 0 (by omega) (by omega)]; exact g0) (by rw [e 1 (by omega) (by omega)]; exact g1) (by rw [e 2 (by omega) (by omega)]; exact g2) (by rw [e 3 (by omega) (by omega)]; exact g3) (fun i h1 h2 => ?_) ?_
  · rw [e 2 (by omega) (by omega)]
    by_cases c : 227 ≤ i
    · rw [show uKind s p k i = 0 by unfold uKind; rw [if_pos c]]
      omega
    · by_cases c2 : i = 4 + p
      · rw [show uKind s p k i = k by unfold uKind; rw [if_neg c, if_pos c2]]
        omega
      · rw [e i (by omega) c2]; exact hu i h1 h2
  · have e2 : ∀ j, j < 4 → pL (uKind s p k) j = pL s j := fun j hj => by unfold pL; rw [e _ (by omega) (by omega)]
    unfold pSc at hs ⊢
    rw [e2 0 (by decide), e2 1 (by decide), e2 2 (by decide), e2 3 (by decide)]
    exact hs.2
theorem VS_turn {s : Nat → Int} (h : VS s) {t : Int} (ht : 2 ≤ t ∧ t ≤ 48) : VS (uTurn s t) := by
  have hu := VS_un h
  obtain ⟨g0, g1, g2, g3, -⟩ := h
  have e2 : uTurn s t 2 = t - 24 := rfl
  refine VS_mk g0 g1 (by rw [e2]; omega) g3 (fun i h1 h2 => ?_) (by rw [pSc_one (fun j _ => by unfold uTurn; rw [if_neg (by omega), if_pos (by omega)])]; decide)
  rw [e2]
  by_cases c : 49 ≤ i ∧ i < 227
  · rw [show uTurn s t i = 0 by unfold uTurn; rw [if_neg (by omega), if_pos c]]
    omega
  · rw [show uTurn s t i = s i by unfold uTurn; rw [if_neg (by omega), if_neg c]]
    have := hu i h1 h2
    omega
theorem VS_clr {s : Nat → Int} (h : VS s) : VS (uClr s) := by
  have hu := VS_un h
  obtain ⟨g0, g1, g2, g3, -⟩ := h
  refine VS_mk g0 g1 g2 (show (0 : Int) ≤ 0 ∧ (0 : Int) ≤ 1 by decide) (fun i h1 h2 => ?_) (by rw [pSc_one (fun j _ => by unfold uClr; rw [if_neg (by omega), if_pos (by omega)])]; decide)
  rw [show uClr s 2 = s 2 from rfl]
  by_cases c : 49 ≤ i ∧ i < 227
  · rw [show uClr s i = 0 by unfold uClr; rw [if_neg (by omega), if_pos c]]
    omega
  · rw [show uClr s i = s i by unfold uClr; rw [if_neg (by omega), if_neg c]]
    exact hu i h1 h2
theorem uSwap_off {s : Nat → Int} {a b i : Nat} (ha : a < 4) (hb : b < 4) (h : i < 49 ∨ 77 ≤ i) : uSwap s a b i = s i := by
  unfold uSwap
  rw [if_neg (by omega), if_neg (by omega), if_neg (by omega), if_neg (by omega)]
theorem uSwap_ix (s : Nat → Int) {a b i : Nat} (ha : a < 4) (hb : b < 4) (h1 : 49 ≤ i) (h2 : i < 77) : ∃ i', uSwap s a b i = s i' ∧ ((i < 53 ∧ 49 ≤ i' ∧ i' < 53) ∨ (53 ≤ i ∧ 53 ≤ i' ∧ i' < 77)) := by
  unfold uSwap
  by_cases c1 : i = 49 + a
  · exact ⟨49 + b, if_pos c1, by omega⟩
  · rw [if_neg c1]
    by_cases c2 : i = 49 + b
    · exact ⟨49 + a, if_pos c2, by omega⟩
    · rw [if_neg c2]
      by_cases c3 : 53 ≤ i ∧ i < 77 ∧ (i - 53) % 4 = a
      · exact ⟨i - a + b, if_pos c3, by omega⟩
      · rw [if_neg c3]
        by_cases c4 : 53 ≤ i ∧ i < 77 ∧ (i - 53) % 4 = b
        · exact ⟨i - b + a, if_pos c4, by omega⟩
        · exact ⟨i, if_neg c4, by omega⟩
theorem VS_swap {s : Nat → Int} (h : VS s) {a b : Nat} (ha : a < 4) (hb : b < 4) (hab : a ≠ b) : VS (uSwap s a b) := by
  have hu := VS_un h
  have hs := h.Sc
  obtain ⟨g0, g1, g2, g3, -⟩ := h
  refine VS_mk (by rw [uSwap_off ha hb (by omega)]; exact g0) (by rw [uSwap_off ha hb (by omega)]; exact g1) (by rw [uSwap_off ha hb (by omega)]; exact g2) (by rw [uSwap_off ha hb (by omega)]; exact g3) (fun i h1 h2 => ?_) ?_
  · rw [uSwap_off (i := 2) ha hb (by omega)]
    by_cases c : i < 49 ∨ 77 ≤ i
    · rw [uSwap_off ha hb c]; exact hu i h1 h2
    · obtain ⟨i', e1, e2⟩ := uSwap_ix s ha hb (i := i) (by omega) (by omega)
      rw [e1]
      rcases e2 with ⟨e3, e4, e5⟩ | ⟨e3, e4, e5⟩
      · have k := (hu i' (by omega) (by omega)).2.2.2.1 e4 e5
        clear hu hs g0 g1 g2 g3
        exact ⟨fun h => absurd h (by omega), fun _ h => absurd h (by omega), fun _ h => absurd h (by omega), fun _ _ => k, fun h => absurd h (by omega), fun h => absurd h (by omega), fun h => absurd h (by omega), fun h => absurd h (by omega)⟩
      · have k := (hu i' (by omega) (by omega)).2.2.2.2.1 e4 e5
        clear hu hs g0 g1 g2 g3
        exact ⟨fun h => absurd h (by omega), fun _ h => absurd h (by omega), fun _ h => absurd h (by omega), fun _ h => absurd h (by omega), fun _ _ => k, fun h => absurd h (by omega), fun h => absurd h (by omega), fun h => absurd h (by omega)⟩
  · have e : ∀ j, j < 4 → pL (uSwap s a b) j = if j = a then pL s b else if j = b then pL s a else pL s j := fun j hj => by
      unfold pL uSwap
      by_cases c1 : j = a
      · rw [if_pos (by omega), if_pos c1]
      · rw [if_neg (by omega), if_neg c1]
        by_cases c2 : j = b
        · rw [if_pos (by omega), if_pos c2]
        · rw [if_neg (by omega), if_neg c2, if_neg (by omega), if_neg (by omega)]
    rw [show pSc (uSwap s a b) = pSc s from ?_]
    · exact hs.2
    unfold pSc
    rw [e 0 (by decide), e 1 (by decide), e 2 (by decide), e 3 (by decide)]
    rcases (show a = 0 ∨ a = 1 ∨ a = 2 ∨ a = 3 by omega) with rfl | rfl | rfl | rfl <;> rcases (show b = 0 ∨ b = 1 ∨ b = 2 ∨ b = 3 by omega) with rfl | rfl | rfl | rfl <;> first | exact absurd rfl hab | (simp only [if_true, if_false, reduceIte, Nat.reduceEqDiff]; ac_rfl)
theorem VS_freeAll {s : Nat → Int} (h : VS s) (k : Nat) (o : Int) : VS (uFreeAll s k o) := by
  have hu := VS_un h
  have hs := h.Sc
  obtain ⟨g0, g1, g2, g3, -⟩ := h
  have e : ∀ i, i < 227 → uFreeAll s k o i = s i := fun i h1 => by unfold uFreeAll; rw [if_neg (by omega)]
  refine VS_mk (by rw [e 0 (by omega)]; exact g0) (by rw [e 1 (by omega)]; exact g1) (by rw [e 2 (by omega)]; exact g2) (by rw [e 3 (by omega)]; exact g3) (fun i h1 h2 => ?_) ?_
  · rw [e 2 (by omega)]
    by_cases c : 227 ≤ i ∧ i < 227 + pC s ∧ pO s (i - 227) k = o ∧ s i = 0
    · rw [show uFreeAll s k o i = 2 by unfold uFreeAll; rw [if_pos c]]
      omega
    · rw [show uFreeAll s k o i = s i by unfold uFreeAll; rw [if_neg c]]
      exact hu i h1 h2
  · have e2 : ∀ j, j < 4 → pL (uFreeAll s k o) j = pL s j := fun j hj => by unfold pL; rw [e _ (by omega)]
    unfold pSc at hs ⊢
    rw [e2 0 (by decide), e2 1 (by decide), e2 2 (by decide), e2 3 (by decide)]
    exact hs.2
