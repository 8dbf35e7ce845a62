def tcv (x : Nat) : Int := if x = 0 then 2 else if x = 2 ∨ x = 10 then 1 else if x = 3 ∨ x = 9 then 0 else if x = 4 ∨ x = 8 then -1 else -2
theorem tcv_rng (x : Nat) : -2 ≤ tcv x ∧ tcv x ≤ 2 := by
  unfold tcv
  repeat' split
  all_goals omega
def tcT (T a b : Nat) : Int := tcv (((a : Int) - (b : Int)).natAbs * 12 / T)
def trm (T : Nat) (c : Nat → Int) (a b : Nat) : Int := c a * c b * tcT T a b
def dblS (T : Nat) (c : Nat → Int) (a b : Nat) : Int := sumN (fun i => sumN (fun j => trm T c i j) T) a + sumN (fun j => trm T c a j) b
theorem pw_dbl2 (c : Nat → Int) : dblS 2 c 2 0 = 2 * pw 2 c := by
  have e : ∀ i, i < 2 → ∀ j, j < 2 → tcT 2 i j = if i = j then 2 else -2 := by decide
  simp only [dblS, sumN, trm, pw]
  simp (config := {decide := true}) only [e]
  simp
  grind
theorem pw_dbl4 (c : Nat → Int) : dblS 4 c 4 0 = 2 * pw 4 c := by
  have e : ∀ i, i < 4 → ∀ j, j < 4 → tcT 4 i j = if i = j then 2 else if i = j + 2 ∨ j = i + 2 then -2 else 0 := by decide
  simp only [dblS, sumN, trm, pw]
  simp (config := {decide := true}) only [e]
  simp
  grind
theorem pw_dbl3 (c : Nat → Int) : dblS 3 c 3 0 = 2 * pw 3 c := by
  have e : ∀ i, i < 3 → ∀ j, j < 3 → tcT 3 i j = if i = j then 2 else -1 := by decide
  simp only [dblS, sumN, trm, pw]
  simp (config := {decide := true}) only [e]
  simp
  grind
theorem pw_dbl6 (c : Nat → Int) : dblS 6 c 6 0 = 2 * pw 6 c := by
  have e : ∀ i, i < 6 → ∀ j, j < 6 → tcT 6 i j = if i = j then 2 else if i = j + 1 ∨ j = i + 1 ∨ i = j + 5 ∨ j = i + 5 then 1 else if i = j + 3 ∨ j = i + 3 then -2 else -1 := by decide
  simp only [dblS, sumN, trm, pw]
  simp (config := {decide := true}) only [e]
  simp
  grind
theorem pw_dbl {T : Nat} (h : T = 2 ∨ T = 3 ∨ T = 4 ∨ T = 6) (c : Nat → Int) : dblS T c T 0 = 2 * pw T c := by
  rcases h with rfl | rfl | rfl | rfl
  · exact pw_dbl2 c
  · exact pw_dbl3 c
  · exact pw_dbl4 c
  · exact pw_dbl6 c
theorem ol_half {z : Int} (hz : -1000000000 ≤ z ∧ z ≤ 1000000000) : Int64.ofInt (2 * z) / Int64.ofInt 2 = Int64.ofInt z := by
  have e1 : (Int64.ofInt (2 * z)).toInt = 2 * z := Int64.toInt_ofInt_of_le (by omega) (by omega)
  have e2 : (Int64.ofInt z).toInt = z := Int64.toInt_ofInt_of_le (by omega) (by omega)
  rw [← Int64.toInt_inj, Int64.toInt_div_of_ne_left, e1, e2]
  · show (2 * z).tdiv 2 = z
    rw [Int.mul_comm]
    exact Int.mul_tdiv_cancel z (by decide)
  · intro h
    have := congrArg Int64.toInt h
    rw [e1] at this
    have h2 : Int64.minValue.toInt = -9223372036854775808 := by decide
    omega
theorem pw_rng {s : Nat → Int} (hV : VS s) {T : Nat} (h : T = 2 ∨ T = 3 ∨ T = 4 ∨ T = 6) (p n : Nat) (hn : n ≤ 512) : -1000000000 ≤ pw T (pCnt s p n) ∧ pw T (pCnt s p n) ≤ 1000000000 := by
  have hc : ∀ i, 0 ≤ pCnt s p n i ∧ pCnt s p n i ≤ 512 := fun i => by have := pCnt_rng s p n i; omega
  have ht : ∀ i j, -524288 ≤ trm T (pCnt s p n) i j ∧ trm T (pCnt s p n) i j ≤ 524288 := fun i j => by
    have h1 := absb (x := pCnt s p n i) (y := pCnt s p n j) (A := 512) (B := 512) (by have := hc i; omega) (by have := hc j; omega)
    have h2 := tcv_rng ((((i : Int) - (j : Int)).natAbs * 12 / T))
    have h3 := absb (x := pCnt s p n i * pCnt s p n j) (y := tcT T i j) (A := 262144) (B := 2) (by omega) (by unfold tcT; omega)
    unfold trm
    omega
  have h1 := pw_dbl h (pCnt s p n)
  have h2 := sumN_bnd (f := fun i => sumN (fun j => trm T (pCnt s p n) i j) T) (B := 524288 * 6) (n := T) (fun i _ => by
    have h3 := sumN_bnd (f := fun j => trm T (pCnt s p n) i j) (B := 524288) (n := T) (fun j _ => ht i j)
    omega)
  unfold dblS at h1
  have h4 : sumN (fun j => trm T (pCnt s p n) T j) 0 = 0 := rfl
  omega

theorem sp_CtwiceCosine {w : List KD} {m : Nat → Nat → Int} (u T : Nat) (hT : T = 2 ∨ T = 3 ∨ T = 4 ∨ T = 6) (hu : u < T) : Sp M_X9_twiceCosine 0 0 0 [iV (u : Int), iV (T : Int)] (WC ++ w, m) (fun r h => r = some (iV (tcv (u * 12 / T))) ∧ h = (WC ++ w, m)) := by
  refine Sp.ofG (ls := [iV (u : Int), iV (T : Int), uV]) (by decide +kernel) rfl (Nat.le_of_ble_eq_true rfl) ?_
  have hq : u * 12 / T < 12 := by rw [Nat.div_lt_iff_lt_mul (by omega)]; omega
  refine G_iload_n d_X9_twiceCosine_0 rfl ?_
  refine G_bipush d_X9_twiceCosine_1 (by decide) ?_
  refine G_imul d_X9_twiceCosine_3 ?_
  refine G_iload_n d_X9_twiceCosine_4 rfl ?_
  refine G_idivN (u * 12) (T) ((by omega)) (rfl) d_X9_twiceCosine_5 (by omega) (by omega) (by omega) ?_
  refine G_istore_n d_X9_twiceCosine_6 (by decide) rfl ?_
  refine G_iload_n d_X9_twiceCosine_7 rfl ?_
  generalize u * 12 / T = x at hq ⊢
  by_cases hs8 : 0 ≤ (x : Int) ∧ (x : Int) ≤ 10
  · rcases (show (x : Int) = 0 ∨ (x : Int) = 1 ∨ (x : Int) = 2 ∨ (x : Int) = 3 ∨ (x : Int) = 4 ∨ (x : Int) = 5 ∨ (x : Int) = 6 ∨ (x : Int) = 7 ∨ (x : Int) = 8 ∨ (x : Int) = 9 ∨ (x : Int) = 10 by omega) with hv | hv | hv | hv | hv | hv | hv | hv | hv | hv | hv
    · refine G_tin 68 d_X9_twiceCosine_8 (by omega) (by omega) (by omega) (by rw [hv]; rfl) (by decide) ?_
      refine G_iconst d_X9_twiceCosine_68 ?_
      refine G_iret (mc := 0) (ms := 0) (st := []) d_X9_twiceCosine_69 rfl ?_
      exact ⟨by rw [show x = _ from Int.ofNat.inj hv]; rfl, rfl⟩
    · refine G_tin 76 d_X9_twiceCosine_8 (by omega) (by omega) (by omega) (by rw [hv]; rfl) (by decide) ?_
      refine G_bipush d_X9_twiceCosine_76 (by decide) ?_
      refine G_iret (mc := 0) (ms := 0) (st := []) d_X9_twiceCosine_78 rfl ?_
      first | exact ⟨by rw [show x = _ from Int.ofNat.inj hv]; rfl, rfl⟩ | exact ⟨by unfold tcv; rw [if_neg (by omega), if_neg (by omega), if_neg (by omega), if_neg (by omega)], rfl⟩
    · refine G_tin 70 d_X9_twiceCosine_8 (by omega) (by omega) (by omega) (by rw [hv]; rfl) (by decide) ?_
      refine G_iconst d_X9_twiceCosine_70 ?_
      refine G_iret (mc := 0) (ms := 0) (st := []) d_X9_twiceCosine_71 rfl ?_
      exact ⟨by rw [show x = _ from Int.ofNat.inj hv]; rfl, rfl⟩
    · refine G_tin 72 d_X9_twiceCosine_8 (by omega) (by omega) (by omega) (by rw [hv]; rfl) (by decide) ?_
      refine G_iconst d_X9_twiceCosine_72 ?_
      refine G_iret (mc := 0) (ms := 0) (st := []) d_X9_twiceCosine_73 rfl ?_
      exact ⟨by rw [show x = _ from Int.ofNat.inj hv]; rfl, rfl⟩
    · refine G_tin 74 d_X9_twiceCosine_8 (by omega) (by omega) (by omega) (by rw [hv]; rfl) (by decide) ?_
      refine G_iconst d_X9_twiceCosine_74 ?_
      refine G_iret (mc := 0) (ms := 0) (st := []) d_X9_twiceCosine_75 rfl ?_
      exact ⟨by rw [show x = _ from Int.ofNat.inj hv]; rfl, rfl⟩
    · refine G_tin 76 d_X9_twiceCosine_8 (by omega) (by omega) (by omega) (by rw [hv]; rfl) (by decide) ?_
      refine G_bipush d_X9_twiceCosine_76 (by decide) ?_
      refine G_iret (mc := 0) (ms := 0) (st := []) d_X9_twiceCosine_78 rfl ?_
      first | exact ⟨by rw [show x = _ from Int.ofNat.inj hv]; rfl, rfl⟩ | exact ⟨by unfold tcv; rw [if_neg (by omega), if_neg (by omega), if_neg (by omega), if_neg (by omega)], rfl⟩
    · refine G_tin 76 d_X9_twiceCosine_8 (by omega) (by omega) (by omega) (by rw [hv]; rfl) (by decide) ?_
      refine G_bipush d_X9_twiceCosine_76 (by decide) ?_
      refine G_iret (mc := 0) (ms := 0) (st := []) d_X9_twiceCosine_78 rfl ?_
      first | exact ⟨by rw [show x = _ from Int.ofNat.inj hv]; rfl, rfl⟩ | exact ⟨by unfold tcv; rw [if_neg (by omega), if_neg (by omega), if_neg (by omega), if_neg (by omega)], rfl⟩
    · refine G_tin 76 d_X9_twiceCosine_8 (by omega) (by omega) (by omega) (by rw [hv]; rfl) (by decide) ?_
      refine G_bipush d_X9_twiceCosine_76 (by decide) ?_
      refine G_iret (mc := 0) (ms := 0) (st := []) d_X9_twiceCosine_78 rfl ?_
      first | exact ⟨by rw [show x = _ from Int.ofNat.inj hv]; rfl, rfl⟩ | exact ⟨by unfold tcv; rw [if_neg (by omega), if_neg (by omega), if_neg (by omega), if_neg (by omega)], rfl⟩
    · refine G_tin 74 d_X9_twiceCosine_8 (by omega) (by omega) (by omega) (by rw [hv]; rfl) (by decide) ?_
      refine G_iconst d_X9_twiceCosine_74 ?_
      refine G_iret (mc := 0) (ms := 0) (st := []) d_X9_twiceCosine_75 rfl ?_
      exact ⟨by rw [show x = _ from Int.ofNat.inj hv]; rfl, rfl⟩
    · refine G_tin 72 d_X9_twiceCosine_8 (by omega) (by omega) (by omega) (by rw [hv]; rfl) (by decide) ?_
      refine G_iconst d_X9_twiceCosine_72 ?_
      refine G_iret (mc := 0) (ms := 0) (st := []) d_X9_twiceCosine_73 rfl ?_
      exact ⟨by rw [show x = _ from Int.ofNat.inj hv]; rfl, rfl⟩
    · refine G_tin 70 d_X9_twiceCosine_8 (by omega) (by omega) (by omega) (by rw [hv]; rfl) (by decide) ?_
      refine G_iconst d_X9_twiceCosine_70 ?_
      refine G_iret (mc := 0) (ms := 0) (st := []) d_X9_twiceCosine_71 rfl ?_
      exact ⟨by rw [show x = _ from Int.ofNat.inj hv]; rfl, rfl⟩
  · refine G_tout 76 d_X9_twiceCosine_8 (by omega) (by omega) (by decide) ?_
    refine G_bipush d_X9_twiceCosine_76 (by decide) ?_
    refine G_iret (mc := 0) (ms := 0) (st := []) d_X9_twiceCosine_78 rfl ?_
    first | exact ⟨by rw [show x = _ from Int.ofNat.inj hv]; rfl, rfl⟩ | exact ⟨by unfold tcv; rw [if_neg (by omega), if_neg (by omega), if_neg (by omega), if_neg (by omega)], rfl⟩
