theorem upN_upN (N : Nat → Nat) (k a b : Nat) : upN (upN N k a) k b = upN N k b := by
  funext i
  unfold upN
  by_cases h : i = k
  · rw [if_pos h, if_pos h]
  · rw [if_neg h, if_neg h, if_neg h]
theorem upN_self {N : Nat → Nat} {k d : Nat} (h : N k = d) : upN N k d = N := by
  funext i
  unfold upN
  by_cases e : i = k
  · rw [if_pos e, e, h]
  · rw [if_neg e]
theorem run_ind {α : Type} (n : Nat) (D : List Nat) (nx : Nat → Nat) (high low : Nat) (hch : chB nx high D = true) (hhd : D.head? = some low) (step : α → (Nat → Nat) → α) (Hd Ed : α → (Nat → Nat) → Prop)
    (h0 : ∀ acc N, Ed (step acc N) N → Hd acc N)
    (h1 : ∀ acc N k, k < n → nx (N k) ≤ high → (∀ i, k < i → i < n → high < nx (N i)) → Hd acc (fun i => if i < k then N i else if i = k then nx (N k) else low) → Ed acc N) :
    ∀ j, j ≤ n → ∀ acc N, (∀ i, n - j ≤ i → N i = low) → (∀ N', (∀ i, i < n - j → N' i = N i) → (∀ i, n - j ≤ i → i < n → high < nx (N' i)) → Ed (run n D step j N acc) N') → Hd acc N := by
  intro j
  induction j with
  | zero =>
    intro _ acc N _ hK
    exact h0 acc N (hK N (fun _ _ => rfl) (fun i h2 h3 => absurd h2 (by omega)))
  | succ j IH =>
    intro hj acc N hlow hK
    have inner : ∀ (r : List Nat) (d : Nat) (acc : α) (N : Nat → Nat), chB nx high (d :: r) = true → (∀ i, n - (j + 1) < i → N i = low) → N (n - (j + 1)) = d → (∀ N', (∀ i, i < n - (j + 1) → N' i = N i) → (∀ i, n - (j + 1) ≤ i → i < n → high < nx (N' i)) → Ed ((d :: r).foldl (fun a d => run n D step j (upN N (n - (j + 1)) d) a) acc) N') → Hd acc N := by
      intro r
      induction r with
      | nil =>
        intro d acc N hc hl hd hK
        refine IH (by omega) acc N (fun i hi => hl i (by omega)) (fun N' ha hb => ?_)
        have h3 := hK N' (fun i hi => ha i (by omega)) (fun i hi hi2 => by
          by_cases e : i = n - (j + 1)
          · rw [ha i (by omega), e, hd]
            have h4 := (Bool.and_eq_true_iff.mp hc).1
            simpa using h4
          · exact hb i (by omega) hi2)
        rw [List.foldl_cons, List.foldl_nil, upN_self hd] at h3
        exact h3
      | cons b r ih =>
        intro d acc N hc hl hd hK
        have hc2 := Bool.and_eq_true_iff.mp hc
        have hc3 := Bool.and_eq_true_iff.mp hc2.1
        have hnb : nx d = b := by simpa using hc3.1
        have hbh : b ≤ high := by
          have h5 := hc2.2
          cases r with
          | nil => have h6 := (Bool.and_eq_true_iff.mp h5).2; simpa using h6
          | cons c r => have h6 := (Bool.and_eq_true_iff.mp (Bool.and_eq_true_iff.mp h5).1).2; simpa using h6
        refine IH (by omega) acc N (fun i hi => hl i (by omega)) (fun N' ha hb => ?_)
        have hNk : N' (n - (j + 1)) = d := by rw [ha _ (by omega), hd]
        refine h1 _ N' (n - (j + 1)) (by omega) (by rw [hNk, hnb]; exact hbh) (fun i hi hi2 => hb i (by omega) hi2) ?_
        have hfun : (fun i => if i < n - (j + 1) then N' i else if i = n - (j + 1) then nx (N' (n - (j + 1))) else low) = upN N (n - (j + 1)) b := by
          funext i
          unfold upN
          by_cases e : i < n - (j + 1)
          · rw [if_pos e, if_neg (by omega), ha i (by omega)]
          · rw [if_neg e]
            by_cases e2 : i = n - (j + 1)
            · rw [if_pos e2, if_pos e2, hNk, hnb]
            · rw [if_neg e2, if_neg e2, hl i (by omega)]
        rw [hfun]
        refine ih b _ _ hc2.2 (fun i hi => by unfold upN; rw [if_neg (by omega)]; exact hl i hi) (by unfold upN; rw [if_pos rfl]) (fun N2 g1 g2 => ?_)
        have h3 := hK N2 (fun i hi => by rw [g1 i hi]; unfold upN; rw [if_neg (by omega)]) g2
        rw [List.foldl_cons, upN_self hd] at h3
        simp only [upN_upN]
        exact h3
    cases hD : D with
    | nil => rw [hD] at hch; exact Bool.noConfusion hch
    | cons d r =>
      have hdl : d = low := by rw [hD] at hhd; simpa using hhd
      refine inner r d acc N (by rw [← hD]; exact hch) (fun i hi => hlow i (by omega)) (by rw [hlow _ (Nat.le_refl _), hdl]) (fun N' ha hb => ?_)
      have h3 := hK N' ha hb
      unfold run at h3
      rw [← hD]
      exact h3
def prN (s : Nat → Int) (N : Nat → Nat) : Int := prodN (fun k => (N k : Int)) (pN s)
def stepF (s : Nat → Int) (a : Int × (Nat → Nat)) (N : Nat → Nat) : Int × (Nat → Nat) := if (a.1 = -1 ∨ prN s N < a.1) ∧ okL s (lft s N) = true then (prN s N, N) else a
def resF (s : Nat → Int) : Int × (Nat → Nat) := if posb s = true then run (pN s) (D1 (pT s)) (stepF s) (pN s) (fun _ => 1) (-1, fun _ => 0) else (-1, fun _ => 0)
def okc2 (s : Nat → Int) (l : Nat) (N : Nat → Nat) : Bool := okL s (lfc s N l)
def stepC (s : Nat → Int) (l : Nat) (a : Option (Nat → Nat)) (N : Nat → Nat) : Option (Nat → Nat) := match a with
  | some x => some x
  | none => if okc2 s l N = true then some N else none
def runC (s : Nat → Int) (l : Nat) : Option (Nat → Nat) := run (pN s) (D0 l) (stepC s l) (pN s) (fun _ => 0) none
def fndC (s : Nat → Int) : Nat → Option (Nat × (Nat → Nat))
  | 0 => none
  | l + 1 => match fndC s l with
    | some x => some x
    | none => if pT s % (l + 1) = 0 then (match runC s (l + 1) with | some N => some (l + 1, N) | none => none) else none
def resC (s : Nat → Int) : Option (Nat × (Nat → Nat)) := if pC s ≤ 200 ∧ posb s = true then fndC s 12 else none
theorem prN_rng {s : Nat → Int} (h : VS s) {N : Nat → Nat} (hN : ∀ k, k < pN s → 1 ≤ N k ∧ N k ≤ 12) : 1 ≤ prN s N ∧ prN s N ≤ 248832 := by
  have key : ∀ n, n ≤ pN s → 1 ≤ prodN (fun k => (N k : Int)) n ∧ prodN (fun k => (N k : Int)) n ≤ 12 ^ n := by
    intro n
    induction n with
    | zero => intro _; exact ⟨Int.le_refl 1, show (1 : Int) ≤ 1 from Int.le_refl 1⟩
    | succ n ih =>
      intro hn
      have h1 := ih (by omega)
      have h2 := hN n (by omega)
      unfold prodN
      constructor
      · have := Int.mul_le_mul h1.1 (show (1 : Int) ≤ (N n : Int) by omega) (by decide) (by omega)
        simpa using this
      · rw [Int.pow_succ]
        exact Int.mul_le_mul h1.2 (by omega) (by omega) (by omega)
  have h3 := key (pN s) (Nat.le_refl _)
  have h4 := h.N
  have h5 : (12 : Int) ^ pN s ≤ 248832 := by
    rcases (show pN s = 1 ∨ pN s = 2 ∨ pN s = 3 ∨ pN s = 4 ∨ pN s = 5 by omega) with e | e | e | e | e <;> rw [e] <;> decide
  unfold prN
  omega
def BST (s : Nat → Int) (a : Int × (Nat → Nat)) (m : Nat → Nat → Int) : Prop := -1 ≤ a.1 ∧ a.1 ≤ 248832 ∧ (a.1 ≠ -1 → ∀ k, k < pN s → m 80 k = (a.2 k : Int))
theorem MT.congr {s : Nat → Int} {E : List (Nat × Bool)} {m m2 : Nat → Nat → Int} (h : MT s E m) (h23 : m2 64 23 = m 64 23) (h77 : m2 77 = m 77) (h78 : m2 78 = m 78) : MT s E m2 := ⟨by rw [h23]; exact h.1, fun i q hq => by rw [h77, h78]; exact h.2 i q hq⟩
theorem sp_MlaysFewest {w : List KD} {m : Nat → Nat → Int} (s : Nat → Int) (hV : VS s) (hI : MI s m) : Sp M_X10_laysFewest 6 0 0 [rV 64] (WC ++ (WM ++ w), m) (fun r h => r = some (iV (resF s).1) ∧ ∃ m2, h = (WC ++ (WM ++ w), m2) ∧ KQ s m m2 ∧ ((resF s).1 ≠ -1 → ∀ k, k < pN s → m2 80 k = ((resF s).2 k : Int))) := by
  refine Sp.ofG (ls := [rV 64, uV, uV, uV]) (by decide +kernel) rfl (Nat.le_of_ble_eq_true rfl) ?_
  have hC := pC_le hV
  have hN := hV.N
  have hT := hV.T
  have hSc := hV.Sc
  by_cases hps : posb s = true
  · skip
    have LC : ∀ N : Nat → Nat, (∀ k, k < pN s → 1 ≤ N k ∧ N k ≤ 12) → (∀ m1, KQ s m m1 → MT s (mtl s (pC s) (pC s)) m1 → NB s N m1 → (∀ k, k < pN s → m1 80 k = (N k : Int)) → G M_X10_laysFewest 6 0 0 93 [rV 64, iV (prN s N), iV 1, uV] [] (WC ++ (WM ++ w), m1) (fun r h => r = some (iV (resF s).1) ∧ ∃ m2, h = (WC ++ (WM ++ w), m2) ∧ KQ s m m2 ∧ ((resF s).1 ≠ -1 → ∀ k, k < pN s → m2 80 k = ((resF s).2 k : Int)))) → ∀ k : Nat, k ≤ pN s → ∀ m1, KQ s m m1 → MT s (mtl s (pC s) (pC s)) m1 → NB s N m1 → (∀ j, j < k → m1 80 j = (N j : Int)) → G M_X10_laysFewest 6 0 0 67 [rV 64, iV (prN s N), iV 1, iV (k : Int)] [] (WC ++ (WM ++ w), m1) (fun r h => r = some (iV (resF s).1) ∧ ∃ m2, h = (WC ++ (WM ++ w), m2) ∧ KQ s m m2 ∧ ((resF s).1 ≠ -1 → ∀ k, k < pN s → m2 80 k = ((resF s).2 k : Int))) := by
      intro N hok hnext
      refine loop_up (pN s) _ ?_
      intro k hk ih m1 h1 hM hB hz
      refine G_iload_n d_X10_laysFewest_67 rfl ?_
      refine G_aload_n d_X10_laysFewest_68 rfl ?_
      refine G_callV0 cl_X10_11 rfl d_X10_laysFewest_69 (wk_64 _) (Nat.le_of_ble_eq_true rfl) (by decide) (sp_Mn s hV h1.2.1) ?_
      rintro _ _ ⟨rfl, rfl⟩
      refine G_icmp_ge 93 d_X10_laysFewest_72 (by decide) (by omega) (by omega) (fun c72 => ?_) (fun c72 => ?_)
      · exact G.fg (hnext m1 h1 hM hB (fun j hj => hz j (by omega))) (by
          repeat (first | exact trivial | refine wkL_cons (Or.inl rfl) ?_ | refine wkL_cons (Or.inr rfl) ?_))
      · refine G_aload_n d_X10_laysFewest_75 rfl ?_
        refine G_getR (r := 80) (fl_X10_86.r) d_X10_laysFewest_76 (wk_64 _) rfl rfl ?_
        refine G_iload_n d_X10_laysFewest_79 rfl ?_
        refine G_aload_n d_X10_laysFewest_80 rfl ?_
        refine G_getR (r := 79) (fl_X10_83.r) d_X10_laysFewest_81 (wk_64 _) rfl rfl ?_
        refine G_iload_n d_X10_laysFewest_84 rfl ?_
        refine G_ialdj (k) d_X10_laysFewest_85 (wk_79 _) (by omega) (by omega) (by decide) ?_
        refine G_iastj (k) d_X10_laysFewest_86 (wk_80 _) (by omega) (by omega) (by decide) ?_
        refine G_iinc d_X10_laysFewest_87 rfl (by decide) rfl ?_
        refine G_goto 67 d_X10_laysFewest_90 (by decide) ?_
        exact ih (by omega) _ (h1.up rfl) (hM.congr (by rw [upm_off _ _ (by decide)]) (upm_off _ _ (by decide)) (upm_off _ _ (by decide))) (fun j hj => by rw [upm_off _ _ (by decide)]; exact hB j hj) (fun j hj => by
          by_cases e : j = k
          · rw [e, upm_same]; exact hB k (by omega)
          · rw [upm_ne _ _ (fun _ => e)]; exact hz j (by omega))
    have hch := D1_ch hT.1 hT.2.1
    have key := run_ind (pN s) (D1 (pT s)) (nxv 1 12 (pT s)) 12 1 hch.1 hch.2 (stepF s) (fun (a : Int × (Nat → Nat)) (N : Nat → Nat) => ∀ m1, KQ s m m1 → MT s (mtl s (pC s) (pC s)) m1 → NB s N m1 → BST s a m1 → (∀ k, k < pN s → 1 ≤ N k ∧ N k ≤ 12) → G M_X10_laysFewest 6 0 0 36 [rV 64, iV a.1, iV 1, uV] [] (WC ++ (WM ++ w), m1) (fun r h => r = some (iV (resF s).1) ∧ ∃ m2, h = (WC ++ (WM ++ w), m2) ∧ KQ s m m2 ∧ ((resF s).1 ≠ -1 → ∀ k, k < pN s → m2 80 k = ((resF s).2 k : Int)))) (fun (a : Int × (Nat → Nat)) (N : Nat → Nat) => ∀ m1, KQ s m m1 → MT s (mtl s (pC s) (pC s)) m1 → NB s N m1 → BST s a m1 → (∀ k, k < pN s → 1 ≤ N k ∧ N k ≤ 12) → G M_X10_laysFewest 6 0 0 93 [rV 64, iV a.1, iV 1, uV] [] (WC ++ (WM ++ w), m1) (fun r h => r = some (iV (resF s).1) ∧ ∃ m2, h = (WC ++ (WM ++ w), m2) ∧ KQ s m m2 ∧ ((resF s).1 ≠ -1 → ∀ k, k < pN s → m2 80 k = ((resF s).2 k : Int)))) (by
      intro a N hE m1 h1 hM hB hb hok
      have hpr := prN_rng hV hok
      have hb1 := hb.1
      have hb2 := hb.2.1
      refine G_iload_n d_X10_laysFewest_36 rfl ?_
      refine G_if_eq 104 d_X10_laysFewest_37 (by decide) (by decide) (fun hd => absurd hd (by decide)) (fun _ => ?_)
      refine G_iload_n d_X10_laysFewest_40 rfl ?_
      refine G_iconst d_X10_laysFewest_41 ?_
      refine G_icmp_eq 53 d_X10_laysFewest_42 (by decide) (by omega) (by omega) (fun c42 => ?_) (fun c42 => ?_)
      · refine G_aload_n d_X10_laysFewest_53 rfl ?_
        refine G_callV0 cl_X10_283 rfl d_X10_laysFewest_54 (wk_64 _) (Nat.le_of_ble_eq_true rfl) (by decide) (sp_MdoSteps s hV h1.2.1 (mtl s (pC s) (pC s)) N hM (by rw [mtl_len]; have := mtl_two s (pC s); omega) hB (fun k hk => by have := hok k hk; omega)) ?_
        rintro _ _ ⟨rfl, rfl⟩
        by_cases hd : (mtl s (pC s) (pC s)).all (fun q => lft s N q.1 == q.2) = true
        · rw [if_pos hd]
          have hkl := (mtl_okL s (lft s N)).mp hd
          refine G_if_eq 93 d_X10_laysFewest_57 (by decide) (by decide) (fun hd => absurd hd (by decide)) (fun _ => ?_)
          refine G_aload_n d_X10_laysFewest_60 rfl ?_
          refine G_callV0 cl_X10_280 rfl d_X10_laysFewest_61 (wk_64 _) (Nat.le_of_ble_eq_true rfl) (by decide) (sp_Mproduct s hV h1.2.1 N hB) ?_
          rintro _ _ ⟨rfl, rfl⟩
          rw [show prodN (fun k => (N k : Int)) (pN s) = prN s N from rfl]
          refine G_istore_n d_X10_laysFewest_64 (by decide) rfl ?_
          refine G_iconst d_X10_laysFewest_65 ?_
          refine G_istore_n d_X10_laysFewest_66 (by decide) rfl ?_
          have hst : stepF s a N = (prN s N, N) := by
            unfold stepF
            rw [if_pos ⟨by omega, hkl⟩]
          rw [hst] at hE
          exact LC N hok (fun m2 g1 g2 g3 g4 => hE m2 g1 g2 g3 ⟨by omega, hpr.2, fun _ => g4⟩ hok) 0 (by omega) m1 h1 hM hB (fun j hj => absurd hj (by omega))
        · rw [if_neg hd]
          refine G_if_eq 93 d_X10_laysFewest_57 (by decide) (by decide) (fun _ => ?_) (fun hd => absurd hd (by decide))
          have hst : stepF s a N = a := by
            unfold stepF
            rw [if_neg (fun h => hd ((mtl_okL s (lft s N)).mpr h.2))]
          rw [hst] at hE
          exact hE m1 h1 hM hB hb hok
      · refine G_aload_n d_X10_laysFewest_45 rfl ?_
        refine G_callV0 cl_X10_280 rfl d_X10_laysFewest_46 (wk_64 _) (Nat.le_of_ble_eq_true rfl) (by decide) (sp_Mproduct s hV h1.2.1 N hB) ?_
        rintro _ _ ⟨rfl, rfl⟩
        rw [show prodN (fun k => (N k : Int)) (pN s) = prN s N from rfl]
        refine G_iload_n d_X10_laysFewest_49 rfl ?_
        refine G_icmp_ge 93 d_X10_laysFewest_50 (by decide) (by omega) (by omega) (fun c50 => ?_) (fun c50 => ?_)
        · have hst : stepF s a N = a := by
            unfold stepF
            rw [if_neg (by omega)]
          rw [hst] at hE
          exact hE m1 h1 hM hB hb hok
        · refine G_aload_n d_X10_laysFewest_53 rfl ?_
          refine G_callV0 cl_X10_283 rfl d_X10_laysFewest_54 (wk_64 _) (Nat.le_of_ble_eq_true rfl) (by decide) (sp_MdoSteps s hV h1.2.1 (mtl s (pC s) (pC s)) N hM (by rw [mtl_len]; have := mtl_two s (pC s); omega) hB (fun k hk => by have := hok k hk; omega)) ?_
          rintro _ _ ⟨rfl, rfl⟩
          by_cases hd : (mtl s (pC s) (pC s)).all (fun q => lft s N q.1 == q.2) = true
          · rw [if_pos hd]
            have hkl := (mtl_okL s (lft s N)).mp hd
            refine G_if_eq 93 d_X10_laysFewest_57 (by decide) (by decide) (fun hd => absurd hd (by decide)) (fun _ => ?_)
            refine G_aload_n d_X10_laysFewest_60 rfl ?_
            refine G_callV0 cl_X10_280 rfl d_X10_laysFewest_61 (wk_64 _) (Nat.le_of_ble_eq_true rfl) (by decide) (sp_Mproduct s hV h1.2.1 N hB) ?_
            rintro _ _ ⟨rfl, rfl⟩
            rw [show prodN (fun k => (N k : Int)) (pN s) = prN s N from rfl]
            refine G_istore_n d_X10_laysFewest_64 (by decide) rfl ?_
            refine G_iconst d_X10_laysFewest_65 ?_
            refine G_istore_n d_X10_laysFewest_66 (by decide) rfl ?_
            have hst : stepF s a N = (prN s N, N) := by
              unfold stepF
              rw [if_pos ⟨by omega, hkl⟩]
            rw [hst] at hE
            exact LC N hok (fun m2 g1 g2 g3 g4 => hE m2 g1 g2 g3 ⟨by omega, hpr.2, fun _ => g4⟩ hok) 0 (by omega) m1 h1 hM hB (fun j hj => absurd hj (by omega))
          · rw [if_neg hd]
            refine G_if_eq 93 d_X10_laysFewest_57 (by decide) (by decide) (fun _ => ?_) (fun hd => absurd hd (by decide))
            have hst : stepF s a N = a := by
              unfold stepF
              rw [if_neg (fun h => hd ((mtl_okL s (lft s N)).mpr h.2))]
            rw [hst] at hE
            exact hE m1 h1 hM hB hb hok) (by
      intro a N k hk hsm hno hH m1 h1 hM hB hb hok
      refine G_aload_n d_X10_laysFewest_93 rfl ?_
      refine G_iconst d_X10_laysFewest_94 ?_
      refine G_bipush d_X10_laysFewest_95 (by decide) ?_
      refine G_callV2 cl_X10_286 rfl d_X10_laysFewest_97 (wk_64 _) (Nat.le_of_ble_eq_true rfl) (by decide) (sp_MgoesOn1 s hV h1.2.1 N 1 12 (by decide) (by decide) hB (fun i hi => (hok i hi).2) k hk hsm hno) ?_
      rintro _ _ ⟨rfl, m2, rfl, hm2, hB2⟩
      have h2 := h1.scr1 79 rfl hm2
      have hM2 : MT s (mtl s (pC s) (pC s)) m2 := hM.congr (congrFun (hm2 64 (by decide)) 23) (hm2 77 (by decide)) (hm2 78 (by decide))
      refine G_istore_n d_X10_laysFewest_100 (by decide) rfl ?_
      refine G_goto 36 d_X10_laysFewest_101 (by decide) ?_
      exact hH m2 h2 hM2 hB2 ⟨hb.1, hb.2.1, fun h k hk => by rw [hm2 80 (by decide)]; exact hb.2.2 h k hk⟩ (fun i hi => by
        dsimp only
        by_cases e : i < k
        · rw [if_pos e]; exact hok i hi
        · rw [if_neg e]
          by_cases e2 : i = k
          · rw [if_pos e2]; have := nxv_rng (low := 1) (high := 12) (T := pT s) (hok k hk).2; omega
          · rw [if_neg e2]; omega)) (pN s) (Nat.le_refl _) (-1, fun _ => 0) (fun _ => 1) (fun _ _ => rfl) (by
      intro N _ hlast m1 h1 hM hB hb hok
      have hres : resF s = run (pN s) (D1 (pT s)) (stepF s) (pN s) (fun _ => 1) (-1, fun _ => 0) := by unfold resF; rw [if_pos hps]
      refine G_aload_n d_X10_laysFewest_93 rfl ?_
      refine G_iconst d_X10_laysFewest_94 ?_
      refine G_bipush d_X10_laysFewest_95 (by decide) ?_
      refine G_callV2 cl_X10_286 rfl d_X10_laysFewest_97 (wk_64 _) (Nat.le_of_ble_eq_true rfl) (by decide) (sp_MgoesOn0 s hV h1.2.1 N 1 12 (by decide) (by decide) hB (fun i hi => (hok i hi).2) (fun i hi => hlast i (by omega) hi)) ?_
      rintro _ _ ⟨rfl, m2, rfl, hm2, hB2⟩
      have h2 := h1.scr1 79 rfl hm2
      have hM2 : MT s (mtl s (pC s) (pC s)) m2 := hM.congr (congrFun (hm2 64 (by decide)) 23) (hm2 77 (by decide)) (hm2 78 (by decide))
      refine G_istore_n d_X10_laysFewest_100 (by decide) rfl ?_
      refine G_goto 36 d_X10_laysFewest_101 (by decide) ?_
      refine G_iload_n d_X10_laysFewest_36 rfl ?_
      refine G_if_eq 104 d_X10_laysFewest_37 (by decide) (by decide) (fun _ => ?_) (fun hd => absurd hd (by decide))
      refine G_iload_n d_X10_laysFewest_104 rfl ?_
      refine G_iret (mc := 0) (ms := 0) (st := []) d_X10_laysFewest_105 rfl ?_
      exact ⟨by rw [hres], m2, rfl, h2, fun h k hk => by rw [hres] at h ⊢; rw [hm2 80 (by decide)]; exact hb.2.2 h k hk⟩)
    have LN : ∀ k : Nat, k ≤ pN s → ∀ m1, KQ s m m1 → MT s (mtl s (pC s) (pC s)) m1 → (∀ j, j < k → m1 79 j = 1) → G M_X10_laysFewest 6 0 0 13 [rV 64, iV (-1), iV (k : Int), uV] [] (WC ++ (WM ++ w), m1) (fun r h => r = some (iV (resF s).1) ∧ ∃ m2, h = (WC ++ (WM ++ w), m2) ∧ KQ s m m2 ∧ ((resF s).1 ≠ -1 → ∀ k, k < pN s → m2 80 k = ((resF s).2 k : Int))) := by
      refine loop_up (pN s) _ ?_
      intro k hk ih m1 h1 hM hz
      refine G_iload_n d_X10_laysFewest_13 rfl ?_
      refine G_aload_n d_X10_laysFewest_14 rfl ?_
      refine G_callV0 cl_X10_11 rfl d_X10_laysFewest_15 (wk_64 _) (Nat.le_of_ble_eq_true rfl) (by decide) (sp_Mn s hV h1.2.1) ?_
      rintro _ _ ⟨rfl, rfl⟩
      refine G_icmp_ge 34 d_X10_laysFewest_18 (by decide) (by omega) (by omega) (fun c18 => ?_) (fun c18 => ?_)
      · refine G_iconst d_X10_laysFewest_34 ?_
        refine G_istore_n d_X10_laysFewest_35 (by decide) rfl ?_
        exact key m1 h1 hM (fun j hj => hz j (by omega)) ⟨by decide, by decide, fun h => absurd rfl h⟩ (fun k hk => ⟨by decide, by decide⟩)
      · refine G_aload_n d_X10_laysFewest_21 rfl ?_
        refine G_getR (r := 79) (fl_X10_83.r) d_X10_laysFewest_22 (wk_64 _) rfl rfl ?_
        refine G_iload_n d_X10_laysFewest_25 rfl ?_
        refine G_iconst d_X10_laysFewest_26 ?_
        refine G_iastj (k) d_X10_laysFewest_27 (wk_79 _) (by omega) (by omega) (by decide) ?_
        refine G_iinc d_X10_laysFewest_28 rfl (by decide) rfl ?_
        refine G_goto 13 d_X10_laysFewest_31 (by decide) ?_
        exact ih (by omega) _ (h1.up rfl) (hM.congr (by rw [upm_off _ _ (by decide)]) (upm_off _ _ (by decide)) (upm_off _ _ (by decide))) (fun j hj => by
          by_cases e : j = k
          · rw [e, upm_same]
          · rw [upm_ne _ _ (fun _ => e)]; exact hz j (by omega))
    refine G_iconst d_X10_laysFewest_0 ?_
    refine G_istore_n d_X10_laysFewest_1 (by decide) rfl ?_
    refine G_aload_n d_X10_laysFewest_2 rfl ?_
    refine G_callV0 cl_X10_277 rfl d_X10_laysFewest_3 (wk_64 _) (Nat.le_of_ble_eq_true rfl) (by decide) (sp_MlaysMattering s hV hI) ?_
    rintro _ _ ⟨rfl, m1, rfl, h1, hMT⟩
    by_cases hp : posb s = true
    · rw [if_pos hp]
      refine G_if_ne 11 d_X10_laysFewest_6 (by decide) (by decide) (fun _ => ?_) (fun hd => absurd hd (by decide))
      refine G_iconst d_X10_laysFewest_11 ?_
      refine G_istore_n d_X10_laysFewest_12 (by decide) rfl ?_
      exact LN 0 (by omega) m1 h1 (hMT hp) (fun j hj => absurd hj (by omega))
    · exact absurd hps hp
  · skip
    refine G_iconst d_X10_laysFewest_0 ?_
    refine G_istore_n d_X10_laysFewest_1 (by decide) rfl ?_
    refine G_aload_n d_X10_laysFewest_2 rfl ?_
    refine G_callV0 cl_X10_277 rfl d_X10_laysFewest_3 (wk_64 _) (Nat.le_of_ble_eq_true rfl) (by decide) (sp_MlaysMattering s hV hI) ?_
    rintro _ _ ⟨rfl, m1, rfl, h1, hMT⟩
    by_cases hp : posb s = true
    · exact absurd hp hps
    · rw [if_neg hp]
      refine G_if_ne 11 d_X10_laysFewest_6 (by decide) (by decide) (fun hd => absurd hd (by decide)) (fun _ => ?_)
      refine G_iconst d_X10_laysFewest_9 ?_
      refine G_iret (mc := 0) (ms := 0) (st := []) d_X10_laysFewest_10 rfl ?_
      have hres : resF s = (-1, fun _ => 0) := by unfold resF; rw [if_neg hps]
      exact ⟨by rw [hres], m1, rfl, h1, fun h => absurd (by rw [hres]) h⟩
theorem foldl_inv {α β : Type} (I : α → Prop) (f : α → β → α) (h : ∀ a b, I a → I (f a b)) : ∀ (l : List β) (a : α), I a → I (l.foldl f a)
  | [], a, ha => ha
  | b :: l, a, ha => foldl_inv I f h l (f a b) (h a b ha)
theorem foldl_inv2 {α β : Type} (I : α → Prop) (f : α → β → α) : ∀ (l : List β) (a : α), (∀ a b, b ∈ l → I a → I (f a b)) → I a → I (l.foldl f a)
  | [], a, _, ha => ha
  | b :: l, a, h, ha => foldl_inv2 I f l (f a b) (fun a c hc => h a c (List.mem_cons_of_mem _ hc)) (h a b List.mem_cons_self ha)
/-- what holds of the first state and is kept by the step on tuples over D holds at the end -/
theorem run_inv {α : Type} (n : Nat) (D : List Nat) (step : α → (Nat → Nat) → α) (I : α → Prop) (lo hi : Nat) (hD : ∀ d, d ∈ D → lo ≤ d ∧ d ≤ hi) (h : ∀ a N, (∀ k, k < n → lo ≤ N k ∧ N k ≤ hi) → I a → I (step a N)) : ∀ j N a, (∀ k, k < n → lo ≤ N k ∧ N k ≤ hi) → I a → I (run n D step j N a)
  | 0, N, a, hN, ha => h a N hN ha
  | j + 1, N, a, hN, ha => by
    unfold run
    refine foldl_inv2 I _ D a (fun a d hd ha => ?_) ha
    refine run_inv n D step I lo hi hD h j _ a (fun k hk => ?_) ha
    unfold upN
    by_cases e : k = n - (j + 1)
    · rw [if_pos e]; exact hD d hd
    · rw [if_neg e]; exact hN k hk
theorem D1_mem {T d : Nat} (h : d ∈ D1 T) : 1 ≤ d ∧ d ≤ 12 ∧ T % d = 0 := by
  have h1 := List.mem_filter.mp h
  have h2 := List.mem_range.mp h1.1
  have h3 := Bool.and_eq_true_iff.mp h1.2
  exact ⟨by simpa using h3.1, by omega, by simpa using h3.2⟩
theorem resF_rng {s : Nat → Int} (hV : VS s) : -1 ≤ (resF s).1 ∧ (resF s).1 ≤ 248832 ∧ ((resF s).1 = -1 ∨ 1 ≤ (resF s).1) ∧ ∀ k, k < pN s → (resF s).2 k ≤ 12 ∧ ((resF s).1 ≠ -1 → 1 ≤ (resF s).2 k ∧ pT s % (resF s).2 k = 0) := by
  have hT := hV.T
  unfold resF
  by_cases h : posb s = true
  · rw [if_pos h]
    have hD12 : ∀ d, d ∈ D1 (pT s) → 1 ≤ d ∧ d ≤ 12 := fun d hd => ⟨(D1_mem hd).1, (D1_mem hd).2.1⟩
    have key := run_inv (pN s) (D1 (pT s)) (stepF s) (fun a => -1 ≤ a.1 ∧ a.1 ≤ 248832 ∧ (a.1 = -1 ∨ 1 ≤ a.1)) 1 12 hD12 (fun a N hN ha => by
      have hp := prN_rng hV hN
      unfold stepF
      by_cases c : (a.1 = -1 ∨ prN s N < a.1) ∧ okL s (lft s N) = true
      · rw [if_pos c]; dsimp only; omega
      · rw [if_neg c]; exact ha) (pN s) (fun _ => 1) (-1, fun _ => 0) (fun k _ => ⟨by decide, by decide⟩) ⟨by decide, by decide, Or.inl rfl⟩
    have key2 : ∀ j N a, (∀ k, k < pN s → N k ∈ D1 (pT s)) → (∀ k, k < pN s → (a.2 k ≤ 12 ∧ (a.1 ≠ -1 → 1 ≤ a.2 k ∧ pT s % a.2 k = 0))) → ∀ k, k < pN s → ((run (pN s) (D1 (pT s)) (stepF s) j N a).2 k ≤ 12 ∧ ((run (pN s) (D1 (pT s)) (stepF s) j N a).1 ≠ -1 → 1 ≤ (run (pN s) (D1 (pT s)) (stepF s) j N a).2 k ∧ pT s % (run (pN s) (D1 (pT s)) (stepF s) j N a).2 k = 0)) := by
      intro j
      induction j with
      | zero =>
        intro N a hN ha k hk
        unfold run stepF
        by_cases c : (a.1 = -1 ∨ prN s N < a.1) ∧ okL s (lft s N) = true
        · rw [if_pos c]
          have := D1_mem (hN k hk)
          exact ⟨this.2.1, fun _ => ⟨this.1, this.2.2⟩⟩
        · rw [if_neg c]; exact ha k hk
      | succ j ih =>
        intro N a hN ha
        unfold run
        refine foldl_inv2 (fun a : Int × (Nat → Nat) => ∀ k, k < pN s → (a.2 k ≤ 12 ∧ (a.1 ≠ -1 → 1 ≤ a.2 k ∧ pT s % a.2 k = 0))) _ (D1 (pT s)) a (fun a d hd ha => ih _ a (fun k hk => ?_) ha) ha
        unfold upN
        by_cases e : k = pN s - (j + 1)
        · rw [if_pos e]; exact hd
        · rw [if_neg e]; exact hN k hk
    refine ⟨key.1, key.2.1, key.2.2, key2 (pN s) (fun _ => 1) (-1, fun _ => 0) (fun k _ => ?_) (fun k _ => ⟨Nat.zero_le 12, fun h => absurd rfl h⟩)⟩
    exact List.mem_filter.mpr ⟨List.mem_range.mpr (by decide), by simp [Nat.mod_one]⟩
  · rw [if_neg h]
    exact ⟨by decide, by decide, Or.inl rfl, fun k _ => ⟨by show (0 : Nat) ≤ 12; decide, fun h => absurd rfl h⟩⟩
def atF (s : Nat → Int) (all : Int) (N : Nat → Nat) (w : Int) : Int := if all = -1 then -1 else if w = 10 then all else if isPls s w then (N w.toNat : Int) else -1
def vFewest (s : Nat → Int) (w : Int) : Int := atF s (resF s).1 (resF s).2 w
theorem sp_Mfewest {w : List KD} {m : Nat → Nat → Int} (s : Nat → Int) (hV : VS s) (hI : MI s m) (a : Int) (hra : -2147483648 ≤ a ∧ a < 2147483648) : Sp M_X10_fewest 7 0 0 [rV 64, iV a] (WC ++ (WM ++ w), m) (fun r h => r = some (iV (vFewest s a)) ∧ ∃ m2, h = (WC ++ (WM ++ w), m2) ∧ KQ s m m2) := by
  refine Sp.ofG (ls := [rV 64, iV a, uV]) (by decide +kernel) rfl (Nat.le_of_ble_eq_true rfl) ?_
  have hC := pC_le hV
  have hN := hV.N
  have hT := hV.T
  have hSc := hV.Sc
  refine G_aload_n d_X10_fewest_0 rfl ?_
  refine G_iconst d_X10_fewest_1 ?_
  refine G_putII fl_X10_1 d_X10_fewest_2 (wk_64 _) rfl ?_
  have hQ0 : KQ s m (upm m 64 0 0) := (KQ.refl hI).fld rfl
  generalize upm m 64 0 0 = m0 at hQ0 ⊢
  refine G_aload_n d_X10_fewest_5 rfl ?_
  refine G_callV0 cl_X10_292 rfl d_X10_fewest_6 (wk_64 _) (Nat.le_of_ble_eq_true rfl) (by decide) (sp_MlaysFewest s hV hQ0.2) ?_
  rintro _ _ ⟨rfl, m2, rfl, h2, hbs⟩
  have h2 := hQ0.trans h2
  have hrr := resF_rng hV
  refine G_istore_n d_X10_fewest_9 (by decide) rfl ?_
  refine G_iload_n d_X10_fewest_10 rfl ?_
  refine G_iconst d_X10_fewest_11 ?_
  refine G_icmp_ne 17 d_X10_fewest_12 (by decide) (by omega) (by omega) (fun c12 => ?_) (fun c12 => ?_)
  · refine G_iload_n d_X10_fewest_17 rfl ?_
    refine G_bipush d_X10_fewest_18 (by decide) ?_
    refine G_icmp_ne 27 d_X10_fewest_20 (by decide) (by omega) (by omega) (fun c20 => ?_) (fun c20 => ?_)
    · refine G_aload_n d_X10_fewest_27 rfl ?_
      refine G_iload_n d_X10_fewest_28 rfl ?_
      refine G_callV1 cl_X10_133 rfl d_X10_fewest_29 (wk_64 _) (Nat.le_of_ble_eq_true rfl) (by decide) (sp_MisPulse s hV h2.2.1 a hra) ?_
      rintro _ _ ⟨rfl, rfl⟩
      by_cases hk : 0 ≤ a ∧ a < pN s
      · rw [if_pos hk]
        obtain ⟨k, rfl⟩ : ∃ n : Nat, a = (n : Int) := ⟨a.toNat, by omega⟩
        refine G_if_eq 44 d_X10_fewest_32 (by decide) (by decide) (fun hd => absurd hd (by decide)) (fun _ => ?_)
        refine G_aload_n d_X10_fewest_35 rfl ?_
        refine G_getR (r := 80) (fl_X10_86.r) d_X10_fewest_36 (wk_64 _) rfl rfl ?_
        refine G_iload_n d_X10_fewest_39 rfl ?_
        refine G_ialdj (k) d_X10_fewest_40 (wk_80 _) (by omega) (by omega) (by decide) ?_
        refine G_goto 45 d_X10_fewest_41 (by decide) ?_
        refine G_iret (mc := 0) (ms := 0) (st := []) d_X10_fewest_45 rfl ?_
        exact ⟨by rw [hbs c12 k (by omega)]; unfold vFewest atF; rw [if_neg c12, if_neg (by omega), if_pos hk]; rfl, m2, rfl, h2⟩
      · rw [if_neg hk]
        refine G_if_eq 44 d_X10_fewest_32 (by decide) (by decide) (fun _ => ?_) (fun hd => absurd hd (by decide))
        refine G_iconst d_X10_fewest_44 ?_
        refine G_iret (mc := 0) (ms := 0) (st := []) d_X10_fewest_45 rfl ?_
        exact ⟨by unfold vFewest atF; rw [if_neg c12, if_neg (by omega), if_neg hk], m2, rfl, h2⟩
    · refine G_iload_n d_X10_fewest_23 rfl ?_
      refine G_goto 45 d_X10_fewest_24 (by decide) ?_
      refine G_iret (mc := 0) (ms := 0) (st := []) d_X10_fewest_45 rfl ?_
      exact ⟨by unfold vFewest atF; rw [if_neg c12, if_pos (by omega)], m2, rfl, h2⟩
  · refine G_iconst d_X10_fewest_15 ?_
    refine G_iret (mc := 0) (ms := 0) (st := []) d_X10_fewest_16 rfl ?_
    exact ⟨by unfold vFewest atF; rw [if_pos (by omega)], m2, rfl, h2⟩
def lC (x : Option (Nat × (Nat → Nat))) : Int := match x with
  | some q => (q.1 : Int)
  | none => -1
def nCg (x : Option (Nat × (Nat → Nat))) : Nat → Nat := match x with
  | some q => q.2
  | none => fun _ => 0
def vCogs (s : Nat → Int) (w : Int) : Int := atF s (lC (resC s)) (nCg (resC s)) w
theorem fndC_up {s : Nat → Int} {v : Nat × (Nat → Nat)} {l : Nat} (h : fndC s l = some v) : ∀ k, fndC s (l + k) = some v
  | 0 => h
  | k + 1 => by
    show fndC s (l + k + 1) = some v
    unfold fndC
    rw [fndC_up h k]
theorem fndC_no {s : Nat → Int} {l : Nat} (h : fndC s l = none) (hT : ¬ pT s % (l + 1) = 0) : fndC s (l + 1) = none := by
  unfold fndC
  rw [h]
  exact if_neg hT
theorem fndC_run {s : Nat → Int} {l : Nat} (h : fndC s l = none) (hT : pT s % (l + 1) = 0) (hr : runC s (l + 1) = none) : fndC s (l + 1) = none := by
  unfold fndC
  rw [h]
  dsimp only
  rw [if_pos hT, hr]
theorem fndC_yes {s : Nat → Int} {l : Nat} {N : Nat → Nat} (h : fndC s l = none) (hT : pT s % (l + 1) = 0) (hr : runC s (l + 1) = some N) : fndC s (l + 1) = some (l + 1, N) := by
  unfold fndC
  rw [h]
  dsimp only
  rw [if_pos hT, hr]
theorem fndC_lt {s : Nat → Int} : ∀ {l : Nat} {v : Nat × (Nat → Nat)}, fndC s l = some v → 1 ≤ v.1 ∧ v.1 ≤ l ∧ pT s % v.1 = 0 ∧ runC s v.1 = some v.2
  | 0, v, h => by simp [fndC] at h
  | l + 1, v, h => by
    cases hl : fndC s l with
    | some x =>
      have h2 := fndC_lt hl
      have h3 := fndC_up hl 1
      rw [h3] at h
      obtain rfl : x = v := by simpa using h
      exact ⟨h2.1, by omega, h2.2.2⟩
    | none =>
      by_cases hT : pT s % (l + 1) = 0
      · cases hr : runC s (l + 1) with
        | none => rw [fndC_run hl hT hr] at h; exact absurd h (by simp)
        | some N =>
          rw [fndC_yes hl hT hr] at h
          obtain rfl : (l + 1, N) = v := by simpa using h
          exact ⟨by show 1 ≤ l + 1; omega, Nat.le_refl _, hT, hr⟩
      · rw [fndC_no hl hT] at h; exact absurd h (by simp)
theorem sp_MlaysCogs {w : List KD} {m : Nat → Nat → Int} (s : Nat → Int) (hV : VS s) (hI : MI s m) : Sp M_X10_laysCogs 6 0 0 [rV 64] (WC ++ (WM ++ w), m) (fun r h => r = some (iV (lC (resC s))) ∧ ∃ m2, h = (WC ++ (WM ++ w), m2) ∧ KQ s m m2 ∧ (lC (resC s) ≠ -1 → ∀ k, k < pN s → m2 80 k = (nCg (resC s) k : Int))) := by
  refine Sp.ofG (ls := [rV 64, uV, uV, uV]) (by decide +kernel) rfl (Nat.le_of_ble_eq_true rfl) ?_
  have hC := pC_le hV
  have hN := hV.N
  have hT := hV.T
  have hSc := hV.Sc
  have LX : pC s ≤ 200 ∧ posb s = true → ∀ x : Nat, x ≤ 12 → ∀ m1, KQ s m m1 → MT s (mtl s (pC s) (pC s)) m1 → fndC s x = none → G M_X10_laysCogs 6 0 0 21 [rV 64, iV (((x + 1 : Nat) : Int)), uV, uV] [] (WC ++ (WM ++ w), m1) (fun r h => r = some (iV (lC (resC s))) ∧ ∃ m2, h = (WC ++ (WM ++ w), m2) ∧ KQ s m m2 ∧ (lC (resC s) ≠ -1 → ∀ k, k < pN s → m2 80 k = (nCg (resC s) k : Int))) := by
    intro hok2
    refine loop_up 12 _ ?_
    intro x hx ih m1 h1 hM hfn
    by_cases hyes : x < 12 ∧ pT s % (x + 1) = 0
    · have hx12 := hyes.1
      have hyes := hyes.2
      have LCC : ∀ N : Nat → Nat, runC s (x + 1) = some N → ∀ k : Nat, k ≤ pN s → ∀ m1, KQ s m m1 → NB s N m1 → (∀ j, j < k → m1 80 j = (N j : Int)) → G M_X10_laysCogs 6 0 0 78 [rV 64, iV (((x + 1 : Nat) : Int)), uV, iV (k : Int)] [] (WC ++ (WM ++ w), m1) (fun r h => r = some (iV (lC (resC s))) ∧ ∃ m2, h = (WC ++ (WM ++ w), m2) ∧ KQ s m m2 ∧ (lC (resC s) ≠ -1 → ∀ k, k < pN s → m2 80 k = (nCg (resC s) k : Int))) := by
        intro N hrun
        refine loop_up (pN s) _ ?_
        intro k hk ih m1 h1 hB hz
        refine G_iload_n d_X10_laysCogs_78 rfl ?_
        refine G_aload_n d_X10_laysCogs_79 rfl ?_
        refine G_callV0 cl_X10_11 rfl d_X10_laysCogs_80 (wk_64 _) (Nat.le_of_ble_eq_true rfl) (by decide) (sp_Mn s hV h1.2.1) ?_
        rintro _ _ ⟨rfl, rfl⟩
        refine G_icmp_ge 104 d_X10_laysCogs_83 (by decide) (by omega) (by omega) (fun c83 => ?_) (fun c83 => ?_)
        · refine G_iload_n d_X10_laysCogs_104 rfl ?_
          refine G_iret (mc := 0) (ms := 0) (st := []) d_X10_laysCogs_105 rfl ?_
          have hres : resC s = some (x + 1, N) := by
            unfold resC
            rw [if_pos hok2]
            have h9 := fndC_up (fndC_yes hfn hyes hrun) (12 - (x + 1))
            rw [show x + 1 + (12 - (x + 1)) = 12 by omega] at h9
            exact h9
          rw [hres]
          exact ⟨rfl, m1, rfl, h1, fun _ k hk => hz k (by omega)⟩
        · refine G_aload_n d_X10_laysCogs_86 rfl ?_
          refine G_getR (r := 80) (fl_X10_86.r) d_X10_laysCogs_87 (wk_64 _) rfl rfl ?_
          refine G_iload_n d_X10_laysCogs_90 rfl ?_
          refine G_aload_n d_X10_laysCogs_91 rfl ?_
          refine G_getR (r := 79) (fl_X10_83.r) d_X10_laysCogs_92 (wk_64 _) rfl rfl ?_
          refine G_iload_n d_X10_laysCogs_95 rfl ?_
          refine G_ialdj (k) d_X10_laysCogs_96 (wk_79 _) (by omega) (by omega) (by decide) ?_
          refine G_iastj (k) d_X10_laysCogs_97 (wk_80 _) (by omega) (by omega) (by decide) ?_
          refine G_iinc d_X10_laysCogs_98 rfl (by decide) rfl ?_
          refine G_goto 78 d_X10_laysCogs_101 (by decide) ?_
          exact ih (by omega) _ (h1.up rfl) (fun j hj => by rw [upm_off _ _ (by decide)]; exact hB j hj) (fun j hj => by
            by_cases e : j = k
            · rw [e, upm_same]; exact hB k (by omega)
            · rw [upm_ne _ _ (fun _ => e)]; exact hz j (by omega))
      have hch := D0_ch (T := pT s) (show 1 ≤ x + 1 by omega) (show x + 1 ≤ 12 by omega)
      have key := run_ind (pN s) (D0 (x + 1)) (nxv 0 x (pT s)) x 0 hch.1 hch.2 (stepC s (x + 1)) (fun (a : Option (Nat → Nat)) (N : Nat → Nat) => match a with | some y => (∀ m1, KQ s m m1 → MT s (mtl s (pC s) (pC s)) m1 → NB s y m1 → (∀ k, k < pN s → y k ≤ x) → G M_X10_laysCogs 6 0 0 76 [rV 64, iV (((x + 1 : Nat) : Int)), iV 1, uV] [] (WC ++ (WM ++ w), m1) (fun r h => r = some (iV (lC (resC s))) ∧ ∃ m2, h = (WC ++ (WM ++ w), m2) ∧ KQ s m m2 ∧ (lC (resC s) ≠ -1 → ∀ k, k < pN s → m2 80 k = (nCg (resC s) k : Int)))) | none => ∀ m1, KQ s m m1 → MT s (mtl s (pC s) (pC s)) m1 → NB s N m1 → (∀ k, k < pN s → N k ≤ x) → G M_X10_laysCogs 6 0 0 64 [rV 64, iV (((x + 1 : Nat) : Int)), iV 1, uV] [] (WC ++ (WM ++ w), m1) (fun r h => r = some (iV (lC (resC s))) ∧ ∃ m2, h = (WC ++ (WM ++ w), m2) ∧ KQ s m m2 ∧ (lC (resC s) ≠ -1 → ∀ k, k < pN s → m2 80 k = (nCg (resC s) k : Int)))) (fun (a : Option (Nat → Nat)) (N : Nat → Nat) => match a with | some y => (∀ m1, KQ s m m1 → MT s (mtl s (pC s) (pC s)) m1 → NB s y m1 → (∀ k, k < pN s → y k ≤ x) → G M_X10_laysCogs 6 0 0 76 [rV 64, iV (((x + 1 : Nat) : Int)), iV 1, uV] [] (WC ++ (WM ++ w), m1) (fun r h => r = some (iV (lC (resC s))) ∧ ∃ m2, h = (WC ++ (WM ++ w), m2) ∧ KQ s m m2 ∧ (lC (resC s) ≠ -1 → ∀ k, k < pN s → m2 80 k = (nCg (resC s) k : Int)))) | none => ∀ m1, KQ s m m1 → MT s (mtl s (pC s) (pC s)) m1 → NB s N m1 → (∀ k, k < pN s → N k ≤ x) → G M_X10_laysCogs 6 0 0 106 [rV 64, iV (((x + 1 : Nat) : Int)), iV 1, uV] [] (WC ++ (WM ++ w), m1) (fun r h => r = some (iV (lC (resC s))) ∧ ∃ m2, h = (WC ++ (WM ++ w), m2) ∧ KQ s m m2 ∧ (lC (resC s) ≠ -1 → ∀ k, k < pN s → m2 80 k = (nCg (resC s) k : Int)))) (by
        intro a N hE
        cases a with
        | some y => exact hE
        | none =>
          intro m1 h1 hM hB hok
          refine G_iload_n d_X10_laysCogs_64 rfl ?_
          refine G_if_eq 118 d_X10_laysCogs_65 (by decide) (by decide) (fun hd => absurd hd (by decide)) (fun _ => ?_)
          refine G_aload_n d_X10_laysCogs_68 rfl ?_
          refine G_iload_n d_X10_laysCogs_69 rfl ?_
          refine G_callV1 cl_X10_289 rfl d_X10_laysCogs_70 (wk_64 _) (Nat.le_of_ble_eq_true rfl) (by decide) (sp_MdoCogs s hV h1.2.1 (mtl s (pC s) (pC s)) N hM (by rw [mtl_len]; have := mtl_two s (pC s); omega) hB (x + 1) ⟨by omega, by omega⟩ (fun k hk => by have := hok k hk; omega)) ?_
          rintro _ _ ⟨rfl, rfl⟩
          by_cases hd : (mtl s (pC s) (pC s)).all (fun q => lfc s N (x + 1) q.1 == q.2) = true
          · rw [if_pos hd]
            refine G_if_eq 106 d_X10_laysCogs_73 (by decide) (by decide) (fun hd => absurd hd (by decide)) (fun _ => ?_)
            have hst : stepC s (x + 1) none N = some N := by
              show (if okc2 s (x + 1) N = true then some N else none) = some N
              rw [if_pos (show okc2 s (x + 1) N = true from (mtl_okL s (lfc s N (x + 1))).mp hd)]
            rw [hst] at hE
            exact hE m1 h1 hM hB hok
          · rw [if_neg hd]
            refine G_if_eq 106 d_X10_laysCogs_73 (by decide) (by decide) (fun _ => ?_) (fun hd => absurd hd (by decide))
            have hst : stepC s (x + 1) none N = none := by
              show (if okc2 s (x + 1) N = true then some N else none) = none
              rw [if_neg (show ¬ okc2 s (x + 1) N = true from fun h => hd ((mtl_okL s (lfc s N (x + 1))).mpr h))]
            rw [hst] at hE
            exact hE m1 h1 hM hB hok) (by
        intro a N k hk hsm hno hH
        cases a with
        | some y => exact hH
        | none =>
          intro m1 h1 hM hB hok
          refine G_aload_n d_X10_laysCogs_106 rfl ?_
          refine G_iconst d_X10_laysCogs_107 ?_
          refine G_iload_n d_X10_laysCogs_108 rfl ?_
          refine G_iconst d_X10_laysCogs_109 ?_
          refine G_isub d_X10_laysCogs_110 ?_
          rw [show (((x + 1 : Nat) : Int)) - 1 = (x : Int) by omega]
          refine G_callV2 cl_X10_286 rfl d_X10_laysCogs_111 (wk_64 _) (Nat.le_of_ble_eq_true rfl) (by decide) (sp_MgoesOn1 s hV h1.2.1 N 0 x (by decide) (by omega) hB (fun i hi => by have := hok i hi; omega) k hk hsm hno) ?_
          rintro _ _ ⟨rfl, m2, rfl, hm2, hB2⟩
          have h2 := h1.scr1 79 rfl hm2
          have hM2 : MT s (mtl s (pC s) (pC s)) m2 := hM.congr (congrFun (hm2 64 (by decide)) 23) (hm2 77 (by decide)) (hm2 78 (by decide))
          refine G_istore_n d_X10_laysCogs_114 (by decide) rfl ?_
          refine G_goto 64 d_X10_laysCogs_115 (by decide) ?_
          exact hH m2 h2 hM2 hB2 (fun i hi => by
            dsimp only
            by_cases e : i < k
            · rw [if_pos e]; exact hok i hi
            · rw [if_neg e]
              by_cases e2 : i = k
              · rw [if_pos e2]; exact hsm
              · rw [if_neg e2]; omega)) (pN s) (Nat.le_refl _) none (fun _ => 0) (fun _ _ => rfl) (by
        intro N _ hlast
        rw [show run (pN s) (D0 (x + 1)) (stepC s (x + 1)) (pN s) (fun _ => 0) none = runC s (x + 1) from rfl]
        cases hr : runC s (x + 1) with
        | some y =>
          intro m1 h1 hM hB hok
          refine G_iconst d_X10_laysCogs_76 ?_
          refine G_istore_n d_X10_laysCogs_77 (by decide) rfl ?_
          exact G.fg (LCC y hr 0 (by omega) m1 h1 hB (fun j hj => absurd hj (by omega))) (by
            repeat (first | exact trivial | refine wkL_cons (Or.inl rfl) ?_ | refine wkL_cons (Or.inr rfl) ?_))
        | none =>
          intro m1 h1 hM hB hok
          refine G_aload_n d_X10_laysCogs_106 rfl ?_
          refine G_iconst d_X10_laysCogs_107 ?_
          refine G_iload_n d_X10_laysCogs_108 rfl ?_
          refine G_iconst d_X10_laysCogs_109 ?_
          refine G_isub d_X10_laysCogs_110 ?_
          rw [show (((x + 1 : Nat) : Int)) - 1 = (x : Int) by omega]
          refine G_callV2 cl_X10_286 rfl d_X10_laysCogs_111 (wk_64 _) (Nat.le_of_ble_eq_true rfl) (by decide) (sp_MgoesOn0 s hV h1.2.1 N 0 x (by decide) (by omega) hB (fun i hi => by have := hok i hi; omega) (fun i hi => hlast i (by omega) hi)) ?_
          rintro _ _ ⟨rfl, m2, rfl, hm2, hB2⟩
          have h2 := h1.scr1 79 rfl hm2
          have hM2 : MT s (mtl s (pC s) (pC s)) m2 := hM.congr (congrFun (hm2 64 (by decide)) 23) (hm2 77 (by decide)) (hm2 78 (by decide))
          refine G_istore_n d_X10_laysCogs_114 (by decide) rfl ?_
          refine G_goto 64 d_X10_laysCogs_115 (by decide) ?_
          refine G_iload_n d_X10_laysCogs_64 rfl ?_
          refine G_if_eq 118 d_X10_laysCogs_65 (by decide) (by decide) (fun _ => ?_) (fun hd => absurd hd (by decide))
          refine G_iinc d_X10_laysCogs_118 rfl (by decide) rfl ?_
          refine G_goto 21 d_X10_laysCogs_121 (by decide) ?_
          exact G.fg (ih (by omega) m2 h2 hM2 (fndC_run hfn hyes hr)) (by
            repeat (first | exact trivial | refine wkL_cons (Or.inl rfl) ?_ | refine wkL_cons (Or.inr rfl) ?_)))
      have L41 : ∀ k : Nat, k ≤ pN s → ∀ m1, KQ s m m1 → MT s (mtl s (pC s) (pC s)) m1 → (∀ j, j < k → m1 79 j = 0) → G M_X10_laysCogs 6 0 0 41 [rV 64, iV (((x + 1 : Nat) : Int)), iV (k : Int), uV] [] (WC ++ (WM ++ w), m1) (fun r h => r = some (iV (lC (resC s))) ∧ ∃ m2, h = (WC ++ (WM ++ w), m2) ∧ KQ s m m2 ∧ (lC (resC s) ≠ -1 → ∀ k, k < pN s → m2 80 k = (nCg (resC s) k : Int))) := by
        refine loop_up (pN s) _ ?_
        intro k hk ih2 m1 h1 hM hz
        refine G_iload_n d_X10_laysCogs_41 rfl ?_
        refine G_aload_n d_X10_laysCogs_42 rfl ?_
        refine G_callV0 cl_X10_11 rfl d_X10_laysCogs_43 (wk_64 _) (Nat.le_of_ble_eq_true rfl) (by decide) (sp_Mn s hV h1.2.1) ?_
        rintro _ _ ⟨rfl, rfl⟩
        refine G_icmp_ge 62 d_X10_laysCogs_46 (by decide) (by omega) (by omega) (fun c46 => ?_) (fun c46 => ?_)
        · refine G_iconst d_X10_laysCogs_62 ?_
          refine G_istore_n d_X10_laysCogs_63 (by decide) rfl ?_
          exact key m1 h1 hM (fun j hj => hz j (by omega)) (fun k hk => Nat.zero_le _)
        · refine G_aload_n d_X10_laysCogs_49 rfl ?_
          refine G_getR (r := 79) (fl_X10_83.r) d_X10_laysCogs_50 (wk_64 _) rfl rfl ?_
          refine G_iload_n d_X10_laysCogs_53 rfl ?_
          refine G_iconst d_X10_laysCogs_54 ?_
          refine G_iastj (k) d_X10_laysCogs_55 (wk_79 _) (by omega) (by omega) (by decide) ?_
          refine G_iinc d_X10_laysCogs_56 rfl (by decide) rfl ?_
          refine G_goto 41 d_X10_laysCogs_59 (by decide) ?_
          exact ih2 (by omega) _ (h1.up rfl) (hM.congr (by rw [upm_off _ _ (by decide)]) (upm_off _ _ (by decide)) (upm_off _ _ (by decide))) (fun j hj => by
            by_cases e : j = k
            · rw [e, upm_same]
            · rw [upm_ne _ _ (fun _ => e)]; exact hz j (by omega))
      refine G_iload_n d_X10_laysCogs_21 rfl ?_
      refine G_bipush d_X10_laysCogs_22 (by decide) ?_
      refine G_icmp_gt 124 d_X10_laysCogs_24 (by decide) (by omega) (by omega) (fun c24 => ?_) (fun c24 => ?_)
      · omega
      · refine G_aload_n d_X10_laysCogs_27 rfl ?_
        refine G_callV0 cl_X10_148 rfl d_X10_laysCogs_28 (wk_64 _) (Nat.le_of_ble_eq_true rfl) (by decide) (sp_Mt s hV h1.2.1) ?_
        rintro _ _ ⟨rfl, rfl⟩
        refine G_iload_n d_X10_laysCogs_31 rfl ?_
        refine G_iremN (pT s) (x + 1) (rfl) (rfl) d_X10_laysCogs_32 (by omega) (by omega) (by omega) ?_
        have hml : pT s % (x + 1) < x + 1 := Nat.mod_lt _ (by omega)
        refine G_if_eq 39 d_X10_laysCogs_33 (by decide) (by omega) (fun c33 => ?_) (fun c33 => ?_)
        · refine G_iconst d_X10_laysCogs_39 ?_
          refine G_istore_n d_X10_laysCogs_40 (by decide) rfl ?_
          exact L41 0 (by omega) m1 h1 hM (fun j hj => absurd hj (by omega))
        · omega
    · skip
      refine G_iload_n d_X10_laysCogs_21 rfl ?_
      refine G_bipush d_X10_laysCogs_22 (by decide) ?_
      refine G_icmp_gt 124 d_X10_laysCogs_24 (by decide) (by omega) (by omega) (fun c24 => ?_) (fun c24 => ?_)
      · refine G_iconst d_X10_laysCogs_124 ?_
        refine G_iret (mc := 0) (ms := 0) (st := []) d_X10_laysCogs_125 rfl ?_
        have hres : resC s = none := by
          unfold resC
          rw [if_pos hok2]
          rw [show x = 12 by omega] at hfn
          exact hfn
        rw [hres]
        exact ⟨rfl, m1, rfl, h1, fun h => absurd rfl h⟩
      · refine G_aload_n d_X10_laysCogs_27 rfl ?_
        refine G_callV0 cl_X10_148 rfl d_X10_laysCogs_28 (wk_64 _) (Nat.le_of_ble_eq_true rfl) (by decide) (sp_Mt s hV h1.2.1) ?_
        rintro _ _ ⟨rfl, rfl⟩
        refine G_iload_n d_X10_laysCogs_31 rfl ?_
        refine G_iremN (pT s) (x + 1) (rfl) (rfl) d_X10_laysCogs_32 (by omega) (by omega) (by omega) ?_
        have hml : pT s % (x + 1) < x + 1 := Nat.mod_lt _ (by omega)
        refine G_if_eq 39 d_X10_laysCogs_33 (by decide) (by omega) (fun c33 => ?_) (fun c33 => ?_)
        · omega
        · refine G_goto 118 d_X10_laysCogs_36 (by decide) ?_
          refine G_iinc d_X10_laysCogs_118 rfl (by decide) rfl ?_
          refine G_goto 21 d_X10_laysCogs_121 (by decide) ?_
          exact ih (by omega) m1 h1 hM (fndC_no hfn (by omega))
  refine G_aload_n d_X10_laysCogs_0 rfl ?_
  refine G_getIe (fl_X10_25.r) d_X10_laysCogs_1 (wk_64 _) rfl (hI.2.1.1) ?_
  refine G_sipush d_X10_laysCogs_4 (by decide) ?_
  refine G_icmp_gt 17 d_X10_laysCogs_7 (by decide) (by omega) (by omega) (fun c7 => ?_) (fun c7 => ?_)
  · refine G_iconst d_X10_laysCogs_17 ?_
    refine G_iret (mc := 0) (ms := 0) (st := []) d_X10_laysCogs_18 rfl ?_
    have hres : resC s = none := by unfold resC; rw [if_neg (fun h => by have := h.1; omega)]
    rw [hres]
    exact ⟨rfl, m, rfl, KQ.refl hI, fun h => absurd rfl h⟩
  · refine G_aload_n d_X10_laysCogs_10 rfl ?_
    refine G_callV0 cl_X10_277 rfl d_X10_laysCogs_11 (wk_64 _) (Nat.le_of_ble_eq_true rfl) (by decide) (sp_MlaysMattering s hV hI) ?_
    rintro _ _ ⟨rfl, m1, rfl, h1, hMT⟩
    by_cases hp : posb s = true
    · rw [if_pos hp]
      refine G_if_ne 19 d_X10_laysCogs_14 (by decide) (by decide) (fun _ => ?_) (fun hd => absurd hd (by decide))
      refine G_iconst d_X10_laysCogs_19 ?_
      refine G_istore_n d_X10_laysCogs_20 (by decide) rfl ?_
      exact LX ⟨by omega, hp⟩ 0 (by omega) m1 h1 (hMT hp) rfl
    · rw [if_neg hp]
      refine G_if_ne 19 d_X10_laysCogs_14 (by decide) (by decide) (fun hd => absurd hd (by decide)) (fun _ => ?_)
      refine G_iconst d_X10_laysCogs_17 ?_
      refine G_iret (mc := 0) (ms := 0) (st := []) d_X10_laysCogs_18 rfl ?_
      have hres : resC s = none := by unfold resC; rw [if_neg (fun h => hp h.2)]
      rw [hres]
      exact ⟨rfl, m1, rfl, h1, fun h => absurd rfl h⟩
theorem lC_rng (s : Nat → Int) : (lC (resC s) = -1 ∨ 1 ≤ lC (resC s)) ∧ lC (resC s) ≤ 12 := by
  unfold resC
  by_cases h : pC s ≤ 200 ∧ posb s = true
  · rw [if_pos h]
    cases hf : fndC s 12 with
    | none => exact ⟨Or.inl rfl, by decide⟩
    | some v =>
      have h2 := fndC_lt hf
      show ((v.1 : Int) = -1 ∨ 1 ≤ (v.1 : Int)) ∧ (v.1 : Int) ≤ 12
      omega
  · rw [if_neg h]
    exact ⟨Or.inl rfl, by decide⟩
theorem sp_Mcogs {w : List KD} {m : Nat → Nat → Int} (s : Nat → Int) (hV : VS s) (hI : MI s m) (a : Int) (hra : -2147483648 ≤ a ∧ a < 2147483648) : Sp M_X10_cogs 7 0 0 [rV 64, iV a] (WC ++ (WM ++ w), m) (fun r h => r = some (iV (vCogs s a)) ∧ ∃ m2, h = (WC ++ (WM ++ w), m2) ∧ KQ s m m2) := by
  refine Sp.ofG (ls := [rV 64, iV a, uV]) (by decide +kernel) rfl (Nat.le_of_ble_eq_true rfl) ?_
  have hC := pC_le hV
  have hN := hV.N
  have hT := hV.T
  have hSc := hV.Sc
  refine G_aload_n d_X10_cogs_0 rfl ?_
  refine G_iconst d_X10_cogs_1 ?_
  refine G_putII fl_X10_1 d_X10_cogs_2 (wk_64 _) rfl ?_
  have hQ0 : KQ s m (upm m 64 0 0) := (KQ.refl hI).fld rfl
  generalize upm m 64 0 0 = m0 at hQ0 ⊢
  refine G_aload_n d_X10_cogs_5 rfl ?_
  refine G_callV0 cl_X10_295 rfl d_X10_cogs_6 (wk_64 _) (Nat.le_of_ble_eq_true rfl) (by decide) (sp_MlaysCogs s hV hQ0.2) ?_
  rintro _ _ ⟨rfl, m2, rfl, h2, hbs⟩
  have h2 := hQ0.trans h2
  have hrr := lC_rng s
  refine G_istore_n d_X10_cogs_9 (by decide) rfl ?_
  refine G_iload_n d_X10_cogs_10 rfl ?_
  refine G_iconst d_X10_cogs_11 ?_
  refine G_icmp_ne 17 d_X10_cogs_12 (by decide) (by omega) (by omega) (fun c12 => ?_) (fun c12 => ?_)
  · refine G_iload_n d_X10_cogs_17 rfl ?_
    refine G_bipush d_X10_cogs_18 (by decide) ?_
    refine G_icmp_ne 27 d_X10_cogs_20 (by decide) (by omega) (by omega) (fun c20 => ?_) (fun c20 => ?_)
    · refine G_aload_n d_X10_cogs_27 rfl ?_
      refine G_iload_n d_X10_cogs_28 rfl ?_
      refine G_callV1 cl_X10_133 rfl d_X10_cogs_29 (wk_64 _) (Nat.le_of_ble_eq_true rfl) (by decide) (sp_MisPulse s hV h2.2.1 a hra) ?_
      rintro _ _ ⟨rfl, rfl⟩
      by_cases hk : 0 ≤ a ∧ a < pN s
      · rw [if_pos hk]
        obtain ⟨k, rfl⟩ : ∃ n : Nat, a = (n : Int) := ⟨a.toNat, by omega⟩
        refine G_if_eq 44 d_X10_cogs_32 (by decide) (by decide) (fun hd => absurd hd (by decide)) (fun _ => ?_)
        refine G_aload_n d_X10_cogs_35 rfl ?_
        refine G_getR (r := 80) (fl_X10_86.r) d_X10_cogs_36 (wk_64 _) rfl rfl ?_
        refine G_iload_n d_X10_cogs_39 rfl ?_
        refine G_ialdj (k) d_X10_cogs_40 (wk_80 _) (by omega) (by omega) (by decide) ?_
        refine G_goto 45 d_X10_cogs_41 (by decide) ?_
        refine G_iret (mc := 0) (ms := 0) (st := []) d_X10_cogs_45 rfl ?_
        exact ⟨by rw [hbs c12 k (by omega)]; unfold vCogs atF; rw [if_neg c12, if_neg (by omega), if_pos hk]; rfl, m2, rfl, h2⟩
      · rw [if_neg hk]
        refine G_if_eq 44 d_X10_cogs_32 (by decide) (by decide) (fun _ => ?_) (fun hd => absurd hd (by decide))
        refine G_iconst d_X10_cogs_44 ?_
        refine G_iret (mc := 0) (ms := 0) (st := []) d_X10_cogs_45 rfl ?_
        exact ⟨by unfold vCogs atF; rw [if_neg c12, if_neg (by omega), if_neg hk], m2, rfl, h2⟩
    · refine G_iload_n d_X10_cogs_23 rfl ?_
      refine G_goto 45 d_X10_cogs_24 (by decide) ?_
      refine G_iret (mc := 0) (ms := 0) (st := []) d_X10_cogs_45 rfl ?_
      exact ⟨by unfold vCogs atF; rw [if_neg c12, if_pos (by omega)], m2, rfl, h2⟩
  · refine G_iconst d_X10_cogs_15 ?_
    refine G_iret (mc := 0) (ms := 0) (st := []) d_X10_cogs_16 rfl ?_
    exact ⟨by unfold vCogs atF; rw [if_pos (by omega)], m2, rfl, h2⟩
