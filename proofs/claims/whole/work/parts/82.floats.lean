/-! numbers of a format halved, doubled; of 1 .. 2, the digits behind the point -/
theorem fl_half {f : FP.Core.Fmt} (hf : FP.Core.Good f) {c : Nat} {q : Int} (h : FP.Core.fits f (.fin false c q)) (hc : f.tails ≤ c) (hq : f.qmin < q) : FP.Core.quotient f (.fin false c q) (.fin false f.tails (2 - (f.p : Int))) = .fin false c (q - 1) := by
  obtain ⟨h1, h2, h3, -⟩ := h
  have ht := FP.Core.tails_pos f
  have hp := hf.2
  show (if f.tails = 0 then _ else FP.Core.roundRatio f false c f.tails (q - (2 - (f.p : Int)))) = _
  rw [if_neg (by omega)]
  refine FP.Core.roundRatio_exact hf ht ⟨h1, by omega, by omega, Or.inr hc⟩ ?_
  rw [show (q - (2 - (f.p : Int)) - (q - 1)).toNat = f.p - 1 by omega, show (q - 1 - (q - (2 - (f.p : Int)))).toNat = 0 by omega, Nat.pow_zero, Nat.mul_one]
  rfl
theorem fl_dbl {f : FP.Core.Fmt} (hf : FP.Core.Good f) {c : Nat} {q : Int} (h : FP.Core.fits f (.fin false c q)) (hc : f.tails ≤ c) (hq : q < f.qmax) : FP.Core.round f (FP.Core.exactProduct (.fin false c q) (.fin false f.tails (2 - (f.p : Int)))) = .fin false c (q + 1) := by
  obtain ⟨h1, h2, h3, -⟩ := h
  have hp := hf.2
  show FP.Core.roundRatio f false (c * f.tails) 1 (q + (2 - (f.p : Int))) = _
  refine FP.Core.roundRatio_exact hf (by decide) ⟨h1, by omega, by omega, Or.inr hc⟩ ?_
  rw [show (q + (2 - (f.p : Int)) - (q + 1)).toNat = 0 by omega, show (q + 1 - (q + (2 - (f.p : Int)))).toNat = f.p - 1 by omega, Nat.pow_zero, Nat.mul_one, Nat.mul_one]
  rfl
theorem fl_sub {f : FP.Core.Fmt} (hf : FP.Core.Good f) {c : Nat} (hc : f.tails ≤ c) (hlt : c < 2 ^ f.p) (h1 : f.qmin ≤ 1 - (f.p : Int)) (h2 : 1 - (f.p : Int) ≤ f.qmax) : ∃ c' q', FP.Core.round f (FP.Core.exactSum (.fin false c (1 - (f.p : Int))) (FP.Core.negate (.fin false f.tails (1 - (f.p : Int))))) = .fin false c' q' ∧ FP.Core.inUnits c' q' f.qmin = FP.Core.inUnits (c - f.tails) (1 - (f.p : Int)) f.qmin := by
  have hs : FP.Core.exactSum (.fin false c (1 - (f.p : Int))) (FP.Core.negate (.fin false f.tails (1 - (f.p : Int)))) = .fin false (c - f.tails) (1 - (f.p : Int)) := by
    show FP.Core.Datum.fin (FP.Core.sumSign false true (FP.Core.sumUnits false c (1 - (f.p : Int)) true f.tails (1 - (f.p : Int)) (min (1 - (f.p : Int)) (1 - (f.p : Int))))) (FP.Core.sumUnits false c (1 - (f.p : Int)) true f.tails (1 - (f.p : Int)) (min (1 - (f.p : Int)) (1 - (f.p : Int)))).natAbs (min (1 - (f.p : Int)) (1 - (f.p : Int))) = _
    have e1 : min (1 - (f.p : Int)) (1 - (f.p : Int)) = 1 - (f.p : Int) := by omega
    rw [e1]
    have e2 : FP.Core.sumUnits false c (1 - (f.p : Int)) true f.tails (1 - (f.p : Int)) (1 - (f.p : Int)) = ((c - f.tails : Nat) : Int) := by
      unfold FP.Core.sumUnits FP.Core.inUnits FP.Core.signed
      rw [Int.sub_self]
      show ((c * 1 : Nat) : Int) + -((f.tails * 1 : Nat) : Int) = _
      omega
    rw [e2]
    have e3 : FP.Core.sumSign false true ((c - f.tails : Nat) : Int) = false := by
      unfold FP.Core.sumSign
      by_cases e : ((c - f.tails : Nat) : Int) = 0
      · rw [if_pos e]; rfl
      · rw [if_neg e]; exact decide_eq_false (by omega)
    rw [e3]
    rfl
  rw [hs]
  exact FP.Core.round_exact hf false (by omega) h1 h2
theorem fl_wh {f : FP.Core.Fmt} {c' t : Nat} {q' : Int} (hp : 1 ≤ f.p) (h1 : f.qmin ≤ 1 - (f.p : Int)) (hq : f.qmin ≤ q') (h : FP.Core.inUnits c' q' f.qmin = FP.Core.inUnits t (1 - (f.p : Int)) f.qmin) : FP.Core.Whole (t : Int) (FP.Core.exactProduct (.fin false c' q') (.fin false f.tails 0)) := by
  show (((c' * f.tails) * 2 ^ (q' + 0).toNat : Nat) : Int) = (t : Int) * ((2 ^ (-(q' + 0)).toNat : Nat) : Int)
  rw [Int.add_zero, ← Int.natCast_mul]
  congr 1
  unfold FP.Core.inUnits at h
  have key : ∀ a b k : Nat, a * 2 ^ k = b * 2 ^ k → a = b := fun a b k e => Nat.eq_of_mul_eq_mul_right (Nat.two_pow_pos k) e
  refine key _ _ ((-f.qmin).toNat) ?_
  have e1 : c' * f.tails * 2 ^ q'.toNat * 2 ^ (-f.qmin).toNat = c' * 2 ^ (q' - f.qmin).toNat * (2 ^ (f.p - 1) * 2 ^ (-q').toNat) := by
    have : q'.toNat + (-f.qmin).toNat = (q' - f.qmin).toNat + (-q').toNat := by omega
    unfold FP.Core.Fmt.tails
    calc c' * 2 ^ (f.p - 1) * 2 ^ q'.toNat * 2 ^ (-f.qmin).toNat = c' * 2 ^ (f.p - 1) * (2 ^ (q'.toNat + (-f.qmin).toNat)) := by rw [Nat.pow_add]; ac_rfl
      _ = c' * 2 ^ (f.p - 1) * (2 ^ ((q' - f.qmin).toNat + (-q').toNat)) := by rw [this]
      _ = _ := by rw [Nat.pow_add]; ac_rfl
  rw [e1, h]
  have e2 : (1 - (f.p : Int) - f.qmin).toNat + (f.p - 1) = (-f.qmin).toNat := by omega
  calc t * 2 ^ (1 - (f.p : Int) - f.qmin).toNat * (2 ^ (f.p - 1) * 2 ^ (-q').toNat) = t * 2 ^ (-q').toNat * 2 ^ ((1 - (f.p : Int) - f.qmin).toNat + (f.p - 1)) := by rw [Nat.pow_add]; ac_rfl
    _ = _ := by rw [e2]
theorem fl_ord {f : FP.Core.Fmt} (hf : FP.Core.Good f) {c : Nat} {q r : Int} (hc : f.tails ≤ c) (hlt : c < 2 ^ f.p) : (q < r → FP.Core.order (.fin false c q) (.fin false f.tails r) = some .lt) ∧ (r ≤ q → FP.Core.order (.fin false c q) (.fin false f.tails r) = some .eq ∨ FP.Core.order (.fin false c q) (.fin false f.tails r) = some .gt) := by
  have h2 := FP.Core.two_tails hf
  have ho : FP.Core.order (.fin false c q) (.fin false f.tails r) = some (compare ((FP.Core.inUnits c q (min q r) : Nat) : Int) ((FP.Core.inUnits f.tails r (min q r) : Nat) : Int)) := rfl
  rw [ho]
  unfold FP.Core.inUnits
  constructor
  · intro h
    rw [show min q r = q by omega, Int.sub_self]
    have h3 : 2 * 1 ≤ 2 * 2 ^ ((r - q).toNat - 1) := Nat.mul_le_mul_left _ (Nat.two_pow_pos _)
    have h4 : 2 * 2 ^ ((r - q).toNat - 1) = 2 ^ (r - q).toNat := by rw [Nat.mul_comm, ← Nat.pow_succ]; congr 1; omega
    have h5 : f.tails * 2 ≤ f.tails * 2 ^ (r - q).toNat := Nat.mul_le_mul_left _ (by omega)
    rw [FP.Core.compare_ite, if_pos (by show ((c * 1 : Nat) : Int) < _; omega)]
  · intro h
    rw [show min q r = r by omega, Int.sub_self]
    have h3 : c * 1 ≤ c * 2 ^ (q - r).toNat := Nat.mul_le_mul_left _ (Nat.two_pow_pos _)
    rw [FP.Core.compare_ite, if_neg (by show ¬ _ < ((f.tails * 1 : Nat) : Int); omega)]
    split
    · exact Or.inl rfl
    · exact Or.inr rfl
