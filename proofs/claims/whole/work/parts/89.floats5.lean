theorem fl_wr {f : FP.Core.Fmt} (hf : FP.Core.Good f) (hp : 24 ≤ f.p) (hm : f.qmin < -(f.p : Int)) {a : Int} {s : Bool} {c : Nat} {q : Int} (hw : FP.Core.Whole a (.fin s c q)) (hfit : FP.Core.fits f (.fin s c q)) (h1 : 1 ≤ a) (h2 : a < 524288) : s = false ∧ f.tails ≤ c ∧ c < 2 ^ f.p ∧ 1 - (f.p : Int) ≤ q ∧ q ≤ 19 - (f.p : Int) := by
  obtain ⟨g1, g2, g3, g4⟩ := hfit
  have hw : FP.Core.signed s (c * 2 ^ q.toNat) = a * ((2 ^ (-q).toNat : Nat) : Int) := hw
  have hpos : 0 < a * ((2 ^ (-q).toNat : Nat) : Int) := Int.mul_pos (by omega) (by have := Nat.two_pow_pos (-q).toNat; omega)
  have hs : s = false := by
    cases s with
    | false => rfl
    | true =>
      have e : FP.Core.signed true (c * 2 ^ q.toNat) = -((c * 2 ^ q.toNat : Nat) : Int) := rfl
      rw [e] at hw
      omega
  subst hs
  obtain ⟨n, rfl⟩ : ∃ n : Nat, a = (n : Int) := ⟨a.toNat, by omega⟩
  have hw : ((c * 2 ^ q.toNat : Nat) : Int) = (n : Int) * ((2 ^ (-q).toNat : Nat) : Int) := hw
  rw [← Int.natCast_mul] at hw
  have hw : c * 2 ^ q.toNat = n * 2 ^ (-q).toNat := Int.ofNat.inj hw
  have ht : f.tails = 2 ^ (f.p - 1) := rfl
  have big : (2 : Nat) ^ 23 ≤ 2 ^ (f.p - 1) := Nat.pow_le_pow_right (by decide) (by omega)
  have hq0 : q < 0 := by
    apply Int.not_le.mp
    intro h
    have hc : f.tails ≤ c := by rcases g4 with g | g; (· omega); (· exact g)
    rw [show (-q).toNat = 0 by omega, Nat.pow_zero, Nat.mul_one] at hw
    have := Nat.le_mul_of_pos_right c (Nat.two_pow_pos q.toNat)
    omega
  rw [show q.toNat = 0 by omega, Nat.pow_zero, Nat.mul_one] at hw
  have hk : (-q).toNat < f.p := by
    apply (Nat.pow_lt_pow_iff_right (by decide : 1 < 2)).mp
    have := Nat.le_mul_of_pos_left (2 ^ (-q).toNat) (show 0 < n by omega)
    omega
  have hc : f.tails ≤ c := by rcases g4 with g | g; (· omega); (· exact g)
  have hk2 : f.p - 1 < 19 + (-q).toNat := by
    apply (Nat.pow_lt_pow_iff_right (by decide : 1 < 2)).mp
    rw [Nat.pow_add]
    have := Nat.mul_lt_mul_of_pos_right (show n < 2 ^ 19 by omega) (Nat.two_pow_pos (-q).toNat)
    omega
  exact ⟨rfl, hc, g1, by omega, by omega⟩
theorem fl_quo {f : FP.Core.Fmt} (hf : FP.Core.Good f) {c1 c2 : Nat} {D : Int} (h1 : f.tails ≤ c1) (h2 : c1 < 2 ^ f.p) (h3 : f.tails ≤ c2) (h4 : c2 < 2 ^ f.p) (hD1 : f.qmin + f.p ≤ D) (hD2 : D - f.p + 2 ≤ f.qmax) : ∃ c q, FP.Core.roundRatio f false c1 c2 D = .fin false c q ∧ f.tails ≤ c ∧ D - f.p ≤ q ∧ q ≤ D - f.p + 2 := by
  have ht := FP.Core.tails_pos f
  have hp := hf.2
  have h2t := FP.Core.two_tails hf
  have htp : f.tails = 2 ^ (f.p - 1) := rfl
  have key : ∀ q : Int, f.qmin ≤ q → q + 1 ≤ f.qmax → f.tails * FP.Core.unitsDen c2 D q ≤ FP.Core.unitsNum c1 D q → FP.Core.unitsNum c1 D q < 2 ^ f.p * FP.Core.unitsDen c2 D q → D - f.p ≤ q → q ≤ D - f.p + 1 → ∃ c q, FP.Core.roundRatio f false c1 c2 D = .fin false c q ∧ f.tails ≤ c ∧ D - f.p ≤ q ∧ q ≤ D - f.p + 2 := by
    intro q k1 k2 k3 k4 k5 k6
    have hq : FP.Core.quantum f c1 c2 D = q := by
      refine FP.Core.quantum_eq (by omega) (by omega) k1 ?_ (Or.inr ?_)
      · exact (FP.Core.units_below c1 c2 D q f.p).mp k4
      · rw [show (f.p : Int) - 1 = ((f.p - 1 : Nat) : Int) by omega, ← FP.Core.units_below, ← htp]
        omega
    have hVp := FP.Core.unitsDen_pos (B := c2) (by omega) D q
    have n1 := FP.Core.nearest_ge hVp k3
    have n2 := FP.Core.nearest_le (M := 2 ^ f.p) hVp (Nat.le_of_lt k4)
    unfold FP.Core.roundRatio
    rw [if_neg (by omega), hq]
    unfold FP.Core.roundAt FP.Core.settle FP.Core.bound
    by_cases e : FP.Core.nearest (FP.Core.unitsNum c1 D q) (FP.Core.unitsDen c2 D q) < 2 ^ f.p
    · rw [if_pos e, if_pos (by omega)]
      exact ⟨_, _, rfl, n1, by omega, by omega⟩
    · rw [if_neg e, if_pos (by omega)]
      exact ⟨_, _, rfl, Nat.le_refl _, by omega, by omega⟩
  by_cases hc : c2 ≤ c1
  · refine key (D - (f.p - 1 : Nat)) (by omega) (by omega) ?_ ?_ (by omega) (by omega)
    · unfold FP.Core.unitsNum FP.Core.unitsDen
      rw [show (D - (D - ((f.p - 1 : Nat) : Int))).toNat = f.p - 1 by omega, show (D - ((f.p - 1 : Nat) : Int) - D).toNat = 0 by omega, Nat.pow_zero, Nat.mul_one, ← htp, Nat.mul_comm c1]
      exact Nat.mul_le_mul_left _ hc
    · unfold FP.Core.unitsNum FP.Core.unitsDen
      rw [show (D - (D - ((f.p - 1 : Nat) : Int))).toNat = f.p - 1 by omega, show (D - ((f.p - 1 : Nat) : Int) - D).toNat = 0 by omega, Nat.pow_zero, Nat.mul_one, ← htp, h2t, Nat.mul_comm c1, Nat.mul_comm 2, Nat.mul_assoc]
      exact Nat.mul_lt_mul_of_pos_left (by omega) ht
  · refine key (D - f.p) (by omega) (by omega) ?_ ?_ (by omega) (by omega)
    · unfold FP.Core.unitsNum FP.Core.unitsDen
      rw [show (D - (D - (f.p : Int))).toNat = f.p by omega, show (D - (f.p : Int) - D).toNat = 0 by omega, Nat.pow_zero, Nat.mul_one, h2t, Nat.mul_comm c1, Nat.mul_comm 2, Nat.mul_assoc]
      exact Nat.mul_le_mul_left _ (by omega)
    · unfold FP.Core.unitsNum FP.Core.unitsDen
      rw [show (D - (D - (f.p : Int))).toNat = f.p by omega, show (D - (f.p : Int) - D).toNat = 0 by omega, Nat.pow_zero, Nat.mul_one, Nat.mul_comm c1]
      exact Nat.mul_lt_mul_of_pos_left (by omega) (Nat.two_pow_pos _)
theorem FV32.quo {a b : Int} (ha : 1 ≤ a ∧ a < 524288) (hb : 1 ≤ b ∧ b < 524288) : ∃ c q, FV32 (FP.fdiv (FP.i2f (Int32.ofInt a)) (FP.i2f (Int32.ofInt b))) c q ∧ -100 ≤ q ∧ q ≤ 0 := by
  have key : ∀ i : Int, 1 ≤ i ∧ i < 524288 → ∃ c q, FP.Core.val32 (FP.i2f (Int32.ofInt i)) = .fin false c q ∧ FP.Core.b32.tails ≤ c ∧ c < 2 ^ FP.Core.b32.p ∧ 1 - (FP.Core.b32.p : Int) ≤ q ∧ q ≤ 19 - (FP.Core.b32.p : Int) := fun i hi => by
    have h1 : FP.Core.Whole (Int32.ofInt i).toInt (FP.Core.val32 (FP.i2f (Int32.ofInt i))) := FP.Core.i2f_int (by rw [oi_toInt (by omega)]; omega)
    rw [oi_toInt (by omega)] at h1
    have h2 := FP.Core.val32_fits (FP.i2f (Int32.ofInt i))
    cases hv : FP.Core.val32 (FP.i2f (Int32.ofInt i)) with
    | nan => rw [hv] at h1; exact h1.elim
    | inf s => rw [hv] at h1; exact h1.elim
    | fin s c q =>
      rw [hv] at h1 h2
      obtain ⟨rfl, g⟩ := fl_wr FP.Core.good_b32 (by decide +kernel) (by decide +kernel) h1 h2 hi.1 hi.2
      exact ⟨c, q, rfl, g⟩
  obtain ⟨c1, q1, a1, a2, a3, a4, a5⟩ := key a ha
  obtain ⟨c2, q2, b1, b2, b3, b4, b5⟩ := key b hb
  have e2 : FP.Core.b32.qmin = (-149) := by decide +kernel
  have e3 : FP.Core.b32.qmax = 104 := by decide +kernel
  have e4 : (FP.Core.b32.p : Int) = 24 := by decide +kernel
  obtain ⟨c, q, g1, g2, g3, g4⟩ := fl_quo FP.Core.good_b32 (D := q1 - q2) a2 a3 b2 b3 (by rw [e2]; omega) (by rw [e3]; omega)
  have ht := FP.Core.tails_pos FP.Core.b32
  refine ⟨c, q, ⟨?_, by rw [tl32] at g2; exact g2⟩, by omega, by omega⟩
  show FP.Core.val32 (FP.Core.fdiv _ _) = _
  rw [FP.Core.val32_fdiv, a1, b1, ← g1]
  show (if c2 = 0 then _ else FP.Core.roundRatio FP.Core.b32 false c1 c2 (q1 - q2)) = _
  rw [if_neg (by omega)]
theorem FV32.qz {b : Int} (hb : 1 ≤ b ∧ b < 524288) : FP.fdiv (FP.i2f (Int32.ofInt 0)) (FP.i2f (Int32.ofInt b)) = FP.fconst0 := by
  have h1 : FP.Core.Whole (Int32.ofInt b).toInt (FP.Core.val32 (FP.i2f (Int32.ofInt b))) := FP.Core.i2f_int (by rw [oi_toInt (by omega)]; omega)
  rw [oi_toInt (by omega)] at h1
  have h2 := FP.Core.val32_fits (FP.i2f (Int32.ofInt b))
  cases hv : FP.Core.val32 (FP.i2f (Int32.ofInt b)) with
  | nan => rw [hv] at h1; exact h1.elim
  | inf s => rw [hv] at h1; exact h1.elim
  | fin s c q =>
    rw [hv] at h1 h2
    obtain ⟨rfl, g⟩ := fl_wr FP.Core.good_b32 (by decide +kernel) (by decide +kernel) h1 h2 hb.1 hb.2
    have ht := FP.Core.tails_pos FP.Core.b32
    refine zero32 (q := FP.Core.b32.qmin) ?_ (by decide +kernel)
    show FP.Core.val32 (FP.Core.fdiv _ _) = _
    have h0 : FP.Core.val32 (FP.i2f (Int32.ofInt 0)) = .fin false 0 FP.Core.b32.qmin := by decide +kernel
    rw [FP.Core.val32_fdiv, h0, hv]
    show (if c = 0 then _ else FP.Core.roundRatio FP.Core.b32 false 0 c (FP.Core.b32.qmin - q)) = _
    rw [if_neg (by omega)]
    rfl
theorem FV64.quo {a b : Int} (ha : 1 ≤ a ∧ a < 524288) (hb : 1 ≤ b ∧ b < 524288) : ∃ c q, FV64 (FP.ddiv (FP.i2d (Int32.ofInt a)) (FP.i2d (Int32.ofInt b))) c q ∧ -100 ≤ q ∧ q ≤ 0 := by
  have key : ∀ i : Int, 1 ≤ i ∧ i < 524288 → ∃ c q, FP.Core.val64 (FP.i2d (Int32.ofInt i)) = .fin false c q ∧ FP.Core.b64.tails ≤ c ∧ c < 2 ^ FP.Core.b64.p ∧ 1 - (FP.Core.b64.p : Int) ≤ q ∧ q ≤ 19 - (FP.Core.b64.p : Int) := fun i hi => by
    have h1 : FP.Core.Whole (Int32.ofInt i).toInt (FP.Core.val64 (FP.i2d (Int32.ofInt i))) := FP.Core.i2d_int _
    rw [oi_toInt (by omega)] at h1
    have h2 := FP.Core.val64_fits (FP.i2d (Int32.ofInt i))
    cases hv : FP.Core.val64 (FP.i2d (Int32.ofInt i)) with
    | nan => rw [hv] at h1; exact h1.elim
    | inf s => rw [hv] at h1; exact h1.elim
    | fin s c q =>
      rw [hv] at h1 h2
      obtain ⟨rfl, g⟩ := fl_wr FP.Core.good_b64 (by decide +kernel) (by decide +kernel) h1 h2 hi.1 hi.2
      exact ⟨c, q, rfl, g⟩
  obtain ⟨c1, q1, a1, a2, a3, a4, a5⟩ := key a ha
  obtain ⟨c2, q2, b1, b2, b3, b4, b5⟩ := key b hb
  have e2 : FP.Core.b64.qmin = (-1074) := by decide +kernel
  have e3 : FP.Core.b64.qmax = 971 := by decide +kernel
  have e4 : (FP.Core.b64.p : Int) = 53 := by decide +kernel
  obtain ⟨c, q, g1, g2, g3, g4⟩ := fl_quo FP.Core.good_b64 (D := q1 - q2) a2 a3 b2 b3 (by rw [e2]; omega) (by rw [e3]; omega)
  have ht := FP.Core.tails_pos FP.Core.b64
  refine ⟨c, q, ⟨?_, by rw [tl64] at g2; exact g2⟩, by omega, by omega⟩
  show FP.Core.val64 (FP.Core.ddiv _ _) = _
  rw [FP.Core.val64_ddiv, a1, b1, ← g1]
  show (if c2 = 0 then _ else FP.Core.roundRatio FP.Core.b64 false c1 c2 (q1 - q2)) = _
  rw [if_neg (by omega)]
theorem FV64.qz {b : Int} (hb : 1 ≤ b ∧ b < 524288) : FP.ddiv (FP.i2d (Int32.ofInt 0)) (FP.i2d (Int32.ofInt b)) = FP.dconst0 := by
  have h1 : FP.Core.Whole (Int32.ofInt b).toInt (FP.Core.val64 (FP.i2d (Int32.ofInt b))) := FP.Core.i2d_int _
  rw [oi_toInt (by omega)] at h1
  have h2 := FP.Core.val64_fits (FP.i2d (Int32.ofInt b))
  cases hv : FP.Core.val64 (FP.i2d (Int32.ofInt b)) with
  | nan => rw [hv] at h1; exact h1.elim
  | inf s => rw [hv] at h1; exact h1.elim
  | fin s c q =>
    rw [hv] at h1 h2
    obtain ⟨rfl, g⟩ := fl_wr FP.Core.good_b64 (by decide +kernel) (by decide +kernel) h1 h2 hb.1 hb.2
    have ht := FP.Core.tails_pos FP.Core.b64
    refine zero64 (q := FP.Core.b64.qmin) ?_ (by decide +kernel)
    show FP.Core.val64 (FP.Core.ddiv _ _) = _
    have h0 : FP.Core.val64 (FP.i2d (Int32.ofInt 0)) = .fin false 0 FP.Core.b64.qmin := by decide +kernel
    rw [FP.Core.val64_ddiv, h0, hv]
    show (if c = 0 then _ else FP.Core.roundRatio FP.Core.b64 false 0 c (FP.Core.b64.qmin - q)) = _
    rw [if_neg (by omega)]
    rfl
