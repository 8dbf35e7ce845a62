theorem n32_nn {x : UInt32} (h : FP.Core.val32 x ≠ .nan) : vf_n32 x := by
  have h1 := mt (FP.Core.decode_nan (f := FP.Core.b32) x.toNat).mpr h
  have e1 : FP.Core.infBits FP.Core.b32 = 2139095040 := by decide +kernel
  have e2 : FP.Core.mag FP.Core.b32 x.toNat = x.toNat % 2 ^ 31 := by unfold FP.Core.mag; rw [show FP.Core.half FP.Core.b32 = 2 ^ 31 by decide +kernel]
  rw [e1, e2] at h1
  unfold vf_n32
  rw [UInt32.le_iff_toNat_le, UInt32.toNat_and, show (0x7fffffff : UInt32).toNat = 2 ^ 31 - 1 from rfl, Nat.and_two_pow_sub_one_eq_mod, show (0x7f800000 : UInt32).toNat = 2139095040 from rfl]
  omega
/-- a number of the format, all its digits used -/
def FV32 (x : UInt32) (c : Nat) (q : Int) : Prop := FP.Core.val32 x = .fin false c q ∧ 8388608 ≤ c
theorem FV32.fit {x : UInt32} {c : Nat} {q : Int} (h : FV32 x c q) : FP.Core.fits FP.Core.b32 (.fin false c q) := h.1 ▸ FP.Core.val32_fits x
theorem tl32 : FP.Core.b32.tails = 8388608 := by decide +kernel
theorem FV32.rng {x : UInt32} {c : Nat} {q : Int} (h : FV32 x c q) : c < 2 * 8388608 ∧ (-149) ≤ q ∧ q ≤ 104 := by
  obtain ⟨h1, h2, h3, -⟩ := h.fit
  have e1 : (2 : Nat) ^ FP.Core.b32.p = 2 * 8388608 := by decide +kernel
  have e2 : FP.Core.b32.qmin = (-149) := by decide +kernel
  have e3 : FP.Core.b32.qmax = 104 := by decide +kernel
  rw [e1] at h1
  rw [e2] at h2
  rw [e3] at h3
  exact ⟨h1, h2, h3⟩
theorem FV32.nn {x : UInt32} {c : Nat} {q : Int} (h : FV32 x c q) : vf_n32 x := n32_nn (by rw [h.1]; exact fun e => by cases e)
theorem FV32.bits {x : UInt32} {c : Nat} {q : Int} (h : FV32 x c q) : x.toNat = ((q - (-149)).toNat + 1) * 8388608 + (c - 8388608) := by
  have h1 := FP.Core.of32_val32 (a := x) (by rw [h.1]; exact fun e => by cases e)
  have h2 := FP.Core.encode_lt FP.Core.good_b32 _ h.fit
  rw [FP.Core.size_b32] at h2
  have e2 : FP.Core.b32.qmin = (-149) := by decide +kernel
  have h3 : x.toNat = FP.Core.encode FP.Core.b32 (.fin false c q) := by
    rw [← h1, h.1]
    exact UInt32.toNat_ofNat_of_lt' h2
  rw [h3]
  show (if c < FP.Core.b32.tails then _ else FP.Core.assemble FP.Core.b32 false ((q - FP.Core.b32.qmin).toNat + 1) (c - FP.Core.b32.tails)) = _
  have hc := h.2
  rw [tl32, if_neg (by omega), e2]
  unfold FP.Core.assemble
  rw [tl32]
  show (0 * _ + ((q - (-149)).toNat + 1)) * 8388608 + (c - 8388608) = _
  rw [Nat.zero_mul, Nat.zero_add]
theorem two32 : FP.Core.val32 (FP.fconst2) = .fin false FP.Core.b32.tails (2 - (FP.Core.b32.p : Int)) := by decide +kernel
theorem one32 : FP.Core.val32 (FP.fconst1) = .fin false FP.Core.b32.tails (1 - (FP.Core.b32.p : Int)) := by decide +kernel
theorem nul32 : FP.Core.val32 (FP.fconst0) = .fin false 0 FP.Core.b32.qmin := by decide +kernel
theorem top32 : FP.Core.val32 ((1258291200 : UInt32)) = .fin false FP.Core.b32.tails 0 := by decide +kernel
theorem FV32.half {x : UInt32} {c : Nat} {q : Int} (h : FV32 x c q) (hq : (-149) < q) : FV32 (FP.fdiv x (FP.fconst2)) c (q - 1) := by
  refine ⟨?_, h.2⟩
  show FP.Core.val32 (FP.Core.fdiv x (FP.fconst2)) = _
  rw [FP.Core.val32_fdiv, h.1, two32]
  exact fl_half FP.Core.good_b32 h.fit (by rw [tl32]; exact h.2) (by rw [show FP.Core.b32.qmin = (-149) by decide +kernel]; exact hq)
theorem FV32.dbl {x : UInt32} {c : Nat} {q : Int} (h : FV32 x c q) (hq : q < 104) : FV32 (FP.fmul x (FP.fconst2)) c (q + 1) := by
  refine ⟨?_, h.2⟩
  show FP.Core.val32 (FP.Core.fmul x (FP.fconst2)) = _
  rw [FP.Core.val32_fmul, h.1, two32]
  exact fl_dbl FP.Core.good_b32 h.fit (by rw [tl32]; exact h.2) (by rw [show FP.Core.b32.qmax = 104 by decide +kernel]; exact hq)
theorem FV32.cmp2 {x : UInt32} {c : Nat} {q : Int} (h : FV32 x c q) : (q < (-22) → FP.fcmp x (FP.fconst2) = some .lt) ∧ ((-22) ≤ q → FP.fcmp x (FP.fconst2) = some .eq ∨ FP.fcmp x (FP.fconst2) = some .gt) := by
  have h1 := fl_ord FP.Core.good_b32 (c := c) (q := q) (r := 2 - (FP.Core.b32.p : Int)) (by rw [tl32]; exact h.2) h.fit.1
  have e : FP.fcmp x (FP.fconst2) = FP.Core.order (.fin false c q) (.fin false FP.Core.b32.tails (2 - (FP.Core.b32.p : Int))) := by rw [← h.1, ← two32]; rfl
  rw [show (2 - (FP.Core.b32.p : Int)) = (-22) by decide +kernel] at h1 e
  rw [e]
  exact h1
theorem FV32.cmp1 {x : UInt32} {c : Nat} {q : Int} (h : FV32 x c q) : (q < (-23) → FP.fcmp x (FP.fconst1) = some .lt) ∧ ((-23) ≤ q → FP.fcmp x (FP.fconst1) = some .eq ∨ FP.fcmp x (FP.fconst1) = some .gt) := by
  have h1 := fl_ord FP.Core.good_b32 (c := c) (q := q) (r := 1 - (FP.Core.b32.p : Int)) (by rw [tl32]; exact h.2) h.fit.1
  have e : FP.fcmp x (FP.fconst1) = FP.Core.order (.fin false c q) (.fin false FP.Core.b32.tails (1 - (FP.Core.b32.p : Int))) := by rw [← h.1, ← one32]; rfl
  rw [show (1 - (FP.Core.b32.p : Int)) = (-23) by decide +kernel] at h1 e
  rw [e]
  exact h1
theorem FV32.cmp0 {x : UInt32} {c : Nat} {q : Int} (h : FV32 x c q) : FP.fcmp x (FP.fconst0) = some .gt := by
  have e : FP.fcmp x (FP.fconst0) = FP.Core.order (.fin false c q) (.fin false 0 FP.Core.b32.qmin) := by rw [← h.1, ← nul32]; rfl
  have hc := h.2
  rw [e]
  show some (compare ((FP.Core.inUnits c q (min q FP.Core.b32.qmin) : Nat) : Int) ((FP.Core.inUnits 0 FP.Core.b32.qmin (min q FP.Core.b32.qmin) : Nat) : Int)) = _
  unfold FP.Core.inUnits
  have h3 : 0 < c * 2 ^ (q - min q FP.Core.b32.qmin).toNat := Nat.mul_pos (by omega) (Nat.two_pow_pos _)
  rw [Nat.zero_mul, FP.Core.compare_ite, if_neg (by omega), if_neg (by omega)]
theorem FV32.sub1 {x : UInt32} {c : Nat} (h : FV32 x c ((-23))) : vf_n32 (FP.fsub x (FP.fconst1)) ∧ vf_n32 (FP.fmul (FP.fsub x (FP.fconst1)) ((1258291200 : UInt32))) ∧ FP.Core.Whole (((c - 8388608 : Nat)) : Int) (FP.Core.val32 (FP.fmul (FP.fsub x (FP.fconst1)) ((1258291200 : UInt32)))) := by
  have e1 : (1 - (FP.Core.b32.p : Int)) = (-23) := by decide +kernel
  have hr := h.rng
  obtain ⟨c', q', h1, h2⟩ := fl_sub FP.Core.good_b32 (c := c) (by rw [tl32]; exact h.2) h.fit.1 (by decide +kernel) (by decide +kernel)
  have hs : FP.Core.val32 (FP.fsub x (FP.fconst1)) = .fin false c' q' := by
    show FP.Core.val32 (FP.Core.fsub x (FP.fconst1)) = _
    rw [FP.Core.val32_fsub, h.1, one32, ← h1, e1]
  have hq : FP.Core.b32.qmin ≤ q' := by
    have := FP.Core.val32_fits (FP.fsub x (FP.fconst1))
    rw [hs] at this
    exact this.2.1
  have hw := fl_wh (f := FP.Core.b32) (c' := c') (t := c - FP.Core.b32.tails) (q' := q') (by decide +kernel) (by decide +kernel) hq h2
  rw [tl32] at hw
  have hm : FP.Core.val32 (FP.fmul (FP.fsub x (FP.fconst1)) ((1258291200 : UInt32))) = FP.Core.round FP.Core.b32 (FP.Core.exactProduct (.fin false c' q') (.fin false 8388608 0)) := by
    show FP.Core.val32 (FP.Core.fmul (FP.fsub x (FP.fconst1)) ((1258291200 : UInt32))) = _
    rw [FP.Core.val32_fmul, hs, top32, tl32]
  have hw2 : FP.Core.Whole (((c - 8388608 : Nat)) : Int) (FP.Core.val32 (FP.fmul (FP.fsub x (FP.fconst1)) ((1258291200 : UInt32)))) := by
    rw [hm]
    exact FP.Core.whole_round FP.Core.good_b32 FP.Core.wide_b32 (by rw [show (2 : Nat) ^ FP.Core.b32.p = 2 * 8388608 by decide +kernel]; omega) hw
  exact ⟨n32_nn (by rw [hs]; exact fun e => by cases e), n32_nn (FP.Core.Whole.ne_nan hw2), hw2⟩
theorem n64_nn {x : UInt64} (h : FP.Core.val64 x ≠ .nan) : vf_n64 x := by
  have h1 := mt (FP.Core.decode_nan (f := FP.Core.b64) x.toNat).mpr h
  have e1 : FP.Core.infBits FP.Core.b64 = 9218868437227405312 := by decide +kernel
  have e2 : FP.Core.mag FP.Core.b64 x.toNat = x.toNat % 2 ^ 63 := by unfold FP.Core.mag; rw [show FP.Core.half FP.Core.b64 = 2 ^ 63 by decide +kernel]
  rw [e1, e2] at h1
  unfold vf_n64
  rw [UInt64.le_iff_toNat_le, UInt64.toNat_and, show (0x7fffffffffffffff : UInt64).toNat = 2 ^ 63 - 1 from rfl, Nat.and_two_pow_sub_one_eq_mod, show (0x7ff0000000000000 : UInt64).toNat = 9218868437227405312 from rfl]
  omega
/-- a number of the format, all its digits used -/
def FV64 (x : UInt64) (c : Nat) (q : Int) : Prop := FP.Core.val64 x = .fin false c q ∧ 4503599627370496 ≤ c
theorem FV64.fit {x : UInt64} {c : Nat} {q : Int} (h : FV64 x c q) : FP.Core.fits FP.Core.b64 (.fin false c q) := h.1 ▸ FP.Core.val64_fits x
theorem tl64 : FP.Core.b64.tails = 4503599627370496 := by decide +kernel
theorem FV64.rng {x : UInt64} {c : Nat} {q : Int} (h : FV64 x c q) : c < 2 * 4503599627370496 ∧ (-1074) ≤ q ∧ q ≤ 971 := by
  obtain ⟨h1, h2, h3, -⟩ := h.fit
  have e1 : (2 : Nat) ^ FP.Core.b64.p = 2 * 4503599627370496 := by decide +kernel
  have e2 : FP.Core.b64.qmin = (-1074) := by decide +kernel
  have e3 : FP.Core.b64.qmax = 971 := by decide +kernel
  rw [e1] at h1
  rw [e2] at h2
  rw [e3] at h3
  exact ⟨h1, h2, h3⟩
theorem FV64.nn {x : UInt64} {c : Nat} {q : Int} (h : FV64 x c q) : vf_n64 x := n64_nn (by rw [h.1]; exact fun e => by cases e)
theorem FV64.bits {x : UInt64} {c : Nat} {q : Int} (h : FV64 x c q) : x.toNat = ((q - (-1074)).toNat + 1) * 4503599627370496 + (c - 4503599627370496) := by
  have h1 := FP.Core.of64_val64 (a := x) (by rw [h.1]; exact fun e => by cases e)
  have h2 := FP.Core.encode_lt FP.Core.good_b64 _ h.fit
  rw [FP.Core.size_b64] at h2
  have e2 : FP.Core.b64.qmin = (-1074) := by decide +kernel
  have h3 : x.toNat = FP.Core.encode FP.Core.b64 (.fin false c q) := by
    rw [← h1, h.1]
    exact UInt64.toNat_ofNat_of_lt' h2
  rw [h3]
  show (if c < FP.Core.b64.tails then _ else FP.Core.assemble FP.Core.b64 false ((q - FP.Core.b64.qmin).toNat + 1) (c - FP.Core.b64.tails)) = _
  have hc := h.2
  rw [tl64, if_neg (by omega), e2]
  unfold FP.Core.assemble
  rw [tl64]
  show (0 * _ + ((q - (-1074)).toNat + 1)) * 4503599627370496 + (c - 4503599627370496) = _
  rw [Nat.zero_mul, Nat.zero_add]
theorem two64 : FP.Core.val64 ((4611686018427387904 : UInt64)) = .fin false FP.Core.b64.tails (2 - (FP.Core.b64.p : Int)) := by decide +kernel
theorem one64 : FP.Core.val64 (FP.dconst1) = .fin false FP.Core.b64.tails (1 - (FP.Core.b64.p : Int)) := by decide +kernel
theorem nul64 : FP.Core.val64 (FP.dconst0) = .fin false 0 FP.Core.b64.qmin := by decide +kernel
theorem top64 : FP.Core.val64 ((4841369599423283200 : UInt64)) = .fin false FP.Core.b64.tails 0 := by decide +kernel
theorem FV64.half {x : UInt64} {c : Nat} {q : Int} (h : FV64 x c q) (hq : (-1074) < q) : FV64 (FP.ddiv x ((4611686018427387904 : UInt64))) c (q - 1) := by
  refine ⟨?_, h.2⟩
  show FP.Core.val64 (FP.Core.ddiv x ((4611686018427387904 : UInt64))) = _
  rw [FP.Core.val64_ddiv, h.1, two64]
  exact fl_half FP.Core.good_b64 h.fit (by rw [tl64]; exact h.2) (by rw [show FP.Core.b64.qmin = (-1074) by decide +kernel]; exact hq)
theorem FV64.dbl {x : UInt64} {c : Nat} {q : Int} (h : FV64 x c q) (hq : q < 971) : FV64 (FP.dmul x ((4611686018427387904 : UInt64))) c (q + 1) := by
  refine ⟨?_, h.2⟩
  show FP.Core.val64 (FP.Core.dmul x ((4611686018427387904 : UInt64))) = _
  rw [FP.Core.val64_dmul, h.1, two64]
  exact fl_dbl FP.Core.good_b64 h.fit (by rw [tl64]; exact h.2) (by rw [show FP.Core.b64.qmax = 971 by decide +kernel]; exact hq)
theorem FV64.cmp2 {x : UInt64} {c : Nat} {q : Int} (h : FV64 x c q) : (q < (-51) → FP.dcmp x ((4611686018427387904 : UInt64)) = some .lt) ∧ ((-51) ≤ q → FP.dcmp x ((4611686018427387904 : UInt64)) = some .eq ∨ FP.dcmp x ((4611686018427387904 : UInt64)) = some .gt) := by
  have h1 := fl_ord FP.Core.good_b64 (c := c) (q := q) (r := 2 - (FP.Core.b64.p : Int)) (by rw [tl64]; exact h.2) h.fit.1
  have e : FP.dcmp x ((4611686018427387904 : UInt64)) = FP.Core.order (.fin false c q) (.fin false FP.Core.b64.tails (2 - (FP.Core.b64.p : Int))) := by rw [← h.1, ← two64]; rfl
  rw [show (2 - (FP.Core.b64.p : Int)) = (-51) by decide +kernel] at h1 e
  rw [e]
  exact h1
theorem FV64.cmp1 {x : UInt64} {c : Nat} {q : Int} (h : FV64 x c q) : (q < (-52) → FP.dcmp x (FP.dconst1) = some .lt) ∧ ((-52) ≤ q → FP.dcmp x (FP.dconst1) = some .eq ∨ FP.dcmp x (FP.dconst1) = some .gt) := by
  have h1 := fl_ord FP.Core.good_b64 (c := c) (q := q) (r := 1 - (FP.Core.b64.p : Int)) (by rw [tl64]; exact h.2) h.fit.1
  have e : FP.dcmp x (FP.dconst1) = FP.Core.order (.fin false c q) (.fin false FP.Core.b64.tails (1 - (FP.Core.b64.p : Int))) := by rw [← h.1, ← one64]; rfl
  rw [show (1 - (FP.Core.b64.p : Int)) = (-52) by decide +kernel] at h1 e
  rw [e]
  exact h1
theorem FV64.cmp0 {x : UInt64} {c : Nat} {q : Int} (h : FV64 x c q) : FP.dcmp x (FP.dconst0) = some .gt := by
  have e : FP.dcmp x (FP.dconst0) = FP.Core.order (.fin false c q) (.fin false 0 FP.Core.b64.qmin) := by rw [← h.1, ← nul64]; rfl
  have hc := h.2
  rw [e]
  show some (compare ((FP.Core.inUnits c q (min q FP.Core.b64.qmin) : Nat) : Int) ((FP.Core.inUnits 0 FP.Core.b64.qmin (min q FP.Core.b64.qmin) : Nat) : Int)) = _
  unfold FP.Core.inUnits
  have h3 : 0 < c * 2 ^ (q - min q FP.Core.b64.qmin).toNat := Nat.mul_pos (by omega) (Nat.two_pow_pos _)
  rw [Nat.zero_mul, FP.Core.compare_ite, if_neg (by omega), if_neg (by omega)]
theorem FV64.sub1 {x : UInt64} {c : Nat} (h : FV64 x c ((-52))) : vf_n64 (FP.dsub x (FP.dconst1)) ∧ vf_n64 (FP.dmul (FP.dsub x (FP.dconst1)) ((4841369599423283200 : UInt64))) ∧ FP.Core.Whole (((c - 4503599627370496 : Nat)) : Int) (FP.Core.val64 (FP.dmul (FP.dsub x (FP.dconst1)) ((4841369599423283200 : UInt64)))) := by
  have e1 : (1 - (FP.Core.b64.p : Int)) = (-52) := by decide +kernel
  have hr := h.rng
  obtain ⟨c', q', h1, h2⟩ := fl_sub FP.Core.good_b64 (c := c) (by rw [tl64]; exact h.2) h.fit.1 (by decide +kernel) (by decide +kernel)
  have hs : FP.Core.val64 (FP.dsub x (FP.dconst1)) = .fin false c' q' := by
    show FP.Core.val64 (FP.Core.dsub x (FP.dconst1)) = _
    rw [FP.Core.val64_dsub, h.1, one64, ← h1, e1]
  have hq : FP.Core.b64.qmin ≤ q' := by
    have := FP.Core.val64_fits (FP.dsub x (FP.dconst1))
    rw [hs] at this
    exact this.2.1
  have hw := fl_wh (f := FP.Core.b64) (c' := c') (t := c - FP.Core.b64.tails) (q' := q') (by decide +kernel) (by decide +kernel) hq h2
  rw [tl64] at hw
  have hm : FP.Core.val64 (FP.dmul (FP.dsub x (FP.dconst1)) ((4841369599423283200 : UInt64))) = FP.Core.round FP.Core.b64 (FP.Core.exactProduct (.fin false c' q') (.fin false 4503599627370496 0)) := by
    show FP.Core.val64 (FP.Core.dmul (FP.dsub x (FP.dconst1)) ((4841369599423283200 : UInt64))) = _
    rw [FP.Core.val64_dmul, hs, top64, tl64]
  have hw2 : FP.Core.Whole (((c - 4503599627370496 : Nat)) : Int) (FP.Core.val64 (FP.dmul (FP.dsub x (FP.dconst1)) ((4841369599423283200 : UInt64)))) := by
    rw [hm]
    exact FP.Core.whole_round FP.Core.good_b64 FP.Core.wide_b64 (by rw [show (2 : Nat) ^ FP.Core.b64.p = 2 * 4503599627370496 by decide +kernel]; omega) hw
  exact ⟨n64_nn (by rw [hs]; exact fun e => by cases e), n64_nn (FP.Core.Whole.ne_nan hw2), hw2⟩
