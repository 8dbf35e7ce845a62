theorem FV32.cv2 {x : UInt32} {c : Nat} {q : Int} (h : FV32 x c q) : ∃ v : Int, (Op.cmpValue (FP.fcmp x (FP.fconst2)) .l).toInt = v ∧ (v < 0 ↔ q < (-22)) ∧ -1 ≤ v ∧ v ≤ 1 := by
  have h1 := h.cmp2
  by_cases hq : q < (-22)
  · exact ⟨-1, by rw [h1.1 hq]; rfl, by omega, by decide, by decide⟩
  · rcases h1.2 (by omega) with e | e
    · exact ⟨0, by rw [e]; rfl, by omega, by decide, by decide⟩
    · exact ⟨1, by rw [e]; rfl, by omega, by decide, by decide⟩
theorem FV32.cv1 {x : UInt32} {c : Nat} {q : Int} (h : FV32 x c q) : ∃ v : Int, (Op.cmpValue (FP.fcmp x (FP.fconst1)) .g).toInt = v ∧ (v < 0 ↔ q < (-23)) ∧ -1 ≤ v ∧ v ≤ 1 := by
  have h1 := h.cmp1
  by_cases hq : q < (-23)
  · exact ⟨-1, by rw [h1.1 hq]; rfl, by omega, by decide, by decide⟩
  · rcases h1.2 (by omega) with e | e
    · exact ⟨0, by rw [e]; rfl, by omega, by decide, by decide⟩
    · exact ⟨1, by rw [e]; rfl, by omega, by decide, by decide⟩
theorem FV32.cv0 {x : UInt32} {c : Nat} {q : Int} (h : FV32 x c q) : (Op.cmpValue (FP.fcmp x (FP.fconst0)) .l).toInt = 1 := by
  rw [h.cmp0]
  rfl
theorem FV64.cv2 {x : UInt64} {c : Nat} {q : Int} (h : FV64 x c q) : ∃ v : Int, (Op.cmpValue (FP.dcmp x ((4611686018427387904 : UInt64))) .l).toInt = v ∧ (v < 0 ↔ q < (-51)) ∧ -1 ≤ v ∧ v ≤ 1 := by
  have h1 := h.cmp2
  by_cases hq : q < (-51)
  · exact ⟨-1, by rw [h1.1 hq]; rfl, by omega, by decide, by decide⟩
  · rcases h1.2 (by omega) with e | e
    · exact ⟨0, by rw [e]; rfl, by omega, by decide, by decide⟩
    · exact ⟨1, by rw [e]; rfl, by omega, by decide, by decide⟩
theorem FV64.cv1 {x : UInt64} {c : Nat} {q : Int} (h : FV64 x c q) : ∃ v : Int, (Op.cmpValue (FP.dcmp x (FP.dconst1)) .g).toInt = v ∧ (v < 0 ↔ q < (-52)) ∧ -1 ≤ v ∧ v ≤ 1 := by
  have h1 := h.cmp1
  by_cases hq : q < (-52)
  · exact ⟨-1, by rw [h1.1 hq]; rfl, by omega, by decide, by decide⟩
  · rcases h1.2 (by omega) with e | e
    · exact ⟨0, by rw [e]; rfl, by omega, by decide, by decide⟩
    · exact ⟨1, by rw [e]; rfl, by omega, by decide, by decide⟩
theorem FV64.cv0 {x : UInt64} {c : Nat} {q : Int} (h : FV64 x c q) : (Op.cmpValue (FP.dcmp x (FP.dconst0)) .l).toInt = 1 := by
  rw [h.cmp0]
  rfl
theorem or_bits {e t : Nat} (he : e < 256) (ht : t < 8388608) : Int32.ofInt ((e : Int) * 8388608) ||| Int32.ofInt (t : Int) = Int32.ofInt ((e * 8388608 + t : Nat) : Int) := by
  rw [← Int32.toBitVec_inj, Int32.toBitVec_or, Int32.toBitVec_ofInt, Int32.toBitVec_ofInt, Int32.toBitVec_ofInt]
  rw [show ((e : Int) * 8388608) = ((e * 8388608 : Nat) : Int) by omega, BitVec.ofInt_natCast, BitVec.ofInt_natCast, BitVec.ofInt_natCast]
  apply BitVec.eq_of_toNat_eq
  rw [BitVec.toNat_or, BitVec.toNat_ofNat, BitVec.toNat_ofNat, BitVec.toNat_ofNat, Nat.mod_eq_of_lt (by omega), Nat.mod_eq_of_lt (by omega), Nat.mod_eq_of_lt (by omega)]
  rw [show e * 8388608 = 2 ^ 23 * e by omega]
  exact (Nat.two_pow_add_eq_or_of_lt (show t < 2 ^ 23 by omega) e).symm
theorem shl_bits {e : Nat} (he : e < 256) : Int32.ofInt (e : Int) <<< (Int32.ofInt 23 &&& 31) = Int32.ofInt ((e : Int) * 8388608) := by
  have key : ∀ e : Fin 256, Int32.ofInt ((e.val : Nat) : Int) <<< (Int32.ofInt 23 &&& 31) = Int32.ofInt (((e.val : Nat) : Int) * 8388608) := by decide +kernel
  exact key ⟨e, he⟩
