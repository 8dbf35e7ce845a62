theorem ol_toInt {x : Int} (h : -4611686018427387904 ≤ x ∧ x ≤ 4611686018427387904) : (Int64.ofInt x).toInt = x := Int64.toInt_ofInt_of_le (by omega) (by omega)
theorem or_bits64 {e t : Nat} (he : e < 2048) (ht : t < 4503599627370496) : Int64.ofInt ((e : Int) * 4503599627370496) ||| Int64.ofInt (t : Int) = Int64.ofInt ((e * 4503599627370496 + t : Nat) : Int) := by
  rw [← Int64.toBitVec_inj, Int64.toBitVec_or, Int64.toBitVec_ofInt, Int64.toBitVec_ofInt, Int64.toBitVec_ofInt]
  rw [show ((e : Int) * 4503599627370496) = ((e * 4503599627370496 : Nat) : Int) by omega, BitVec.ofInt_natCast, BitVec.ofInt_natCast, BitVec.ofInt_natCast]
  apply BitVec.eq_of_toNat_eq
  rw [BitVec.toNat_or, BitVec.toNat_ofNat, BitVec.toNat_ofNat, BitVec.toNat_ofNat, Nat.mod_eq_of_lt (by omega), Nat.mod_eq_of_lt (by omega), Nat.mod_eq_of_lt (by omega)]
  rw [show e * 4503599627370496 = 2 ^ 52 * e by omega]
  exact (Nat.two_pow_add_eq_or_of_lt (show t < 2 ^ 52 by omega) e).symm
theorem shl_bits64 {e : Nat} (he : e < 2048) : Int64.ofInt (e : Int) <<< ((Int32.ofInt 52).toInt64 &&& 63) = Int64.ofInt ((e : Int) * 4503599627370496) := by
  have key : ∀ e : Fin 2048, Int64.ofInt ((e.val : Nat) : Int) <<< ((Int32.ofInt 52).toInt64 &&& 63) = Int64.ofInt (((e.val : Nat) : Int) * 4503599627370496) := by decide +kernel
  exact key ⟨e, he⟩
theorem sp_bitsOfDouble {w : List KD} {m : Nat → Nat → Int} (x : UInt64) (c : Nat) (q : Int) (h : FV64 x c q) (hq : -1060 ≤ q ∧ q ≤ 900) : Sp M_X9_bitsOfDouble 0 0 0 [vV (.double x)] (WC ++ w, m) (fun r h => r = some (lV (x.toNat : Int)) ∧ h = (WC ++ w, m)) := by
  refine Sp.ofG (ls := [vV (.double x), uV, uV, uV, uV, uV, uV]) (by decide +kernel) rfl (Nat.le_of_ble_eq_true rfl) ?_
  have hr := h.rng
  have hc := h.2
  have hb := h.bits
  have L2 : ∀ q1 : Int, -1060 ≤ q1 → ∀ i : Nat, i ≤ 1023 → ∀ y, FV64 y c (q1 + (i : Int)) → q1 + (i : Int) ≤ -52 → G M_X9_bitsOfDouble 0 0 0 55 [vV (.double x), uV, vV (.double y), uV, lV (1023 + (q - q1) - (i : Int)), uV, iV (i : Int)] [] (WC ++ w, m) (fun r h => r = some (lV (x.toNat : Int)) ∧ h = (WC ++ w, m)) := by
    intro q1 hq1
    refine loop_up 1023 _ ?_
    intro i hi ih y hy hle
    refine G_iload d_X9_bitsOfDouble_55 rfl ?_
    refine G_sipush d_X9_bitsOfDouble_57 (by decide) ?_
    refine G_icmp_ge 87 d_X9_bitsOfDouble_60 (by decide) (by omega) (by omega) (fun c60 => ?_) (fun c60 => ?_)
    · omega
    · refine G_dload_n d_X9_bitsOfDouble_63 rfl ?_
      refine G_dconst1 d_X9_bitsOfDouble_64 ?_
      refine G_dcmp d_X9_bitsOfDouble_65 ?_
      obtain ⟨v, hv, hv1, hv2, hv3⟩ := hy.cv1
      rw [hv]
      refine G_if_ge 87 d_X9_bitsOfDouble_66 (by decide) (by omega) (fun c66 => ?_) (fun c66 => ?_)
      · have hq9 : q1 + (i : Int) = -52 := by omega
        rw [hq9] at hy
        have hE : 1023 + (q - q1) - (i : Int) = (((q + 1075).toNat : Nat) : Int) := by omega
        rw [hE]
        refine G_lload d_X9_bitsOfDouble_87 rfl ?_
        refine G_bipush d_X9_bitsOfDouble_89 (by decide) ?_
        refine G_lshl ((((q + 1075).toNat : Nat) : Int) * 4503599627370496) d_X9_bitsOfDouble_91 (shl_bits64 (by omega)) ?_
        refine G_dload_n d_X9_bitsOfDouble_92 rfl ?_
        refine G_dconst1 d_X9_bitsOfDouble_93 ?_
        refine G_dsub d_X9_bitsOfDouble_94 (hy.sub1.1) ?_
        refine G_ldc2d d_X9_bitsOfDouble_95 co_X9_386 ?_
        refine G_dmul d_X9_bitsOfDouble_98 (hy.sub1.2.1) ?_
        refine G_d2l d_X9_bitsOfDouble_99 ?_
        have hfi : FP.d2l (FP.dmul (FP.dsub y FP.dconst1) (4841369599423283200 : UInt64)) = Int64.ofInt ((c - 4503599627370496 : Nat) : Int) := FP.Core.d2l_int (by rw [ol_toInt (by omega)]; exact hy.sub1.2.2)
        rw [hfi, ol_toInt (by omega)]
        refine G_lor ((((q + 1075).toNat * 4503599627370496 + (c - 4503599627370496) : Nat) : Int)) d_X9_bitsOfDouble_100 (or_bits64 (by omega) (by omega)) ?_
        refine G_lret (mc := 0) (ms := 0) (st := []) d_X9_bitsOfDouble_101 rfl ?_
        exact ⟨by rw [hb, show (q - -1074).toNat + 1 = (q + 1075).toNat by omega], rfl⟩
      · refine G_dload_n d_X9_bitsOfDouble_69 rfl ?_
        refine G_ldc2d d_X9_bitsOfDouble_70 co_X9_384 ?_
        refine G_dmul d_X9_bitsOfDouble_73 ((hy.dbl (by omega)).nn) ?_
        refine G_dstore_n d_X9_bitsOfDouble_74 (by decide) rfl ?_
        refine G_lload d_X9_bitsOfDouble_75 rfl ?_
        refine G_lconst d_X9_bitsOfDouble_77 ?_
        refine G_lsub d_X9_bitsOfDouble_78 ?_
        refine G_lstore d_X9_bitsOfDouble_79 (by decide) rfl ?_
        refine G_iinc d_X9_bitsOfDouble_81 rfl (by decide) rfl ?_
        refine G_goto 55 d_X9_bitsOfDouble_84 (by decide) ?_
        have h9 := hy.dbl (by omega)
        rw [show q1 + (i : Int) + 1 = q1 + ((i + 1 : Nat) : Int) by omega] at h9
        have h8 := ih (by omega) _ h9 (by omega)
        rw [show 1023 + (q - q1) - ((i + 1 : Nat) : Int) = 1023 + (q - q1) - (i : Int) - 1 by omega] at h8
        exact h8
  have L1 : ∀ i : Nat, i ≤ 1023 → ∀ y, FV64 y c (q - (i : Int)) → (i = 0 ∨ -52 ≤ q - (i : Int)) → G M_X9_bitsOfDouble 0 0 0 18 [vV (.double x), uV, vV (.double y), uV, lV (1023 + (i : Int)), uV, iV (i : Int)] [] (WC ++ w, m) (fun r h => r = some (lV (x.toNat : Int)) ∧ h = (WC ++ w, m)) := by
    refine loop_up 1023 _ ?_
    intro i hi ih y hy hor
    refine G_iload d_X9_bitsOfDouble_18 rfl ?_
    refine G_sipush d_X9_bitsOfDouble_20 (by decide) ?_
    refine G_icmp_ge 52 d_X9_bitsOfDouble_23 (by decide) (by omega) (by omega) (fun c23 => ?_) (fun c23 => ?_)
    · omega
    · refine G_dload_n d_X9_bitsOfDouble_26 rfl ?_
      refine G_ldc2d d_X9_bitsOfDouble_27 co_X9_384 ?_
      refine G_dcmp d_X9_bitsOfDouble_30 ?_
      obtain ⟨v, hv, hv1, hv2, hv3⟩ := hy.cv2
      rw [hv]
      refine G_if_lt 52 d_X9_bitsOfDouble_31 (by decide) (by omega) (fun c31 => ?_) (fun c31 => ?_)
      · refine G_iconst d_X9_bitsOfDouble_52 ?_
        refine G_istore d_X9_bitsOfDouble_53 (by decide) rfl ?_
        have h9 := L2 (q - (i : Int)) (by omega) 0 (by omega) y (by rw [show q - (i : Int) + ((0 : Nat) : Int) = q - (i : Int) by omega]; exact hy) (by omega)
        rw [show 1023 + (q - (q - (i : Int))) - ((0 : Nat) : Int) = 1023 + (i : Int) by omega] at h9
        exact h9
      · refine G_dload_n d_X9_bitsOfDouble_34 rfl ?_
        refine G_ldc2d d_X9_bitsOfDouble_35 co_X9_384 ?_
        refine G_ddiv d_X9_bitsOfDouble_38 ((hy.half (by omega)).nn) ?_
        refine G_dstore_n d_X9_bitsOfDouble_39 (by decide) rfl ?_
        refine G_lload d_X9_bitsOfDouble_40 rfl ?_
        refine G_lconst d_X9_bitsOfDouble_42 ?_
        refine G_ladd d_X9_bitsOfDouble_43 ?_
        refine G_lstore d_X9_bitsOfDouble_44 (by decide) rfl ?_
        refine G_iinc d_X9_bitsOfDouble_46 rfl (by decide) rfl ?_
        refine G_goto 18 d_X9_bitsOfDouble_49 (by decide) ?_
        have h9 := hy.half (by omega)
        rw [show q - (i : Int) - 1 = q - ((i + 1 : Nat) : Int) by omega] at h9
        have h8 := ih (by omega) _ h9 (by omega)
        rw [show 1023 + ((i + 1 : Nat) : Int) = 1023 + (i : Int) + 1 by omega] at h8
        exact h8
  refine G_dload_n d_X9_bitsOfDouble_0 rfl ?_
  refine G_dconst0 d_X9_bitsOfDouble_1 ?_
  refine G_dcmp d_X9_bitsOfDouble_2 ?_
  rw [h.cv0]
  refine G_if_gt 8 d_X9_bitsOfDouble_3 (by decide) (by omega) (fun c3 => ?_) (fun c3 => ?_)
  · refine G_dload_n d_X9_bitsOfDouble_8 rfl ?_
    refine G_dstore_n d_X9_bitsOfDouble_9 (by decide) rfl ?_
    refine G_ldc2 d_X9_bitsOfDouble_10 co_X9_382 ?_
    refine G_lstore d_X9_bitsOfDouble_13 (by decide) rfl ?_
    refine G_iconst d_X9_bitsOfDouble_15 ?_
    refine G_istore d_X9_bitsOfDouble_16 (by decide) rfl ?_
    exact L1 0 (by omega) x (by rw [show q - ((0 : Nat) : Int) = q by omega]; exact h) (Or.inl rfl)
  · omega
