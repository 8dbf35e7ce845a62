theorem sp_bitsOfFloat {w : List KD} {m : Nat → Nat → Int} (x : UInt32) (c : Nat) (q : Int) (h : FV32 x c q) (hq : -140 ≤ q ∧ q ≤ 100) : Sp M_X9_bitsOfFloat 0 0 0 [vV (.float x)] (WC ++ w, m) (fun r h => r = some (iV (x.toNat : Int)) ∧ h = (WC ++ w, m)) := by
  refine Sp.ofG (ls := [vV (.float x), uV, uV, uV]) (by decide +kernel) rfl (Nat.le_of_ble_eq_true rfl) ?_
  have hr := h.rng
  have hc := h.2
  have hb := h.bits
  have L2 : ∀ q1 : Int, -140 ≤ q1 → ∀ i : Nat, i ≤ 127 → ∀ y, FV32 y c (q1 + (i : Int)) → q1 + (i : Int) ≤ -23 → G M_X9_bitsOfFloat 0 0 0 42 [vV (.float x), vV (.float y), iV (127 + (q - q1) - (i : Int)), iV (i : Int)] [] (WC ++ w, m) (fun r h => r = some (iV (x.toNat : Int)) ∧ h = (WC ++ w, m)) := by
    intro q1 hq1
    refine loop_up 127 _ ?_
    intro i hi ih y hy hle
    refine G_iload_n d_X9_bitsOfFloat_42 rfl ?_
    refine G_bipush d_X9_bitsOfFloat_43 (by decide) ?_
    refine G_icmp_ge 67 d_X9_bitsOfFloat_45 (by decide) (by omega) (by omega) (fun c45 => ?_) (fun c45 => ?_)
    · omega
    · refine G_fload_n d_X9_bitsOfFloat_48 rfl ?_
      refine G_fconst1 d_X9_bitsOfFloat_49 ?_
      refine G_fcmp d_X9_bitsOfFloat_50 ?_
      obtain ⟨v, hv, hv1, hv2, hv3⟩ := hy.cv1
      rw [hv]
      refine G_if_ge 67 d_X9_bitsOfFloat_51 (by decide) (by omega) (fun c51 => ?_) (fun c51 => ?_)
      · have hq9 : q1 + (i : Int) = -23 := by omega
        rw [hq9] at hy
        have hE : 127 + (q - q1) - (i : Int) = (((q + 150).toNat : Nat) : Int) := by omega
        rw [hE]
        refine G_iload_n d_X9_bitsOfFloat_67 rfl ?_
        refine G_bipush d_X9_bitsOfFloat_68 (by decide) ?_
        refine G_ishl ((((q + 150).toNat : Nat) : Int) * 8388608) d_X9_bitsOfFloat_70 (shl_bits (by omega)) ?_
        refine G_fload_n d_X9_bitsOfFloat_71 rfl ?_
        refine G_fconst1 d_X9_bitsOfFloat_72 ?_
        refine G_fsub d_X9_bitsOfFloat_73 (hy.sub1.1) ?_
        refine G_ldcwf d_X9_bitsOfFloat_74 co_X9_381 ?_
        refine G_fmul d_X9_bitsOfFloat_77 (hy.sub1.2.1) ?_
        refine G_f2i d_X9_bitsOfFloat_78 ?_
        have hfi : FP.f2i (FP.fmul (FP.fsub y FP.fconst1) (1258291200 : UInt32)) = Int32.ofInt ((c - 8388608 : Nat) : Int) := FP.Core.f2i_int (by rw [oi_toInt (by omega)]; exact hy.sub1.2.2)
        rw [hfi, oi_toInt (by omega)]
        refine G_ior ((((q + 150).toNat * 8388608 + (c - 8388608) : Nat) : Int)) d_X9_bitsOfFloat_79 (or_bits (by omega) (by omega)) ?_
        refine G_iret (mc := 0) (ms := 0) (st := []) d_X9_bitsOfFloat_80 rfl ?_
        exact ⟨by rw [hb, show (q - -149).toNat + 1 = (q + 150).toNat by omega], rfl⟩
      · refine G_fload_n d_X9_bitsOfFloat_54 rfl ?_
        refine G_fconst2 d_X9_bitsOfFloat_55 ?_
        refine G_fmul d_X9_bitsOfFloat_56 ((hy.dbl (by omega)).nn) ?_
        refine G_fstore_n d_X9_bitsOfFloat_57 (by decide) rfl ?_
        refine G_iinc d_X9_bitsOfFloat_58 rfl (by decide) rfl ?_
        refine G_iinc d_X9_bitsOfFloat_61 rfl (by decide) rfl ?_
        refine G_goto 42 d_X9_bitsOfFloat_64 (by decide) ?_
        have h9 := hy.dbl (by omega)
        rw [show q1 + (i : Int) + 1 = q1 + ((i + 1 : Nat) : Int) by omega] at h9
        have h8 := ih (by omega) _ h9 (by omega)
        rw [show 127 + (q - q1) - ((i + 1 : Nat) : Int) = 127 + (q - q1) - (i : Int) + -1 by omega] at h8
        exact h8
  have L1 : ∀ i : Nat, i ≤ 127 → ∀ y, FV32 y c (q - (i : Int)) → (i = 0 ∨ -23 ≤ q - (i : Int)) → G M_X9_bitsOfFloat 0 0 0 15 [vV (.float x), vV (.float y), iV (127 + (i : Int)), iV (i : Int)] [] (WC ++ w, m) (fun r h => r = some (iV (x.toNat : Int)) ∧ h = (WC ++ w, m)) := by
    refine loop_up 127 _ ?_
    intro i hi ih y hy hor
    refine G_iload_n d_X9_bitsOfFloat_15 rfl ?_
    refine G_bipush d_X9_bitsOfFloat_16 (by decide) ?_
    refine G_icmp_ge 40 d_X9_bitsOfFloat_18 (by decide) (by omega) (by omega) (fun c18 => ?_) (fun c18 => ?_)
    · omega
    · refine G_fload_n d_X9_bitsOfFloat_21 rfl ?_
      refine G_fconst2 d_X9_bitsOfFloat_22 ?_
      refine G_fcmp d_X9_bitsOfFloat_23 ?_
      obtain ⟨v, hv, hv1, hv2, hv3⟩ := hy.cv2
      rw [hv]
      refine G_if_lt 40 d_X9_bitsOfFloat_24 (by decide) (by omega) (fun c24 => ?_) (fun c24 => ?_)
      · refine G_iconst d_X9_bitsOfFloat_40 ?_
        refine G_istore_n d_X9_bitsOfFloat_41 (by decide) rfl ?_
        have h9 := L2 (q - (i : Int)) (by omega) 0 (by omega) y (by rw [show q - (i : Int) + ((0 : Nat) : Int) = q - (i : Int) by omega]; exact hy) (by omega)
        rw [show 127 + (q - (q - (i : Int))) - ((0 : Nat) : Int) = 127 + (i : Int) by omega] at h9
        exact h9
      · refine G_fload_n d_X9_bitsOfFloat_27 rfl ?_
        refine G_fconst2 d_X9_bitsOfFloat_28 ?_
        refine G_fdiv d_X9_bitsOfFloat_29 ((hy.half (by omega)).nn) ?_
        refine G_fstore_n d_X9_bitsOfFloat_30 (by decide) rfl ?_
        refine G_iinc d_X9_bitsOfFloat_31 rfl (by decide) rfl ?_
        refine G_iinc d_X9_bitsOfFloat_34 rfl (by decide) rfl ?_
        refine G_goto 15 d_X9_bitsOfFloat_37 (by decide) ?_
        have h9 := hy.half (by omega)
        rw [show q - (i : Int) - 1 = q - ((i + 1 : Nat) : Int) by omega] at h9
        have h8 := ih (by omega) _ h9 (by omega)
        rw [show 127 + ((i + 1 : Nat) : Int) = 127 + (i : Int) + 1 by omega] at h8
        exact h8
  refine G_fload_n d_X9_bitsOfFloat_0 rfl ?_
  refine G_fconst0 d_X9_bitsOfFloat_1 ?_
  refine G_fcmp d_X9_bitsOfFloat_2 ?_
  rw [h.cv0]
  refine G_if_gt 8 d_X9_bitsOfFloat_3 (by decide) (by omega) (fun c3 => ?_) (fun c3 => ?_)
  · refine G_fload_n d_X9_bitsOfFloat_8 rfl ?_
    refine G_fstore_n d_X9_bitsOfFloat_9 (by decide) rfl ?_
    refine G_bipush d_X9_bitsOfFloat_10 (by decide) ?_
    refine G_istore_n d_X9_bitsOfFloat_12 (by decide) rfl ?_
    refine G_iconst d_X9_bitsOfFloat_13 ?_
    refine G_istore_n d_X9_bitsOfFloat_14 (by decide) rfl ?_
    exact L1 0 (by omega) x (by rw [show q - ((0 : Nat) : Int) = q by omega]; exact h) (Or.inl rfl)
  · omega
