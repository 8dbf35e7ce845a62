theorem bti32 {x : UInt32} (hx : x.toNat < 2147483648) : x.toInt32.toInt = (x.toNat : Int) := by
  show x.toBitVec.toInt = _
  rw [BitVec.toInt_eq_toNat_of_lt (by show 2 * x.toNat < _; omega)]
  rfl
theorem sp_isNaN32 {w : List KD} {m : Nat → Nat → Int} (x : UInt32) (hn : FP.Core.val32 x ≠ .nan) : Sp M_Jxf58ca_isNaN_12338 0 0 0 [vV (.float x)] (WC ++ w, m) (fun r h => r = some (iV 0) ∧ h = (WC ++ w, m)) := by
  refine Sp.ofGF (ls := [vV (.float x)]) (by decide +kernel) rfl (Nat.le_of_ble_eq_true rfl) ?_
  have he : FP.fcmp x x = some .eq := FP.Core.order_self hn
  refine G_fload_n d_Jxf58ca_isNaN_12338_0 rfl ?_
  refine G_fload_n d_Jxf58ca_isNaN_12338_1 rfl ?_
  refine G_fcmp d_Jxf58ca_isNaN_12338_2 ?_
  rw [he]
  show G _ _ _ _ _ _ (iV 0 :: []) _ _
  refine G_if_eq 10 d_Jxf58ca_isNaN_12338_3 (by decide) (by omega) (fun c3 => ?_) (fun c3 => ?_)
  · refine G_iconst d_Jxf58ca_isNaN_12338_10 ?_
    refine G_zret (mc := 0) (ms := 0) (st := []) d_Jxf58ca_isNaN_12338_11 rfl (by omega) ?_
    exact ⟨rfl, rfl⟩
  · exact absurd rfl c3
theorem sp_bitsOf32 {w : List KD} {m : Nat → Nat → Int} (x : UInt32) (hn : FP.Core.val32 x ≠ .nan) (hx : x.toNat < 2147483648) : Sp M_Jxf58ca_floatToIntBits_5c35a 1 0 0 [vV (.float x)] (WC ++ w, m) (fun r h => r = some (iV (x.toNat : Int)) ∧ h = (WC ++ w, m)) := by
  refine Sp.ofGF (ls := [vV (.float x)]) (by decide +kernel) rfl (Nat.le_of_ble_eq_true rfl) ?_
  refine G_fload_n d_Jxf58ca_floatToIntBits_5c35a_0 rfl ?_
  refine G_callS1 cl_Jxf58ca_59 d_Jxf58ca_floatToIntBits_5c35a_1 (Nat.le_of_ble_eq_true rfl) (by decide) (sp_isNaN32 x hn) ?_
  rintro _ _ ⟨rfl, rfl⟩
  refine G_if_ne 12 d_Jxf58ca_floatToIntBits_5c35a_4 (by decide) (by omega) (fun c4 => ?_) (fun c4 => ?_)
  · exact absurd rfl c4
  · refine G_fload_n d_Jxf58ca_floatToIntBits_5c35a_7 rfl ?_
    refine G_f2raw d_Jxf58ca_floatToIntBits_5c35a_8 nl_Jxf58ca_74 f2r_native f2r_static f2r_ini (Nat.le_of_ble_eq_true rfl) (by omega) ?_
    refine G_iret (mc := 0) (ms := 0) (st := []) d_Jxf58ca_floatToIntBits_5c35a_11 rfl ?_
    exact ⟨by rw [bti32 hx], rfl⟩
theorem bti64 {x : UInt64} (hx : x.toNat < 9223372036854775808) : x.toInt64.toInt = (x.toNat : Int) := by
  show x.toBitVec.toInt = _
  rw [BitVec.toInt_eq_toNat_of_lt (by show 2 * x.toNat < _; omega)]
  rfl
theorem sp_isNaN64 {w : List KD} {m : Nat → Nat → Int} (x : UInt64) (hn : FP.Core.val64 x ≠ .nan) : Sp M_Jxe99ae_isNaN_b9ae7 0 0 0 [vV (.double x)] (WC ++ w, m) (fun r h => r = some (iV 0) ∧ h = (WC ++ w, m)) := by
  refine Sp.ofGF (ls := [vV (.double x), uV]) (by decide +kernel) rfl (Nat.le_of_ble_eq_true rfl) ?_
  have he : FP.dcmp x x = some .eq := FP.Core.order_self hn
  refine G_dload_n d_Jxe99ae_isNaN_b9ae7_0 rfl ?_
  refine G_dload_n d_Jxe99ae_isNaN_b9ae7_1 rfl ?_
  refine G_dcmp d_Jxe99ae_isNaN_b9ae7_2 ?_
  rw [he]
  show G _ _ _ _ _ _ (iV 0 :: []) _ _
  refine G_if_eq 10 d_Jxe99ae_isNaN_b9ae7_3 (by decide) (by omega) (fun c3 => ?_) (fun c3 => ?_)
  · refine G_iconst d_Jxe99ae_isNaN_b9ae7_10 ?_
    refine G_zret (mc := 0) (ms := 0) (st := []) d_Jxe99ae_isNaN_b9ae7_11 rfl (by omega) ?_
    exact ⟨rfl, rfl⟩
  · exact absurd rfl c3
theorem sp_bitsOf64 {w : List KD} {m : Nat → Nat → Int} (x : UInt64) (hn : FP.Core.val64 x ≠ .nan) (hx : x.toNat < 9223372036854775808) : Sp M_Jxe99ae_doubleToLongBits_ccdee 1 0 0 [vV (.double x)] (WC ++ w, m) (fun r h => r = some (lV (x.toNat : Int)) ∧ h = (WC ++ w, m)) := by
  refine Sp.ofGF (ls := [vV (.double x), uV]) (by decide +kernel) rfl (Nat.le_of_ble_eq_true rfl) ?_
  refine G_dload_n d_Jxe99ae_doubleToLongBits_ccdee_0 rfl ?_
  refine G_callS1 cl_Jxe99ae_122 d_Jxe99ae_doubleToLongBits_ccdee_1 (Nat.le_of_ble_eq_true rfl) (by decide) (sp_isNaN64 x hn) ?_
  rintro _ _ ⟨rfl, rfl⟩
  refine G_if_ne 12 d_Jxe99ae_doubleToLongBits_ccdee_4 (by decide) (by omega) (fun c4 => ?_) (fun c4 => ?_)
  · exact absurd rfl c4
  · refine G_dload_n d_Jxe99ae_doubleToLongBits_ccdee_7 rfl ?_
    refine G_d2raw d_Jxe99ae_doubleToLongBits_ccdee_8 nl_Jxe99ae_134 d2r_native d2r_static d2r_ini (Nat.le_of_ble_eq_true rfl) (by omega) ?_
    refine G_lret (mc := 0) (ms := 0) (st := []) d_Jxe99ae_doubleToLongBits_ccdee_11 rfl ?_
    exact ⟨by rw [bti64 hx], rfl⟩
theorem zero32 {x : UInt32} {q : Int} (h : FP.Core.val32 x = .fin false 0 q) (hq : q = -149) : x = FP.fconst0 := by
  subst hq
  have h1 := FP.Core.of32_val32 (a := x) (by rw [h]; exact fun e => by cases e)
  rw [← h1, h]
  decide +kernel
theorem zero64 {x : UInt64} {q : Int} (h : FP.Core.val64 x = .fin false 0 q) (hq : q = -1074) : x = FP.dconst0 := by
  subst hq
  have h1 := FP.Core.of64_val64 (a := x) (by rw [h]; exact fun e => by cases e)
  rw [← h1, h]
  decide +kernel
theorem sp_bitsZ32 {w : List KD} {m : Nat → Nat → Int}  : Sp M_X9_bitsOfFloat 0 0 0 [vV (.float FP.fconst0)] (WC ++ w, m) (fun r h => r = some (iV 0) ∧ h = (WC ++ w, m)) := by
  refine Sp.ofG (ls := [vV (.float FP.fconst0), uV, uV, uV]) (by decide +kernel) rfl (Nat.le_of_ble_eq_true rfl) ?_
  refine G_fload_n d_X9_bitsOfFloat_0 rfl ?_
  refine G_fconst0 d_X9_bitsOfFloat_1 ?_
  refine G_fcmp d_X9_bitsOfFloat_2 ?_
  rw [show (Op.cmpValue (FP.fcmp FP.fconst0 FP.fconst0) .l).toInt = 0 by decide +kernel]
  refine G_if_gt 8 d_X9_bitsOfFloat_3 (by decide) (by omega) (fun c3 => ?_) (fun c3 => ?_)
  · exact absurd c3 (by decide)
  · refine G_iconst d_X9_bitsOfFloat_6 ?_
    refine G_iret (mc := 0) (ms := 0) (st := []) d_X9_bitsOfFloat_7 rfl ?_
    exact ⟨rfl, rfl⟩
theorem sp_bitsZ64 {w : List KD} {m : Nat → Nat → Int}  : Sp M_X9_bitsOfDouble 0 0 0 [vV (.double FP.dconst0)] (WC ++ w, m) (fun r h => r = some (lV 0) ∧ h = (WC ++ w, m)) := by
  refine Sp.ofG (ls := [vV (.double FP.dconst0), uV, uV, uV, uV, uV, uV]) (by decide +kernel) rfl (Nat.le_of_ble_eq_true rfl) ?_
  refine G_dload_n d_X9_bitsOfDouble_0 rfl ?_
  refine G_dconst0 d_X9_bitsOfDouble_1 ?_
  refine G_dcmp d_X9_bitsOfDouble_2 ?_
  rw [show (Op.cmpValue (FP.dcmp FP.dconst0 FP.dconst0) .l).toInt = 0 by decide +kernel]
  refine G_if_gt 8 d_X9_bitsOfDouble_3 (by decide) (by omega) (fun c3 => ?_) (fun c3 => ?_)
  · exact absurd c3 (by decide)
  · refine G_lconst d_X9_bitsOfDouble_6 ?_
    refine G_lret (mc := 0) (ms := 0) (st := []) d_X9_bitsOfDouble_7 rfl ?_
    exact ⟨rfl, rfl⟩
