theorem G_ldcwf {M : MD} {d mc ms pc : Nat} {ls st : List PV} {w : List KD} {m : Nat → Nat → Int} {Q : Ps} {i : Nat} {v : UInt32} (hd : decode M.2.1 pc = .ok (.ldc_w i, 3)) (hw : Cond.constantFloat M.1.cls i v ∈ lwg) (k : G M d mc ms (pc + 3) ls (vV (.float v) :: st) (w, m) Q) : G M d mc ms pc ls st (w, m) Q := by
  intro l b0 D cA X p e R s mm args below meth c H locs cells slots ls' c1 c2
  have k1 := k l b0 D cA X p e R s mm args below meth c H locs cells slots ls' c1 c2
  intro T hT X9
  obtain ⟨t, a, b⟩ := k1 T hT X9
  refine ⟨t, ?_, b⟩
  obtain ⟨kk, cf, hk, hcf, hcp⟩ := Cond.constantFloat_spec c1.2.2.2.2.1 (c1.2.2.2.2.2.1 _ hw)
  obtain ⟨k', hk', he⟩ := X9.warmed.alike.2.2 _ _ hk
  have hexec := c1.1
  have hd2 := hd
  rw [← c1.2.1] at hd2
  jvm_step X9.here [hexec, hd2, ldc_w.wp_float (s := T) (f := F0 mm pc ls' (st.map (enc b0))) X9.here.top hk' (by rw [he]; exact hcf) hcp]
  exact a
