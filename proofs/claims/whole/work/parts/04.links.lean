theorem tb_1 : ∀ x ∈ tables_1_1, x ∈ lw_tbl := fun x hx => by
  unfold lw_tbl tables_1
  simp only [List.mem_append]
  simp only [hx, true_or, or_true]
theorem tb_2 : ∀ x ∈ tables_1_2, x ∈ lw_tbl := fun x hx => by
  unfold lw_tbl tables_1
  simp only [List.mem_append]
  simp only [hx, true_or, or_true]
theorem tb_3 : ∀ x ∈ tables_1_3, x ∈ lw_tbl := fun x hx => by
  unfold lw_tbl tables_1
  simp only [List.mem_append]
  simp only [hx, true_or, or_true]
theorem tb_4 : ∀ x ∈ tables_1_4, x ∈ lw_tbl := fun x hx => by
  unfold lw_tbl tables_1
  simp only [List.mem_append]
  simp only [hx, true_or, or_true]
theorem tb_5 : ∀ x ∈ tables_1_5, x ∈ lw_tbl := fun x hx => by
  unfold lw_tbl tables_1
  simp only [List.mem_append]
  simp only [hx, true_or, or_true]
theorem tb_6 : ∀ x ∈ tables_1_6, x ∈ lw_tbl := fun x hx => by
  unfold lw_tbl tables_1
  simp only [List.mem_append]
  simp only [hx, true_or, or_true]
theorem tb_7 : ∀ x ∈ tables_1_7, x ∈ lw_tbl := fun x hx => by
  unfold lw_tbl tables_1
  simp only [List.mem_append]
  simp only [hx, true_or, or_true]
theorem tp_1 : ∀ x ∈ k2_sels lw_privs_1, x ∈ lw_tbl := fun x hx => by
  unfold lw_tbl
  refine List.mem_append_left _ ?_
  obtain ⟨q, hq, rfl⟩ := List.mem_map.mp hx
  refine List.mem_map.mpr ⟨q, ?_, rfl⟩
  unfold lw_privs
  simp only [List.mem_append]
  simp only [hq, true_or, or_true]
theorem tp_2 : ∀ x ∈ k2_sels lw_privs_2, x ∈ lw_tbl := fun x hx => by
  unfold lw_tbl
  refine List.mem_append_left _ ?_
  obtain ⟨q, hq, rfl⟩ := List.mem_map.mp hx
  refine List.mem_map.mpr ⟨q, ?_, rfl⟩
  unfold lw_privs
  simp only [List.mem_append]
  simp only [hq, true_or, or_true]
theorem tp_3 : ∀ x ∈ k2_sels lw_privs_3, x ∈ lw_tbl := fun x hx => by
  unfold lw_tbl
  refine List.mem_append_left _ ?_
  obtain ⟨q, hq, rfl⟩ := List.mem_map.mp hx
  refine List.mem_map.mpr ⟨q, ?_, rfl⟩
  unfold lw_privs
  simp only [List.mem_append]
  simp only [hq, true_or, or_true]
theorem tp_4 : ∀ x ∈ k2_sels lw_privs_4, x ∈ lw_tbl := fun x hx => by
  unfold lw_tbl
  refine List.mem_append_left _ ?_
  obtain ⟨q, hq, rfl⟩ := List.mem_map.mp hx
  refine List.mem_map.mpr ⟨q, ?_, rfl⟩
  unfold lw_privs
  simp only [List.mem_append]
  simp only [hq, true_or, or_true]
theorem tp_5 : ∀ x ∈ k2_sels lw_privs_5, x ∈ lw_tbl := fun x hx => by
  unfold lw_tbl
  refine List.mem_append_left _ ?_
  obtain ⟨q, hq, rfl⟩ := List.mem_map.mp hx
  refine List.mem_map.mpr ⟨q, ?_, rfl⟩
  unfold lw_privs
  simp only [List.mem_append]
  simp only [hq, true_or, or_true]
theorem tp_6 : ∀ x ∈ k2_sels lw_privs_6, x ∈ lw_tbl := fun x hx => by
  unfold lw_tbl
  refine List.mem_append_left _ ?_
  obtain ⟨q, hq, rfl⟩ := List.mem_map.mp hx
  refine List.mem_map.mpr ⟨q, ?_, rfl⟩
  unfold lw_privs
  simp only [List.mem_append]
  simp only [hq, true_or, or_true]
theorem tp_7 : ∀ x ∈ k2_sels lw_privs_7, x ∈ lw_tbl := fun x hx => by
  unfold lw_tbl
  refine List.mem_append_left _ ?_
  obtain ⟨q, hq, rfl⟩ := List.mem_map.mp hx
  refine List.mem_map.mpr ⟨q, ?_, rfl⟩
  unfold lw_privs
  simp only [List.mem_append]
  simp only [hq, true_or, or_true]
theorem tp_8 : ∀ x ∈ k2_sels lw_privs_8, x ∈ lw_tbl := fun x hx => by
  unfold lw_tbl
  refine List.mem_append_left _ ?_
  obtain ⟨q, hq, rfl⟩ := List.mem_map.mp hx
  refine List.mem_map.mpr ⟨q, ?_, rfl⟩
  unfold lw_privs
  simp only [List.mem_append]
  simp only [hq, true_or, or_true]
theorem tp_9 : ∀ x ∈ k2_sels lw_privs_9, x ∈ lw_tbl := fun x hx => by
  unfold lw_tbl
  refine List.mem_append_left _ ?_
  obtain ⟨q, hq, rfl⟩ := List.mem_map.mp hx
  refine List.mem_map.mpr ⟨q, ?_, rfl⟩
  unfold lw_privs
  simp only [List.mem_append]
  simp only [hq, true_or, or_true]
theorem lw_goodIn {ws : List Cond} (h : ∀ w ∈ ws, w ∈ lwg) : GoodIn lwg ws := fun w hw => ⟨h w hw, good_of_word (List.mem_filter.mp (h w hw)).2⟩
theorem u_in_all {C : String} {T : u_T} {N : Nat} (h : ∀ k, k < N → u_lay C T k ∈ lwg) : ∀ x ∈ u_ws C T N, x ∈ lwg := fun x hx => by
  obtain ⟨k, hk, rfl⟩ := List.mem_map.mp hx
  exact h k (List.mem_range.mp hk)
def MK (M' : MD) (n : Nat) : Prop := Cond.initialized M'.1.cls ∈ lwg ∧ Cond.code M'.1 M'.2.1 M'.2.2.1 M'.2.2.2 ∈ lwg ∧ M'.1.cls ≠ "java/lang/invoke/MethodHandle" ∧ M'.1.cls ≠ "java/lang/invoke/VarHandle" ∧ (parseMethodDescriptor M'.1.desc).map (fun d => d.parameters.length) = some n ∧ M'.2.2.1 ≤ 20
theorem MK.wsM {M' : MD} {n : Nat} (h : MK M' n) : ∀ w ∈ wsM M', w ∈ lwg := fun w hw => (List.mem_cons.mp hw).elim (fun e => e ▸ h.2.1) id
def MKV (M' : MD) (n : Nat) : Prop := MK M' n ∧ Cond.instanceMethod M'.1 ∈ lwg ∧ Cond.selects M'.1.cls M'.1 M'.1 ∈ lwg
def MKS (M' : MD) (n : Nat) : Prop := MK M' n ∧ Cond.static M'.1 ∈ lwg
def MKI (M' : MD) (n : Nat) : Prop := MK M' n ∧ Cond.instanceMethod M'.1 ∈ lwg ∧ M'.1.name = "<init>" ∧ M'.2.2.2 = none
theorem CVk.of {own : String} {idx n : Nat} {M' : MD} (h : MKV M' n) (hl : Cond.methodLink own idx M'.1 ∈ lwg) : CVk own idx M' n := by
  obtain ⟨h0, h1, h2⟩ := h
  refine ⟨lw_goodIn (fun w hw => ?_), h0.2.2.1, h0.2.2.2.1, h0.2.2.2.2.1, h0.2.2.2.2.2⟩
  unfold wsV at hw
  rcases List.mem_append.mp hw with hw | hw
  · simp only [List.mem_cons, List.not_mem_nil, or_false] at hw
    rcases hw with rfl | rfl | rfl | rfl
    · exact hl
    · exact h1
    · exact h2
    · exact h0.1
  · exact h0.wsM w hw
theorem CSk.of {own : String} {idx n : Nat} {M' : MD} (h : MKS M' n) (hl : Cond.methodLink own idx M'.1 ∈ lwg) : CSk own idx M' n := ⟨lw_goodIn h.1.wsM, hl, h.2, h.1.1, h.1.2.2.1, h.1.2.2.2.1, h.1.2.2.2.2.1, h.1.2.2.2.2.2⟩
theorem CIk.of {own : String} {idx n : Nat} {M' : MD} (h : MKI M' n) (hl : Cond.methodLink own idx M'.1 ∈ lwg) : CIk own idx M' n := ⟨lw_goodIn h.1.wsM, hl, h.2.1, h.1.1, h.2.2.1, h.2.2.2, h.1.2.2.1, h.1.2.2.2.1, h.1.2.2.2.2.1, h.1.2.2.2.2.2⟩
theorem CNk.of {own : String} {idx n : Nat} {M' : MD} (h : MKI M' n) (q : Nat × String) (hq : q ∈ xwN) (h1 : own = "PathCycle") (h2 : idx = q.1) (h3 : M'.1 = ⟨q.2, "<init>", "()V"⟩) : CNk own idx M' n := ⟨⟨q, hq, h1, h2, h3⟩, lw_goodIn h.1.wsM, h.2.1, h.1.1, h.2.2.1, h.2.2.2, h.1.2.2.1, h.1.2.2.2.1, h.1.2.2.2.2.1, h.1.2.2.2.2.2⟩
theorem nest_in : ∀ q ∈ xwN, Cond.methodLinkNest "PathCycle" q.1 ⟨q.2, "<init>", "()V"⟩ "PathCycle" ∈ lw_tbl := by
  intro q hq
  simp only [xwN, List.mem_cons, List.not_mem_nil, or_false] at hq
  rcases hq with rfl | rfl | rfl | rfl | rfl | rfl | rfl
  · exact tb_1 _ (List.mem_of_getElem? (i := 107) (by decide +kernel))
  · exact tb_1 _ (List.mem_of_getElem? (i := 140) (by decide +kernel))
  · exact tb_1 _ (List.mem_of_getElem? (i := 173) (by decide +kernel))
  · exact tb_1 _ (List.mem_of_getElem? (i := 209) (by decide +kernel))
  · exact tb_2 _ (List.mem_of_getElem? (i := 0) (by decide +kernel))
  · exact tb_2 _ (List.mem_of_getElem? (i := 42) (by decide +kernel))
  · exact tb_2 _ (List.mem_of_getElem? (i := 67) (by decide +kernel))
theorem in_X0 : ∀ x ∈ u_ws RX0 TX0 5, x ∈ lwg := u_in_all fun k hk => match k, hk with
  | 0, _ => mem_lwg (tb_2 _ (List.mem_of_getElem? (i := 79) (by decide +kernel))) rfl
  | 1, _ => mem_lwg (tb_2 _ (List.mem_of_getElem? (i := 81) (by decide +kernel))) rfl
  | 2, _ => mem_lwg (tb_2 _ (List.mem_of_getElem? (i := 83) (by decide +kernel))) rfl
  | 3, _ => mem_lwg (tb_2 _ (List.mem_of_getElem? (i := 85) (by decide +kernel))) rfl
  | 4, _ => mem_lwg (tb_2 _ (List.mem_of_getElem? (i := 87) (by decide +kernel))) rfl
  | _ + 5, hk => absurd hk (by omega)
theorem ck_X0 : CLk 0 RX0 TX0 5 := ⟨rfl, in_X0, rfl, tyX0_ok, nmX0, by decide +kernel⟩
theorem in_X1 : ∀ x ∈ u_ws RX1 TX1 6, x ∈ lwg := u_in_all fun k hk => match k, hk with
  | 0, _ => mem_lwg (tb_1 _ (List.mem_of_getElem? (i := 92) (by decide +kernel))) rfl
  | 1, _ => mem_lwg (tb_1 _ (List.mem_of_getElem? (i := 94) (by decide +kernel))) rfl
  | 2, _ => mem_lwg (tb_1 _ (List.mem_of_getElem? (i := 96) (by decide +kernel))) rfl
  | 3, _ => mem_lwg (tb_1 _ (List.mem_of_getElem? (i := 98) (by decide +kernel))) rfl
  | 4, _ => mem_lwg (tb_1 _ (List.mem_of_getElem? (i := 100) (by decide +kernel))) rfl
  | 5, _ => mem_lwg (tb_1 _ (List.mem_of_getElem? (i := 102) (by decide +kernel))) rfl
  | _ + 6, hk => absurd hk (by omega)
theorem ck_X1 : CLk 1 RX1 TX1 6 := ⟨rfl, in_X1, rfl, tyX1_ok, nmX1, by decide +kernel⟩
theorem in_X2 : ∀ x ∈ u_ws RX2 TX2 5, x ∈ lwg := u_in_all fun k hk => match k, hk with
  | 0, _ => mem_lwg (tb_2 _ (List.mem_of_getElem? (i := 54) (by decide +kernel))) rfl
  | 1, _ => mem_lwg (tb_2 _ (List.mem_of_getElem? (i := 56) (by decide +kernel))) rfl
  | 2, _ => mem_lwg (tb_2 _ (List.mem_of_getElem? (i := 58) (by decide +kernel))) rfl
  | 3, _ => mem_lwg (tb_2 _ (List.mem_of_getElem? (i := 60) (by decide +kernel))) rfl
  | 4, _ => mem_lwg (tb_2 _ (List.mem_of_getElem? (i := 62) (by decide +kernel))) rfl
  | _ + 5, hk => absurd hk (by omega)
theorem ck_X2 : CLk 2 RX2 TX2 5 := ⟨rfl, in_X2, rfl, tyX2_ok, nmX2, by decide +kernel⟩
theorem in_X3 : ∀ x ∈ u_ws RX3 TX3 6, x ∈ lwg := u_in_all fun k hk => match k, hk with
  | 0, _ => mem_lwg (tb_1 _ (List.mem_of_getElem? (i := 157) (by decide +kernel))) rfl
  | 1, _ => mem_lwg (tb_1 _ (List.mem_of_getElem? (i := 159) (by decide +kernel))) rfl
  | 2, _ => mem_lwg (tb_1 _ (List.mem_of_getElem? (i := 161) (by decide +kernel))) rfl
  | 3, _ => mem_lwg (tb_1 _ (List.mem_of_getElem? (i := 163) (by decide +kernel))) rfl
  | 4, _ => mem_lwg (tb_1 _ (List.mem_of_getElem? (i := 165) (by decide +kernel))) rfl
  | 5, _ => mem_lwg (tb_1 _ (List.mem_of_getElem? (i := 167) (by decide +kernel))) rfl
  | _ + 6, hk => absurd hk (by omega)
theorem ck_X3 : CLk 3 RX3 TX3 6 := ⟨rfl, in_X3, rfl, tyX3_ok, nmX3, by decide +kernel⟩
theorem in_X4 : ∀ x ∈ u_ws RX4 TX4 6, x ∈ lwg := u_in_all fun k hk => match k, hk with
  | 0, _ => mem_lwg (tb_1 _ (List.mem_of_getElem? (i := 54) (by decide +kernel))) rfl
  | 1, _ => mem_lwg (tb_1 _ (List.mem_of_getElem? (i := 56) (by decide +kernel))) rfl
  | 2, _ => mem_lwg (tb_1 _ (List.mem_of_getElem? (i := 58) (by decide +kernel))) rfl
  | 3, _ => mem_lwg (tb_1 _ (List.mem_of_getElem? (i := 60) (by decide +kernel))) rfl
  | 4, _ => mem_lwg (tb_1 _ (List.mem_of_getElem? (i := 62) (by decide +kernel))) rfl
  | 5, _ => mem_lwg (tb_1 _ (List.mem_of_getElem? (i := 64) (by decide +kernel))) rfl
  | _ + 6, hk => absurd hk (by omega)
theorem ck_X4 : CLk 4 RX4 TX4 6 := ⟨rfl, in_X4, rfl, tyX4_ok, nmX4, by decide +kernel⟩
theorem in_X5 : ∀ x ∈ u_ws RX5 TX5 8, x ∈ lwg := u_in_all fun k hk => match k, hk with
  | 0, _ => mem_lwg (tb_1 _ (List.mem_of_getElem? (i := 190) (by decide +kernel))) rfl
  | 1, _ => mem_lwg (tb_1 _ (List.mem_of_getElem? (i := 192) (by decide +kernel))) rfl
  | 2, _ => mem_lwg (tb_1 _ (List.mem_of_getElem? (i := 194) (by decide +kernel))) rfl
  | 3, _ => mem_lwg (tb_1 _ (List.mem_of_getElem? (i := 196) (by decide +kernel))) rfl
  | 4, _ => mem_lwg (tb_1 _ (List.mem_of_getElem? (i := 198) (by decide +kernel))) rfl
  | 5, _ => mem_lwg (tb_1 _ (List.mem_of_getElem? (i := 200) (by decide +kernel))) rfl
  | 6, _ => mem_lwg (tb_1 _ (List.mem_of_getElem? (i := 202) (by decide +kernel))) rfl
  | 7, _ => mem_lwg (tb_1 _ (List.mem_of_getElem? (i := 204) (by decide +kernel))) rfl
  | _ + 8, hk => absurd hk (by omega)
theorem ck_X5 : CLk 5 RX5 TX5 8 := ⟨rfl, in_X5, rfl, tyX5_ok, nmX5, by decide +kernel⟩
theorem in_X6 : ∀ x ∈ u_ws RX6 TX6 8, x ∈ lwg := u_in_all fun k hk => match k, hk with
  | 0, _ => mem_lwg (tb_1 _ (List.mem_of_getElem? (i := 221) (by decide +kernel))) rfl
  | 1, _ => mem_lwg (tb_1 _ (List.mem_of_getElem? (i := 223) (by decide +kernel))) rfl
  | 2, _ => mem_lwg (tb_1 _ (List.mem_of_getElem? (i := 225) (by decide +kernel))) rfl
  | 3, _ => mem_lwg (tb_1 _ (List.mem_of_getElem? (i := 227) (by decide +kernel))) rfl
  | 4, _ => mem_lwg (tb_1 _ (List.mem_of_getElem? (i := 229) (by decide +kernel))) rfl
  | 5, _ => mem_lwg (tb_1 _ (List.mem_of_getElem? (i := 231) (by decide +kernel))) rfl
  | 6, _ => mem_lwg (tb_1 _ (List.mem_of_getElem? (i := 233) (by decide +kernel))) rfl
  | 7, _ => mem_lwg (tb_1 _ (List.mem_of_getElem? (i := 235) (by decide +kernel))) rfl
  | _ + 8, hk => absurd hk (by omega)
theorem ck_X6 : CLk 6 RX6 TX6 8 := ⟨rfl, in_X6, rfl, tyX6_ok, nmX6, by decide +kernel⟩
theorem in_X7 : ∀ x ∈ u_ws RX7 TX7 7, x ∈ lwg := u_in_all fun k hk => match k, hk with
  | 0, _ => mem_lwg (tb_1 _ (List.mem_of_getElem? (i := 123) (by decide +kernel))) rfl
  | 1, _ => mem_lwg (tb_1 _ (List.mem_of_getElem? (i := 125) (by decide +kernel))) rfl
  | 2, _ => mem_lwg (tb_1 _ (List.mem_of_getElem? (i := 127) (by decide +kernel))) rfl
  | 3, _ => mem_lwg (tb_1 _ (List.mem_of_getElem? (i := 129) (by decide +kernel))) rfl
  | 4, _ => mem_lwg (tb_1 _ (List.mem_of_getElem? (i := 131) (by decide +kernel))) rfl
  | 5, _ => mem_lwg (tb_1 _ (List.mem_of_getElem? (i := 133) (by decide +kernel))) rfl
  | 6, _ => mem_lwg (tb_1 _ (List.mem_of_getElem? (i := 135) (by decide +kernel))) rfl
  | _ + 7, hk => absurd hk (by omega)
theorem ck_X7 : CLk 7 RX7 TX7 7 := ⟨rfl, in_X7, rfl, tyX7_ok, nmX7, by decide +kernel⟩
theorem in_X8 : ∀ x ∈ u_ws RX8 TX8 9, x ∈ lwg := u_in_all fun k hk => match k, hk with
  | 0, _ => mem_lwg (tb_2 _ (List.mem_of_getElem? (i := 21) (by decide +kernel))) rfl
  | 1, _ => mem_lwg (tb_2 _ (List.mem_of_getElem? (i := 23) (by decide +kernel))) rfl
  | 2, _ => mem_lwg (tb_2 _ (List.mem_of_getElem? (i := 25) (by decide +kernel))) rfl
  | 3, _ => mem_lwg (tb_2 _ (List.mem_of_getElem? (i := 27) (by decide +kernel))) rfl
  | 4, _ => mem_lwg (tb_2 _ (List.mem_of_getElem? (i := 29) (by decide +kernel))) rfl
  | 5, _ => mem_lwg (tb_2 _ (List.mem_of_getElem? (i := 31) (by decide +kernel))) rfl
  | 6, _ => mem_lwg (tb_2 _ (List.mem_of_getElem? (i := 33) (by decide +kernel))) rfl
  | 7, _ => mem_lwg (tb_2 _ (List.mem_of_getElem? (i := 35) (by decide +kernel))) rfl
  | 8, _ => mem_lwg (tb_2 _ (List.mem_of_getElem? (i := 37) (by decide +kernel))) rfl
  | _ + 9, hk => absurd hk (by omega)
theorem ck_X8 : CLk 8 RX8 TX8 9 := ⟨rfl, in_X8, rfl, tyX8_ok, nmX8, by decide +kernel⟩
theorem in_X9 : ∀ x ∈ u_ws RX9 TX9 16, x ∈ lwg := u_in_all fun k hk => match k, hk with
  | 0, _ => mem_lwg (tb_2 _ (List.mem_of_getElem? (i := 125) (by decide +kernel))) rfl
  | 1, _ => mem_lwg (tb_2 _ (List.mem_of_getElem? (i := 127) (by decide +kernel))) rfl
  | 2, _ => mem_lwg (tb_2 _ (List.mem_of_getElem? (i := 129) (by decide +kernel))) rfl
  | 3, _ => mem_lwg (tb_2 _ (List.mem_of_getElem? (i := 131) (by decide +kernel))) rfl
  | 4, _ => mem_lwg (tb_2 _ (List.mem_of_getElem? (i := 133) (by decide +kernel))) rfl
  | 5, _ => mem_lwg (tb_2 _ (List.mem_of_getElem? (i := 135) (by decide +kernel))) rfl
  | 6, _ => mem_lwg (tb_2 _ (List.mem_of_getElem? (i := 137) (by decide +kernel))) rfl
  | 7, _ => mem_lwg (tb_2 _ (List.mem_of_getElem? (i := 139) (by decide +kernel))) rfl
  | 8, _ => mem_lwg (tb_2 _ (List.mem_of_getElem? (i := 141) (by decide +kernel))) rfl
  | 9, _ => mem_lwg (tb_2 _ (List.mem_of_getElem? (i := 143) (by decide +kernel))) rfl
  | 10, _ => mem_lwg (tb_2 _ (List.mem_of_getElem? (i := 145) (by decide +kernel))) rfl
  | 11, _ => mem_lwg (tb_2 _ (List.mem_of_getElem? (i := 147) (by decide +kernel))) rfl
  | 12, _ => mem_lwg (tb_2 _ (List.mem_of_getElem? (i := 149) (by decide +kernel))) rfl
  | 13, _ => mem_lwg (tb_2 _ (List.mem_of_getElem? (i := 151) (by decide +kernel))) rfl
  | 14, _ => mem_lwg (tb_2 _ (List.mem_of_getElem? (i := 153) (by decide +kernel))) rfl
  | 15, _ => mem_lwg (tb_2 _ (List.mem_of_getElem? (i := 155) (by decide +kernel))) rfl
  | _ + 16, hk => absurd hk (by omega)
theorem ck_X9 : CLk 9 RX9 TX9 16 := ⟨rfl, in_X9, rfl, tyX9_ok, nmX9, by decide +kernel⟩
theorem in_X10 : ∀ x ∈ u_ws RX10 TX10 30, x ∈ lwg := u_in_all fun k hk => match k, hk with
  | 0, _ => mem_lwg (tb_5 _ (List.mem_of_getElem? (i := 57) (by decide +kernel))) rfl
  | 1, _ => mem_lwg (tb_5 _ (List.mem_of_getElem? (i := 59) (by decide +kernel))) rfl
  | 2, _ => mem_lwg (tb_5 _ (List.mem_of_getElem? (i := 61) (by decide +kernel))) rfl
  | 3, _ => mem_lwg (tb_5 _ (List.mem_of_getElem? (i := 63) (by decide +kernel))) rfl
  | 4, _ => mem_lwg (tb_5 _ (List.mem_of_getElem? (i := 65) (by decide +kernel))) rfl
  | 5, _ => mem_lwg (tb_5 _ (List.mem_of_getElem? (i := 67) (by decide +kernel))) rfl
  | 6, _ => mem_lwg (tb_5 _ (List.mem_of_getElem? (i := 69) (by decide +kernel))) rfl
  | 7, _ => mem_lwg (tb_5 _ (List.mem_of_getElem? (i := 71) (by decide +kernel))) rfl
  | 8, _ => mem_lwg (tb_5 _ (List.mem_of_getElem? (i := 73) (by decide +kernel))) rfl
  | 9, _ => mem_lwg (tb_5 _ (List.mem_of_getElem? (i := 75) (by decide +kernel))) rfl
  | 10, _ => mem_lwg (tb_5 _ (List.mem_of_getElem? (i := 77) (by decide +kernel))) rfl
  | 11, _ => mem_lwg (tb_5 _ (List.mem_of_getElem? (i := 79) (by decide +kernel))) rfl
  | 12, _ => mem_lwg (tb_5 _ (List.mem_of_getElem? (i := 81) (by decide +kernel))) rfl
  | 13, _ => mem_lwg (tb_5 _ (List.mem_of_getElem? (i := 83) (by decide +kernel))) rfl
  | 14, _ => mem_lwg (tb_5 _ (List.mem_of_getElem? (i := 85) (by decide +kernel))) rfl
  | 15, _ => mem_lwg (tb_5 _ (List.mem_of_getElem? (i := 87) (by decide +kernel))) rfl
  | 16, _ => mem_lwg (tb_5 _ (List.mem_of_getElem? (i := 89) (by decide +kernel))) rfl
  | 17, _ => mem_lwg (tb_5 _ (List.mem_of_getElem? (i := 91) (by decide +kernel))) rfl
  | 18, _ => mem_lwg (tb_5 _ (List.mem_of_getElem? (i := 93) (by decide +kernel))) rfl
  | 19, _ => mem_lwg (tb_5 _ (List.mem_of_getElem? (i := 95) (by decide +kernel))) rfl
  | 20, _ => mem_lwg (tb_5 _ (List.mem_of_getElem? (i := 97) (by decide +kernel))) rfl
  | 21, _ => mem_lwg (tb_5 _ (List.mem_of_getElem? (i := 99) (by decide +kernel))) rfl
  | 22, _ => mem_lwg (tb_5 _ (List.mem_of_getElem? (i := 101) (by decide +kernel))) rfl
  | 23, _ => mem_lwg (tb_5 _ (List.mem_of_getElem? (i := 103) (by decide +kernel))) rfl
  | 24, _ => mem_lwg (tb_5 _ (List.mem_of_getElem? (i := 105) (by decide +kernel))) rfl
  | 25, _ => mem_lwg (tb_5 _ (List.mem_of_getElem? (i := 107) (by decide +kernel))) rfl
  | 26, _ => mem_lwg (tb_5 _ (List.mem_of_getElem? (i := 109) (by decide +kernel))) rfl
  | 27, _ => mem_lwg (tb_5 _ (List.mem_of_getElem? (i := 111) (by decide +kernel))) rfl
  | 28, _ => mem_lwg (tb_5 _ (List.mem_of_getElem? (i := 113) (by decide +kernel))) rfl
  | 29, _ => mem_lwg (tb_5 _ (List.mem_of_getElem? (i := 115) (by decide +kernel))) rfl
  | _ + 30, hk => absurd hk (by omega)
theorem ck_X10 : CLk 10 RX10 TX10 30 := ⟨rfl, in_X10, rfl, tyX10_ok, nmX10, by decide +kernel⟩
theorem fl_X9_12 : FLk RX9 12 9 0 true := ⟨RX9, TX9, 16, ck_X9, by decide, mem_lwg (tb_2 _ (List.mem_of_getElem? (i := 109) (by decide +kernel))) rfl, rfl, fun _ => rfl⟩
theorem fl_X9_19 : FLk RX9 19 9 1 true := ⟨RX9, TX9, 16, ck_X9, by decide, mem_lwg (tb_2 _ (List.mem_of_getElem? (i := 110) (by decide +kernel))) rfl, rfl, fun _ => rfl⟩
theorem fl_X9_23 : FLk RX9 23 9 2 true := ⟨RX9, TX9, 16, ck_X9, by decide, mem_lwg (tb_2 _ (List.mem_of_getElem? (i := 111) (by decide +kernel))) rfl, rfl, fun _ => rfl⟩
theorem fl_X9_26 : FLk RX9 26 9 3 true := ⟨RX9, TX9, 16, ck_X9, by decide, mem_lwg (tb_2 _ (List.mem_of_getElem? (i := 112) (by decide +kernel))) rfl, rfl, fun _ => rfl⟩
theorem fl_X9_29 : FLk RX9 29 9 4 false := ⟨RX9, TX9, 16, ck_X9, by decide, mem_lwg (tb_2 _ (List.mem_of_getElem? (i := 113) (by decide +kernel))) rfl, rfl, fun _ => rfl⟩
theorem fl_X9_36 : FLk RX9 36 9 5 true := ⟨RX9, TX9, 16, ck_X9, by decide, mem_lwg (tb_2 _ (List.mem_of_getElem? (i := 114) (by decide +kernel))) rfl, rfl, fun _ => rfl⟩
theorem fl_X9_43 : FLk RX9 43 9 6 true := ⟨RX9, TX9, 16, ck_X9, by decide, mem_lwg (tb_2 _ (List.mem_of_getElem? (i := 115) (by decide +kernel))) rfl, rfl, fun _ => rfl⟩
theorem fl_X9_47 : FLk RX9 47 9 7 false := ⟨RX9, TX9, 16, ck_X9, by decide, mem_lwg (tb_2 _ (List.mem_of_getElem? (i := 116) (by decide +kernel))) rfl, rfl, fun _ => rfl⟩
theorem fl_X9_54 : FLk RX9 54 9 8 true := ⟨RX9, TX9, 16, ck_X9, by decide, mem_lwg (tb_2 _ (List.mem_of_getElem? (i := 117) (by decide +kernel))) rfl, rfl, fun _ => rfl⟩
theorem fl_X9_61 : FLk RX9 61 9 9 true := ⟨RX9, TX9, 16, ck_X9, by decide, mem_lwg (tb_2 _ (List.mem_of_getElem? (i := 118) (by decide +kernel))) rfl, rfl, fun _ => rfl⟩
theorem fl_X9_65 : FLk RX9 65 9 10 true := ⟨RX9, TX9, 16, ck_X9, by decide, mem_lwg (tb_2 _ (List.mem_of_getElem? (i := 119) (by decide +kernel))) rfl, rfl, fun _ => rfl⟩
theorem fl_X9_69 : FLk RX9 69 9 11 false := ⟨RX9, TX9, 16, ck_X9, by decide, mem_lwg (tb_2 _ (List.mem_of_getElem? (i := 120) (by decide +kernel))) rfl, rfl, fun _ => rfl⟩
theorem fl_X9_72 : FLk RX9 72 9 12 true := ⟨RX9, TX9, 16, ck_X9, by decide, mem_lwg (tb_2 _ (List.mem_of_getElem? (i := 121) (by decide +kernel))) rfl, rfl, fun _ => rfl⟩
theorem fl_X9_79 : FLk RX9 79 9 13 true := ⟨RX9, TX9, 16, ck_X9, by decide, mem_lwg (tb_2 _ (List.mem_of_getElem? (i := 122) (by decide +kernel))) rfl, rfl, fun _ => rfl⟩
theorem fl_X9_86 : FLk RX9 86 9 14 true := ⟨RX9, TX9, 16, ck_X9, by decide, mem_lwg (tb_2 _ (List.mem_of_getElem? (i := 123) (by decide +kernel))) rfl, rfl, fun _ => rfl⟩
theorem fl_X9_93 : FLk RX9 93 9 15 true := ⟨RX9, TX9, 16, ck_X9, by decide, mem_lwg (tb_2 _ (List.mem_of_getElem? (i := 124) (by decide +kernel))) rfl, rfl, fun _ => rfl⟩
theorem fl_X9_110 : FLk RX9 110 3 0 false := ⟨RX3, TX3, 6, ck_X3, by decide, mem_lwg (tb_1 _ (List.mem_of_getElem? (i := 147) (by decide +kernel))) rfl, rfl, fun h => Bool.noConfusion h⟩
theorem fl_X9_117 : FLr RX9 117 4 2 := ⟨RX4, TX4, 6, ck_X4, by decide, mem_lwg (tb_1 _ (List.mem_of_getElem? (i := 43) (by decide +kernel))) rfl⟩
theorem fl_X9_123 : FLk RX9 123 1 0 false := ⟨RX1, TX1, 6, ck_X1, by decide, mem_lwg (tb_1 _ (List.mem_of_getElem? (i := 82) (by decide +kernel))) rfl, rfl, fun h => Bool.noConfusion h⟩
theorem fl_X9_139 : FLr RX9 139 1 2 := ⟨RX1, TX1, 6, ck_X1, by decide, mem_lwg (tb_1 _ (List.mem_of_getElem? (i := 86) (by decide +kernel))) rfl⟩
theorem fl_X9_149 : FLr RX9 149 1 3 := ⟨RX1, TX1, 6, ck_X1, by decide, mem_lwg (tb_1 _ (List.mem_of_getElem? (i := 88) (by decide +kernel))) rfl⟩
theorem fl_X9_152 : FLr RX9 152 4 3 := ⟨RX4, TX4, 6, ck_X4, by decide, mem_lwg (tb_1 _ (List.mem_of_getElem? (i := 47) (by decide +kernel))) rfl⟩
theorem fl_X9_158 : FLr RX9 158 4 4 := ⟨RX4, TX4, 6, ck_X4, by decide, mem_lwg (tb_1 _ (List.mem_of_getElem? (i := 50) (by decide +kernel))) rfl⟩
theorem fl_X9_164 : FLk RX9 164 1 1 false := ⟨RX1, TX1, 6, ck_X1, by decide, mem_lwg (tb_1 _ (List.mem_of_getElem? (i := 84) (by decide +kernel))) rfl, rfl, fun h => Bool.noConfusion h⟩
theorem fl_X9_171 : FLk RX9 171 4 1 false := ⟨RX4, TX4, 6, ck_X4, by decide, mem_lwg (tb_1 _ (List.mem_of_getElem? (i := 41) (by decide +kernel))) rfl, rfl, fun h => Bool.noConfusion h⟩
theorem fl_X9_178 : FLr RX9 178 4 5 := ⟨RX4, TX4, 6, ck_X4, by decide, mem_lwg (tb_1 _ (List.mem_of_getElem? (i := 53) (by decide +kernel))) rfl⟩
theorem fl_X9_187 : FLk RX9 187 7 0 false := ⟨RX7, TX7, 7, ck_X7, by decide, mem_lwg (tb_1 _ (List.mem_of_getElem? (i := 112) (by decide +kernel))) rfl, rfl, fun h => Bool.noConfusion h⟩
theorem fl_X9_194 : FLk RX9 194 4 0 false := ⟨RX4, TX4, 6, ck_X4, by decide, mem_lwg (tb_1 _ (List.mem_of_getElem? (i := 38) (by decide +kernel))) rfl, rfl, fun h => Bool.noConfusion h⟩
theorem fl_X9_200 : FLr RX9 200 7 5 := ⟨RX7, TX7, 7, ck_X7, by decide, mem_lwg (tb_1 _ (List.mem_of_getElem? (i := 120) (by decide +kernel))) rfl⟩
theorem fl_X9_203 : FLr RX9 203 7 6 := ⟨RX7, TX7, 7, ck_X7, by decide, mem_lwg (tb_1 _ (List.mem_of_getElem? (i := 122) (by decide +kernel))) rfl⟩
theorem fl_X9_210 : FLk RX9 210 7 1 false := ⟨RX7, TX7, 7, ck_X7, by decide, mem_lwg (tb_1 _ (List.mem_of_getElem? (i := 114) (by decide +kernel))) rfl, rfl, fun h => Bool.noConfusion h⟩
theorem fl_X9_213 : FLk RX9 213 7 2 false := ⟨RX7, TX7, 7, ck_X7, by decide, mem_lwg (tb_1 _ (List.mem_of_getElem? (i := 116) (by decide +kernel))) rfl, rfl, fun h => Bool.noConfusion h⟩
theorem fl_X9_219 : FLk RX9 219 2 1 false := ⟨RX2, TX2, 5, ck_X2, by decide, mem_lwg (tb_2 _ (List.mem_of_getElem? (i := 49) (by decide +kernel))) rfl, rfl, fun h => Bool.noConfusion h⟩
theorem fl_X9_229 : FLk RX9 229 0 1 false := ⟨RX0, TX0, 5, ck_X0, by decide, mem_lwg (tb_2 _ (List.mem_of_getElem? (i := 74) (by decide +kernel))) rfl, rfl, fun h => Bool.noConfusion h⟩
theorem fl_X9_235 : FLr RX9 235 2 2 := ⟨RX2, TX2, 5, ck_X2, by decide, mem_lwg (tb_2 _ (List.mem_of_getElem? (i := 51) (by decide +kernel))) rfl⟩
theorem fl_X9_238 : FLr RX9 238 0 2 := ⟨RX0, TX0, 5, ck_X0, by decide, mem_lwg (tb_2 _ (List.mem_of_getElem? (i := 76) (by decide +kernel))) rfl⟩
theorem fl_X9_241 : FLr RX9 241 3 3 := ⟨RX3, TX3, 6, ck_X3, by decide, mem_lwg (tb_1 _ (List.mem_of_getElem? (i := 152) (by decide +kernel))) rfl⟩
theorem fl_X9_250 : FLr RX9 250 5 5 := ⟨RX5, TX5, 8, ck_X5, by decide, mem_lwg (tb_1 _ (List.mem_of_getElem? (i := 187) (by decide +kernel))) rfl⟩
theorem fl_X9_258 : FLk RX9 258 5 1 false := ⟨RX5, TX5, 8, ck_X5, by decide, mem_lwg (tb_1 _ (List.mem_of_getElem? (i := 182) (by decide +kernel))) rfl, rfl, fun h => Bool.noConfusion h⟩
theorem fl_X9_279 : FLr RX9 279 3 5 := ⟨RX3, TX3, 6, ck_X3, by decide, mem_lwg (tb_1 _ (List.mem_of_getElem? (i := 156) (by decide +kernel))) rfl⟩
theorem fl_X9_282 : FLr RX9 282 3 4 := ⟨RX3, TX3, 6, ck_X3, by decide, mem_lwg (tb_1 _ (List.mem_of_getElem? (i := 154) (by decide +kernel))) rfl⟩
theorem fl_X9_326 : FLk RX9 326 5 0 false := ⟨RX5, TX5, 8, ck_X5, by decide, mem_lwg (tb_1 _ (List.mem_of_getElem? (i := 180) (by decide +kernel))) rfl, rfl, fun h => Bool.noConfusion h⟩
theorem fl_X9_403 : FLr RX9 403 1 5 := ⟨RX1, TX1, 6, ck_X1, by decide, mem_lwg (tb_1 _ (List.mem_of_getElem? (i := 91) (by decide +kernel))) rfl⟩
theorem fl_X9_417 : FLk RX9 417 3 1 false := ⟨RX3, TX3, 6, ck_X3, by decide, mem_lwg (tb_1 _ (List.mem_of_getElem? (i := 149) (by decide +kernel))) rfl, rfl, fun h => Bool.noConfusion h⟩
theorem fl_X9_423 : FLk RX9 423 8 0 false := ⟨RX8, TX8, 9, ck_X8, by decide, mem_lwg (tb_2 _ (List.mem_of_getElem? (i := 5) (by decide +kernel))) rfl, rfl, fun h => Bool.noConfusion h⟩
theorem fl_X9_430 : FLk RX9 430 2 0 false := ⟨RX2, TX2, 5, ck_X2, by decide, mem_lwg (tb_2 _ (List.mem_of_getElem? (i := 47) (by decide +kernel))) rfl, rfl, fun h => Bool.noConfusion h⟩
theorem fl_X9_435 : FLk RX9 435 0 0 false := ⟨RX0, TX0, 5, ck_X0, by decide, mem_lwg (tb_2 _ (List.mem_of_getElem? (i := 72) (by decide +kernel))) rfl, rfl, fun h => Bool.noConfusion h⟩
theorem fl_X0_9 : FLk RX0 9 0 0 false := ⟨RX0, TX0, 5, ck_X0, by decide, mem_lwg (tb_2 _ (List.mem_of_getElem? (i := 71) (by decide +kernel))) rfl, rfl, fun _ => rfl⟩
theorem fl_X0_15 : FLk RX0 15 0 1 false := ⟨RX0, TX0, 5, ck_X0, by decide, mem_lwg (tb_2 _ (List.mem_of_getElem? (i := 73) (by decide +kernel))) rfl, rfl, fun _ => rfl⟩
theorem fl_X0_19 : FLk RX0 19 0 2 true := ⟨RX0, TX0, 5, ck_X0, by decide, mem_lwg (tb_2 _ (List.mem_of_getElem? (i := 75) (by decide +kernel))) rfl, rfl, fun _ => rfl⟩
theorem fl_X0_23 : FLk RX0 23 0 3 true := ⟨RX0, TX0, 5, ck_X0, by decide, mem_lwg (tb_2 _ (List.mem_of_getElem? (i := 77) (by decide +kernel))) rfl, rfl, fun _ => rfl⟩
theorem fl_X0_26 : FLk RX0 26 0 4 true := ⟨RX0, TX0, 5, ck_X0, by decide, mem_lwg (tb_2 _ (List.mem_of_getElem? (i := 78) (by decide +kernel))) rfl, rfl, fun _ => rfl⟩
theorem fl_X0_29 : FLk RX0 29 8 1 false := ⟨RX8, TX8, 9, ck_X8, by decide, mem_lwg (tb_2 _ (List.mem_of_getElem? (i := 7) (by decide +kernel))) rfl, rfl, fun h => Bool.noConfusion h⟩
theorem fl_X0_34 : FLk RX0 34 3 0 false := ⟨RX3, TX3, 6, ck_X3, by decide, mem_lwg (tb_1 _ (List.mem_of_getElem? (i := 146) (by decide +kernel))) rfl, rfl, fun h => Bool.noConfusion h⟩
theorem fl_X0_47 : FLk RX0 47 8 2 false := ⟨RX8, TX8, 9, ck_X8, by decide, mem_lwg (tb_2 _ (List.mem_of_getElem? (i := 11) (by decide +kernel))) rfl, rfl, fun h => Bool.noConfusion h⟩
theorem fl_X0_54 : FLr RX0 54 8 8 := ⟨RX8, TX8, 9, ck_X8, by decide, mem_lwg (tb_2 _ (List.mem_of_getElem? (i := 20) (by decide +kernel))) rfl⟩
theorem fl_X1_9 : FLk RX1 9 1 0 false := ⟨RX1, TX1, 6, ck_X1, by decide, mem_lwg (tb_1 _ (List.mem_of_getElem? (i := 80) (by decide +kernel))) rfl, rfl, fun _ => rfl⟩
theorem fl_X1_15 : FLk RX1 15 1 1 false := ⟨RX1, TX1, 6, ck_X1, by decide, mem_lwg (tb_1 _ (List.mem_of_getElem? (i := 83) (by decide +kernel))) rfl, rfl, fun _ => rfl⟩
theorem fl_X1_19 : FLk RX1 19 1 2 true := ⟨RX1, TX1, 6, ck_X1, by decide, mem_lwg (tb_1 _ (List.mem_of_getElem? (i := 85) (by decide +kernel))) rfl, rfl, fun _ => rfl⟩
theorem fl_X1_23 : FLk RX1 23 1 3 true := ⟨RX1, TX1, 6, ck_X1, by decide, mem_lwg (tb_1 _ (List.mem_of_getElem? (i := 87) (by decide +kernel))) rfl, rfl, fun _ => rfl⟩
theorem fl_X1_26 : FLk RX1 26 1 4 true := ⟨RX1, TX1, 6, ck_X1, by decide, mem_lwg (tb_1 _ (List.mem_of_getElem? (i := 89) (by decide +kernel))) rfl, rfl, fun _ => rfl⟩
theorem fl_X1_29 : FLk RX1 29 1 5 true := ⟨RX1, TX1, 6, ck_X1, by decide, mem_lwg (tb_1 _ (List.mem_of_getElem? (i := 90) (by decide +kernel))) rfl, rfl, fun _ => rfl⟩
theorem fl_X2_9 : FLk RX2 9 2 0 false := ⟨RX2, TX2, 5, ck_X2, by decide, mem_lwg (tb_2 _ (List.mem_of_getElem? (i := 46) (by decide +kernel))) rfl, rfl, fun _ => rfl⟩
theorem fl_X2_15 : FLk RX2 15 2 1 false := ⟨RX2, TX2, 5, ck_X2, by decide, mem_lwg (tb_2 _ (List.mem_of_getElem? (i := 48) (by decide +kernel))) rfl, rfl, fun _ => rfl⟩
theorem fl_X2_19 : FLk RX2 19 2 2 true := ⟨RX2, TX2, 5, ck_X2, by decide, mem_lwg (tb_2 _ (List.mem_of_getElem? (i := 50) (by decide +kernel))) rfl, rfl, fun _ => rfl⟩
theorem fl_X2_23 : FLk RX2 23 2 3 true := ⟨RX2, TX2, 5, ck_X2, by decide, mem_lwg (tb_2 _ (List.mem_of_getElem? (i := 52) (by decide +kernel))) rfl, rfl, fun _ => rfl⟩
theorem fl_X2_26 : FLk RX2 26 2 4 false := ⟨RX2, TX2, 5, ck_X2, by decide, mem_lwg (tb_2 _ (List.mem_of_getElem? (i := 53) (by decide +kernel))) rfl, rfl, fun _ => rfl⟩
theorem fl_X2_32 : FLk RX2 32 8 1 false := ⟨RX8, TX8, 9, ck_X8, by decide, mem_lwg (tb_2 _ (List.mem_of_getElem? (i := 8) (by decide +kernel))) rfl, rfl, fun h => Bool.noConfusion h⟩
theorem fl_X2_37 : FLk RX2 37 8 6 false := ⟨RX8, TX8, 9, ck_X8, by decide, mem_lwg (tb_2 _ (List.mem_of_getElem? (i := 17) (by decide +kernel))) rfl, rfl, fun h => Bool.noConfusion h⟩
theorem fl_X2_44 : FLk RX2 44 8 2 false := ⟨RX8, TX8, 9, ck_X8, by decide, mem_lwg (tb_2 _ (List.mem_of_getElem? (i := 10) (by decide +kernel))) rfl, rfl, fun h => Bool.noConfusion h⟩
theorem fl_X2_53 : FLr RX2 53 8 5 := ⟨RX8, TX8, 9, ck_X8, by decide, mem_lwg (tb_2 _ (List.mem_of_getElem? (i := 15) (by decide +kernel))) rfl⟩
theorem fl_X3_9 : FLk RX3 9 3 0 false := ⟨RX3, TX3, 6, ck_X3, by decide, mem_lwg (tb_1 _ (List.mem_of_getElem? (i := 144) (by decide +kernel))) rfl, rfl, fun _ => rfl⟩
theorem fl_X3_15 : FLk RX3 15 3 1 false := ⟨RX3, TX3, 6, ck_X3, by decide, mem_lwg (tb_1 _ (List.mem_of_getElem? (i := 148) (by decide +kernel))) rfl, rfl, fun _ => rfl⟩
theorem fl_X3_19 : FLk RX3 19 3 2 true := ⟨RX3, TX3, 6, ck_X3, by decide, mem_lwg (tb_1 _ (List.mem_of_getElem? (i := 150) (by decide +kernel))) rfl, rfl, fun _ => rfl⟩
theorem fl_X3_23 : FLk RX3 23 3 3 true := ⟨RX3, TX3, 6, ck_X3, by decide, mem_lwg (tb_1 _ (List.mem_of_getElem? (i := 151) (by decide +kernel))) rfl, rfl, fun _ => rfl⟩
theorem fl_X3_27 : FLk RX3 27 3 4 true := ⟨RX3, TX3, 6, ck_X3, by decide, mem_lwg (tb_1 _ (List.mem_of_getElem? (i := 153) (by decide +kernel))) rfl, rfl, fun _ => rfl⟩
theorem fl_X3_31 : FLk RX3 31 3 5 true := ⟨RX3, TX3, 6, ck_X3, by decide, mem_lwg (tb_1 _ (List.mem_of_getElem? (i := 155) (by decide +kernel))) rfl, rfl, fun _ => rfl⟩
theorem fl_X3_34 : FLk RX3 34 4 0 false := ⟨RX4, TX4, 6, ck_X4, by decide, mem_lwg (tb_1 _ (List.mem_of_getElem? (i := 36) (by decide +kernel))) rfl, rfl, fun h => Bool.noConfusion h⟩
theorem fl_X3_39 : FLk RX3 39 4 1 false := ⟨RX4, TX4, 6, ck_X4, by decide, mem_lwg (tb_1 _ (List.mem_of_getElem? (i := 40) (by decide +kernel))) rfl, rfl, fun h => Bool.noConfusion h⟩
theorem fl_X3_54 : FLr RX3 54 4 2 := ⟨RX4, TX4, 6, ck_X4, by decide, mem_lwg (tb_1 _ (List.mem_of_getElem? (i := 44) (by decide +kernel))) rfl⟩
theorem fl_X3_63 : FLr RX3 63 4 4 := ⟨RX4, TX4, 6, ck_X4, by decide, mem_lwg (tb_1 _ (List.mem_of_getElem? (i := 49) (by decide +kernel))) rfl⟩
theorem fl_X3_67 : FLr RX3 67 4 3 := ⟨RX4, TX4, 6, ck_X4, by decide, mem_lwg (tb_1 _ (List.mem_of_getElem? (i := 46) (by decide +kernel))) rfl⟩
theorem fl_X4_9 : FLk RX4 9 4 0 false := ⟨RX4, TX4, 6, ck_X4, by decide, mem_lwg (tb_1 _ (List.mem_of_getElem? (i := 35) (by decide +kernel))) rfl, rfl, fun _ => rfl⟩
theorem fl_X4_15 : FLk RX4 15 4 1 false := ⟨RX4, TX4, 6, ck_X4, by decide, mem_lwg (tb_1 _ (List.mem_of_getElem? (i := 39) (by decide +kernel))) rfl, rfl, fun _ => rfl⟩
theorem fl_X4_18 : FLk RX4 18 4 2 true := ⟨RX4, TX4, 6, ck_X4, by decide, mem_lwg (tb_1 _ (List.mem_of_getElem? (i := 42) (by decide +kernel))) rfl, rfl, fun _ => rfl⟩
theorem fl_X4_22 : FLk RX4 22 4 3 true := ⟨RX4, TX4, 6, ck_X4, by decide, mem_lwg (tb_1 _ (List.mem_of_getElem? (i := 45) (by decide +kernel))) rfl, rfl, fun _ => rfl⟩
theorem fl_X4_25 : FLk RX4 25 4 4 true := ⟨RX4, TX4, 6, ck_X4, by decide, mem_lwg (tb_1 _ (List.mem_of_getElem? (i := 48) (by decide +kernel))) rfl, rfl, fun _ => rfl⟩
theorem fl_X4_28 : FLk RX4 28 4 5 true := ⟨RX4, TX4, 6, ck_X4, by decide, mem_lwg (tb_1 _ (List.mem_of_getElem? (i := 51) (by decide +kernel))) rfl, rfl, fun _ => rfl⟩
theorem fl_X5_9 : FLk RX5 9 5 0 false := ⟨RX5, TX5, 8, ck_X5, by decide, mem_lwg (tb_1 _ (List.mem_of_getElem? (i := 179) (by decide +kernel))) rfl, rfl, fun _ => rfl⟩
theorem fl_X5_15 : FLk RX5 15 5 1 false := ⟨RX5, TX5, 8, ck_X5, by decide, mem_lwg (tb_1 _ (List.mem_of_getElem? (i := 181) (by decide +kernel))) rfl, rfl, fun _ => rfl⟩
theorem fl_X5_19 : FLk RX5 19 5 2 false := ⟨RX5, TX5, 8, ck_X5, by decide, mem_lwg (tb_1 _ (List.mem_of_getElem? (i := 183) (by decide +kernel))) rfl, rfl, fun _ => rfl⟩
theorem fl_X5_22 : FLk RX5 22 5 3 false := ⟨RX5, TX5, 8, ck_X5, by decide, mem_lwg (tb_1 _ (List.mem_of_getElem? (i := 184) (by decide +kernel))) rfl, rfl, fun _ => rfl⟩
theorem fl_X5_25 : FLk RX5 25 5 4 false := ⟨RX5, TX5, 8, ck_X5, by decide, mem_lwg (tb_1 _ (List.mem_of_getElem? (i := 185) (by decide +kernel))) rfl, rfl, fun _ => rfl⟩
theorem fl_X5_30 : FLk RX5 30 5 5 true := ⟨RX5, TX5, 8, ck_X5, by decide, mem_lwg (tb_1 _ (List.mem_of_getElem? (i := 186) (by decide +kernel))) rfl, rfl, fun _ => rfl⟩
theorem fl_X5_33 : FLk RX5 33 5 6 true := ⟨RX5, TX5, 8, ck_X5, by decide, mem_lwg (tb_1 _ (List.mem_of_getElem? (i := 188) (by decide +kernel))) rfl, rfl, fun _ => rfl⟩
theorem fl_X5_36 : FLk RX5 36 5 7 true := ⟨RX5, TX5, 8, ck_X5, by decide, mem_lwg (tb_1 _ (List.mem_of_getElem? (i := 189) (by decide +kernel))) rfl, rfl, fun _ => rfl⟩
theorem fl_X5_46 : FLk RX5 46 1 0 false := ⟨RX1, TX1, 6, ck_X1, by decide, mem_lwg (tb_1 _ (List.mem_of_getElem? (i := 81) (by decide +kernel))) rfl, rfl, fun h => Bool.noConfusion h⟩
theorem fl_X6_9 : FLk RX6 9 6 0 false := ⟨RX6, TX6, 8, ck_X6, by decide, mem_lwg (tb_1 _ (List.mem_of_getElem? (i := 213) (by decide +kernel))) rfl, rfl, fun _ => rfl⟩
theorem fl_X6_15 : FLk RX6 15 6 1 false := ⟨RX6, TX6, 8, ck_X6, by decide, mem_lwg (tb_1 _ (List.mem_of_getElem? (i := 214) (by decide +kernel))) rfl, rfl, fun _ => rfl⟩
theorem fl_X6_18 : FLk RX6 18 6 2 true := ⟨RX6, TX6, 8, ck_X6, by decide, mem_lwg (tb_1 _ (List.mem_of_getElem? (i := 215) (by decide +kernel))) rfl, rfl, fun _ => rfl⟩
theorem fl_X6_22 : FLk RX6 22 6 3 true := ⟨RX6, TX6, 8, ck_X6, by decide, mem_lwg (tb_1 _ (List.mem_of_getElem? (i := 216) (by decide +kernel))) rfl, rfl, fun _ => rfl⟩
theorem fl_X6_25 : FLk RX6 25 6 4 true := ⟨RX6, TX6, 8, ck_X6, by decide, mem_lwg (tb_1 _ (List.mem_of_getElem? (i := 217) (by decide +kernel))) rfl, rfl, fun _ => rfl⟩
theorem fl_X6_28 : FLk RX6 28 6 5 false := ⟨RX6, TX6, 8, ck_X6, by decide, mem_lwg (tb_1 _ (List.mem_of_getElem? (i := 218) (by decide +kernel))) rfl, rfl, fun _ => rfl⟩
theorem fl_X6_31 : FLk RX6 31 6 6 false := ⟨RX6, TX6, 8, ck_X6, by decide, mem_lwg (tb_1 _ (List.mem_of_getElem? (i := 219) (by decide +kernel))) rfl, rfl, fun _ => rfl⟩
theorem fl_X6_34 : FLk RX6 34 6 7 false := ⟨RX6, TX6, 8, ck_X6, by decide, mem_lwg (tb_1 _ (List.mem_of_getElem? (i := 220) (by decide +kernel))) rfl, rfl, fun _ => rfl⟩
theorem fl_X7_9 : FLk RX7 9 7 0 false := ⟨RX7, TX7, 7, ck_X7, by decide, mem_lwg (tb_1 _ (List.mem_of_getElem? (i := 111) (by decide +kernel))) rfl, rfl, fun _ => rfl⟩
theorem fl_X7_15 : FLk RX7 15 7 1 false := ⟨RX7, TX7, 7, ck_X7, by decide, mem_lwg (tb_1 _ (List.mem_of_getElem? (i := 113) (by decide +kernel))) rfl, rfl, fun _ => rfl⟩
theorem fl_X7_18 : FLk RX7 18 7 2 false := ⟨RX7, TX7, 7, ck_X7, by decide, mem_lwg (tb_1 _ (List.mem_of_getElem? (i := 115) (by decide +kernel))) rfl, rfl, fun _ => rfl⟩
theorem fl_X7_21 : FLk RX7 21 7 3 false := ⟨RX7, TX7, 7, ck_X7, by decide, mem_lwg (tb_1 _ (List.mem_of_getElem? (i := 117) (by decide +kernel))) rfl, rfl, fun _ => rfl⟩
theorem fl_X7_24 : FLk RX7 24 7 4 true := ⟨RX7, TX7, 7, ck_X7, by decide, mem_lwg (tb_1 _ (List.mem_of_getElem? (i := 118) (by decide +kernel))) rfl, rfl, fun _ => rfl⟩
theorem fl_X7_28 : FLk RX7 28 7 5 true := ⟨RX7, TX7, 7, ck_X7, by decide, mem_lwg (tb_1 _ (List.mem_of_getElem? (i := 119) (by decide +kernel))) rfl, rfl, fun _ => rfl⟩
theorem fl_X7_32 : FLk RX7 32 7 6 true := ⟨RX7, TX7, 7, ck_X7, by decide, mem_lwg (tb_1 _ (List.mem_of_getElem? (i := 121) (by decide +kernel))) rfl, rfl, fun _ => rfl⟩
theorem fl_X8_9 : FLk RX8 9 8 0 false := ⟨RX8, TX8, 9, ck_X8, by decide, mem_lwg (tb_2 _ (List.mem_of_getElem? (i := 4) (by decide +kernel))) rfl, rfl, fun _ => rfl⟩
theorem fl_X8_15 : FLk RX8 15 8 1 false := ⟨RX8, TX8, 9, ck_X8, by decide, mem_lwg (tb_2 _ (List.mem_of_getElem? (i := 6) (by decide +kernel))) rfl, rfl, fun _ => rfl⟩
theorem fl_X8_18 : FLk RX8 18 8 2 false := ⟨RX8, TX8, 9, ck_X8, by decide, mem_lwg (tb_2 _ (List.mem_of_getElem? (i := 9) (by decide +kernel))) rfl, rfl, fun _ => rfl⟩
theorem fl_X8_22 : FLk RX8 22 8 3 false := ⟨RX8, TX8, 9, ck_X8, by decide, mem_lwg (tb_2 _ (List.mem_of_getElem? (i := 12) (by decide +kernel))) rfl, rfl, fun _ => rfl⟩
theorem fl_X8_25 : FLk RX8 25 8 4 true := ⟨RX8, TX8, 9, ck_X8, by decide, mem_lwg (tb_2 _ (List.mem_of_getElem? (i := 13) (by decide +kernel))) rfl, rfl, fun _ => rfl⟩
theorem fl_X8_29 : FLk RX8 29 8 5 true := ⟨RX8, TX8, 9, ck_X8, by decide, mem_lwg (tb_2 _ (List.mem_of_getElem? (i := 14) (by decide +kernel))) rfl, rfl, fun _ => rfl⟩
theorem fl_X8_32 : FLk RX8 32 8 6 false := ⟨RX8, TX8, 9, ck_X8, by decide, mem_lwg (tb_2 _ (List.mem_of_getElem? (i := 16) (by decide +kernel))) rfl, rfl, fun _ => rfl⟩
theorem fl_X8_35 : FLk RX8 35 8 7 true := ⟨RX8, TX8, 9, ck_X8, by decide, mem_lwg (tb_2 _ (List.mem_of_getElem? (i := 18) (by decide +kernel))) rfl, rfl, fun _ => rfl⟩
theorem fl_X8_38 : FLk RX8 38 8 8 true := ⟨RX8, TX8, 9, ck_X8, by decide, mem_lwg (tb_2 _ (List.mem_of_getElem? (i := 19) (by decide +kernel))) rfl, rfl, fun _ => rfl⟩
theorem fl_X8_42 : FLk RX8 42 4 0 false := ⟨RX4, TX4, 6, ck_X4, by decide, mem_lwg (tb_1 _ (List.mem_of_getElem? (i := 37) (by decide +kernel))) rfl, rfl, fun h => Bool.noConfusion h⟩
theorem fl_X8_45 : FLk RX8 45 3 0 false := ⟨RX3, TX3, 6, ck_X3, by decide, mem_lwg (tb_1 _ (List.mem_of_getElem? (i := 145) (by decide +kernel))) rfl, rfl, fun h => Bool.noConfusion h⟩
theorem fl_X8_66 : FLr RX8 66 4 5 := ⟨RX4, TX4, 6, ck_X4, by decide, mem_lwg (tb_1 _ (List.mem_of_getElem? (i := 52) (by decide +kernel))) rfl⟩
theorem fl_X10_1 : FLk RX10 1 10 0 false := ⟨RX10, TX10, 30, ck_X10, by decide, mem_lwg (tb_5 _ (List.mem_of_getElem? (i := 27) (by decide +kernel))) rfl, rfl, fun _ => rfl⟩
theorem fl_X10_7 : FLk RX10 7 10 1 true := ⟨RX10, TX10, 30, ck_X10, by decide, mem_lwg (tb_5 _ (List.mem_of_getElem? (i := 28) (by decide +kernel))) rfl, rfl, fun _ => rfl⟩
theorem fl_X10_15 : FLk RX10 15 10 4 true := ⟨RX10, TX10, 30, ck_X10, by decide, mem_lwg (tb_5 _ (List.mem_of_getElem? (i := 31) (by decide +kernel))) rfl, rfl, fun _ => rfl⟩
theorem fl_X10_25 : FLk RX10 25 10 3 false := ⟨RX10, TX10, 30, ck_X10, by decide, mem_lwg (tb_5 _ (List.mem_of_getElem? (i := 30) (by decide +kernel))) rfl, rfl, fun _ => rfl⟩
theorem fl_X10_32 : FLk RX10 32 10 2 false := ⟨RX10, TX10, 30, ck_X10, by decide, mem_lwg (tb_5 _ (List.mem_of_getElem? (i := 29) (by decide +kernel))) rfl, rfl, fun _ => rfl⟩
theorem fl_X10_42 : FLk RX10 42 10 5 true := ⟨RX10, TX10, 30, ck_X10, by decide, mem_lwg (tb_5 _ (List.mem_of_getElem? (i := 32) (by decide +kernel))) rfl, rfl, fun _ => rfl⟩
theorem fl_X10_45 : FLk RX10 45 10 8 false := ⟨RX10, TX10, 30, ck_X10, by decide, mem_lwg (tb_5 _ (List.mem_of_getElem? (i := 35) (by decide +kernel))) rfl, rfl, fun _ => rfl⟩
theorem fl_X10_48 : FLk RX10 48 10 11 true := ⟨RX10, TX10, 30, ck_X10, by decide, mem_lwg (tb_5 _ (List.mem_of_getElem? (i := 38) (by decide +kernel))) rfl, rfl, fun _ => rfl⟩
theorem fl_X10_51 : FLk RX10 51 10 12 true := ⟨RX10, TX10, 30, ck_X10, by decide, mem_lwg (tb_5 _ (List.mem_of_getElem? (i := 39) (by decide +kernel))) rfl, rfl, fun _ => rfl⟩
theorem fl_X10_54 : FLk RX10 54 10 13 true := ⟨RX10, TX10, 30, ck_X10, by decide, mem_lwg (tb_5 _ (List.mem_of_getElem? (i := 40) (by decide +kernel))) rfl, rfl, fun _ => rfl⟩
theorem fl_X10_57 : FLk RX10 57 10 14 true := ⟨RX10, TX10, 30, ck_X10, by decide, mem_lwg (tb_5 _ (List.mem_of_getElem? (i := 41) (by decide +kernel))) rfl, rfl, fun _ => rfl⟩
theorem fl_X10_60 : FLk RX10 60 10 15 true := ⟨RX10, TX10, 30, ck_X10, by decide, mem_lwg (tb_5 _ (List.mem_of_getElem? (i := 42) (by decide +kernel))) rfl, rfl, fun _ => rfl⟩
theorem fl_X10_64 : FLk RX10 64 10 17 true := ⟨RX10, TX10, 30, ck_X10, by decide, mem_lwg (tb_5 _ (List.mem_of_getElem? (i := 44) (by decide +kernel))) rfl, rfl, fun _ => rfl⟩
theorem fl_X10_67 : FLk RX10 67 10 18 true := ⟨RX10, TX10, 30, ck_X10, by decide, mem_lwg (tb_5 _ (List.mem_of_getElem? (i := 45) (by decide +kernel))) rfl, rfl, fun _ => rfl⟩
theorem fl_X10_70 : FLk RX10 70 10 19 true := ⟨RX10, TX10, 30, ck_X10, by decide, mem_lwg (tb_5 _ (List.mem_of_getElem? (i := 46) (by decide +kernel))) rfl, rfl, fun _ => rfl⟩
theorem fl_X10_73 : FLk RX10 73 10 20 true := ⟨RX10, TX10, 30, ck_X10, by decide, mem_lwg (tb_5 _ (List.mem_of_getElem? (i := 47) (by decide +kernel))) rfl, rfl, fun _ => rfl⟩
theorem fl_X10_76 : FLk RX10 76 10 21 true := ⟨RX10, TX10, 30, ck_X10, by decide, mem_lwg (tb_5 _ (List.mem_of_getElem? (i := 48) (by decide +kernel))) rfl, rfl, fun _ => rfl⟩
theorem fl_X10_79 : FLk RX10 79 10 22 true := ⟨RX10, TX10, 30, ck_X10, by decide, mem_lwg (tb_5 _ (List.mem_of_getElem? (i := 49) (by decide +kernel))) rfl, rfl, fun _ => rfl⟩
theorem fl_X10_83 : FLk RX10 83 10 24 true := ⟨RX10, TX10, 30, ck_X10, by decide, mem_lwg (tb_5 _ (List.mem_of_getElem? (i := 51) (by decide +kernel))) rfl, rfl, fun _ => rfl⟩
theorem fl_X10_86 : FLk RX10 86 10 25 true := ⟨RX10, TX10, 30, ck_X10, by decide, mem_lwg (tb_5 _ (List.mem_of_getElem? (i := 52) (by decide +kernel))) rfl, rfl, fun _ => rfl⟩
theorem fl_X10_89 : FLk RX10 89 10 26 true := ⟨RX10, TX10, 30, ck_X10, by decide, mem_lwg (tb_5 _ (List.mem_of_getElem? (i := 53) (by decide +kernel))) rfl, rfl, fun _ => rfl⟩
theorem fl_X10_92 : FLk RX10 92 10 27 true := ⟨RX10, TX10, 30, ck_X10, by decide, mem_lwg (tb_5 _ (List.mem_of_getElem? (i := 54) (by decide +kernel))) rfl, rfl, fun _ => rfl⟩
theorem fl_X10_95 : FLk RX10 95 10 29 true := ⟨RX10, TX10, 30, ck_X10, by decide, mem_lwg (tb_5 _ (List.mem_of_getElem? (i := 56) (by decide +kernel))) rfl, rfl, fun _ => rfl⟩
theorem fl_X10_166 : FLk RX10 166 10 6 false := ⟨RX10, TX10, 30, ck_X10, by decide, mem_lwg (tb_5 _ (List.mem_of_getElem? (i := 33) (by decide +kernel))) rfl, rfl, fun _ => rfl⟩
theorem fl_X10_173 : FLk RX10 173 10 9 false := ⟨RX10, TX10, 30, ck_X10, by decide, mem_lwg (tb_5 _ (List.mem_of_getElem? (i := 36) (by decide +kernel))) rfl, rfl, fun _ => rfl⟩
theorem fl_X10_176 : FLk RX10 176 10 10 false := ⟨RX10, TX10, 30, ck_X10, by decide, mem_lwg (tb_5 _ (List.mem_of_getElem? (i := 37) (by decide +kernel))) rfl, rfl, fun _ => rfl⟩
theorem fl_X10_182 : FLk RX10 182 10 7 false := ⟨RX10, TX10, 30, ck_X10, by decide, mem_lwg (tb_5 _ (List.mem_of_getElem? (i := 34) (by decide +kernel))) rfl, rfl, fun _ => rfl⟩
theorem fl_X10_224 : FLk RX10 224 10 16 false := ⟨RX10, TX10, 30, ck_X10, by decide, mem_lwg (tb_5 _ (List.mem_of_getElem? (i := 43) (by decide +kernel))) rfl, rfl, fun _ => rfl⟩
theorem fl_X10_260 : FLk RX10 260 10 23 false := ⟨RX10, TX10, 30, ck_X10, by decide, mem_lwg (tb_5 _ (List.mem_of_getElem? (i := 50) (by decide +kernel))) rfl, rfl, fun _ => rfl⟩
theorem fl_X10_359 : FLk RX10 359 10 28 false := ⟨RX10, TX10, 30, ck_X10, by decide, mem_lwg (tb_5 _ (List.mem_of_getElem? (i := 55) (by decide +kernel))) rfl, rfl, fun _ => rfl⟩
def M_X0_init : MD := (yX0_init, cX0_init, 1, none)
theorem mk_X0_init : MKI M_X0_init 0 := ⟨⟨mem_lwg (tb_1 _ (List.mem_of_getElem? (i := 11) (by decide +kernel))) rfl, mem_lwg (tb_2 _ (List.mem_of_getElem? (i := 69) (by decide +kernel))) rfl, by decide +kernel, by decide +kernel, by decide +kernel, by decide⟩, mem_lwg (tb_2 _ (List.mem_of_getElem? (i := 68) (by decide +kernel))) rfl, rfl, rfl⟩
def M_X0_search : MD := (yX0_search, cX0_search, 6, none)
theorem mk_X0_search : MKV M_X0_search 4 := ⟨⟨mem_lwg (tb_1 _ (List.mem_of_getElem? (i := 11) (by decide +kernel))) rfl, mem_lwg (tb_3 _ (List.mem_of_getElem? (i := 171) (by decide +kernel))) rfl, by decide +kernel, by decide +kernel, by decide +kernel, by decide⟩, mem_lwg (tb_3 _ (List.mem_of_getElem? (i := 169) (by decide +kernel))) rfl, mem_lwg (tb_3 _ (List.mem_of_getElem? (i := 170) (by decide +kernel))) rfl⟩
def M_X0_sortOut : MD := (yX0_sortOut, cX0_sortOut, 8, none)
theorem mk_X0_sortOut : MKV M_X0_sortOut 3 := ⟨⟨mem_lwg (tb_1 _ (List.mem_of_getElem? (i := 11) (by decide +kernel))) rfl, mem_lwg (tb_3 _ (List.mem_of_getElem? (i := 175) (by decide +kernel))) rfl, by decide +kernel, by decide +kernel, by decide +kernel, by decide⟩, mem_lwg (tb_3 _ (List.mem_of_getElem? (i := 174) (by decide +kernel))) rfl, mem_lwg (tp_2 _ (List.mem_of_getElem? (i := 8) (by decide +kernel))) rfl⟩
def M_X0_pick : MD := (yX0_pick, cX0_pick, 8, (some .boolean))
theorem mk_X0_pick : MKS M_X0_pick 6 := ⟨⟨mem_lwg (tb_1 _ (List.mem_of_getElem? (i := 11) (by decide +kernel))) rfl, mem_lwg (tb_3 _ (List.mem_of_getElem? (i := 179) (by decide +kernel))) rfl, by decide +kernel, by decide +kernel, by decide +kernel, by decide⟩, mem_lwg (tb_3 _ (List.mem_of_getElem? (i := 178) (by decide +kernel))) rfl⟩
def M_X0_fits : MD := (yX0_fits, cX0_fits, 9, (some .boolean))
theorem mk_X0_fits : MKV M_X0_fits 5 := ⟨⟨mem_lwg (tb_1 _ (List.mem_of_getElem? (i := 11) (by decide +kernel))) rfl, mem_lwg (tb_3 _ (List.mem_of_getElem? (i := 183) (by decide +kernel))) rfl, by decide +kernel, by decide +kernel, by decide +kernel, by decide⟩, mem_lwg (tb_3 _ (List.mem_of_getElem? (i := 182) (by decide +kernel))) rfl, mem_lwg (tp_2 _ (List.mem_of_getElem? (i := 9) (by decide +kernel))) rfl⟩
def M_X1_init : MD := (yX1_init, cX1_init, 1, none)
theorem mk_X1_init : MKI M_X1_init 0 := ⟨⟨mem_lwg (tb_1 _ (List.mem_of_getElem? (i := 4) (by decide +kernel))) rfl, mem_lwg (tb_1 _ (List.mem_of_getElem? (i := 73) (by decide +kernel))) rfl, by decide +kernel, by decide +kernel, by decide +kernel, by decide⟩, mem_lwg (tb_1 _ (List.mem_of_getElem? (i := 72) (by decide +kernel))) rfl, rfl, rfl⟩
def M_X1_begin : MD := (yX1_begin, cX1_begin, 1, none)
theorem mk_X1_begin : MKV M_X1_begin 0 := ⟨⟨mem_lwg (tb_1 _ (List.mem_of_getElem? (i := 4) (by decide +kernel))) rfl, mem_lwg (tb_1 _ (List.mem_of_getElem? (i := 78) (by decide +kernel))) rfl, by decide +kernel, by decide +kernel, by decide +kernel, by decide⟩, mem_lwg (tb_1 _ (List.mem_of_getElem? (i := 76) (by decide +kernel))) rfl, mem_lwg (tb_1 _ (List.mem_of_getElem? (i := 77) (by decide +kernel))) rfl⟩
def M_X1_copyFrom : MD := (yX1_copyFrom, cX1_copyFrom, 2, none)
theorem mk_X1_copyFrom : MKV M_X1_copyFrom 1 := ⟨⟨mem_lwg (tb_1 _ (List.mem_of_getElem? (i := 4) (by decide +kernel))) rfl, mem_lwg (tb_4 _ (List.mem_of_getElem? (i := 211) (by decide +kernel))) rfl, by decide +kernel, by decide +kernel, by decide +kernel, by decide⟩, mem_lwg (tb_4 _ (List.mem_of_getElem? (i := 209) (by decide +kernel))) rfl, mem_lwg (tb_4 _ (List.mem_of_getElem? (i := 210) (by decide +kernel))) rfl⟩
def M_X1_countScans : MD := (yX1_countScans, cX1_countScans, 1, (some .int))
theorem mk_X1_countScans : MKV M_X1_countScans 0 := ⟨⟨mem_lwg (tb_1 _ (List.mem_of_getElem? (i := 4) (by decide +kernel))) rfl, mem_lwg (tb_2 _ (List.mem_of_getElem? (i := 221) (by decide +kernel))) rfl, by decide +kernel, by decide +kernel, by decide +kernel, by decide⟩, mem_lwg (tb_2 _ (List.mem_of_getElem? (i := 219) (by decide +kernel))) rfl, mem_lwg (tb_2 _ (List.mem_of_getElem? (i := 220) (by decide +kernel))) rfl⟩
def M_X1_scansBut : MD := (yX1_scansBut, cX1_scansBut, 4, (some .int))
theorem mk_X1_scansBut : MKV M_X1_scansBut 1 := ⟨⟨mem_lwg (tb_1 _ (List.mem_of_getElem? (i := 4) (by decide +kernel))) rfl, mem_lwg (tb_2 _ (List.mem_of_getElem? (i := 217) (by decide +kernel))) rfl, by decide +kernel, by decide +kernel, by decide +kernel, by decide⟩, mem_lwg (tb_2 _ (List.mem_of_getElem? (i := 215) (by decide +kernel))) rfl, mem_lwg (tb_2 _ (List.mem_of_getElem? (i := 216) (by decide +kernel))) rfl⟩
def M_X1_exchange : MD := (yX1_exchange, cX1_exchange, 6, none)
theorem mk_X1_exchange : MKV M_X1_exchange 2 := ⟨⟨mem_lwg (tb_1 _ (List.mem_of_getElem? (i := 4) (by decide +kernel))) rfl, mem_lwg (tb_3 _ (List.mem_of_getElem? (i := 5) (by decide +kernel))) rfl, by decide +kernel, by decide +kernel, by decide +kernel, by decide⟩, mem_lwg (tb_3 _ (List.mem_of_getElem? (i := 3) (by decide +kernel))) rfl, mem_lwg (tb_3 _ (List.mem_of_getElem? (i := 4) (by decide +kernel))) rfl⟩
def M_X1_takeRows : MD := (yX1_takeRows, cX1_takeRows, 4, none)
theorem mk_X1_takeRows : MKV M_X1_takeRows 2 := ⟨⟨mem_lwg (tb_1 _ (List.mem_of_getElem? (i := 4) (by decide +kernel))) rfl, mem_lwg (tb_3 _ (List.mem_of_getElem? (i := 90) (by decide +kernel))) rfl, by decide +kernel, by decide +kernel, by decide +kernel, by decide⟩, mem_lwg (tb_3 _ (List.mem_of_getElem? (i := 88) (by decide +kernel))) rfl, mem_lwg (tb_3 _ (List.mem_of_getElem? (i := 89) (by decide +kernel))) rfl⟩
def M_X1_ownPhase : MD := (yX1_ownPhase, cX1_ownPhase, 6, (some .int))
theorem mk_X1_ownPhase : MKV M_X1_ownPhase 2 := ⟨⟨mem_lwg (tb_1 _ (List.mem_of_getElem? (i := 4) (by decide +kernel))) rfl, mem_lwg (tb_3 _ (List.mem_of_getElem? (i := 217) (by decide +kernel))) rfl, by decide +kernel, by decide +kernel, by decide +kernel, by decide⟩, mem_lwg (tb_3 _ (List.mem_of_getElem? (i := 215) (by decide +kernel))) rfl, mem_lwg (tb_3 _ (List.mem_of_getElem? (i := 216) (by decide +kernel))) rfl⟩
def M_X2_init : MD := (yX2_init, cX2_init, 1, none)
theorem mk_X2_init : MKI M_X2_init 0 := ⟨⟨mem_lwg (tb_1 _ (List.mem_of_getElem? (i := 10) (by decide +kernel))) rfl, mem_lwg (tb_2 _ (List.mem_of_getElem? (i := 44) (by decide +kernel))) rfl, by decide +kernel, by decide +kernel, by decide +kernel, by decide⟩, mem_lwg (tb_2 _ (List.mem_of_getElem? (i := 43) (by decide +kernel))) rfl, rfl, rfl⟩
def M_X2_search : MD := (yX2_search, cX2_search, 4, none)
theorem mk_X2_search : MKV M_X2_search 3 := ⟨⟨mem_lwg (tb_1 _ (List.mem_of_getElem? (i := 10) (by decide +kernel))) rfl, mem_lwg (tb_3 _ (List.mem_of_getElem? (i := 150) (by decide +kernel))) rfl, by decide +kernel, by decide +kernel, by decide +kernel, by decide⟩, mem_lwg (tb_3 _ (List.mem_of_getElem? (i := 148) (by decide +kernel))) rfl, mem_lwg (tb_3 _ (List.mem_of_getElem? (i := 149) (by decide +kernel))) rfl⟩
def M_X2_pick : MD := (yX2_pick, cX2_pick, 9, none)
theorem mk_X2_pick : MKS M_X2_pick 7 := ⟨⟨mem_lwg (tb_1 _ (List.mem_of_getElem? (i := 10) (by decide +kernel))) rfl, mem_lwg (tb_3 _ (List.mem_of_getElem? (i := 154) (by decide +kernel))) rfl, by decide +kernel, by decide +kernel, by decide +kernel, by decide⟩, mem_lwg (tb_3 _ (List.mem_of_getElem? (i := 153) (by decide +kernel))) rfl⟩
def M_X3_init : MD := (yX3_init, cX3_init, 1, none)
theorem mk_X3_init : MKI M_X3_init 0 := ⟨⟨mem_lwg (tb_1 _ (List.mem_of_getElem? (i := 6) (by decide +kernel))) rfl, mem_lwg (tb_1 _ (List.mem_of_getElem? (i := 142) (by decide +kernel))) rfl, by decide +kernel, by decide +kernel, by decide +kernel, by decide⟩, mem_lwg (tb_1 _ (List.mem_of_getElem? (i := 141) (by decide +kernel))) rfl, rfl, rfl⟩
def M_X3_list : MD := (yX3_list, cX3_list, 4, none)
theorem mk_X3_list : MKV M_X3_list 1 := ⟨⟨mem_lwg (tb_1 _ (List.mem_of_getElem? (i := 6) (by decide +kernel))) rfl, mem_lwg (tb_2 _ (List.mem_of_getElem? (i := 93) (by decide +kernel))) rfl, by decide +kernel, by decide +kernel, by decide +kernel, by decide⟩, mem_lwg (tb_2 _ (List.mem_of_getElem? (i := 91) (by decide +kernel))) rfl, mem_lwg (tb_2 _ (List.mem_of_getElem? (i := 92) (by decide +kernel))) rfl⟩
def M_X3_spell : MD := (yX3_spell, cX3_spell, 7, none)
theorem mk_X3_spell : MKV M_X3_spell 2 := ⟨⟨mem_lwg (tb_1 _ (List.mem_of_getElem? (i := 6) (by decide +kernel))) rfl, mem_lwg (tb_2 _ (List.mem_of_getElem? (i := 97) (by decide +kernel))) rfl, by decide +kernel, by decide +kernel, by decide +kernel, by decide⟩, mem_lwg (tb_2 _ (List.mem_of_getElem? (i := 96) (by decide +kernel))) rfl, mem_lwg (tp_1 _ (List.mem_of_getElem? (i := 0) (by decide +kernel))) rfl⟩
def M_X3_keepsKinds : MD := (yX3_keepsKinds, cX3_keepsKinds, 6, (some .boolean))
theorem mk_X3_keepsKinds : MKV M_X3_keepsKinds 1 := ⟨⟨mem_lwg (tb_1 _ (List.mem_of_getElem? (i := 6) (by decide +kernel))) rfl, mem_lwg (tb_2 _ (List.mem_of_getElem? (i := 101) (by decide +kernel))) rfl, by decide +kernel, by decide +kernel, by decide +kernel, by decide⟩, mem_lwg (tb_2 _ (List.mem_of_getElem? (i := 100) (by decide +kernel))) rfl, mem_lwg (tp_1 _ (List.mem_of_getElem? (i := 1) (by decide +kernel))) rfl⟩
def M_X3_weigh : MD := (yX3_weigh, cX3_weigh, 6, none)
theorem mk_X3_weigh : MKV M_X3_weigh 1 := ⟨⟨mem_lwg (tb_1 _ (List.mem_of_getElem? (i := 6) (by decide +kernel))) rfl, mem_lwg (tb_3 _ (List.mem_of_getElem? (i := 120) (by decide +kernel))) rfl, by decide +kernel, by decide +kernel, by decide +kernel, by decide⟩, mem_lwg (tb_3 _ (List.mem_of_getElem? (i := 118) (by decide +kernel))) rfl, mem_lwg (tb_3 _ (List.mem_of_getElem? (i := 119) (by decide +kernel))) rfl⟩
def M_X3_isGone : MD := (yX3_isGone, cX3_isGone, 2, (some .boolean))
theorem mk_X3_isGone : MKV M_X3_isGone 1 := ⟨⟨mem_lwg (tb_1 _ (List.mem_of_getElem? (i := 6) (by decide +kernel))) rfl, mem_lwg (tb_3 _ (List.mem_of_getElem? (i := 138) (by decide +kernel))) rfl, by decide +kernel, by decide +kernel, by decide +kernel, by decide⟩, mem_lwg (tb_3 _ (List.mem_of_getElem? (i := 136) (by decide +kernel))) rfl, mem_lwg (tb_3 _ (List.mem_of_getElem? (i := 137) (by decide +kernel))) rfl⟩
def M_X3_orderOf : MD := (yX3_orderOf, cX3_orderOf, 3, (some .int))
theorem mk_X3_orderOf : MKV M_X3_orderOf 2 := ⟨⟨mem_lwg (tb_1 _ (List.mem_of_getElem? (i := 6) (by decide +kernel))) rfl, mem_lwg (tb_2 _ (List.mem_of_getElem? (i := 105) (by decide +kernel))) rfl, by decide +kernel, by decide +kernel, by decide +kernel, by decide⟩, mem_lwg (tb_2 _ (List.mem_of_getElem? (i := 103) (by decide +kernel))) rfl, mem_lwg (tb_2 _ (List.mem_of_getElem? (i := 104) (by decide +kernel))) rfl⟩
def M_X3_changeOf : MD := (yX3_changeOf, cX3_changeOf, 4, (some .int))
theorem mk_X3_changeOf : MKV M_X3_changeOf 2 := ⟨⟨mem_lwg (tb_1 _ (List.mem_of_getElem? (i := 6) (by decide +kernel))) rfl, mem_lwg (tb_3 _ (List.mem_of_getElem? (i := 124) (by decide +kernel))) rfl, by decide +kernel, by decide +kernel, by decide +kernel, by decide⟩, mem_lwg (tb_3 _ (List.mem_of_getElem? (i := 122) (by decide +kernel))) rfl, mem_lwg (tb_3 _ (List.mem_of_getElem? (i := 123) (by decide +kernel))) rfl⟩
def M_X3_countChanges : MD := (yX3_countChanges, cX3_countChanges, 5, (some .int))
theorem mk_X3_countChanges : MKV M_X3_countChanges 2 := ⟨⟨mem_lwg (tb_1 _ (List.mem_of_getElem? (i := 6) (by decide +kernel))) rfl, mem_lwg (tb_4 _ (List.mem_of_getElem? (i := 51) (by decide +kernel))) rfl, by decide +kernel, by decide +kernel, by decide +kernel, by decide⟩, mem_lwg (tb_4 _ (List.mem_of_getElem? (i := 49) (by decide +kernel))) rfl, mem_lwg (tb_4 _ (List.mem_of_getElem? (i := 50) (by decide +kernel))) rfl⟩
def M_X3_greatestOrder : MD := (yX3_greatestOrder, cX3_greatestOrder, 5, (some .int))
theorem mk_X3_greatestOrder : MKV M_X3_greatestOrder 2 := ⟨⟨mem_lwg (tb_1 _ (List.mem_of_getElem? (i := 6) (by decide +kernel))) rfl, mem_lwg (tb_4 _ (List.mem_of_getElem? (i := 55) (by decide +kernel))) rfl, by decide +kernel, by decide +kernel, by decide +kernel, by decide⟩, mem_lwg (tb_4 _ (List.mem_of_getElem? (i := 53) (by decide +kernel))) rfl, mem_lwg (tb_4 _ (List.mem_of_getElem? (i := 54) (by decide +kernel))) rfl⟩
def M_X4_init : MD := (yX4_init, cX4_init, 1, none)
theorem mk_X4_init : MKI M_X4_init 0 := ⟨⟨mem_lwg (tb_1 _ (List.mem_of_getElem? (i := 2) (by decide +kernel))) rfl, mem_lwg (tb_1 _ (List.mem_of_getElem? (i := 30) (by decide +kernel))) rfl, by decide +kernel, by decide +kernel, by decide +kernel, by decide⟩, mem_lwg (tb_1 _ (List.mem_of_getElem? (i := 29) (by decide +kernel))) rfl, rfl, rfl⟩
def M_X4_begin : MD := (yX4_begin, cX4_begin, 3, none)
theorem mk_X4_begin : MKV M_X4_begin 2 := ⟨⟨mem_lwg (tb_1 _ (List.mem_of_getElem? (i := 2) (by decide +kernel))) rfl, mem_lwg (tb_2 _ (List.mem_of_getElem? (i := 165) (by decide +kernel))) rfl, by decide +kernel, by decide +kernel, by decide +kernel, by decide⟩, mem_lwg (tb_2 _ (List.mem_of_getElem? (i := 163) (by decide +kernel))) rfl, mem_lwg (tb_2 _ (List.mem_of_getElem? (i := 164) (by decide +kernel))) rfl⟩
def M_X4_unmark : MD := (yX4_unmark, cX4_unmark, 1, none)
theorem mk_X4_unmark : MKV M_X4_unmark 0 := ⟨⟨mem_lwg (tb_1 _ (List.mem_of_getElem? (i := 2) (by decide +kernel))) rfl, mem_lwg (tb_2 _ (List.mem_of_getElem? (i := 169) (by decide +kernel))) rfl, by decide +kernel, by decide +kernel, by decide +kernel, by decide⟩, mem_lwg (tb_2 _ (List.mem_of_getElem? (i := 167) (by decide +kernel))) rfl, mem_lwg (tb_2 _ (List.mem_of_getElem? (i := 168) (by decide +kernel))) rfl⟩
def M_X4_copyFrom : MD := (yX4_copyFrom, cX4_copyFrom, 2, none)
theorem mk_X4_copyFrom : MKV M_X4_copyFrom 1 := ⟨⟨mem_lwg (tb_1 _ (List.mem_of_getElem? (i := 2) (by decide +kernel))) rfl, mem_lwg (tb_4 _ (List.mem_of_getElem? (i := 206) (by decide +kernel))) rfl, by decide +kernel, by decide +kernel, by decide +kernel, by decide⟩, mem_lwg (tb_4 _ (List.mem_of_getElem? (i := 204) (by decide +kernel))) rfl, mem_lwg (tb_4 _ (List.mem_of_getElem? (i := 205) (by decide +kernel))) rfl⟩
def M_X4_firstWished : MD := (yX4_firstWished, cX4_firstWished, 3, (some .int))
theorem mk_X4_firstWished : MKV M_X4_firstWished 1 := ⟨⟨mem_lwg (tb_1 _ (List.mem_of_getElem? (i := 2) (by decide +kernel))) rfl, mem_lwg (tb_2 _ (List.mem_of_getElem? (i := 181) (by decide +kernel))) rfl, by decide +kernel, by decide +kernel, by decide +kernel, by decide⟩, mem_lwg (tb_2 _ (List.mem_of_getElem? (i := 179) (by decide +kernel))) rfl, mem_lwg (tb_2 _ (List.mem_of_getElem? (i := 180) (by decide +kernel))) rfl⟩
def M_X4_countMarks : MD := (yX4_countMarks, cX4_countMarks, 5, (some .int))
theorem mk_X4_countMarks : MKV M_X4_countMarks 2 := ⟨⟨mem_lwg (tb_1 _ (List.mem_of_getElem? (i := 2) (by decide +kernel))) rfl, mem_lwg (tb_4 _ (List.mem_of_getElem? (i := 219) (by decide +kernel))) rfl, by decide +kernel, by decide +kernel, by decide +kernel, by decide⟩, mem_lwg (tb_4 _ (List.mem_of_getElem? (i := 217) (by decide +kernel))) rfl, mem_lwg (tb_4 _ (List.mem_of_getElem? (i := 218) (by decide +kernel))) rfl⟩
def M_X5_init : MD := (yX5_init, cX5_init, 1, none)
theorem mk_X5_init : MKI M_X5_init 0 := ⟨⟨mem_lwg (tb_1 _ (List.mem_of_getElem? (i := 7) (by decide +kernel))) rfl, mem_lwg (tb_1 _ (List.mem_of_getElem? (i := 175) (by decide +kernel))) rfl, by decide +kernel, by decide +kernel, by decide +kernel, by decide⟩, mem_lwg (tb_1 _ (List.mem_of_getElem? (i := 174) (by decide +kernel))) rfl, rfl, rfl⟩
def M_X5_build : MD := (yX5_build, cX5_build, 5, none)
theorem mk_X5_build : MKV M_X5_build 2 := ⟨⟨mem_lwg (tb_1 _ (List.mem_of_getElem? (i := 7) (by decide +kernel))) rfl, mem_lwg (tb_3 _ (List.mem_of_getElem? (i := 212) (by decide +kernel))) rfl, by decide +kernel, by decide +kernel, by decide +kernel, by decide⟩, mem_lwg (tb_3 _ (List.mem_of_getElem? (i := 210) (by decide +kernel))) rfl, mem_lwg (tb_3 _ (List.mem_of_getElem? (i := 211) (by decide +kernel))) rfl⟩
def M_X5_trackChief : MD := (yX5_trackChief, cX5_trackChief, 4, none)
theorem mk_X5_trackChief : MKV M_X5_trackChief 2 := ⟨⟨mem_lwg (tb_1 _ (List.mem_of_getElem? (i := 7) (by decide +kernel))) rfl, mem_lwg (tb_3 _ (List.mem_of_getElem? (i := 221) (by decide +kernel))) rfl, by decide +kernel, by decide +kernel, by decide +kernel, by decide⟩, mem_lwg (tb_3 _ (List.mem_of_getElem? (i := 219) (by decide +kernel))) rfl, mem_lwg (tb_3 _ (List.mem_of_getElem? (i := 220) (by decide +kernel))) rfl⟩
def M_X5_begin : MD := (yX5_begin, cX5_begin, 2, none)
theorem mk_X5_begin : MKV M_X5_begin 0 := ⟨⟨mem_lwg (tb_1 _ (List.mem_of_getElem? (i := 7) (by decide +kernel))) rfl, mem_lwg (tb_3 _ (List.mem_of_getElem? (i := 231) (by decide +kernel))) rfl, by decide +kernel, by decide +kernel, by decide +kernel, by decide⟩, mem_lwg (tb_3 _ (List.mem_of_getElem? (i := 229) (by decide +kernel))) rfl, mem_lwg (tb_3 _ (List.mem_of_getElem? (i := 230) (by decide +kernel))) rfl⟩
def M_X5_addPulse : MD := (yX5_addPulse, cX5_addPulse, 8, none)
theorem mk_X5_addPulse : MKV M_X5_addPulse 4 := ⟨⟨mem_lwg (tb_1 _ (List.mem_of_getElem? (i := 7) (by decide +kernel))) rfl, mem_lwg (tb_3 _ (List.mem_of_getElem? (i := 227) (by decide +kernel))) rfl, by decide +kernel, by decide +kernel, by decide +kernel, by decide⟩, mem_lwg (tb_3 _ (List.mem_of_getElem? (i := 226) (by decide +kernel))) rfl, mem_lwg (tp_2 _ (List.mem_of_getElem? (i := 13) (by decide +kernel))) rfl⟩
def M_X5_residues : MD := (yX5_residues, cX5_residues, 4, (some (.array .int)))
theorem mk_X5_residues : MKV M_X5_residues 2 := ⟨⟨mem_lwg (tb_1 _ (List.mem_of_getElem? (i := 7) (by decide +kernel))) rfl, mem_lwg (tb_3 _ (List.mem_of_getElem? (i := 239) (by decide +kernel))) rfl, by decide +kernel, by decide +kernel, by decide +kernel, by decide⟩, mem_lwg (tb_3 _ (List.mem_of_getElem? (i := 237) (by decide +kernel))) rfl, mem_lwg (tb_3 _ (List.mem_of_getElem? (i := 238) (by decide +kernel))) rfl⟩
def M_X5_tally : MD := (yX5_tally, cX5_tally, 6, (some (.array .int)))
theorem mk_X5_tally : MKV M_X5_tally 3 := ⟨⟨mem_lwg (tb_1 _ (List.mem_of_getElem? (i := 7) (by decide +kernel))) rfl, mem_lwg (tb_4 _ (List.mem_of_getElem? (i := 7) (by decide +kernel))) rfl, by decide +kernel, by decide +kernel, by decide +kernel, by decide⟩, mem_lwg (tb_4 _ (List.mem_of_getElem? (i := 5) (by decide +kernel))) rfl, mem_lwg (tb_4 _ (List.mem_of_getElem? (i := 6) (by decide +kernel))) rfl⟩
def M_X6_init : MD := (yX6_init, cX6_init, 1, none)
theorem mk_X6_init : MKI M_X6_init 0 := ⟨⟨mem_lwg (tb_1 _ (List.mem_of_getElem? (i := 8) (by decide +kernel))) rfl, mem_lwg (tb_1 _ (List.mem_of_getElem? (i := 211) (by decide +kernel))) rfl, by decide +kernel, by decide +kernel, by decide +kernel, by decide⟩, mem_lwg (tb_1 _ (List.mem_of_getElem? (i := 210) (by decide +kernel))) rfl, rfl, rfl⟩
def M_X6_begin : MD := (yX6_begin, cX6_begin, 2, none)
theorem mk_X6_begin : MKV M_X6_begin 1 := ⟨⟨mem_lwg (tb_1 _ (List.mem_of_getElem? (i := 8) (by decide +kernel))) rfl, mem_lwg (tb_4 _ (List.mem_of_getElem? (i := 25) (by decide +kernel))) rfl, by decide +kernel, by decide +kernel, by decide +kernel, by decide⟩, mem_lwg (tb_4 _ (List.mem_of_getElem? (i := 23) (by decide +kernel))) rfl, mem_lwg (tb_4 _ (List.mem_of_getElem? (i := 24) (by decide +kernel))) rfl⟩
def M_X6_factor : MD := (yX6_factor, cX6_factor, 5, none)
theorem mk_X6_factor : MKV M_X6_factor 1 := ⟨⟨mem_lwg (tb_1 _ (List.mem_of_getElem? (i := 8) (by decide +kernel))) rfl, mem_lwg (tb_4 _ (List.mem_of_getElem? (i := 29) (by decide +kernel))) rfl, by decide +kernel, by decide +kernel, by decide +kernel, by decide⟩, mem_lwg (tb_4 _ (List.mem_of_getElem? (i := 28) (by decide +kernel))) rfl, mem_lwg (tp_2 _ (List.mem_of_getElem? (i := 15) (by decide +kernel))) rfl⟩
def M_X6_add : MD := (yX6_add, cX6_add, 7, none)
theorem mk_X6_add : MKV M_X6_add 2 := ⟨⟨mem_lwg (tb_1 _ (List.mem_of_getElem? (i := 8) (by decide +kernel))) rfl, mem_lwg (tb_4 _ (List.mem_of_getElem? (i := 34) (by decide +kernel))) rfl, by decide +kernel, by decide +kernel, by decide +kernel, by decide⟩, mem_lwg (tb_4 _ (List.mem_of_getElem? (i := 32) (by decide +kernel))) rfl, mem_lwg (tb_4 _ (List.mem_of_getElem? (i := 33) (by decide +kernel))) rfl⟩
def M_X6_stateOf : MD := (yX6_stateOf, cX6_stateOf, 4, (some .int))
theorem mk_X6_stateOf : MKV M_X6_stateOf 2 := ⟨⟨mem_lwg (tb_1 _ (List.mem_of_getElem? (i := 8) (by decide +kernel))) rfl, mem_lwg (tb_4 _ (List.mem_of_getElem? (i := 21) (by decide +kernel))) rfl, by decide +kernel, by decide +kernel, by decide +kernel, by decide⟩, mem_lwg (tb_4 _ (List.mem_of_getElem? (i := 19) (by decide +kernel))) rfl, mem_lwg (tb_4 _ (List.mem_of_getElem? (i := 20) (by decide +kernel))) rfl⟩
def M_X6_state : MD := (yX6_state, cX6_state, 1, (some .int))
theorem mk_X6_state : MKV M_X6_state 0 := ⟨⟨mem_lwg (tb_1 _ (List.mem_of_getElem? (i := 8) (by decide +kernel))) rfl, mem_lwg (tb_4 _ (List.mem_of_getElem? (i := 38) (by decide +kernel))) rfl, by decide +kernel, by decide +kernel, by decide +kernel, by decide⟩, mem_lwg (tb_4 _ (List.mem_of_getElem? (i := 36) (by decide +kernel))) rfl, mem_lwg (tb_4 _ (List.mem_of_getElem? (i := 37) (by decide +kernel))) rfl⟩
def M_X7_init : MD := (yX7_init, cX7_init, 1, none)
theorem mk_X7_init : MKI M_X7_init 0 := ⟨⟨mem_lwg (tb_1 _ (List.mem_of_getElem? (i := 5) (by decide +kernel))) rfl, mem_lwg (tb_1 _ (List.mem_of_getElem? (i := 109) (by decide +kernel))) rfl, by decide +kernel, by decide +kernel, by decide +kernel, by decide⟩, mem_lwg (tb_1 _ (List.mem_of_getElem? (i := 108) (by decide +kernel))) rfl, rfl, rfl⟩
def M_X7_put : MD := (yX7_put, cX7_put, 3, none)
theorem mk_X7_put : MKV M_X7_put 1 := ⟨⟨mem_lwg (tb_1 _ (List.mem_of_getElem? (i := 5) (by decide +kernel))) rfl, mem_lwg (tb_3 _ (List.mem_of_getElem? (i := 38) (by decide +kernel))) rfl, by decide +kernel, by decide +kernel, by decide +kernel, by decide⟩, mem_lwg (tb_3 _ (List.mem_of_getElem? (i := 36) (by decide +kernel))) rfl, mem_lwg (tb_3 _ (List.mem_of_getElem? (i := 37) (by decide +kernel))) rfl⟩
def M_X7_read : MD := (yX7_read, cX7_read, 5, (some .int))
theorem mk_X7_read : MKV M_X7_read 2 := ⟨⟨mem_lwg (tb_1 _ (List.mem_of_getElem? (i := 5) (by decide +kernel))) rfl, mem_lwg (tb_3 _ (List.mem_of_getElem? (i := 50) (by decide +kernel))) rfl, by decide +kernel, by decide +kernel, by decide +kernel, by decide⟩, mem_lwg (tb_3 _ (List.mem_of_getElem? (i := 48) (by decide +kernel))) rfl, mem_lwg (tb_3 _ (List.mem_of_getElem? (i := 49) (by decide +kernel))) rfl⟩
def M_X7_readRow : MD := (yX7_readRow, cX7_readRow, 5, (some .boolean))
theorem mk_X7_readRow : MKV M_X7_readRow 2 := ⟨⟨mem_lwg (tb_1 _ (List.mem_of_getElem? (i := 5) (by decide +kernel))) rfl, mem_lwg (tb_3 _ (List.mem_of_getElem? (i := 63) (by decide +kernel))) rfl, by decide +kernel, by decide +kernel, by decide +kernel, by decide⟩, mem_lwg (tb_3 _ (List.mem_of_getElem? (i := 62) (by decide +kernel))) rfl, mem_lwg (tp_1 _ (List.mem_of_getElem? (i := 12) (by decide +kernel))) rfl⟩
def M_X7_readName : MD := (yX7_readName, cX7_readName, 4, (some .int))
theorem mk_X7_readName : MKV M_X7_readName 1 := ⟨⟨mem_lwg (tb_1 _ (List.mem_of_getElem? (i := 5) (by decide +kernel))) rfl, mem_lwg (tb_3 _ (List.mem_of_getElem? (i := 67) (by decide +kernel))) rfl, by decide +kernel, by decide +kernel, by decide +kernel, by decide⟩, mem_lwg (tb_3 _ (List.mem_of_getElem? (i := 66) (by decide +kernel))) rfl, mem_lwg (tp_1 _ (List.mem_of_getElem? (i := 13) (by decide +kernel))) rfl⟩
def M_X7_readNumbers : MD := (yX7_readNumbers, cX7_readNumbers, 6, (some .boolean))
theorem mk_X7_readNumbers : MKV M_X7_readNumbers 2 := ⟨⟨mem_lwg (tb_1 _ (List.mem_of_getElem? (i := 5) (by decide +kernel))) rfl, mem_lwg (tb_3 _ (List.mem_of_getElem? (i := 75) (by decide +kernel))) rfl, by decide +kernel, by decide +kernel, by decide +kernel, by decide⟩, mem_lwg (tb_3 _ (List.mem_of_getElem? (i := 74) (by decide +kernel))) rfl, mem_lwg (tp_1 _ (List.mem_of_getElem? (i := 15) (by decide +kernel))) rfl⟩
def M_X7_readNumber : MD := (yX7_readNumber, cX7_readNumber, 3, (some .int))
theorem mk_X7_readNumber : MKV M_X7_readNumber 0 := ⟨⟨mem_lwg (tb_1 _ (List.mem_of_getElem? (i := 5) (by decide +kernel))) rfl, mem_lwg (tb_3 _ (List.mem_of_getElem? (i := 83) (by decide +kernel))) rfl, by decide +kernel, by decide +kernel, by decide +kernel, by decide⟩, mem_lwg (tb_3 _ (List.mem_of_getElem? (i := 82) (by decide +kernel))) rfl, mem_lwg (tp_2 _ (List.mem_of_getElem? (i := 1) (by decide +kernel))) rfl⟩
def M_X7_skipBlanks : MD := (yX7_skipBlanks, cX7_skipBlanks, 2, none)
theorem mk_X7_skipBlanks : MKV M_X7_skipBlanks 0 := ⟨⟨mem_lwg (tb_1 _ (List.mem_of_getElem? (i := 5) (by decide +kernel))) rfl, mem_lwg (tb_3 _ (List.mem_of_getElem? (i := 55) (by decide +kernel))) rfl, by decide +kernel, by decide +kernel, by decide +kernel, by decide⟩, mem_lwg (tb_3 _ (List.mem_of_getElem? (i := 54) (by decide +kernel))) rfl, mem_lwg (tp_1 _ (List.mem_of_getElem? (i := 10) (by decide +kernel))) rfl⟩
def M_X7_digitHere : MD := (yX7_digitHere, cX7_digitHere, 2, (some .boolean))
theorem mk_X7_digitHere : MKV M_X7_digitHere 0 := ⟨⟨mem_lwg (tb_1 _ (List.mem_of_getElem? (i := 5) (by decide +kernel))) rfl, mem_lwg (tb_3 _ (List.mem_of_getElem? (i := 79) (by decide +kernel))) rfl, by decide +kernel, by decide +kernel, by decide +kernel, by decide⟩, mem_lwg (tb_3 _ (List.mem_of_getElem? (i := 78) (by decide +kernel))) rfl, mem_lwg (tp_2 _ (List.mem_of_getElem? (i := 0) (by decide +kernel))) rfl⟩
def M_X7_byteHere : MD := (yX7_byteHere, cX7_byteHere, 1, (some .int))
theorem mk_X7_byteHere : MKV M_X7_byteHere 0 := ⟨⟨mem_lwg (tb_1 _ (List.mem_of_getElem? (i := 5) (by decide +kernel))) rfl, mem_lwg (tb_3 _ (List.mem_of_getElem? (i := 59) (by decide +kernel))) rfl, by decide +kernel, by decide +kernel, by decide +kernel, by decide⟩, mem_lwg (tb_3 _ (List.mem_of_getElem? (i := 58) (by decide +kernel))) rfl, mem_lwg (tp_1 _ (List.mem_of_getElem? (i := 11) (by decide +kernel))) rfl⟩
def M_X7_fail : MD := (yX7_fail, cX7_fail, 3, (some .boolean))
theorem mk_X7_fail : MKV M_X7_fail 2 := ⟨⟨mem_lwg (tb_1 _ (List.mem_of_getElem? (i := 5) (by decide +kernel))) rfl, mem_lwg (tb_3 _ (List.mem_of_getElem? (i := 71) (by decide +kernel))) rfl, by decide +kernel, by decide +kernel, by decide +kernel, by decide⟩, mem_lwg (tb_3 _ (List.mem_of_getElem? (i := 70) (by decide +kernel))) rfl, mem_lwg (tp_1 _ (List.mem_of_getElem? (i := 14) (by decide +kernel))) rfl⟩
def M_X8_init : MD := (yX8_init, cX8_init, 1, none)
theorem mk_X8_init : MKI M_X8_init 0 := ⟨⟨mem_lwg (tb_1 _ (List.mem_of_getElem? (i := 9) (by decide +kernel))) rfl, mem_lwg (tb_2 _ (List.mem_of_getElem? (i := 2) (by decide +kernel))) rfl, by decide +kernel, by decide +kernel, by decide +kernel, by decide⟩, mem_lwg (tb_2 _ (List.mem_of_getElem? (i := 1) (by decide +kernel))) rfl, rfl, rfl⟩
def M_X8_gather : MD := (yX8_gather, cX8_gather, 5, none)
theorem mk_X8_gather : MKV M_X8_gather 3 := ⟨⟨mem_lwg (tb_1 _ (List.mem_of_getElem? (i := 9) (by decide +kernel))) rfl, mem_lwg (tb_3 _ (List.mem_of_getElem? (i := 128) (by decide +kernel))) rfl, by decide +kernel, by decide +kernel, by decide +kernel, by decide⟩, mem_lwg (tb_3 _ (List.mem_of_getElem? (i := 126) (by decide +kernel))) rfl, mem_lwg (tb_3 _ (List.mem_of_getElem? (i := 127) (by decide +kernel))) rfl⟩
def M_X8_sort : MD := (yX8_sort, cX8_sort, 8, none)
theorem mk_X8_sort : MKV M_X8_sort 3 := ⟨⟨mem_lwg (tb_1 _ (List.mem_of_getElem? (i := 9) (by decide +kernel))) rfl, mem_lwg (tb_3 _ (List.mem_of_getElem? (i := 134) (by decide +kernel))) rfl, by decide +kernel, by decide +kernel, by decide +kernel, by decide⟩, mem_lwg (tb_3 _ (List.mem_of_getElem? (i := 133) (by decide +kernel))) rfl, mem_lwg (tp_2 _ (List.mem_of_getElem? (i := 5) (by decide +kernel))) rfl⟩
def M_X8_gap : MD := (yX8_gap, cX8_gap, 4, (some .int))
theorem mk_X8_gap : MKV M_X8_gap 3 := ⟨⟨mem_lwg (tb_1 _ (List.mem_of_getElem? (i := 9) (by decide +kernel))) rfl, mem_lwg (tb_3 _ (List.mem_of_getElem? (i := 142) (by decide +kernel))) rfl, by decide +kernel, by decide +kernel, by decide +kernel, by decide⟩, mem_lwg (tb_3 _ (List.mem_of_getElem? (i := 140) (by decide +kernel))) rfl, mem_lwg (tb_3 _ (List.mem_of_getElem? (i := 141) (by decide +kernel))) rfl⟩
def M_X8_divisorOf : MD := (yX8_divisorOf, cX8_divisorOf, 6, (some .int))
theorem mk_X8_divisorOf : MKS M_X8_divisorOf 2 := ⟨⟨mem_lwg (tb_1 _ (List.mem_of_getElem? (i := 9) (by decide +kernel))) rfl, mem_lwg (tb_3 _ (List.mem_of_getElem? (i := 146) (by decide +kernel))) rfl, by decide +kernel, by decide +kernel, by decide +kernel, by decide⟩, mem_lwg (tb_3 _ (List.mem_of_getElem? (i := 145) (by decide +kernel))) rfl⟩
def M_X8_countLeft : MD := (yX8_countLeft, cX8_countLeft, 7, (some .int))
theorem mk_X8_countLeft : MKV M_X8_countLeft 2 := ⟨⟨mem_lwg (tb_1 _ (List.mem_of_getElem? (i := 9) (by decide +kernel))) rfl, mem_lwg (tb_4 _ (List.mem_of_getElem? (i := 172) (by decide +kernel))) rfl, by decide +kernel, by decide +kernel, by decide +kernel, by decide⟩, mem_lwg (tb_4 _ (List.mem_of_getElem? (i := 170) (by decide +kernel))) rfl, mem_lwg (tb_4 _ (List.mem_of_getElem? (i := 171) (by decide +kernel))) rfl⟩
def M_X8_keepLeft : MD := (yX8_keepLeft, cX8_keepLeft, 8, (some .int))
theorem mk_X8_keepLeft : MKV M_X8_keepLeft 4 := ⟨⟨mem_lwg (tb_1 _ (List.mem_of_getElem? (i := 9) (by decide +kernel))) rfl, mem_lwg (tb_3 _ (List.mem_of_getElem? (i := 159) (by decide +kernel))) rfl, by decide +kernel, by decide +kernel, by decide +kernel, by decide⟩, mem_lwg (tb_3 _ (List.mem_of_getElem? (i := 157) (by decide +kernel))) rfl, mem_lwg (tb_3 _ (List.mem_of_getElem? (i := 158) (by decide +kernel))) rfl⟩
def M_X9_init : MD := (yX9_init, cX9_init, 1, none)
theorem mk_X9_init : MKI M_X9_init 0 := ⟨⟨mem_lwg (tb_1 _ (List.mem_of_getElem? (i := 1) (by decide +kernel))) rfl, mem_lwg (tb_1 _ (List.mem_of_getElem? (i := 22) (by decide +kernel))) rfl, by decide +kernel, by decide +kernel, by decide +kernel, by decide⟩, mem_lwg (tb_1 _ (List.mem_of_getElem? (i := 21) (by decide +kernel))) rfl, rfl, rfl⟩
def M_X9_pulses : MD := (yX9_pulses, cX9_pulses, 3, (some .int))
theorem mk_X9_pulses : MKV M_X9_pulses 2 := ⟨⟨mem_lwg (tb_1 _ (List.mem_of_getElem? (i := 1) (by decide +kernel))) rfl, mem_lwg (tb_2 _ (List.mem_of_getElem? (i := 161) (by decide +kernel))) rfl, by decide +kernel, by decide +kernel, by decide +kernel, by decide⟩, mem_lwg (tb_2 _ (List.mem_of_getElem? (i := 159) (by decide +kernel))) rfl, mem_lwg (tb_2 _ (List.mem_of_getElem? (i := 160) (by decide +kernel))) rfl⟩
def M_X9_kind : MD := (yX9_kind, cX9_kind, 3, (some .boolean))
theorem mk_X9_kind : MKV M_X9_kind 2 := ⟨⟨mem_lwg (tb_1 _ (List.mem_of_getElem? (i := 1) (by decide +kernel))) rfl, mem_lwg (tb_2 _ (List.mem_of_getElem? (i := 197) (by decide +kernel))) rfl, by decide +kernel, by decide +kernel, by decide +kernel, by decide⟩, mem_lwg (tb_2 _ (List.mem_of_getElem? (i := 195) (by decide +kernel))) rfl, mem_lwg (tb_2 _ (List.mem_of_getElem? (i := 196) (by decide +kernel))) rfl⟩
def M_X9_turn : MD := (yX9_turn, cX9_turn, 2, (some .boolean))
theorem mk_X9_turn : MKV M_X9_turn 1 := ⟨⟨mem_lwg (tb_1 _ (List.mem_of_getElem? (i := 1) (by decide +kernel))) rfl, mem_lwg (tb_2 _ (List.mem_of_getElem? (i := 206) (by decide +kernel))) rfl, by decide +kernel, by decide +kernel, by decide +kernel, by decide⟩, mem_lwg (tb_2 _ (List.mem_of_getElem? (i := 204) (by decide +kernel))) rfl, mem_lwg (tb_2 _ (List.mem_of_getElem? (i := 205) (by decide +kernel))) rfl⟩
def M_X9_counter : MD := (yX9_counter, cX9_counter, 3, (some .int))
theorem mk_X9_counter : MKV M_X9_counter 2 := ⟨⟨mem_lwg (tb_1 _ (List.mem_of_getElem? (i := 1) (by decide +kernel))) rfl, mem_lwg (tb_2 _ (List.mem_of_getElem? (i := 210) (by decide +kernel))) rfl, by decide +kernel, by decide +kernel, by decide +kernel, by decide⟩, mem_lwg (tb_2 _ (List.mem_of_getElem? (i := 208) (by decide +kernel))) rfl, mem_lwg (tb_2 _ (List.mem_of_getElem? (i := 209) (by decide +kernel))) rfl⟩
def M_X9_step : MD := (yX9_step, cX9_step, 4, (some .boolean))
theorem mk_X9_step : MKV M_X9_step 3 := ⟨⟨mem_lwg (tb_1 _ (List.mem_of_getElem? (i := 1) (by decide +kernel))) rfl, mem_lwg (tb_2 _ (List.mem_of_getElem? (i := 225) (by decide +kernel))) rfl, by decide +kernel, by decide +kernel, by decide +kernel, by decide⟩, mem_lwg (tb_2 _ (List.mem_of_getElem? (i := 223) (by decide +kernel))) rfl, mem_lwg (tb_2 _ (List.mem_of_getElem? (i := 224) (by decide +kernel))) rfl⟩
def M_X9_gradient : MD := (yX9_gradient, cX9_gradient, 3, (some .boolean))
theorem mk_X9_gradient : MKV M_X9_gradient 2 := ⟨⟨mem_lwg (tb_1 _ (List.mem_of_getElem? (i := 1) (by decide +kernel))) rfl, mem_lwg (tb_2 _ (List.mem_of_getElem? (i := 233) (by decide +kernel))) rfl, by decide +kernel, by decide +kernel, by decide +kernel, by decide⟩, mem_lwg (tb_2 _ (List.mem_of_getElem? (i := 231) (by decide +kernel))) rfl, mem_lwg (tb_2 _ (List.mem_of_getElem? (i := 232) (by decide +kernel))) rfl⟩
def M_X9_weight : MD := (yX9_weight, cX9_weight, 4, (some .boolean))
theorem mk_X9_weight : MKV M_X9_weight 3 := ⟨⟨mem_lwg (tb_1 _ (List.mem_of_getElem? (i := 1) (by decide +kernel))) rfl, mem_lwg (tb_2 _ (List.mem_of_getElem? (i := 237) (by decide +kernel))) rfl, by decide +kernel, by decide +kernel, by decide +kernel, by decide⟩, mem_lwg (tb_2 _ (List.mem_of_getElem? (i := 235) (by decide +kernel))) rfl, mem_lwg (tb_2 _ (List.mem_of_getElem? (i := 236) (by decide +kernel))) rfl⟩
def M_X9_swap : MD := (yX9_swap, cX9_swap, 3, (some .boolean))
theorem mk_X9_swap : MKV M_X9_swap 2 := ⟨⟨mem_lwg (tb_1 _ (List.mem_of_getElem? (i := 1) (by decide +kernel))) rfl, mem_lwg (tb_3 _ (List.mem_of_getElem? (i := 1) (by decide +kernel))) rfl, by decide +kernel, by decide +kernel, by decide +kernel, by decide⟩, mem_lwg (tb_2 _ (List.mem_of_getElem? (i := 239) (by decide +kernel))) rfl, mem_lwg (tb_3 _ (List.mem_of_getElem? (i := 0) (by decide +kernel))) rfl⟩
def M_X9_follow : MD := (yX9_follow, cX9_follow, 2, (some .boolean))
theorem mk_X9_follow : MKV M_X9_follow 1 := ⟨⟨mem_lwg (tb_1 _ (List.mem_of_getElem? (i := 1) (by decide +kernel))) rfl, mem_lwg (tb_3 _ (List.mem_of_getElem? (i := 9) (by decide +kernel))) rfl, by decide +kernel, by decide +kernel, by decide +kernel, by decide⟩, mem_lwg (tb_3 _ (List.mem_of_getElem? (i := 7) (by decide +kernel))) rfl, mem_lwg (tb_3 _ (List.mem_of_getElem? (i := 8) (by decide +kernel))) rfl⟩
def M_X9_wish : MD := (yX9_wish, cX9_wish, 3, (some .boolean))
theorem mk_X9_wish : MKV M_X9_wish 2 := ⟨⟨mem_lwg (tb_1 _ (List.mem_of_getElem? (i := 1) (by decide +kernel))) rfl, mem_lwg (tb_3 _ (List.mem_of_getElem? (i := 13) (by decide +kernel))) rfl, by decide +kernel, by decide +kernel, by decide +kernel, by decide⟩, mem_lwg (tb_3 _ (List.mem_of_getElem? (i := 11) (by decide +kernel))) rfl, mem_lwg (tb_3 _ (List.mem_of_getElem? (i := 12) (by decide +kernel))) rfl⟩
def M_X9_free : MD := (yX9_free, cX9_free, 3, (some .boolean))
theorem mk_X9_free : MKV M_X9_free 2 := ⟨⟨mem_lwg (tb_1 _ (List.mem_of_getElem? (i := 1) (by decide +kernel))) rfl, mem_lwg (tb_3 _ (List.mem_of_getElem? (i := 25) (by decide +kernel))) rfl, by decide +kernel, by decide +kernel, by decide +kernel, by decide⟩, mem_lwg (tb_3 _ (List.mem_of_getElem? (i := 23) (by decide +kernel))) rfl, mem_lwg (tb_3 _ (List.mem_of_getElem? (i := 24) (by decide +kernel))) rfl⟩
def M_X9_freeAll : MD := (yX9_freeAll, cX9_freeAll, 5, (some .int))
theorem mk_X9_freeAll : MKV M_X9_freeAll 2 := ⟨⟨mem_lwg (tb_1 _ (List.mem_of_getElem? (i := 1) (by decide +kernel))) rfl, mem_lwg (tb_3 _ (List.mem_of_getElem? (i := 29) (by decide +kernel))) rfl, by decide +kernel, by decide +kernel, by decide +kernel, by decide⟩, mem_lwg (tb_3 _ (List.mem_of_getElem? (i := 27) (by decide +kernel))) rfl, mem_lwg (tb_3 _ (List.mem_of_getElem? (i := 28) (by decide +kernel))) rfl⟩
def M_X9_mark : MD := (yX9_mark, cX9_mark, 5, (some .boolean))
theorem mk_X9_mark : MKV M_X9_mark 3 := ⟨⟨mem_lwg (tb_1 _ (List.mem_of_getElem? (i := 1) (by decide +kernel))) rfl, mem_lwg (tb_3 _ (List.mem_of_getElem? (i := 17) (by decide +kernel))) rfl, by decide +kernel, by decide +kernel, by decide +kernel, by decide⟩, mem_lwg (tb_3 _ (List.mem_of_getElem? (i := 16) (by decide +kernel))) rfl, mem_lwg (tp_1 _ (List.mem_of_getElem? (i := 8) (by decide +kernel))) rfl⟩
def M_X9_feed : MD := (yX9_feed, cX9_feed, 6, (some .int))
theorem mk_X9_feed : MKV M_X9_feed 5 := ⟨⟨mem_lwg (tb_1 _ (List.mem_of_getElem? (i := 1) (by decide +kernel))) rfl, mem_lwg (tb_3 _ (List.mem_of_getElem? (i := 34) (by decide +kernel))) rfl, by decide +kernel, by decide +kernel, by decide +kernel, by decide⟩, mem_lwg (tb_3 _ (List.mem_of_getElem? (i := 32) (by decide +kernel))) rfl, mem_lwg (tb_3 _ (List.mem_of_getElem? (i := 33) (by decide +kernel))) rfl⟩
def M_X9_end : MD := (yX9_end, cX9_end, 2, (some .boolean))
theorem mk_X9_end : MKV M_X9_end 1 := ⟨⟨mem_lwg (tb_1 _ (List.mem_of_getElem? (i := 1) (by decide +kernel))) rfl, mem_lwg (tb_3 _ (List.mem_of_getElem? (i := 42) (by decide +kernel))) rfl, by decide +kernel, by decide +kernel, by decide +kernel, by decide⟩, mem_lwg (tb_3 _ (List.mem_of_getElem? (i := 40) (by decide +kernel))) rfl, mem_lwg (tb_3 _ (List.mem_of_getElem? (i := 41) (by decide +kernel))) rfl⟩
def M_X9_rows : MD := (yX9_rows, cX9_rows, 2, (some .int))
theorem mk_X9_rows : MKV M_X9_rows 0 := ⟨⟨mem_lwg (tb_1 _ (List.mem_of_getElem? (i := 1) (by decide +kernel))) rfl, mem_lwg (tb_3 _ (List.mem_of_getElem? (i := 46) (by decide +kernel))) rfl, by decide +kernel, by decide +kernel, by decide +kernel, by decide⟩, mem_lwg (tb_3 _ (List.mem_of_getElem? (i := 44) (by decide +kernel))) rfl, mem_lwg (tb_3 _ (List.mem_of_getElem? (i := 45) (by decide +kernel))) rfl⟩
def M_X9_fault : MD := (yX9_fault, cX9_fault, 2, (some .int))
theorem mk_X9_fault : MKV M_X9_fault 1 := ⟨⟨mem_lwg (tb_1 _ (List.mem_of_getElem? (i := 1) (by decide +kernel))) rfl, mem_lwg (tb_3 _ (List.mem_of_getElem? (i := 100) (by decide +kernel))) rfl, by decide +kernel, by decide +kernel, by decide +kernel, by decide⟩, mem_lwg (tb_3 _ (List.mem_of_getElem? (i := 98) (by decide +kernel))) rfl, mem_lwg (tb_3 _ (List.mem_of_getElem? (i := 99) (by decide +kernel))) rfl⟩
def M_X9_lay : MD := (yX9_lay, cX9_lay, 3, (some .int))
theorem mk_X9_lay : MKV M_X9_lay 1 := ⟨⟨mem_lwg (tb_1 _ (List.mem_of_getElem? (i := 1) (by decide +kernel))) rfl, mem_lwg (tb_3 _ (List.mem_of_getElem? (i := 104) (by decide +kernel))) rfl, by decide +kernel, by decide +kernel, by decide +kernel, by decide⟩, mem_lwg (tb_3 _ (List.mem_of_getElem? (i := 102) (by decide +kernel))) rfl, mem_lwg (tb_3 _ (List.mem_of_getElem? (i := 103) (by decide +kernel))) rfl⟩
def M_X9_layFewest : MD := (yX9_layFewest, cX9_layFewest, 5, (some .boolean))
theorem mk_X9_layFewest : MKV M_X9_layFewest 0 := ⟨⟨mem_lwg (tb_1 _ (List.mem_of_getElem? (i := 1) (by decide +kernel))) rfl, mem_lwg (tb_3 _ (List.mem_of_getElem? (i := 163) (by decide +kernel))) rfl, by decide +kernel, by decide +kernel, by decide +kernel, by decide⟩, mem_lwg (tb_3 _ (List.mem_of_getElem? (i := 162) (by decide +kernel))) rfl, mem_lwg (tp_2 _ (List.mem_of_getElem? (i := 6) (by decide +kernel))) rfl⟩
def M_X9_layCogs : MD := (yX9_layCogs, cX9_layCogs, 3, (some .boolean))
theorem mk_X9_layCogs : MKV M_X9_layCogs 0 := ⟨⟨mem_lwg (tb_1 _ (List.mem_of_getElem? (i := 1) (by decide +kernel))) rfl, mem_lwg (tb_3 _ (List.mem_of_getElem? (i := 188) (by decide +kernel))) rfl, by decide +kernel, by decide +kernel, by decide +kernel, by decide⟩, mem_lwg (tb_3 _ (List.mem_of_getElem? (i := 187) (by decide +kernel))) rfl, mem_lwg (tp_2 _ (List.mem_of_getElem? (i := 10) (by decide +kernel))) rfl⟩
def M_X9_order : MD := (yX9_order, cX9_order, 3, (some .int))
theorem mk_X9_order : MKV M_X9_order 2 := ⟨⟨mem_lwg (tb_1 _ (List.mem_of_getElem? (i := 1) (by decide +kernel))) rfl, mem_lwg (tb_3 _ (List.mem_of_getElem? (i := 192) (by decide +kernel))) rfl, by decide +kernel, by decide +kernel, by decide +kernel, by decide⟩, mem_lwg (tb_3 _ (List.mem_of_getElem? (i := 190) (by decide +kernel))) rfl, mem_lwg (tb_3 _ (List.mem_of_getElem? (i := 191) (by decide +kernel))) rfl⟩
def M_X9_find : MD := (yX9_find, cX9_find, 8, (some .int))
theorem mk_X9_find : MKV M_X9_find 4 := ⟨⟨mem_lwg (tb_1 _ (List.mem_of_getElem? (i := 1) (by decide +kernel))) rfl, mem_lwg (tb_3 _ (List.mem_of_getElem? (i := 196) (by decide +kernel))) rfl, by decide +kernel, by decide +kernel, by decide +kernel, by decide⟩, mem_lwg (tb_3 _ (List.mem_of_getElem? (i := 194) (by decide +kernel))) rfl, mem_lwg (tb_3 _ (List.mem_of_getElem? (i := 195) (by decide +kernel))) rfl⟩
def M_X9_phase : MD := (yX9_phase, cX9_phase, 3, (some .int))
theorem mk_X9_phase : MKV M_X9_phase 2 := ⟨⟨mem_lwg (tb_1 _ (List.mem_of_getElem? (i := 1) (by decide +kernel))) rfl, mem_lwg (tb_3 _ (List.mem_of_getElem? (i := 200) (by decide +kernel))) rfl, by decide +kernel, by decide +kernel, by decide +kernel, by decide⟩, mem_lwg (tb_3 _ (List.mem_of_getElem? (i := 198) (by decide +kernel))) rfl, mem_lwg (tb_3 _ (List.mem_of_getElem? (i := 199) (by decide +kernel))) rfl⟩
def M_X9_residue : MD := (yX9_residue, cX9_residue, 3, (some .int))
theorem mk_X9_residue : MKV M_X9_residue 2 := ⟨⟨mem_lwg (tb_1 _ (List.mem_of_getElem? (i := 1) (by decide +kernel))) rfl, mem_lwg (tb_3 _ (List.mem_of_getElem? (i := 235) (by decide +kernel))) rfl, by decide +kernel, by decide +kernel, by decide +kernel, by decide⟩, mem_lwg (tb_3 _ (List.mem_of_getElem? (i := 233) (by decide +kernel))) rfl, mem_lwg (tb_3 _ (List.mem_of_getElem? (i := 234) (by decide +kernel))) rfl⟩
def M_X9_many : MD := (yX9_many, cX9_many, 3, (some .int))
theorem mk_X9_many : MKV M_X9_many 2 := ⟨⟨mem_lwg (tb_1 _ (List.mem_of_getElem? (i := 1) (by decide +kernel))) rfl, mem_lwg (tb_4 _ (List.mem_of_getElem? (i := 3) (by decide +kernel))) rfl, by decide +kernel, by decide +kernel, by decide +kernel, by decide⟩, mem_lwg (tb_4 _ (List.mem_of_getElem? (i := 1) (by decide +kernel))) rfl, mem_lwg (tb_4 _ (List.mem_of_getElem? (i := 2) (by decide +kernel))) rfl⟩
def M_X9_path : MD := (yX9_path, cX9_path, 3, (some .int))
theorem mk_X9_path : MKV M_X9_path 2 := ⟨⟨mem_lwg (tb_1 _ (List.mem_of_getElem? (i := 1) (by decide +kernel))) rfl, mem_lwg (tb_4 _ (List.mem_of_getElem? (i := 12) (by decide +kernel))) rfl, by decide +kernel, by decide +kernel, by decide +kernel, by decide⟩, mem_lwg (tb_4 _ (List.mem_of_getElem? (i := 10) (by decide +kernel))) rfl, mem_lwg (tb_4 _ (List.mem_of_getElem? (i := 11) (by decide +kernel))) rfl⟩
def M_X9_leak : MD := (yX9_leak, cX9_leak, 2, (some .int))
theorem mk_X9_leak : MKV M_X9_leak 1 := ⟨⟨mem_lwg (tb_1 _ (List.mem_of_getElem? (i := 1) (by decide +kernel))) rfl, mem_lwg (tb_4 _ (List.mem_of_getElem? (i := 60) (by decide +kernel))) rfl, by decide +kernel, by decide +kernel, by decide +kernel, by decide⟩, mem_lwg (tb_4 _ (List.mem_of_getElem? (i := 58) (by decide +kernel))) rfl, mem_lwg (tb_4 _ (List.mem_of_getElem? (i := 59) (by decide +kernel))) rfl⟩
def M_X9_worst : MD := (yX9_worst, cX9_worst, 4, (some .int))
theorem mk_X9_worst : MKV M_X9_worst 2 := ⟨⟨mem_lwg (tb_1 _ (List.mem_of_getElem? (i := 1) (by decide +kernel))) rfl, mem_lwg (tb_4 _ (List.mem_of_getElem? (i := 72) (by decide +kernel))) rfl, by decide +kernel, by decide +kernel, by decide +kernel, by decide⟩, mem_lwg (tb_4 _ (List.mem_of_getElem? (i := 70) (by decide +kernel))) rfl, mem_lwg (tb_4 _ (List.mem_of_getElem? (i := 71) (by decide +kernel))) rfl⟩
def M_X9_leakByWeight : MD := (yX9_leakByWeight, cX9_leakByWeight, 10, (some .int))
theorem mk_X9_leakByWeight : MKV M_X9_leakByWeight 2 := ⟨⟨mem_lwg (tb_1 _ (List.mem_of_getElem? (i := 1) (by decide +kernel))) rfl, mem_lwg (tb_4 _ (List.mem_of_getElem? (i := 80) (by decide +kernel))) rfl, by decide +kernel, by decide +kernel, by decide +kernel, by decide⟩, mem_lwg (tb_4 _ (List.mem_of_getElem? (i := 79) (by decide +kernel))) rfl, mem_lwg (tp_3 _ (List.mem_of_getElem? (i := 5) (by decide +kernel))) rfl⟩
def M_X9_leakOfWeight : MD := (yX9_leakOfWeight, cX9_leakOfWeight, 6, (some .int))
theorem mk_X9_leakOfWeight : MKV M_X9_leakOfWeight 3 := ⟨⟨mem_lwg (tb_1 _ (List.mem_of_getElem? (i := 1) (by decide +kernel))) rfl, mem_lwg (tb_4 _ (List.mem_of_getElem? (i := 85) (by decide +kernel))) rfl, by decide +kernel, by decide +kernel, by decide +kernel, by decide⟩, mem_lwg (tb_4 _ (List.mem_of_getElem? (i := 84) (by decide +kernel))) rfl, mem_lwg (tp_3 _ (List.mem_of_getElem? (i := 6) (by decide +kernel))) rfl⟩
def M_X9_gatherLeaks : MD := (yX9_gatherLeaks, cX9_gatherLeaks, 3, (some .int))
theorem mk_X9_gatherLeaks : MKV M_X9_gatherLeaks 0 := ⟨⟨mem_lwg (tb_1 _ (List.mem_of_getElem? (i := 1) (by decide +kernel))) rfl, mem_lwg (tb_4 _ (List.mem_of_getElem? (i := 76) (by decide +kernel))) rfl, by decide +kernel, by decide +kernel, by decide +kernel, by decide⟩, mem_lwg (tb_4 _ (List.mem_of_getElem? (i := 75) (by decide +kernel))) rfl, mem_lwg (tp_3 _ (List.mem_of_getElem? (i := 4) (by decide +kernel))) rfl⟩
def M_X9_stopped : MD := (yX9_stopped, cX9_stopped, 4, (some .int))
theorem mk_X9_stopped : MKV M_X9_stopped 1 := ⟨⟨mem_lwg (tb_1 _ (List.mem_of_getElem? (i := 1) (by decide +kernel))) rfl, mem_lwg (tb_4 _ (List.mem_of_getElem? (i := 89) (by decide +kernel))) rfl, by decide +kernel, by decide +kernel, by decide +kernel, by decide⟩, mem_lwg (tb_4 _ (List.mem_of_getElem? (i := 87) (by decide +kernel))) rfl, mem_lwg (tb_4 _ (List.mem_of_getElem? (i := 88) (by decide +kernel))) rfl⟩
def M_X9_isStoppedBy : MD := (yX9_isStoppedBy, cX9_isStoppedBy, 6, (some .boolean))
theorem mk_X9_isStoppedBy : MKV M_X9_isStoppedBy 2 := ⟨⟨mem_lwg (tb_1 _ (List.mem_of_getElem? (i := 1) (by decide +kernel))) rfl, mem_lwg (tb_4 _ (List.mem_of_getElem? (i := 93) (by decide +kernel))) rfl, by decide +kernel, by decide +kernel, by decide +kernel, by decide⟩, mem_lwg (tb_4 _ (List.mem_of_getElem? (i := 92) (by decide +kernel))) rfl, mem_lwg (tp_3 _ (List.mem_of_getElem? (i := 7) (by decide +kernel))) rfl⟩
def M_X9_pace : MD := (yX9_pace, cX9_pace, 5, (some .int))
theorem mk_X9_pace : MKV M_X9_pace 2 := ⟨⟨mem_lwg (tb_1 _ (List.mem_of_getElem? (i := 1) (by decide +kernel))) rfl, mem_lwg (tb_4 _ (List.mem_of_getElem? (i := 97) (by decide +kernel))) rfl, by decide +kernel, by decide +kernel, by decide +kernel, by decide⟩, mem_lwg (tb_4 _ (List.mem_of_getElem? (i := 96) (by decide +kernel))) rfl, mem_lwg (tp_3 _ (List.mem_of_getElem? (i := 8) (by decide +kernel))) rfl⟩
def M_X9_spare : MD := (yX9_spare, cX9_spare, 6, (some .int))
theorem mk_X9_spare : MKV M_X9_spare 1 := ⟨⟨mem_lwg (tb_1 _ (List.mem_of_getElem? (i := 1) (by decide +kernel))) rfl, mem_lwg (tb_4 _ (List.mem_of_getElem? (i := 108) (by decide +kernel))) rfl, by decide +kernel, by decide +kernel, by decide +kernel, by decide⟩, mem_lwg (tb_4 _ (List.mem_of_getElem? (i := 106) (by decide +kernel))) rfl, mem_lwg (tb_4 _ (List.mem_of_getElem? (i := 107) (by decide +kernel))) rfl⟩
def M_X9_wouldBeGood : MD := (yX9_wouldBeGood, cX9_wouldBeGood, 2, (some .boolean))
theorem mk_X9_wouldBeGood : MKV M_X9_wouldBeGood 0 := ⟨⟨mem_lwg (tb_1 _ (List.mem_of_getElem? (i := 1) (by decide +kernel))) rfl, mem_lwg (tb_4 _ (List.mem_of_getElem? (i := 112) (by decide +kernel))) rfl, by decide +kernel, by decide +kernel, by decide +kernel, by decide⟩, mem_lwg (tb_4 _ (List.mem_of_getElem? (i := 111) (by decide +kernel))) rfl, mem_lwg (tp_3 _ (List.mem_of_getElem? (i := 9) (by decide +kernel))) rfl⟩
def M_X9_soonest : MD := (yX9_soonest, cX9_soonest, 2, (some .int))
theorem mk_X9_soonest : MKV M_X9_soonest 0 := ⟨⟨mem_lwg (tb_1 _ (List.mem_of_getElem? (i := 1) (by decide +kernel))) rfl, mem_lwg (tb_4 _ (List.mem_of_getElem? (i := 124) (by decide +kernel))) rfl, by decide +kernel, by decide +kernel, by decide +kernel, by decide⟩, mem_lwg (tb_4 _ (List.mem_of_getElem? (i := 122) (by decide +kernel))) rfl, mem_lwg (tb_4 _ (List.mem_of_getElem? (i := 123) (by decide +kernel))) rfl⟩
def M_X9_strikeScans : MD := (yX9_strikeScans, cX9_strikeScans, 5, none)
theorem mk_X9_strikeScans : MKV M_X9_strikeScans 1 := ⟨⟨mem_lwg (tb_1 _ (List.mem_of_getElem? (i := 1) (by decide +kernel))) rfl, mem_lwg (tb_4 _ (List.mem_of_getElem? (i := 134) (by decide +kernel))) rfl, by decide +kernel, by decide +kernel, by decide +kernel, by decide⟩, mem_lwg (tb_4 _ (List.mem_of_getElem? (i := 133) (by decide +kernel))) rfl, mem_lwg (tp_3 _ (List.mem_of_getElem? (i := 12) (by decide +kernel))) rfl⟩
def M_X9_lost : MD := (yX9_lost, cX9_lost, 2, (some .int))
theorem mk_X9_lost : MKV M_X9_lost 1 := ⟨⟨mem_lwg (tb_1 _ (List.mem_of_getElem? (i := 1) (by decide +kernel))) rfl, mem_lwg (tb_4 _ (List.mem_of_getElem? (i := 138) (by decide +kernel))) rfl, by decide +kernel, by decide +kernel, by decide +kernel, by decide⟩, mem_lwg (tb_4 _ (List.mem_of_getElem? (i := 136) (by decide +kernel))) rfl, mem_lwg (tb_4 _ (List.mem_of_getElem? (i := 137) (by decide +kernel))) rfl⟩
def M_X9_early : MD := (yX9_early, cX9_early, 3, (some .int))
theorem mk_X9_early : MKV M_X9_early 2 := ⟨⟨mem_lwg (tb_1 _ (List.mem_of_getElem? (i := 1) (by decide +kernel))) rfl, mem_lwg (tb_4 _ (List.mem_of_getElem? (i := 142) (by decide +kernel))) rfl, by decide +kernel, by decide +kernel, by decide +kernel, by decide⟩, mem_lwg (tb_4 _ (List.mem_of_getElem? (i := 140) (by decide +kernel))) rfl, mem_lwg (tb_4 _ (List.mem_of_getElem? (i := 141) (by decide +kernel))) rfl⟩
def M_X9_earlyState : MD := (yX9_earlyState, cX9_earlyState, 3, (some .int))
theorem mk_X9_earlyState : MKV M_X9_earlyState 2 := ⟨⟨mem_lwg (tb_1 _ (List.mem_of_getElem? (i := 1) (by decide +kernel))) rfl, mem_lwg (tb_4 _ (List.mem_of_getElem? (i := 120) (by decide +kernel))) rfl, by decide +kernel, by decide +kernel, by decide +kernel, by decide⟩, mem_lwg (tb_4 _ (List.mem_of_getElem? (i := 119) (by decide +kernel))) rfl, mem_lwg (tp_3 _ (List.mem_of_getElem? (i := 11) (by decide +kernel))) rfl⟩
def M_X9_until : MD := (yX9_until, cX9_until, 5, (some .int))
theorem mk_X9_until : MKV M_X9_until 2 := ⟨⟨mem_lwg (tb_1 _ (List.mem_of_getElem? (i := 1) (by decide +kernel))) rfl, mem_lwg (tb_4 _ (List.mem_of_getElem? (i := 146) (by decide +kernel))) rfl, by decide +kernel, by decide +kernel, by decide +kernel, by decide⟩, mem_lwg (tb_4 _ (List.mem_of_getElem? (i := 144) (by decide +kernel))) rfl, mem_lwg (tb_4 _ (List.mem_of_getElem? (i := 145) (by decide +kernel))) rfl⟩
def M_X9_fewest : MD := (yX9_fewest, cX9_fewest, 2, (some .int))
theorem mk_X9_fewest : MKV M_X9_fewest 1 := ⟨⟨mem_lwg (tb_1 _ (List.mem_of_getElem? (i := 1) (by decide +kernel))) rfl, mem_lwg (tb_4 _ (List.mem_of_getElem? (i := 150) (by decide +kernel))) rfl, by decide +kernel, by decide +kernel, by decide +kernel, by decide⟩, mem_lwg (tb_4 _ (List.mem_of_getElem? (i := 148) (by decide +kernel))) rfl, mem_lwg (tb_4 _ (List.mem_of_getElem? (i := 149) (by decide +kernel))) rfl⟩
def M_X9_cogs : MD := (yX9_cogs, cX9_cogs, 2, (some .int))
theorem mk_X9_cogs : MKV M_X9_cogs 1 := ⟨⟨mem_lwg (tb_1 _ (List.mem_of_getElem? (i := 1) (by decide +kernel))) rfl, mem_lwg (tb_4 _ (List.mem_of_getElem? (i := 154) (by decide +kernel))) rfl, by decide +kernel, by decide +kernel, by decide +kernel, by decide⟩, mem_lwg (tb_4 _ (List.mem_of_getElem? (i := 152) (by decide +kernel))) rfl, mem_lwg (tb_4 _ (List.mem_of_getElem? (i := 153) (by decide +kernel))) rfl⟩
def M_X9_power : MD := (yX9_power, cX9_power, 8, (some .long))
theorem mk_X9_power : MKV M_X9_power 1 := ⟨⟨mem_lwg (tb_1 _ (List.mem_of_getElem? (i := 1) (by decide +kernel))) rfl, mem_lwg (tb_4 _ (List.mem_of_getElem? (i := 158) (by decide +kernel))) rfl, by decide +kernel, by decide +kernel, by decide +kernel, by decide⟩, mem_lwg (tb_4 _ (List.mem_of_getElem? (i := 156) (by decide +kernel))) rfl, mem_lwg (tb_4 _ (List.mem_of_getElem? (i := 157) (by decide +kernel))) rfl⟩
def M_X9_twiceCosine : MD := (yX9_twiceCosine, cX9_twiceCosine, 3, (some .int))
theorem mk_X9_twiceCosine : MKS M_X9_twiceCosine 2 := ⟨⟨mem_lwg (tb_1 _ (List.mem_of_getElem? (i := 1) (by decide +kernel))) rfl, mem_lwg (tb_4 _ (List.mem_of_getElem? (i := 163) (by decide +kernel))) rfl, by decide +kernel, by decide +kernel, by decide +kernel, by decide⟩, mem_lwg (tb_4 _ (List.mem_of_getElem? (i := 162) (by decide +kernel))) rfl⟩
def M_X9_would : MD := (yX9_would, cX9_would, 9, (some .int))
theorem mk_X9_would : MKV M_X9_would 5 := ⟨⟨mem_lwg (tb_1 _ (List.mem_of_getElem? (i := 1) (by decide +kernel))) rfl, mem_lwg (tb_4 _ (List.mem_of_getElem? (i := 168) (by decide +kernel))) rfl, by decide +kernel, by decide +kernel, by decide +kernel, by decide⟩, mem_lwg (tb_4 _ (List.mem_of_getElem? (i := 166) (by decide +kernel))) rfl, mem_lwg (tb_4 _ (List.mem_of_getElem? (i := 167) (by decide +kernel))) rfl⟩
def M_X9_share : MD := (yX9_share, cX9_share, 3, (some .int))
theorem mk_X9_share : MKV M_X9_share 1 := ⟨⟨mem_lwg (tb_1 _ (List.mem_of_getElem? (i := 1) (by decide +kernel))) rfl, mem_lwg (tb_4 _ (List.mem_of_getElem? (i := 176) (by decide +kernel))) rfl, by decide +kernel, by decide +kernel, by decide +kernel, by decide⟩, mem_lwg (tb_4 _ (List.mem_of_getElem? (i := 174) (by decide +kernel))) rfl, mem_lwg (tb_4 _ (List.mem_of_getElem? (i := 175) (by decide +kernel))) rfl⟩
def M_X9_part : MD := (yX9_part, cX9_part, 3, (some .long))
theorem mk_X9_part : MKV M_X9_part 1 := ⟨⟨mem_lwg (tb_1 _ (List.mem_of_getElem? (i := 1) (by decide +kernel))) rfl, mem_lwg (tb_4 _ (List.mem_of_getElem? (i := 192) (by decide +kernel))) rfl, by decide +kernel, by decide +kernel, by decide +kernel, by decide⟩, mem_lwg (tb_4 _ (List.mem_of_getElem? (i := 190) (by decide +kernel))) rfl, mem_lwg (tb_4 _ (List.mem_of_getElem? (i := 191) (by decide +kernel))) rfl⟩
def M_X9_dividend : MD := (yX9_dividend, cX9_dividend, 2, (some .int))
theorem mk_X9_dividend : MKV M_X9_dividend 1 := ⟨⟨mem_lwg (tb_1 _ (List.mem_of_getElem? (i := 1) (by decide +kernel))) rfl, mem_lwg (tb_4 _ (List.mem_of_getElem? (i := 184) (by decide +kernel))) rfl, by decide +kernel, by decide +kernel, by decide +kernel, by decide⟩, mem_lwg (tb_4 _ (List.mem_of_getElem? (i := 183) (by decide +kernel))) rfl, mem_lwg (tp_3 _ (List.mem_of_getElem? (i := 14) (by decide +kernel))) rfl⟩
def M_X9_divisor : MD := (yX9_divisor, cX9_divisor, 2, (some .int))
theorem mk_X9_divisor : MKV M_X9_divisor 1 := ⟨⟨mem_lwg (tb_1 _ (List.mem_of_getElem? (i := 1) (by decide +kernel))) rfl, mem_lwg (tb_4 _ (List.mem_of_getElem? (i := 180) (by decide +kernel))) rfl, by decide +kernel, by decide +kernel, by decide +kernel, by decide⟩, mem_lwg (tb_4 _ (List.mem_of_getElem? (i := 179) (by decide +kernel))) rfl, mem_lwg (tp_3 _ (List.mem_of_getElem? (i := 13) (by decide +kernel))) rfl⟩
def M_X9_bitsOfFloat : MD := (yX9_bitsOfFloat, cX9_bitsOfFloat, 4, (some .int))
theorem mk_X9_bitsOfFloat : MKS M_X9_bitsOfFloat 1 := ⟨⟨mem_lwg (tb_1 _ (List.mem_of_getElem? (i := 1) (by decide +kernel))) rfl, mem_lwg (tb_4 _ (List.mem_of_getElem? (i := 187) (by decide +kernel))) rfl, by decide +kernel, by decide +kernel, by decide +kernel, by decide⟩, mem_lwg (tb_4 _ (List.mem_of_getElem? (i := 186) (by decide +kernel))) rfl⟩
def M_X9_bitsOfDouble : MD := (yX9_bitsOfDouble, cX9_bitsOfDouble, 7, (some .long))
theorem mk_X9_bitsOfDouble : MKS M_X9_bitsOfDouble 1 := ⟨⟨mem_lwg (tb_1 _ (List.mem_of_getElem? (i := 1) (by decide +kernel))) rfl, mem_lwg (tb_4 _ (List.mem_of_getElem? (i := 195) (by decide +kernel))) rfl, by decide +kernel, by decide +kernel, by decide +kernel, by decide⟩, mem_lwg (tb_4 _ (List.mem_of_getElem? (i := 194) (by decide +kernel))) rfl⟩
def M_X9_image : MD := (yX9_image, cX9_image, 2, (some .boolean))
theorem mk_X9_image : MKV M_X9_image 1 := ⟨⟨mem_lwg (tb_1 _ (List.mem_of_getElem? (i := 1) (by decide +kernel))) rfl, mem_lwg (tb_4 _ (List.mem_of_getElem? (i := 202) (by decide +kernel))) rfl, by decide +kernel, by decide +kernel, by decide +kernel, by decide⟩, mem_lwg (tb_4 _ (List.mem_of_getElem? (i := 200) (by decide +kernel))) rfl, mem_lwg (tb_4 _ (List.mem_of_getElem? (i := 201) (by decide +kernel))) rfl⟩
def M_X9_look : MD := (yX9_look, cX9_look, 2, (some .int))
theorem mk_X9_look : MKV M_X9_look 1 := ⟨⟨mem_lwg (tb_1 _ (List.mem_of_getElem? (i := 1) (by decide +kernel))) rfl, mem_lwg (tb_4 _ (List.mem_of_getElem? (i := 215) (by decide +kernel))) rfl, by decide +kernel, by decide +kernel, by decide +kernel, by decide⟩, mem_lwg (tb_4 _ (List.mem_of_getElem? (i := 213) (by decide +kernel))) rfl, mem_lwg (tb_4 _ (List.mem_of_getElem? (i := 214) (by decide +kernel))) rfl⟩
def M_X9_lookAtParts : MD := (yX9_lookAtParts, cX9_lookAtParts, 3, (some .int))
theorem mk_X9_lookAtParts : MKV M_X9_lookAtParts 1 := ⟨⟨mem_lwg (tb_1 _ (List.mem_of_getElem? (i := 1) (by decide +kernel))) rfl, mem_lwg (tb_4 _ (List.mem_of_getElem? (i := 227) (by decide +kernel))) rfl, by decide +kernel, by decide +kernel, by decide +kernel, by decide⟩, mem_lwg (tb_4 _ (List.mem_of_getElem? (i := 226) (by decide +kernel))) rfl, mem_lwg (tp_4 _ (List.mem_of_getElem? (i := 0) (by decide +kernel))) rfl⟩
def M_X9_isPulse : MD := (yX9_isPulse, cX9_isPulse, 2, (some .boolean))
theorem mk_X9_isPulse : MKV M_X9_isPulse 1 := ⟨⟨mem_lwg (tb_1 _ (List.mem_of_getElem? (i := 1) (by decide +kernel))) rfl, mem_lwg (tb_2 _ (List.mem_of_getElem? (i := 201) (by decide +kernel))) rfl, by decide +kernel, by decide +kernel, by decide +kernel, by decide⟩, mem_lwg (tb_2 _ (List.mem_of_getElem? (i := 200) (by decide +kernel))) rfl, mem_lwg (tp_1 _ (List.mem_of_getElem? (i := 6) (by decide +kernel))) rfl⟩
def M_X9_isRow : MD := (yX9_isRow, cX9_isRow, 2, (some .boolean))
theorem mk_X9_isRow : MKV M_X9_isRow 1 := ⟨⟨mem_lwg (tb_1 _ (List.mem_of_getElem? (i := 1) (by decide +kernel))) rfl, mem_lwg (tb_2 _ (List.mem_of_getElem? (i := 229) (by decide +kernel))) rfl, by decide +kernel, by decide +kernel, by decide +kernel, by decide⟩, mem_lwg (tb_2 _ (List.mem_of_getElem? (i := 228) (by decide +kernel))) rfl, mem_lwg (tp_1 _ (List.mem_of_getElem? (i := 7) (by decide +kernel))) rfl⟩
def M_X9_isCounter : MD := (yX9_isCounter, cX9_isCounter, 1, (some .boolean))
theorem mk_X9_isCounter : MKS M_X9_isCounter 1 := ⟨⟨mem_lwg (tb_1 _ (List.mem_of_getElem? (i := 1) (by decide +kernel))) rfl, mem_lwg (tb_2 _ (List.mem_of_getElem? (i := 213) (by decide +kernel))) rfl, by decide +kernel, by decide +kernel, by decide +kernel, by decide⟩, mem_lwg (tb_2 _ (List.mem_of_getElem? (i := 212) (by decide +kernel))) rfl⟩
def M_X9_isPath : MD := (yX9_isPath, cX9_isPath, 2, (some .boolean))
theorem mk_X9_isPath : MKV M_X9_isPath 1 := ⟨⟨mem_lwg (tb_1 _ (List.mem_of_getElem? (i := 1) (by decide +kernel))) rfl, mem_lwg (tb_3 _ (List.mem_of_getElem? (i := 21) (by decide +kernel))) rfl, by decide +kernel, by decide +kernel, by decide +kernel, by decide⟩, mem_lwg (tb_3 _ (List.mem_of_getElem? (i := 20) (by decide +kernel))) rfl, mem_lwg (tp_1 _ (List.mem_of_getElem? (i := 9) (by decide +kernel))) rfl⟩
def M_X9_isScan : MD := (yX9_isScan, cX9_isScan, 2, (some .boolean))
theorem mk_X9_isScan : MKV M_X9_isScan 1 := ⟨⟨mem_lwg (tb_1 _ (List.mem_of_getElem? (i := 1) (by decide +kernel))) rfl, mem_lwg (tb_3 _ (List.mem_of_getElem? (i := 204) (by decide +kernel))) rfl, by decide +kernel, by decide +kernel, by decide +kernel, by decide⟩, mem_lwg (tb_3 _ (List.mem_of_getElem? (i := 203) (by decide +kernel))) rfl, mem_lwg (tp_2 _ (List.mem_of_getElem? (i := 11) (by decide +kernel))) rfl⟩
def M_X9_isGone : MD := (yX9_isGone, cX9_isGone, 2, (some .boolean))
theorem mk_X9_isGone : MKV M_X9_isGone 1 := ⟨⟨mem_lwg (tb_1 _ (List.mem_of_getElem? (i := 1) (by decide +kernel))) rfl, mem_lwg (tb_4 _ (List.mem_of_getElem? (i := 46) (by decide +kernel))) rfl, by decide +kernel, by decide +kernel, by decide +kernel, by decide⟩, mem_lwg (tb_4 _ (List.mem_of_getElem? (i := 45) (by decide +kernel))) rfl, mem_lwg (tp_3 _ (List.mem_of_getElem? (i := 1) (by decide +kernel))) rfl⟩
def M_X9_matters : MD := (yX9_matters, cX9_matters, 2, (some .boolean))
theorem mk_X9_matters : MKV M_X9_matters 1 := ⟨⟨mem_lwg (tb_1 _ (List.mem_of_getElem? (i := 1) (by decide +kernel))) rfl, mem_lwg (tb_4 _ (List.mem_of_getElem? (i := 116) (by decide +kernel))) rfl, by decide +kernel, by decide +kernel, by decide +kernel, by decide⟩, mem_lwg (tb_4 _ (List.mem_of_getElem? (i := 115) (by decide +kernel))) rfl, mem_lwg (tp_3 _ (List.mem_of_getElem? (i := 10) (by decide +kernel))) rfl⟩
def M_X9_isIn : MD := (yX9_isIn, cX9_isIn, 4, (some .boolean))
theorem mk_X9_isIn : MKV M_X9_isIn 2 := ⟨⟨mem_lwg (tb_1 _ (List.mem_of_getElem? (i := 1) (by decide +kernel))) rfl, mem_lwg (tb_4 _ (List.mem_of_getElem? (i := 42) (by decide +kernel))) rfl, by decide +kernel, by decide +kernel, by decide +kernel, by decide⟩, mem_lwg (tb_4 _ (List.mem_of_getElem? (i := 41) (by decide +kernel))) rfl, mem_lwg (tp_3 _ (List.mem_of_getElem? (i := 0) (by decide +kernel))) rfl⟩
def M_X9_count : MD := (yX9_count, cX9_count, 4, (some .int))
theorem mk_X9_count : MKV M_X9_count 1 := ⟨⟨mem_lwg (tb_1 _ (List.mem_of_getElem? (i := 1) (by decide +kernel))) rfl, mem_lwg (tb_4 _ (List.mem_of_getElem? (i := 64) (by decide +kernel))) rfl, by decide +kernel, by decide +kernel, by decide +kernel, by decide⟩, mem_lwg (tb_4 _ (List.mem_of_getElem? (i := 63) (by decide +kernel))) rfl, mem_lwg (tp_3 _ (List.mem_of_getElem? (i := 2) (by decide +kernel))) rfl⟩
def M_X9_countWeights : MD := (yX9_countWeights, cX9_countWeights, 4, (some .int))
theorem mk_X9_countWeights : MKV M_X9_countWeights 1 := ⟨⟨mem_lwg (tb_1 _ (List.mem_of_getElem? (i := 1) (by decide +kernel))) rfl, mem_lwg (tb_4 _ (List.mem_of_getElem? (i := 223) (by decide +kernel))) rfl, by decide +kernel, by decide +kernel, by decide +kernel, by decide⟩, mem_lwg (tb_4 _ (List.mem_of_getElem? (i := 222) (by decide +kernel))) rfl, mem_lwg (tp_3 _ (List.mem_of_getElem? (i := 15) (by decide +kernel))) rfl⟩
def M_X9_member : MD := (yX9_member, cX9_member, 5, (some .int))
theorem mk_X9_member : MKV M_X9_member 2 := ⟨⟨mem_lwg (tb_1 _ (List.mem_of_getElem? (i := 1) (by decide +kernel))) rfl, mem_lwg (tb_4 _ (List.mem_of_getElem? (i := 68) (by decide +kernel))) rfl, by decide +kernel, by decide +kernel, by decide +kernel, by decide⟩, mem_lwg (tb_4 _ (List.mem_of_getElem? (i := 67) (by decide +kernel))) rfl, mem_lwg (tp_3 _ (List.mem_of_getElem? (i := 3) (by decide +kernel))) rfl⟩
def M_X9_stateOf : MD := (yX9_stateOf, cX9_stateOf, 2, (some .int))
theorem mk_X9_stateOf : MKV M_X9_stateOf 1 := ⟨⟨mem_lwg (tb_1 _ (List.mem_of_getElem? (i := 1) (by decide +kernel))) rfl, mem_lwg (tb_4 _ (List.mem_of_getElem? (i := 16) (by decide +kernel))) rfl, by decide +kernel, by decide +kernel, by decide +kernel, by decide⟩, mem_lwg (tb_4 _ (List.mem_of_getElem? (i := 15) (by decide +kernel))) rfl, mem_lwg (tp_2 _ (List.mem_of_getElem? (i := 14) (by decide +kernel))) rfl⟩
def M_X9_buildScans : MD := (yX9_buildScans, cX9_buildScans, 1, none)
theorem mk_X9_buildScans : MKV M_X9_buildScans 0 := ⟨⟨mem_lwg (tb_1 _ (List.mem_of_getElem? (i := 1) (by decide +kernel))) rfl, mem_lwg (tb_3 _ (List.mem_of_getElem? (i := 208) (by decide +kernel))) rfl, by decide +kernel, by decide +kernel, by decide +kernel, by decide⟩, mem_lwg (tb_3 _ (List.mem_of_getElem? (i := 207) (by decide +kernel))) rfl, mem_lwg (tp_2 _ (List.mem_of_getElem? (i := 12) (by decide +kernel))) rfl⟩
def M_X9_weighPaths : MD := (yX9_weighPaths, cX9_weighPaths, 1, none)
theorem mk_X9_weighPaths : MKV M_X9_weighPaths 0 := ⟨⟨mem_lwg (tb_1 _ (List.mem_of_getElem? (i := 1) (by decide +kernel))) rfl, mem_lwg (tb_3 _ (List.mem_of_getElem? (i := 116) (by decide +kernel))) rfl, by decide +kernel, by decide +kernel, by decide +kernel, by decide⟩, mem_lwg (tb_3 _ (List.mem_of_getElem? (i := 115) (by decide +kernel))) rfl, mem_lwg (tp_2 _ (List.mem_of_getElem? (i := 4) (by decide +kernel))) rfl⟩
def M_X9_gatherWants : MD := (yX9_gatherWants, cX9_gatherWants, 1, none)
theorem mk_X9_gatherWants : MKV M_X9_gatherWants 0 := ⟨⟨mem_lwg (tb_1 _ (List.mem_of_getElem? (i := 1) (by decide +kernel))) rfl, mem_lwg (tb_3 _ (List.mem_of_getElem? (i := 112) (by decide +kernel))) rfl, by decide +kernel, by decide +kernel, by decide +kernel, by decide⟩, mem_lwg (tb_3 _ (List.mem_of_getElem? (i := 111) (by decide +kernel))) rfl, mem_lwg (tp_2 _ (List.mem_of_getElem? (i := 3) (by decide +kernel))) rfl⟩
def M_X9_findFewest : MD := (yX9_findFewest, cX9_findFewest, 1, none)
theorem mk_X9_findFewest : MKV M_X9_findFewest 0 := ⟨⟨mem_lwg (tb_1 _ (List.mem_of_getElem? (i := 1) (by decide +kernel))) rfl, mem_lwg (tb_3 _ (List.mem_of_getElem? (i := 108) (by decide +kernel))) rfl, by decide +kernel, by decide +kernel, by decide +kernel, by decide⟩, mem_lwg (tb_3 _ (List.mem_of_getElem? (i := 107) (by decide +kernel))) rfl, mem_lwg (tp_2 _ (List.mem_of_getElem? (i := 2) (by decide +kernel))) rfl⟩
def M_X9_findCogs : MD := (yX9_findCogs, cX9_findCogs, 1, none)
theorem mk_X9_findCogs : MKV M_X9_findCogs 0 := ⟨⟨mem_lwg (tb_1 _ (List.mem_of_getElem? (i := 1) (by decide +kernel))) rfl, mem_lwg (tb_3 _ (List.mem_of_getElem? (i := 167) (by decide +kernel))) rfl, by decide +kernel, by decide +kernel, by decide +kernel, by decide⟩, mem_lwg (tb_3 _ (List.mem_of_getElem? (i := 166) (by decide +kernel))) rfl, mem_lwg (tp_2 _ (List.mem_of_getElem? (i := 7) (by decide +kernel))) rfl⟩
def M_X9_pathsTold : MD := (yX9_pathsTold, cX9_pathsTold, 1, none)
theorem mk_X9_pathsTold : MKV M_X9_pathsTold 0 := ⟨⟨mem_lwg (tb_1 _ (List.mem_of_getElem? (i := 1) (by decide +kernel))) rfl, mem_lwg (tb_2 _ (List.mem_of_getElem? (i := 177) (by decide +kernel))) rfl, by decide +kernel, by decide +kernel, by decide +kernel, by decide⟩, mem_lwg (tb_2 _ (List.mem_of_getElem? (i := 176) (by decide +kernel))) rfl, mem_lwg (tp_1 _ (List.mem_of_getElem? (i := 2) (by decide +kernel))) rfl⟩
def M_X9_goneTold : MD := (yX9_goneTold, cX9_goneTold, 1, none)
theorem mk_X9_goneTold : MKV M_X9_goneTold 0 := ⟨⟨mem_lwg (tb_1 _ (List.mem_of_getElem? (i := 1) (by decide +kernel))) rfl, mem_lwg (tb_2 _ (List.mem_of_getElem? (i := 189) (by decide +kernel))) rfl, by decide +kernel, by decide +kernel, by decide +kernel, by decide⟩, mem_lwg (tb_2 _ (List.mem_of_getElem? (i := 188) (by decide +kernel))) rfl, mem_lwg (tp_1 _ (List.mem_of_getElem? (i := 4) (by decide +kernel))) rfl⟩
def M_X9_cycleTold : MD := (yX9_cycleTold, cX9_cycleTold, 1, none)
theorem mk_X9_cycleTold : MKV M_X9_cycleTold 0 := ⟨⟨mem_lwg (tb_1 _ (List.mem_of_getElem? (i := 1) (by decide +kernel))) rfl, mem_lwg (tb_2 _ (List.mem_of_getElem? (i := 185) (by decide +kernel))) rfl, by decide +kernel, by decide +kernel, by decide +kernel, by decide⟩, mem_lwg (tb_2 _ (List.mem_of_getElem? (i := 184) (by decide +kernel))) rfl, mem_lwg (tp_1 _ (List.mem_of_getElem? (i := 3) (by decide +kernel))) rfl⟩
def M_X9_searchesTold : MD := (yX9_searchesTold, cX9_searchesTold, 1, none)
theorem mk_X9_searchesTold : MKV M_X9_searchesTold 0 := ⟨⟨mem_lwg (tb_1 _ (List.mem_of_getElem? (i := 1) (by decide +kernel))) rfl, mem_lwg (tb_2 _ (List.mem_of_getElem? (i := 193) (by decide +kernel))) rfl, by decide +kernel, by decide +kernel, by decide +kernel, by decide⟩, mem_lwg (tb_2 _ (List.mem_of_getElem? (i := 192) (by decide +kernel))) rfl, mem_lwg (tp_1 _ (List.mem_of_getElem? (i := 5) (by decide +kernel))) rfl⟩
def M_X10_isIn : MD := (yX10_isIn, cX10_isIn, 4, (some .boolean))
theorem mk_X10_isIn : MKV M_X10_isIn 3 := ⟨⟨mem_lwg (tb_1 _ (List.mem_of_getElem? (i := 13) (by decide +kernel))) rfl, mem_lwg (tb_5 _ (List.mem_of_getElem? (i := 127) (by decide +kernel))) rfl, by decide +kernel, by decide +kernel, by decide +kernel, by decide⟩, mem_lwg (tb_5 _ (List.mem_of_getElem? (i := 126) (by decide +kernel))) rfl, mem_lwg (tp_4 _ (List.mem_of_getElem? (i := 9) (by decide +kernel))) rfl⟩
def M_X10_n : MD := (yX10_n, cX10_n, 1, (some .int))
theorem mk_X10_n : MKV M_X10_n 0 := ⟨⟨mem_lwg (tb_1 _ (List.mem_of_getElem? (i := 13) (by decide +kernel))) rfl, mem_lwg (tb_5 _ (List.mem_of_getElem? (i := 5) (by decide +kernel))) rfl, by decide +kernel, by decide +kernel, by decide +kernel, by decide⟩, mem_lwg (tb_5 _ (List.mem_of_getElem? (i := 4) (by decide +kernel))) rfl, mem_lwg (tp_4 _ (List.mem_of_getElem? (i := 3) (by decide +kernel))) rfl⟩
def M_X10_m : MD := (yX10_m, cX10_m, 1, (some .int))
theorem mk_X10_m : MKV M_X10_m 0 := ⟨⟨mem_lwg (tb_1 _ (List.mem_of_getElem? (i := 13) (by decide +kernel))) rfl, mem_lwg (tb_5 _ (List.mem_of_getElem? (i := 1) (by decide +kernel))) rfl, by decide +kernel, by decide +kernel, by decide +kernel, by decide⟩, mem_lwg (tb_5 _ (List.mem_of_getElem? (i := 0) (by decide +kernel))) rfl, mem_lwg (tp_4 _ (List.mem_of_getElem? (i := 2) (by decide +kernel))) rfl⟩
def M_X10_turnOf : MD := (yX10_turnOf, cX10_turnOf, 1, (some .int))
theorem mk_X10_turnOf : MKV M_X10_turnOf 0 := ⟨⟨mem_lwg (tb_1 _ (List.mem_of_getElem? (i := 13) (by decide +kernel))) rfl, mem_lwg (tb_5 _ (List.mem_of_getElem? (i := 21) (by decide +kernel))) rfl, by decide +kernel, by decide +kernel, by decide +kernel, by decide⟩, mem_lwg (tb_5 _ (List.mem_of_getElem? (i := 20) (by decide +kernel))) rfl, mem_lwg (tp_4 _ (List.mem_of_getElem? (i := 7) (by decide +kernel))) rfl⟩
def M_X10_follows : MD := (yX10_follows, cX10_follows, 1, (some .boolean))
theorem mk_X10_follows : MKV M_X10_follows 0 := ⟨⟨mem_lwg (tb_1 _ (List.mem_of_getElem? (i := 13) (by decide +kernel))) rfl, mem_lwg (tb_5 _ (List.mem_of_getElem? (i := 195) (by decide +kernel))) rfl, by decide +kernel, by decide +kernel, by decide +kernel, by decide⟩, mem_lwg (tb_5 _ (List.mem_of_getElem? (i := 194) (by decide +kernel))) rfl, mem_lwg (tp_5 _ (List.mem_of_getElem? (i := 2) (by decide +kernel))) rfl⟩
def M_X10_weightOf : MD := (yX10_weightOf, cX10_weightOf, 3, (some .int))
theorem mk_X10_weightOf : MKV M_X10_weightOf 2 := ⟨⟨mem_lwg (tb_1 _ (List.mem_of_getElem? (i := 13) (by decide +kernel))) rfl, mem_lwg (tb_6 _ (List.mem_of_getElem? (i := 67) (by decide +kernel))) rfl, by decide +kernel, by decide +kernel, by decide +kernel, by decide⟩, mem_lwg (tb_6 _ (List.mem_of_getElem? (i := 66) (by decide +kernel))) rfl, mem_lwg (tp_6 _ (List.mem_of_getElem? (i := 6) (by decide +kernel))) rfl⟩
def M_X10_lengthOf : MD := (yX10_lengthOf, cX10_lengthOf, 2, (some .int))
theorem mk_X10_lengthOf : MKV M_X10_lengthOf 1 := ⟨⟨mem_lwg (tb_1 _ (List.mem_of_getElem? (i := 13) (by decide +kernel))) rfl, mem_lwg (tb_5 _ (List.mem_of_getElem? (i := 163) (by decide +kernel))) rfl, by decide +kernel, by decide +kernel, by decide +kernel, by decide⟩, mem_lwg (tb_5 _ (List.mem_of_getElem? (i := 162) (by decide +kernel))) rfl, mem_lwg (tp_4 _ (List.mem_of_getElem? (i := 15) (by decide +kernel))) rfl⟩
def M_X10_stepOf : MD := (yX10_stepOf, cX10_stepOf, 3, (some .int))
theorem mk_X10_stepOf : MKV M_X10_stepOf 2 := ⟨⟨mem_lwg (tb_1 _ (List.mem_of_getElem? (i := 13) (by decide +kernel))) rfl, mem_lwg (tb_6 _ (List.mem_of_getElem? (i := 163) (by decide +kernel))) rfl, by decide +kernel, by decide +kernel, by decide +kernel, by decide⟩, mem_lwg (tb_6 _ (List.mem_of_getElem? (i := 162) (by decide +kernel))) rfl, mem_lwg (tp_7 _ (List.mem_of_getElem? (i := 8) (by decide +kernel))) rfl⟩
def M_X10_rowLong : MD := (yX10_rowLong, cX10_rowLong, 2, (some .int))
theorem mk_X10_rowLong : MKV M_X10_rowLong 1 := ⟨⟨mem_lwg (tb_1 _ (List.mem_of_getElem? (i := 13) (by decide +kernel))) rfl, mem_lwg (tb_6 _ (List.mem_of_getElem? (i := 155) (by decide +kernel))) rfl, by decide +kernel, by decide +kernel, by decide +kernel, by decide⟩, mem_lwg (tb_6 _ (List.mem_of_getElem? (i := 154) (by decide +kernel))) rfl, mem_lwg (tp_7 _ (List.mem_of_getElem? (i := 6) (by decide +kernel))) rfl⟩
def M_X10_rowOf : MD := (yX10_rowOf, cX10_rowOf, 3, (some .int))
theorem mk_X10_rowOf : MKV M_X10_rowOf 2 := ⟨⟨mem_lwg (tb_1 _ (List.mem_of_getElem? (i := 13) (by decide +kernel))) rfl, mem_lwg (tb_6 _ (List.mem_of_getElem? (i := 159) (by decide +kernel))) rfl, by decide +kernel, by decide +kernel, by decide +kernel, by decide⟩, mem_lwg (tb_6 _ (List.mem_of_getElem? (i := 158) (by decide +kernel))) rfl, mem_lwg (tp_7 _ (List.mem_of_getElem? (i := 7) (by decide +kernel))) rfl⟩
def M_X10_isPulse : MD := (yX10_isPulse, cX10_isPulse, 2, (some .boolean))
theorem mk_X10_isPulse : MKV M_X10_isPulse 1 := ⟨⟨mem_lwg (tb_1 _ (List.mem_of_getElem? (i := 13) (by decide +kernel))) rfl, mem_lwg (tb_5 _ (List.mem_of_getElem? (i := 143) (by decide +kernel))) rfl, by decide +kernel, by decide +kernel, by decide +kernel, by decide⟩, mem_lwg (tb_5 _ (List.mem_of_getElem? (i := 142) (by decide +kernel))) rfl, mem_lwg (tp_4 _ (List.mem_of_getElem? (i := 12) (by decide +kernel))) rfl⟩
def M_X10_isCounter : MD := (yX10_isCounter, cX10_isCounter, 2, (some .boolean))
theorem mk_X10_isCounter : MKV M_X10_isCounter 1 := ⟨⟨mem_lwg (tb_1 _ (List.mem_of_getElem? (i := 13) (by decide +kernel))) rfl, mem_lwg (tb_5 _ (List.mem_of_getElem? (i := 155) (by decide +kernel))) rfl, by decide +kernel, by decide +kernel, by decide +kernel, by decide⟩, mem_lwg (tb_5 _ (List.mem_of_getElem? (i := 154) (by decide +kernel))) rfl, mem_lwg (tp_4 _ (List.mem_of_getElem? (i := 13) (by decide +kernel))) rfl⟩
def M_X10_mayFollow : MD := (yX10_mayFollow, cX10_mayFollow, 5, (some .boolean))
theorem mk_X10_mayFollow : MKV M_X10_mayFollow 3 := ⟨⟨mem_lwg (tb_1 _ (List.mem_of_getElem? (i := 13) (by decide +kernel))) rfl, mem_lwg (tb_5 _ (List.mem_of_getElem? (i := 13) (by decide +kernel))) rfl, by decide +kernel, by decide +kernel, by decide +kernel, by decide⟩, mem_lwg (tb_5 _ (List.mem_of_getElem? (i := 12) (by decide +kernel))) rfl, mem_lwg (tp_4 _ (List.mem_of_getElem? (i := 5) (by decide +kernel))) rfl⟩
def M_X10_orderOf : MD := (yX10_orderOf, cX10_orderOf, 3, (some .int))
theorem mk_X10_orderOf : MKV M_X10_orderOf 2 := ⟨⟨mem_lwg (tb_1 _ (List.mem_of_getElem? (i := 13) (by decide +kernel))) rfl, mem_lwg (tb_5 _ (List.mem_of_getElem? (i := 9) (by decide +kernel))) rfl, by decide +kernel, by decide +kernel, by decide +kernel, by decide⟩, mem_lwg (tb_5 _ (List.mem_of_getElem? (i := 8) (by decide +kernel))) rfl, mem_lwg (tp_4 _ (List.mem_of_getElem? (i := 4) (by decide +kernel))) rfl⟩
def M_X10_changeOf : MD := (yX10_changeOf, cX10_changeOf, 3, (some .int))
theorem mk_X10_changeOf : MKV M_X10_changeOf 2 := ⟨⟨mem_lwg (tb_1 _ (List.mem_of_getElem? (i := 13) (by decide +kernel))) rfl, mem_lwg (tb_6 _ (List.mem_of_getElem? (i := 59) (by decide +kernel))) rfl, by decide +kernel, by decide +kernel, by decide +kernel, by decide⟩, mem_lwg (tb_6 _ (List.mem_of_getElem? (i := 58) (by decide +kernel))) rfl, mem_lwg (tp_6 _ (List.mem_of_getElem? (i := 4) (by decide +kernel))) rfl⟩
def M_X10_laysPaths : MD := (yX10_laysPaths, cX10_laysPaths, 8, none)
theorem mk_X10_laysPaths : MKV M_X10_laysPaths 0 := ⟨⟨mem_lwg (tb_1 _ (List.mem_of_getElem? (i := 13) (by decide +kernel))) rfl, mem_lwg (tb_4 _ (List.mem_of_getElem? (i := 237) (by decide +kernel))) rfl, by decide +kernel, by decide +kernel, by decide +kernel, by decide⟩, mem_lwg (tb_4 _ (List.mem_of_getElem? (i := 236) (by decide +kernel))) rfl, mem_lwg (tp_4 _ (List.mem_of_getElem? (i := 1) (by decide +kernel))) rfl⟩
def M_X10_init : MD := (yX10_init, cX10_init, 1, none)
theorem mk_X10_init : MKI M_X10_init 0 := ⟨⟨mem_lwg (tb_1 _ (List.mem_of_getElem? (i := 13) (by decide +kernel))) rfl, mem_lwg (tb_4 _ (List.mem_of_getElem? (i := 232) (by decide +kernel))) rfl, by decide +kernel, by decide +kernel, by decide +kernel, by decide⟩, mem_lwg (tb_4 _ (List.mem_of_getElem? (i := 231) (by decide +kernel))) rfl, rfl, rfl⟩
def M_X10_isPath : MD := (yX10_isPath, cX10_isPath, 2, (some .boolean))
theorem mk_X10_isPath : MKV M_X10_isPath 1 := ⟨⟨mem_lwg (tb_1 _ (List.mem_of_getElem? (i := 13) (by decide +kernel))) rfl, mem_lwg (tb_5 _ (List.mem_of_getElem? (i := 207) (by decide +kernel))) rfl, by decide +kernel, by decide +kernel, by decide +kernel, by decide⟩, mem_lwg (tb_5 _ (List.mem_of_getElem? (i := 206) (by decide +kernel))) rfl, mem_lwg (tp_5 _ (List.mem_of_getElem? (i := 4) (by decide +kernel))) rfl⟩
def M_X10_isWished : MD := (yX10_isWished, cX10_isWished, 2, (some .boolean))
theorem mk_X10_isWished : MKV M_X10_isWished 1 := ⟨⟨mem_lwg (tb_1 _ (List.mem_of_getElem? (i := 13) (by decide +kernel))) rfl, mem_lwg (tb_6 _ (List.mem_of_getElem? (i := 39) (by decide +kernel))) rfl, by decide +kernel, by decide +kernel, by decide +kernel, by decide⟩, mem_lwg (tb_6 _ (List.mem_of_getElem? (i := 38) (by decide +kernel))) rfl, mem_lwg (tp_5 _ (List.mem_of_getElem? (i := 15) (by decide +kernel))) rfl⟩
def M_X10_isFree : MD := (yX10_isFree, cX10_isFree, 2, (some .boolean))
theorem mk_X10_isFree : MKV M_X10_isFree 1 := ⟨⟨mem_lwg (tb_1 _ (List.mem_of_getElem? (i := 13) (by decide +kernel))) rfl, mem_lwg (tb_6 _ (List.mem_of_getElem? (i := 211) (by decide +kernel))) rfl, by decide +kernel, by decide +kernel, by decide +kernel, by decide⟩, mem_lwg (tb_6 _ (List.mem_of_getElem? (i := 210) (by decide +kernel))) rfl, mem_lwg (tp_8 _ (List.mem_of_getElem? (i := 1) (by decide +kernel))) rfl⟩
def M_X10_chief : MD := (yX10_chief, cX10_chief, 2, (some .int))
theorem mk_X10_chief : MKV M_X10_chief 0 := ⟨⟨mem_lwg (tb_1 _ (List.mem_of_getElem? (i := 13) (by decide +kernel))) rfl, mem_lwg (tb_6 _ (List.mem_of_getElem? (i := 35) (by decide +kernel))) rfl, by decide +kernel, by decide +kernel, by decide +kernel, by decide⟩, mem_lwg (tb_6 _ (List.mem_of_getElem? (i := 34) (by decide +kernel))) rfl, mem_lwg (tp_5 _ (List.mem_of_getElem? (i := 14) (by decide +kernel))) rfl⟩
def M_X10_isSpoiled : MD := (yX10_isSpoiled, cX10_isSpoiled, 4, (some .boolean))
theorem mk_X10_isSpoiled : MKV M_X10_isSpoiled 1 := ⟨⟨mem_lwg (tb_1 _ (List.mem_of_getElem? (i := 13) (by decide +kernel))) rfl, mem_lwg (tb_6 _ (List.mem_of_getElem? (i := 51) (by decide +kernel))) rfl, by decide +kernel, by decide +kernel, by decide +kernel, by decide⟩, mem_lwg (tb_6 _ (List.mem_of_getElem? (i := 50) (by decide +kernel))) rfl, mem_lwg (tp_6 _ (List.mem_of_getElem? (i := 2) (by decide +kernel))) rfl⟩
def M_X10_size : MD := (yX10_size, cX10_size, 2, (some .int))
theorem mk_X10_size : MKV M_X10_size 1 := ⟨⟨mem_lwg (tb_1 _ (List.mem_of_getElem? (i := 13) (by decide +kernel))) rfl, mem_lwg (tb_6 _ (List.mem_of_getElem? (i := 63) (by decide +kernel))) rfl, by decide +kernel, by decide +kernel, by decide +kernel, by decide⟩, mem_lwg (tb_6 _ (List.mem_of_getElem? (i := 62) (by decide +kernel))) rfl, mem_lwg (tp_6 _ (List.mem_of_getElem? (i := 5) (by decide +kernel))) rfl⟩
def M_X10_weighs : MD := (yX10_weighs, cX10_weighs, 4, (some .int))
theorem mk_X10_weighs : MKV M_X10_weighs 1 := ⟨⟨mem_lwg (tb_1 _ (List.mem_of_getElem? (i := 13) (by decide +kernel))) rfl, mem_lwg (tb_6 _ (List.mem_of_getElem? (i := 55) (by decide +kernel))) rfl, by decide +kernel, by decide +kernel, by decide +kernel, by decide⟩, mem_lwg (tb_6 _ (List.mem_of_getElem? (i := 54) (by decide +kernel))) rfl, mem_lwg (tp_6 _ (List.mem_of_getElem? (i := 3) (by decide +kernel))) rfl⟩
def M_X10_isGone : MD := (yX10_isGone, cX10_isGone, 2, (some .boolean))
theorem mk_X10_isGone : MKV M_X10_isGone 1 := ⟨⟨mem_lwg (tb_1 _ (List.mem_of_getElem? (i := 13) (by decide +kernel))) rfl, mem_lwg (tb_6 _ (List.mem_of_getElem? (i := 47) (by decide +kernel))) rfl, by decide +kernel, by decide +kernel, by decide +kernel, by decide⟩, mem_lwg (tb_6 _ (List.mem_of_getElem? (i := 46) (by decide +kernel))) rfl, mem_lwg (tp_6 _ (List.mem_of_getElem? (i := 1) (by decide +kernel))) rfl⟩
def M_X10_wishesNothing : MD := (yX10_wishesNothing, cX10_wishesNothing, 2, none)
theorem mk_X10_wishesNothing : MKV M_X10_wishesNothing 0 := ⟨⟨mem_lwg (tb_1 _ (List.mem_of_getElem? (i := 13) (by decide +kernel))) rfl, mem_lwg (tb_5 _ (List.mem_of_getElem? (i := 135) (by decide +kernel))) rfl, by decide +kernel, by decide +kernel, by decide +kernel, by decide⟩, mem_lwg (tb_5 _ (List.mem_of_getElem? (i := 134) (by decide +kernel))) rfl, mem_lwg (tp_4 _ (List.mem_of_getElem? (i := 11) (by decide +kernel))) rfl⟩
def M_X10_clearsCycle : MD := (yX10_clearsCycle, cX10_clearsCycle, 2, none)
theorem mk_X10_clearsCycle : MKV M_X10_clearsCycle 0 := ⟨⟨mem_lwg (tb_1 _ (List.mem_of_getElem? (i := 13) (by decide +kernel))) rfl, mem_lwg (tb_5 _ (List.mem_of_getElem? (i := 131) (by decide +kernel))) rfl, by decide +kernel, by decide +kernel, by decide +kernel, by decide⟩, mem_lwg (tb_5 _ (List.mem_of_getElem? (i := 130) (by decide +kernel))) rfl, mem_lwg (tp_4 _ (List.mem_of_getElem? (i := 10) (by decide +kernel))) rfl⟩
def M_X10_pulses : MD := (yX10_pulses, cX10_pulses, 4, (some .int))
theorem mk_X10_pulses : MKV M_X10_pulses 2 := ⟨⟨mem_lwg (tb_1 _ (List.mem_of_getElem? (i := 13) (by decide +kernel))) rfl, mem_lwg (tb_5 _ (List.mem_of_getElem? (i := 123) (by decide +kernel))) rfl, by decide +kernel, by decide +kernel, by decide +kernel, by decide⟩, mem_lwg (tb_5 _ (List.mem_of_getElem? (i := 121) (by decide +kernel))) rfl, mem_lwg (tb_5 _ (List.mem_of_getElem? (i := 122) (by decide +kernel))) rfl⟩
def M_X10_kind : MD := (yX10_kind, cX10_kind, 3, (some .boolean))
theorem mk_X10_kind : MKV M_X10_kind 2 := ⟨⟨mem_lwg (tb_1 _ (List.mem_of_getElem? (i := 13) (by decide +kernel))) rfl, mem_lwg (tb_5 _ (List.mem_of_getElem? (i := 139) (by decide +kernel))) rfl, by decide +kernel, by decide +kernel, by decide +kernel, by decide⟩, mem_lwg (tb_5 _ (List.mem_of_getElem? (i := 137) (by decide +kernel))) rfl, mem_lwg (tb_5 _ (List.mem_of_getElem? (i := 138) (by decide +kernel))) rfl⟩
def M_X10_turn : MD := (yX10_turn, cX10_turn, 2, (some .boolean))
theorem mk_X10_turn : MKV M_X10_turn 1 := ⟨⟨mem_lwg (tb_1 _ (List.mem_of_getElem? (i := 13) (by decide +kernel))) rfl, mem_lwg (tb_5 _ (List.mem_of_getElem? (i := 147) (by decide +kernel))) rfl, by decide +kernel, by decide +kernel, by decide +kernel, by decide⟩, mem_lwg (tb_5 _ (List.mem_of_getElem? (i := 145) (by decide +kernel))) rfl, mem_lwg (tb_5 _ (List.mem_of_getElem? (i := 146) (by decide +kernel))) rfl⟩
def M_X10_scans : MD := (yX10_scans, cX10_scans, 3, (some .int))
theorem mk_X10_scans : MKV M_X10_scans 0 := ⟨⟨mem_lwg (tb_1 _ (List.mem_of_getElem? (i := 13) (by decide +kernel))) rfl, mem_lwg (tb_5 _ (List.mem_of_getElem? (i := 159) (by decide +kernel))) rfl, by decide +kernel, by decide +kernel, by decide +kernel, by decide⟩, mem_lwg (tb_5 _ (List.mem_of_getElem? (i := 158) (by decide +kernel))) rfl, mem_lwg (tp_4 _ (List.mem_of_getElem? (i := 14) (by decide +kernel))) rfl⟩
def M_X10_counter : MD := (yX10_counter, cX10_counter, 3, (some .int))
theorem mk_X10_counter : MKV M_X10_counter 2 := ⟨⟨mem_lwg (tb_1 _ (List.mem_of_getElem? (i := 13) (by decide +kernel))) rfl, mem_lwg (tb_5 _ (List.mem_of_getElem? (i := 151) (by decide +kernel))) rfl, by decide +kernel, by decide +kernel, by decide +kernel, by decide⟩, mem_lwg (tb_5 _ (List.mem_of_getElem? (i := 149) (by decide +kernel))) rfl, mem_lwg (tb_5 _ (List.mem_of_getElem? (i := 150) (by decide +kernel))) rfl⟩
def M_X10_isSource : MD := (yX10_isSource, cX10_isSource, 2, (some .boolean))
theorem mk_X10_isSource : MKV M_X10_isSource 1 := ⟨⟨mem_lwg (tb_1 _ (List.mem_of_getElem? (i := 13) (by decide +kernel))) rfl, mem_lwg (tb_5 _ (List.mem_of_getElem? (i := 171) (by decide +kernel))) rfl, by decide +kernel, by decide +kernel, by decide +kernel, by decide⟩, mem_lwg (tb_5 _ (List.mem_of_getElem? (i := 170) (by decide +kernel))) rfl, mem_lwg (tp_5 _ (List.mem_of_getElem? (i := 0) (by decide +kernel))) rfl⟩
def M_X10_step : MD := (yX10_step, cX10_step, 4, (some .boolean))
theorem mk_X10_step : MKV M_X10_step 3 := ⟨⟨mem_lwg (tb_1 _ (List.mem_of_getElem? (i := 13) (by decide +kernel))) rfl, mem_lwg (tb_5 _ (List.mem_of_getElem? (i := 167) (by decide +kernel))) rfl, by decide +kernel, by decide +kernel, by decide +kernel, by decide⟩, mem_lwg (tb_5 _ (List.mem_of_getElem? (i := 165) (by decide +kernel))) rfl, mem_lwg (tb_5 _ (List.mem_of_getElem? (i := 166) (by decide +kernel))) rfl⟩
def M_X10_gradient : MD := (yX10_gradient, cX10_gradient, 3, (some .boolean))
theorem mk_X10_gradient : MKV M_X10_gradient 2 := ⟨⟨mem_lwg (tb_1 _ (List.mem_of_getElem? (i := 13) (by decide +kernel))) rfl, mem_lwg (tb_5 _ (List.mem_of_getElem? (i := 175) (by decide +kernel))) rfl, by decide +kernel, by decide +kernel, by decide +kernel, by decide⟩, mem_lwg (tb_5 _ (List.mem_of_getElem? (i := 173) (by decide +kernel))) rfl, mem_lwg (tb_5 _ (List.mem_of_getElem? (i := 174) (by decide +kernel))) rfl⟩
def M_X10_weight : MD := (yX10_weight, cX10_weight, 4, (some .boolean))
theorem mk_X10_weight : MKV M_X10_weight 3 := ⟨⟨mem_lwg (tb_1 _ (List.mem_of_getElem? (i := 13) (by decide +kernel))) rfl, mem_lwg (tb_5 _ (List.mem_of_getElem? (i := 179) (by decide +kernel))) rfl, by decide +kernel, by decide +kernel, by decide +kernel, by decide⟩, mem_lwg (tb_5 _ (List.mem_of_getElem? (i := 177) (by decide +kernel))) rfl, mem_lwg (tb_5 _ (List.mem_of_getElem? (i := 178) (by decide +kernel))) rfl⟩
def M_X10_swaps : MD := (yX10_swaps, cX10_swaps, 4, none)
theorem mk_X10_swaps : MKV M_X10_swaps 2 := ⟨⟨mem_lwg (tb_1 _ (List.mem_of_getElem? (i := 13) (by decide +kernel))) rfl, mem_lwg (tb_5 _ (List.mem_of_getElem? (i := 187) (by decide +kernel))) rfl, by decide +kernel, by decide +kernel, by decide +kernel, by decide⟩, mem_lwg (tb_5 _ (List.mem_of_getElem? (i := 186) (by decide +kernel))) rfl, mem_lwg (tp_5 _ (List.mem_of_getElem? (i := 1) (by decide +kernel))) rfl⟩
def M_X10_swap : MD := (yX10_swap, cX10_swap, 4, (some .boolean))
theorem mk_X10_swap : MKV M_X10_swap 2 := ⟨⟨mem_lwg (tb_1 _ (List.mem_of_getElem? (i := 13) (by decide +kernel))) rfl, mem_lwg (tb_5 _ (List.mem_of_getElem? (i := 183) (by decide +kernel))) rfl, by decide +kernel, by decide +kernel, by decide +kernel, by decide⟩, mem_lwg (tb_5 _ (List.mem_of_getElem? (i := 181) (by decide +kernel))) rfl, mem_lwg (tb_5 _ (List.mem_of_getElem? (i := 182) (by decide +kernel))) rfl⟩
def M_X10_follow : MD := (yX10_follow, cX10_follow, 2, (some .boolean))
theorem mk_X10_follow : MKV M_X10_follow 1 := ⟨⟨mem_lwg (tb_1 _ (List.mem_of_getElem? (i := 13) (by decide +kernel))) rfl, mem_lwg (tb_5 _ (List.mem_of_getElem? (i := 191) (by decide +kernel))) rfl, by decide +kernel, by decide +kernel, by decide +kernel, by decide⟩, mem_lwg (tb_5 _ (List.mem_of_getElem? (i := 189) (by decide +kernel))) rfl, mem_lwg (tb_5 _ (List.mem_of_getElem? (i := 190) (by decide +kernel))) rfl⟩
def M_X10_becomes : MD := (yX10_becomes, cX10_becomes, 4, (some .boolean))
theorem mk_X10_becomes : MKV M_X10_becomes 3 := ⟨⟨mem_lwg (tb_1 _ (List.mem_of_getElem? (i := 13) (by decide +kernel))) rfl, mem_lwg (tb_5 _ (List.mem_of_getElem? (i := 203) (by decide +kernel))) rfl, by decide +kernel, by decide +kernel, by decide +kernel, by decide⟩, mem_lwg (tb_5 _ (List.mem_of_getElem? (i := 202) (by decide +kernel))) rfl, mem_lwg (tp_5 _ (List.mem_of_getElem? (i := 3) (by decide +kernel))) rfl⟩
def M_X10_wish : MD := (yX10_wish, cX10_wish, 3, (some .boolean))
theorem mk_X10_wish : MKV M_X10_wish 2 := ⟨⟨mem_lwg (tb_1 _ (List.mem_of_getElem? (i := 13) (by decide +kernel))) rfl, mem_lwg (tb_5 _ (List.mem_of_getElem? (i := 199) (by decide +kernel))) rfl, by decide +kernel, by decide +kernel, by decide +kernel, by decide⟩, mem_lwg (tb_5 _ (List.mem_of_getElem? (i := 197) (by decide +kernel))) rfl, mem_lwg (tb_5 _ (List.mem_of_getElem? (i := 198) (by decide +kernel))) rfl⟩
def M_X10_free : MD := (yX10_free, cX10_free, 3, (some .boolean))
theorem mk_X10_free : MKV M_X10_free 2 := ⟨⟨mem_lwg (tb_1 _ (List.mem_of_getElem? (i := 13) (by decide +kernel))) rfl, mem_lwg (tb_5 _ (List.mem_of_getElem? (i := 211) (by decide +kernel))) rfl, by decide +kernel, by decide +kernel, by decide +kernel, by decide⟩, mem_lwg (tb_5 _ (List.mem_of_getElem? (i := 209) (by decide +kernel))) rfl, mem_lwg (tb_5 _ (List.mem_of_getElem? (i := 210) (by decide +kernel))) rfl⟩
def M_X10_freeAll : MD := (yX10_freeAll, cX10_freeAll, 5, (some .int))
theorem mk_X10_freeAll : MKV M_X10_freeAll 2 := ⟨⟨mem_lwg (tb_1 _ (List.mem_of_getElem? (i := 13) (by decide +kernel))) rfl, mem_lwg (tb_5 _ (List.mem_of_getElem? (i := 215) (by decide +kernel))) rfl, by decide +kernel, by decide +kernel, by decide +kernel, by decide⟩, mem_lwg (tb_5 _ (List.mem_of_getElem? (i := 213) (by decide +kernel))) rfl, mem_lwg (tb_5 _ (List.mem_of_getElem? (i := 214) (by decide +kernel))) rfl⟩
def M_X10_types : MD := (yX10_types, cX10_types, 3, none)
theorem mk_X10_types : MKV M_X10_types 1 := ⟨⟨mem_lwg (tb_1 _ (List.mem_of_getElem? (i := 13) (by decide +kernel))) rfl, mem_lwg (tb_5 _ (List.mem_of_getElem? (i := 223) (by decide +kernel))) rfl, by decide +kernel, by decide +kernel, by decide +kernel, by decide⟩, mem_lwg (tb_5 _ (List.mem_of_getElem? (i := 222) (by decide +kernel))) rfl, mem_lwg (tp_5 _ (List.mem_of_getElem? (i := 5) (by decide +kernel))) rfl⟩
def M_X10_feed : MD := (yX10_feed, cX10_feed, 6, (some .int))
theorem mk_X10_feed : MKV M_X10_feed 5 := ⟨⟨mem_lwg (tb_1 _ (List.mem_of_getElem? (i := 13) (by decide +kernel))) rfl, mem_lwg (tb_5 _ (List.mem_of_getElem? (i := 219) (by decide +kernel))) rfl, by decide +kernel, by decide +kernel, by decide +kernel, by decide⟩, mem_lwg (tb_5 _ (List.mem_of_getElem? (i := 217) (by decide +kernel))) rfl, mem_lwg (tb_5 _ (List.mem_of_getElem? (i := 218) (by decide +kernel))) rfl⟩
def M_X10_end : MD := (yX10_end, cX10_end, 2, (some .boolean))
theorem mk_X10_end : MKV M_X10_end 1 := ⟨⟨mem_lwg (tb_1 _ (List.mem_of_getElem? (i := 13) (by decide +kernel))) rfl, mem_lwg (tb_5 _ (List.mem_of_getElem? (i := 227) (by decide +kernel))) rfl, by decide +kernel, by decide +kernel, by decide +kernel, by decide⟩, mem_lwg (tb_5 _ (List.mem_of_getElem? (i := 225) (by decide +kernel))) rfl, mem_lwg (tb_5 _ (List.mem_of_getElem? (i := 226) (by decide +kernel))) rfl⟩
def M_X10_here : MD := (yX10_here, cX10_here, 1, (some .int))
theorem mk_X10_here : MKV M_X10_here 0 := ⟨⟨mem_lwg (tb_1 _ (List.mem_of_getElem? (i := 13) (by decide +kernel))) rfl, mem_lwg (tb_5 _ (List.mem_of_getElem? (i := 239) (by decide +kernel))) rfl, by decide +kernel, by decide +kernel, by decide +kernel, by decide⟩, mem_lwg (tb_5 _ (List.mem_of_getElem? (i := 238) (by decide +kernel))) rfl, mem_lwg (tp_5 _ (List.mem_of_getElem? (i := 7) (by decide +kernel))) rfl⟩
def M_X10_behindBlanks : MD := (yX10_behindBlanks, cX10_behindBlanks, 1, (some .int))
theorem mk_X10_behindBlanks : MKV M_X10_behindBlanks 0 := ⟨⟨mem_lwg (tb_1 _ (List.mem_of_getElem? (i := 13) (by decide +kernel))) rfl, mem_lwg (tb_5 _ (List.mem_of_getElem? (i := 235) (by decide +kernel))) rfl, by decide +kernel, by decide +kernel, by decide +kernel, by decide⟩, mem_lwg (tb_5 _ (List.mem_of_getElem? (i := 234) (by decide +kernel))) rfl, mem_lwg (tp_5 _ (List.mem_of_getElem? (i := 6) (by decide +kernel))) rfl⟩
def M_X10_isDigit : MD := (yX10_isDigit, cX10_isDigit, 2, (some .boolean))
theorem mk_X10_isDigit : MKV M_X10_isDigit 1 := ⟨⟨mem_lwg (tb_1 _ (List.mem_of_getElem? (i := 13) (by decide +kernel))) rfl, mem_lwg (tb_6 _ (List.mem_of_getElem? (i := 15) (by decide +kernel))) rfl, by decide +kernel, by decide +kernel, by decide +kernel, by decide⟩, mem_lwg (tb_6 _ (List.mem_of_getElem? (i := 14) (by decide +kernel))) rfl, mem_lwg (tp_5 _ (List.mem_of_getElem? (i := 11) (by decide +kernel))) rfl⟩
def M_X10_errs : MD := (yX10_errs, cX10_errs, 3, (some .boolean))
theorem mk_X10_errs : MKV M_X10_errs 2 := ⟨⟨mem_lwg (tb_1 _ (List.mem_of_getElem? (i := 13) (by decide +kernel))) rfl, mem_lwg (tb_6 _ (List.mem_of_getElem? (i := 11) (by decide +kernel))) rfl, by decide +kernel, by decide +kernel, by decide +kernel, by decide⟩, mem_lwg (tb_6 _ (List.mem_of_getElem? (i := 10) (by decide +kernel))) rfl, mem_lwg (tp_5 _ (List.mem_of_getElem? (i := 10) (by decide +kernel))) rfl⟩
def M_X10_readName : MD := (yX10_readName, cX10_readName, 3, (some .int))
theorem mk_X10_readName : MKV M_X10_readName 0 := ⟨⟨mem_lwg (tb_1 _ (List.mem_of_getElem? (i := 13) (by decide +kernel))) rfl, mem_lwg (tb_6 _ (List.mem_of_getElem? (i := 7) (by decide +kernel))) rfl, by decide +kernel, by decide +kernel, by decide +kernel, by decide⟩, mem_lwg (tb_6 _ (List.mem_of_getElem? (i := 6) (by decide +kernel))) rfl, mem_lwg (tp_5 _ (List.mem_of_getElem? (i := 9) (by decide +kernel))) rfl⟩
def M_X10_readLine : MD := (yX10_readLine, cX10_readLine, 5, (some .boolean))
theorem mk_X10_readLine : MKV M_X10_readLine 0 := ⟨⟨mem_lwg (tb_1 _ (List.mem_of_getElem? (i := 13) (by decide +kernel))) rfl, mem_lwg (tb_6 _ (List.mem_of_getElem? (i := 3) (by decide +kernel))) rfl, by decide +kernel, by decide +kernel, by decide +kernel, by decide⟩, mem_lwg (tb_6 _ (List.mem_of_getElem? (i := 2) (by decide +kernel))) rfl, mem_lwg (tp_5 _ (List.mem_of_getElem? (i := 8) (by decide +kernel))) rfl⟩
def M_X10_rows : MD := (yX10_rows, cX10_rows, 4, (some .int))
theorem mk_X10_rows : MKV M_X10_rows 0 := ⟨⟨mem_lwg (tb_1 _ (List.mem_of_getElem? (i := 13) (by decide +kernel))) rfl, mem_lwg (tb_5 _ (List.mem_of_getElem? (i := 231) (by decide +kernel))) rfl, by decide +kernel, by decide +kernel, by decide +kernel, by decide⟩, mem_lwg (tb_5 _ (List.mem_of_getElem? (i := 229) (by decide +kernel))) rfl, mem_lwg (tb_5 _ (List.mem_of_getElem? (i := 230) (by decide +kernel))) rfl⟩
def M_X10_fault : MD := (yX10_fault, cX10_fault, 2, (some .int))
theorem mk_X10_fault : MKV M_X10_fault 1 := ⟨⟨mem_lwg (tb_1 _ (List.mem_of_getElem? (i := 13) (by decide +kernel))) rfl, mem_lwg (tb_6 _ (List.mem_of_getElem? (i := 19) (by decide +kernel))) rfl, by decide +kernel, by decide +kernel, by decide +kernel, by decide⟩, mem_lwg (tb_6 _ (List.mem_of_getElem? (i := 17) (by decide +kernel))) rfl, mem_lwg (tb_6 _ (List.mem_of_getElem? (i := 18) (by decide +kernel))) rfl⟩
def M_X10_rest : MD := (yX10_rest, cX10_rest, 3, (some .int))
theorem mk_X10_rest : MKV M_X10_rest 1 := ⟨⟨mem_lwg (tb_1 _ (List.mem_of_getElem? (i := 13) (by decide +kernel))) rfl, mem_lwg (tb_6 _ (List.mem_of_getElem? (i := 167) (by decide +kernel))) rfl, by decide +kernel, by decide +kernel, by decide +kernel, by decide⟩, mem_lwg (tb_6 _ (List.mem_of_getElem? (i := 166) (by decide +kernel))) rfl, mem_lwg (tp_7 _ (List.mem_of_getElem? (i := 9) (by decide +kernel))) rfl⟩
def M_X10_ownPhase : MD := (yX10_ownPhase, cX10_ownPhase, 6, (some .int))
theorem mk_X10_ownPhase : MKV M_X10_ownPhase 2 := ⟨⟨mem_lwg (tb_1 _ (List.mem_of_getElem? (i := 13) (by decide +kernel))) rfl, mem_lwg (tb_6 _ (List.mem_of_getElem? (i := 151) (by decide +kernel))) rfl, by decide +kernel, by decide +kernel, by decide +kernel, by decide⟩, mem_lwg (tb_6 _ (List.mem_of_getElem? (i := 150) (by decide +kernel))) rfl, mem_lwg (tp_7 _ (List.mem_of_getElem? (i := 5) (by decide +kernel))) rfl⟩
def M_X10_laysPhases : MD := (yX10_laysPhases, cX10_laysPhases, 5, none)
theorem mk_X10_laysPhases : MKV M_X10_laysPhases 0 := ⟨⟨mem_lwg (tb_1 _ (List.mem_of_getElem? (i := 13) (by decide +kernel))) rfl, mem_lwg (tb_6 _ (List.mem_of_getElem? (i := 147) (by decide +kernel))) rfl, by decide +kernel, by decide +kernel, by decide +kernel, by decide⟩, mem_lwg (tb_6 _ (List.mem_of_getElem? (i := 146) (by decide +kernel))) rfl, mem_lwg (tp_7 _ (List.mem_of_getElem? (i := 4) (by decide +kernel))) rfl⟩
def M_X10_residueOf : MD := (yX10_residueOf, cX10_residueOf, 5, (some .int))
theorem mk_X10_residueOf : MKV M_X10_residueOf 2 := ⟨⟨mem_lwg (tb_1 _ (List.mem_of_getElem? (i := 13) (by decide +kernel))) rfl, mem_lwg (tb_6 _ (List.mem_of_getElem? (i := 175) (by decide +kernel))) rfl, by decide +kernel, by decide +kernel, by decide +kernel, by decide⟩, mem_lwg (tb_6 _ (List.mem_of_getElem? (i := 174) (by decide +kernel))) rfl, mem_lwg (tp_7 _ (List.mem_of_getElem? (i := 10) (by decide +kernel))) rfl⟩
def M_X10_laysPrimitive : MD := (yX10_laysPrimitive, cX10_laysPrimitive, 4, none)
theorem mk_X10_laysPrimitive : MKV M_X10_laysPrimitive 0 := ⟨⟨mem_lwg (tb_1 _ (List.mem_of_getElem? (i := 13) (by decide +kernel))) rfl, mem_lwg (tb_5 _ (List.mem_of_getElem? (i := 17) (by decide +kernel))) rfl, by decide +kernel, by decide +kernel, by decide +kernel, by decide⟩, mem_lwg (tb_5 _ (List.mem_of_getElem? (i := 16) (by decide +kernel))) rfl, mem_lwg (tp_4 _ (List.mem_of_getElem? (i := 6) (by decide +kernel))) rfl⟩
def M_X10_dividesBy : MD := (yX10_dividesBy, cX10_dividesBy, 8, (some .int))
theorem mk_X10_dividesBy : MKV M_X10_dividesBy 2 := ⟨⟨mem_lwg (tb_1 _ (List.mem_of_getElem? (i := 13) (by decide +kernel))) rfl, mem_lwg (tb_5 _ (List.mem_of_getElem? (i := 26) (by decide +kernel))) rfl, by decide +kernel, by decide +kernel, by decide +kernel, by decide⟩, mem_lwg (tb_5 _ (List.mem_of_getElem? (i := 25) (by decide +kernel))) rfl, mem_lwg (tp_4 _ (List.mem_of_getElem? (i := 8) (by decide +kernel))) rfl⟩
def M_X10_isNothing : MD := (yX10_isNothing, cX10_isNothing, 6, (some .boolean))
theorem mk_X10_isNothing : MKV M_X10_isNothing 0 := ⟨⟨mem_lwg (tb_1 _ (List.mem_of_getElem? (i := 13) (by decide +kernel))) rfl, mem_lwg (tb_6 _ (List.mem_of_getElem? (i := 199) (by decide +kernel))) rfl, by decide +kernel, by decide +kernel, by decide +kernel, by decide⟩, mem_lwg (tb_6 _ (List.mem_of_getElem? (i := 198) (by decide +kernel))) rfl, mem_lwg (tp_7 _ (List.mem_of_getElem? (i := 14) (by decide +kernel))) rfl⟩
def M_X10_isOneAlone : MD := (yX10_isOneAlone, cX10_isOneAlone, 3, (some .boolean))
theorem mk_X10_isOneAlone : MKV M_X10_isOneAlone 0 := ⟨⟨mem_lwg (tb_1 _ (List.mem_of_getElem? (i := 13) (by decide +kernel))) rfl, mem_lwg (tb_6 _ (List.mem_of_getElem? (i := 203) (by decide +kernel))) rfl, by decide +kernel, by decide +kernel, by decide +kernel, by decide⟩, mem_lwg (tb_6 _ (List.mem_of_getElem? (i := 202) (by decide +kernel))) rfl, mem_lwg (tp_7 _ (List.mem_of_getElem? (i := 15) (by decide +kernel))) rfl⟩
def M_X10_stateNow : MD := (yX10_stateNow, cX10_stateNow, 1, (some .int))
theorem mk_X10_stateNow : MKV M_X10_stateNow 0 := ⟨⟨mem_lwg (tb_1 _ (List.mem_of_getElem? (i := 13) (by decide +kernel))) rfl, mem_lwg (tb_6 _ (List.mem_of_getElem? (i := 195) (by decide +kernel))) rfl, by decide +kernel, by decide +kernel, by decide +kernel, by decide⟩, mem_lwg (tb_6 _ (List.mem_of_getElem? (i := 194) (by decide +kernel))) rfl, mem_lwg (tp_7 _ (List.mem_of_getElem? (i := 13) (by decide +kernel))) rfl⟩
def M_X10_countsFirst : MD := (yX10_countsFirst, cX10_countsFirst, 5, none)
theorem mk_X10_countsFirst : MKV M_X10_countsFirst 2 := ⟨⟨mem_lwg (tb_1 _ (List.mem_of_getElem? (i := 13) (by decide +kernel))) rfl, mem_lwg (tb_6 _ (List.mem_of_getElem? (i := 183) (by decide +kernel))) rfl, by decide +kernel, by decide +kernel, by decide +kernel, by decide⟩, mem_lwg (tb_6 _ (List.mem_of_getElem? (i := 182) (by decide +kernel))) rfl, mem_lwg (tp_7 _ (List.mem_of_getElem? (i := 11) (by decide +kernel))) rfl⟩
def M_X10_stateOf : MD := (yX10_stateOf, cX10_stateOf, 4, (some .int))
theorem mk_X10_stateOf : MKV M_X10_stateOf 1 := ⟨⟨mem_lwg (tb_1 _ (List.mem_of_getElem? (i := 13) (by decide +kernel))) rfl, mem_lwg (tb_6 _ (List.mem_of_getElem? (i := 191) (by decide +kernel))) rfl, by decide +kernel, by decide +kernel, by decide +kernel, by decide⟩, mem_lwg (tb_6 _ (List.mem_of_getElem? (i := 190) (by decide +kernel))) rfl, mem_lwg (tp_7 _ (List.mem_of_getElem? (i := 12) (by decide +kernel))) rfl⟩
def M_X10_isOther : MD := (yX10_isOther, cX10_isOther, 2, (some .boolean))
theorem mk_X10_isOther : MKV M_X10_isOther 1 := ⟨⟨mem_lwg (tb_1 _ (List.mem_of_getElem? (i := 13) (by decide +kernel))) rfl, mem_lwg (tb_6 _ (List.mem_of_getElem? (i := 43) (by decide +kernel))) rfl, by decide +kernel, by decide +kernel, by decide +kernel, by decide⟩, mem_lwg (tb_6 _ (List.mem_of_getElem? (i := 42) (by decide +kernel))) rfl, mem_lwg (tp_6 _ (List.mem_of_getElem? (i := 0) (by decide +kernel))) rfl⟩
def M_X10_isLeak : MD := (yX10_isLeak, cX10_isLeak, 2, (some .boolean))
theorem mk_X10_isLeak : MKV M_X10_isLeak 1 := ⟨⟨mem_lwg (tb_1 _ (List.mem_of_getElem? (i := 13) (by decide +kernel))) rfl, mem_lwg (tb_6 _ (List.mem_of_getElem? (i := 215) (by decide +kernel))) rfl, by decide +kernel, by decide +kernel, by decide +kernel, by decide⟩, mem_lwg (tb_6 _ (List.mem_of_getElem? (i := 214) (by decide +kernel))) rfl, mem_lwg (tp_8 _ (List.mem_of_getElem? (i := 2) (by decide +kernel))) rfl⟩
def M_X10_isLost : MD := (yX10_isLost, cX10_isLost, 2, (some .boolean))
theorem mk_X10_isLost : MKV M_X10_isLost 1 := ⟨⟨mem_lwg (tb_1 _ (List.mem_of_getElem? (i := 13) (by decide +kernel))) rfl, mem_lwg (tb_7 _ (List.mem_of_getElem? (i := 3) (by decide +kernel))) rfl, by decide +kernel, by decide +kernel, by decide +kernel, by decide⟩, mem_lwg (tb_7 _ (List.mem_of_getElem? (i := 2) (by decide +kernel))) rfl, mem_lwg (tp_8 _ (List.mem_of_getElem? (i := 7) (by decide +kernel))) rfl⟩
def M_X10_leaks : MD := (yX10_leaks, cX10_leaks, 3, (some .int))
theorem mk_X10_leaks : MKV M_X10_leaks 0 := ⟨⟨mem_lwg (tb_1 _ (List.mem_of_getElem? (i := 13) (by decide +kernel))) rfl, mem_lwg (tb_6 _ (List.mem_of_getElem? (i := 231) (by decide +kernel))) rfl, by decide +kernel, by decide +kernel, by decide +kernel, by decide⟩, mem_lwg (tb_6 _ (List.mem_of_getElem? (i := 230) (by decide +kernel))) rfl, mem_lwg (tp_8 _ (List.mem_of_getElem? (i := 5) (by decide +kernel))) rfl⟩
def M_X10_losts : MD := (yX10_losts, cX10_losts, 3, (some .int))
theorem mk_X10_losts : MKV M_X10_losts 0 := ⟨⟨mem_lwg (tb_1 _ (List.mem_of_getElem? (i := 13) (by decide +kernel))) rfl, mem_lwg (tb_6 _ (List.mem_of_getElem? (i := 239) (by decide +kernel))) rfl, by decide +kernel, by decide +kernel, by decide +kernel, by decide⟩, mem_lwg (tb_6 _ (List.mem_of_getElem? (i := 238) (by decide +kernel))) rfl, mem_lwg (tp_8 _ (List.mem_of_getElem? (i := 6) (by decide +kernel))) rfl⟩
def M_X10_isGood : MD := (yX10_isGood, cX10_isGood, 5, (some .boolean))
theorem mk_X10_isGood : MKV M_X10_isGood 0 := ⟨⟨mem_lwg (tb_1 _ (List.mem_of_getElem? (i := 13) (by decide +kernel))) rfl, mem_lwg (tb_7 _ (List.mem_of_getElem? (i := 23) (by decide +kernel))) rfl, by decide +kernel, by decide +kernel, by decide +kernel, by decide⟩, mem_lwg (tb_7 _ (List.mem_of_getElem? (i := 22) (by decide +kernel))) rfl, mem_lwg (tp_8 _ (List.mem_of_getElem? (i := 9) (by decide +kernel))) rfl⟩
def M_X10_matters : MD := (yX10_matters, cX10_matters, 5, none)
theorem mk_X10_matters : MKV M_X10_matters 3 := ⟨⟨mem_lwg (tb_1 _ (List.mem_of_getElem? (i := 13) (by decide +kernel))) rfl, mem_lwg (tb_6 _ (List.mem_of_getElem? (i := 71) (by decide +kernel))) rfl, by decide +kernel, by decide +kernel, by decide +kernel, by decide⟩, mem_lwg (tb_6 _ (List.mem_of_getElem? (i := 70) (by decide +kernel))) rfl, mem_lwg (tp_6 _ (List.mem_of_getElem? (i := 7) (by decide +kernel))) rfl⟩
def M_X10_laysMattering : MD := (yX10_laysMattering, cX10_laysMattering, 3, (some .boolean))
theorem mk_X10_laysMattering : MKV M_X10_laysMattering 0 := ⟨⟨mem_lwg (tb_1 _ (List.mem_of_getElem? (i := 13) (by decide +kernel))) rfl, mem_lwg (tb_6 _ (List.mem_of_getElem? (i := 31) (by decide +kernel))) rfl, by decide +kernel, by decide +kernel, by decide +kernel, by decide⟩, mem_lwg (tb_6 _ (List.mem_of_getElem? (i := 30) (by decide +kernel))) rfl, mem_lwg (tp_5 _ (List.mem_of_getElem? (i := 13) (by decide +kernel))) rfl⟩
def M_X10_isLeftBySteps : MD := (yX10_isLeftBySteps, cX10_isLeftBySteps, 3, (some .boolean))
theorem mk_X10_isLeftBySteps : MKV M_X10_isLeftBySteps 1 := ⟨⟨mem_lwg (tb_1 _ (List.mem_of_getElem? (i := 13) (by decide +kernel))) rfl, mem_lwg (tb_6 _ (List.mem_of_getElem? (i := 83) (by decide +kernel))) rfl, by decide +kernel, by decide +kernel, by decide +kernel, by decide⟩, mem_lwg (tb_6 _ (List.mem_of_getElem? (i := 82) (by decide +kernel))) rfl, mem_lwg (tp_6 _ (List.mem_of_getElem? (i := 10) (by decide +kernel))) rfl⟩
def M_X10_isLeftByCogs : MD := (yX10_isLeftByCogs, cX10_isLeftByCogs, 5, (some .boolean))
theorem mk_X10_isLeftByCogs : MKV M_X10_isLeftByCogs 2 := ⟨⟨mem_lwg (tb_1 _ (List.mem_of_getElem? (i := 13) (by decide +kernel))) rfl, mem_lwg (tb_6 _ (List.mem_of_getElem? (i := 107) (by decide +kernel))) rfl, by decide +kernel, by decide +kernel, by decide +kernel, by decide⟩, mem_lwg (tb_6 _ (List.mem_of_getElem? (i := 106) (by decide +kernel))) rfl, mem_lwg (tp_6 _ (List.mem_of_getElem? (i := 15) (by decide +kernel))) rfl⟩
def M_X10_doSteps : MD := (yX10_doSteps, cX10_doSteps, 2, (some .boolean))
theorem mk_X10_doSteps : MKV M_X10_doSteps 0 := ⟨⟨mem_lwg (tb_1 _ (List.mem_of_getElem? (i := 13) (by decide +kernel))) rfl, mem_lwg (tb_6 _ (List.mem_of_getElem? (i := 79) (by decide +kernel))) rfl, by decide +kernel, by decide +kernel, by decide +kernel, by decide⟩, mem_lwg (tb_6 _ (List.mem_of_getElem? (i := 78) (by decide +kernel))) rfl, mem_lwg (tp_6 _ (List.mem_of_getElem? (i := 9) (by decide +kernel))) rfl⟩
def M_X10_doCogs : MD := (yX10_doCogs, cX10_doCogs, 3, (some .boolean))
theorem mk_X10_doCogs : MKV M_X10_doCogs 1 := ⟨⟨mem_lwg (tb_1 _ (List.mem_of_getElem? (i := 13) (by decide +kernel))) rfl, mem_lwg (tb_6 _ (List.mem_of_getElem? (i := 103) (by decide +kernel))) rfl, by decide +kernel, by decide +kernel, by decide +kernel, by decide⟩, mem_lwg (tb_6 _ (List.mem_of_getElem? (i := 102) (by decide +kernel))) rfl, mem_lwg (tp_6 _ (List.mem_of_getElem? (i := 14) (by decide +kernel))) rfl⟩
def M_X10_product : MD := (yX10_product, cX10_product, 3, (some .int))
theorem mk_X10_product : MKV M_X10_product 0 := ⟨⟨mem_lwg (tb_1 _ (List.mem_of_getElem? (i := 13) (by decide +kernel))) rfl, mem_lwg (tb_6 _ (List.mem_of_getElem? (i := 75) (by decide +kernel))) rfl, by decide +kernel, by decide +kernel, by decide +kernel, by decide⟩, mem_lwg (tb_6 _ (List.mem_of_getElem? (i := 74) (by decide +kernel))) rfl, mem_lwg (tp_6 _ (List.mem_of_getElem? (i := 8) (by decide +kernel))) rfl⟩
def M_X10_goesOn : MD := (yX10_goesOn, cX10_goesOn, 4, (some .boolean))
theorem mk_X10_goesOn : MKV M_X10_goesOn 2 := ⟨⟨mem_lwg (tb_1 _ (List.mem_of_getElem? (i := 13) (by decide +kernel))) rfl, mem_lwg (tb_6 _ (List.mem_of_getElem? (i := 87) (by decide +kernel))) rfl, by decide +kernel, by decide +kernel, by decide +kernel, by decide⟩, mem_lwg (tb_6 _ (List.mem_of_getElem? (i := 86) (by decide +kernel))) rfl, mem_lwg (tp_6 _ (List.mem_of_getElem? (i := 11) (by decide +kernel))) rfl⟩
def M_X10_nextNumber : MD := (yX10_nextNumber, cX10_nextNumber, 5, (some .int))
theorem mk_X10_nextNumber : MKV M_X10_nextNumber 3 := ⟨⟨mem_lwg (tb_1 _ (List.mem_of_getElem? (i := 13) (by decide +kernel))) rfl, mem_lwg (tb_6 _ (List.mem_of_getElem? (i := 91) (by decide +kernel))) rfl, by decide +kernel, by decide +kernel, by decide +kernel, by decide⟩, mem_lwg (tb_6 _ (List.mem_of_getElem? (i := 90) (by decide +kernel))) rfl, mem_lwg (tp_6 _ (List.mem_of_getElem? (i := 12) (by decide +kernel))) rfl⟩
def M_X10_laysFewest : MD := (yX10_laysFewest, cX10_laysFewest, 4, (some .int))
theorem mk_X10_laysFewest : MKV M_X10_laysFewest 0 := ⟨⟨mem_lwg (tb_1 _ (List.mem_of_getElem? (i := 13) (by decide +kernel))) rfl, mem_lwg (tb_6 _ (List.mem_of_getElem? (i := 27) (by decide +kernel))) rfl, by decide +kernel, by decide +kernel, by decide +kernel, by decide⟩, mem_lwg (tb_6 _ (List.mem_of_getElem? (i := 26) (by decide +kernel))) rfl, mem_lwg (tp_5 _ (List.mem_of_getElem? (i := 12) (by decide +kernel))) rfl⟩
def M_X10_laysCogs : MD := (yX10_laysCogs, cX10_laysCogs, 4, (some .int))
theorem mk_X10_laysCogs : MKV M_X10_laysCogs 0 := ⟨⟨mem_lwg (tb_1 _ (List.mem_of_getElem? (i := 13) (by decide +kernel))) rfl, mem_lwg (tb_6 _ (List.mem_of_getElem? (i := 99) (by decide +kernel))) rfl, by decide +kernel, by decide +kernel, by decide +kernel, by decide⟩, mem_lwg (tb_6 _ (List.mem_of_getElem? (i := 98) (by decide +kernel))) rfl, mem_lwg (tp_6 _ (List.mem_of_getElem? (i := 13) (by decide +kernel))) rfl⟩
def M_X10_fewest : MD := (yX10_fewest, cX10_fewest, 3, (some .int))
theorem mk_X10_fewest : MKV M_X10_fewest 1 := ⟨⟨mem_lwg (tb_1 _ (List.mem_of_getElem? (i := 13) (by decide +kernel))) rfl, mem_lwg (tb_6 _ (List.mem_of_getElem? (i := 23) (by decide +kernel))) rfl, by decide +kernel, by decide +kernel, by decide +kernel, by decide⟩, mem_lwg (tb_6 _ (List.mem_of_getElem? (i := 21) (by decide +kernel))) rfl, mem_lwg (tb_6 _ (List.mem_of_getElem? (i := 22) (by decide +kernel))) rfl⟩
def M_X10_cogs : MD := (yX10_cogs, cX10_cogs, 3, (some .int))
theorem mk_X10_cogs : MKV M_X10_cogs 1 := ⟨⟨mem_lwg (tb_1 _ (List.mem_of_getElem? (i := 13) (by decide +kernel))) rfl, mem_lwg (tb_6 _ (List.mem_of_getElem? (i := 95) (by decide +kernel))) rfl, by decide +kernel, by decide +kernel, by decide +kernel, by decide⟩, mem_lwg (tb_6 _ (List.mem_of_getElem? (i := 93) (by decide +kernel))) rfl, mem_lwg (tb_6 _ (List.mem_of_getElem? (i := 94) (by decide +kernel))) rfl⟩
def M_X10_layFewest : MD := (yX10_layFewest, cX10_layFewest, 5, (some .int))
theorem mk_X10_layFewest : MKV M_X10_layFewest 0 := ⟨⟨mem_lwg (tb_1 _ (List.mem_of_getElem? (i := 13) (by decide +kernel))) rfl, mem_lwg (tb_6 _ (List.mem_of_getElem? (i := 115) (by decide +kernel))) rfl, by decide +kernel, by decide +kernel, by decide +kernel, by decide⟩, mem_lwg (tb_6 _ (List.mem_of_getElem? (i := 114) (by decide +kernel))) rfl, mem_lwg (tp_7 _ (List.mem_of_getElem? (i := 0) (by decide +kernel))) rfl⟩
def M_X10_layCogs : MD := (yX10_layCogs, cX10_layCogs, 3, (some .int))
theorem mk_X10_layCogs : MKV M_X10_layCogs 0 := ⟨⟨mem_lwg (tb_1 _ (List.mem_of_getElem? (i := 13) (by decide +kernel))) rfl, mem_lwg (tb_6 _ (List.mem_of_getElem? (i := 119) (by decide +kernel))) rfl, by decide +kernel, by decide +kernel, by decide +kernel, by decide⟩, mem_lwg (tb_6 _ (List.mem_of_getElem? (i := 118) (by decide +kernel))) rfl, mem_lwg (tp_7 _ (List.mem_of_getElem? (i := 1) (by decide +kernel))) rfl⟩
def M_X10_lay : MD := (yX10_lay, cX10_lay, 2, (some .int))
theorem mk_X10_lay : MKV M_X10_lay 1 := ⟨⟨mem_lwg (tb_1 _ (List.mem_of_getElem? (i := 13) (by decide +kernel))) rfl, mem_lwg (tb_6 _ (List.mem_of_getElem? (i := 111) (by decide +kernel))) rfl, by decide +kernel, by decide +kernel, by decide +kernel, by decide⟩, mem_lwg (tb_6 _ (List.mem_of_getElem? (i := 109) (by decide +kernel))) rfl, mem_lwg (tb_6 _ (List.mem_of_getElem? (i := 110) (by decide +kernel))) rfl⟩
def M_X10_isStep : MD := (yX10_isStep, cX10_isStep, 2, (some .boolean))
theorem mk_X10_isStep : MKV M_X10_isStep 1 := ⟨⟨mem_lwg (tb_1 _ (List.mem_of_getElem? (i := 13) (by decide +kernel))) rfl, mem_lwg (tb_6 _ (List.mem_of_getElem? (i := 127) (by decide +kernel))) rfl, by decide +kernel, by decide +kernel, by decide +kernel, by decide⟩, mem_lwg (tb_6 _ (List.mem_of_getElem? (i := 126) (by decide +kernel))) rfl, mem_lwg (tp_7 _ (List.mem_of_getElem? (i := 2) (by decide +kernel))) rfl⟩
def M_X10_would : MD := (yX10_would, cX10_would, 9, (some .int))
theorem mk_X10_would : MKV M_X10_would 5 := ⟨⟨mem_lwg (tb_1 _ (List.mem_of_getElem? (i := 13) (by decide +kernel))) rfl, mem_lwg (tb_6 _ (List.mem_of_getElem? (i := 123) (by decide +kernel))) rfl, by decide +kernel, by decide +kernel, by decide +kernel, by decide⟩, mem_lwg (tb_6 _ (List.mem_of_getElem? (i := 121) (by decide +kernel))) rfl, mem_lwg (tb_6 _ (List.mem_of_getElem? (i := 122) (by decide +kernel))) rfl⟩
def M_X10_order : MD := (yX10_order, cX10_order, 3, (some .int))
theorem mk_X10_order : MKV M_X10_order 2 := ⟨⟨mem_lwg (tb_1 _ (List.mem_of_getElem? (i := 13) (by decide +kernel))) rfl, mem_lwg (tb_6 _ (List.mem_of_getElem? (i := 131) (by decide +kernel))) rfl, by decide +kernel, by decide +kernel, by decide +kernel, by decide⟩, mem_lwg (tb_6 _ (List.mem_of_getElem? (i := 129) (by decide +kernel))) rfl, mem_lwg (tb_6 _ (List.mem_of_getElem? (i := 130) (by decide +kernel))) rfl⟩
def M_X10_find : MD := (yX10_find, cX10_find, 8, (some .int))
theorem mk_X10_find : MKV M_X10_find 4 := ⟨⟨mem_lwg (tb_1 _ (List.mem_of_getElem? (i := 13) (by decide +kernel))) rfl, mem_lwg (tb_6 _ (List.mem_of_getElem? (i := 135) (by decide +kernel))) rfl, by decide +kernel, by decide +kernel, by decide +kernel, by decide⟩, mem_lwg (tb_6 _ (List.mem_of_getElem? (i := 133) (by decide +kernel))) rfl, mem_lwg (tb_6 _ (List.mem_of_getElem? (i := 134) (by decide +kernel))) rfl⟩
def M_X10_isScan : MD := (yX10_isScan, cX10_isScan, 2, (some .boolean))
theorem mk_X10_isScan : MKV M_X10_isScan 1 := ⟨⟨mem_lwg (tb_1 _ (List.mem_of_getElem? (i := 13) (by decide +kernel))) rfl, mem_lwg (tb_6 _ (List.mem_of_getElem? (i := 143) (by decide +kernel))) rfl, by decide +kernel, by decide +kernel, by decide +kernel, by decide⟩, mem_lwg (tb_6 _ (List.mem_of_getElem? (i := 142) (by decide +kernel))) rfl, mem_lwg (tp_7 _ (List.mem_of_getElem? (i := 3) (by decide +kernel))) rfl⟩
def M_X10_phase : MD := (yX10_phase, cX10_phase, 3, (some .int))
theorem mk_X10_phase : MKV M_X10_phase 2 := ⟨⟨mem_lwg (tb_1 _ (List.mem_of_getElem? (i := 13) (by decide +kernel))) rfl, mem_lwg (tb_6 _ (List.mem_of_getElem? (i := 139) (by decide +kernel))) rfl, by decide +kernel, by decide +kernel, by decide +kernel, by decide⟩, mem_lwg (tb_6 _ (List.mem_of_getElem? (i := 137) (by decide +kernel))) rfl, mem_lwg (tb_6 _ (List.mem_of_getElem? (i := 138) (by decide +kernel))) rfl⟩
def M_X10_residue : MD := (yX10_residue, cX10_residue, 3, (some .int))
theorem mk_X10_residue : MKV M_X10_residue 2 := ⟨⟨mem_lwg (tb_1 _ (List.mem_of_getElem? (i := 13) (by decide +kernel))) rfl, mem_lwg (tb_6 _ (List.mem_of_getElem? (i := 171) (by decide +kernel))) rfl, by decide +kernel, by decide +kernel, by decide +kernel, by decide⟩, mem_lwg (tb_6 _ (List.mem_of_getElem? (i := 169) (by decide +kernel))) rfl, mem_lwg (tb_6 _ (List.mem_of_getElem? (i := 170) (by decide +kernel))) rfl⟩
def M_X10_many : MD := (yX10_many, cX10_many, 3, (some .int))
theorem mk_X10_many : MKV M_X10_many 2 := ⟨⟨mem_lwg (tb_1 _ (List.mem_of_getElem? (i := 13) (by decide +kernel))) rfl, mem_lwg (tb_6 _ (List.mem_of_getElem? (i := 179) (by decide +kernel))) rfl, by decide +kernel, by decide +kernel, by decide +kernel, by decide⟩, mem_lwg (tb_6 _ (List.mem_of_getElem? (i := 177) (by decide +kernel))) rfl, mem_lwg (tb_6 _ (List.mem_of_getElem? (i := 178) (by decide +kernel))) rfl⟩
def M_X10_changesOf : MD := (yX10_changesOf, cX10_changesOf, 4, (some .int))
theorem mk_X10_changesOf : MKV M_X10_changesOf 1 := ⟨⟨mem_lwg (tb_1 _ (List.mem_of_getElem? (i := 13) (by decide +kernel))) rfl, mem_lwg (tb_6 _ (List.mem_of_getElem? (i := 219) (by decide +kernel))) rfl, by decide +kernel, by decide +kernel, by decide +kernel, by decide⟩, mem_lwg (tb_6 _ (List.mem_of_getElem? (i := 218) (by decide +kernel))) rfl, mem_lwg (tp_8 _ (List.mem_of_getElem? (i := 3) (by decide +kernel))) rfl⟩
def M_X10_greatestOrder : MD := (yX10_greatestOrder, cX10_greatestOrder, 4, (some .int))
theorem mk_X10_greatestOrder : MKV M_X10_greatestOrder 1 := ⟨⟨mem_lwg (tb_1 _ (List.mem_of_getElem? (i := 13) (by decide +kernel))) rfl, mem_lwg (tb_6 _ (List.mem_of_getElem? (i := 223) (by decide +kernel))) rfl, by decide +kernel, by decide +kernel, by decide +kernel, by decide⟩, mem_lwg (tb_6 _ (List.mem_of_getElem? (i := 222) (by decide +kernel))) rfl, mem_lwg (tp_8 _ (List.mem_of_getElem? (i := 4) (by decide +kernel))) rfl⟩
def M_X10_one : MD := (yX10_one, cX10_one, 2, (some .int))
theorem mk_X10_one : MKV M_X10_one 1 := ⟨⟨mem_lwg (tb_1 _ (List.mem_of_getElem? (i := 13) (by decide +kernel))) rfl, mem_lwg (tb_6 _ (List.mem_of_getElem? (i := 207) (by decide +kernel))) rfl, by decide +kernel, by decide +kernel, by decide +kernel, by decide⟩, mem_lwg (tb_6 _ (List.mem_of_getElem? (i := 206) (by decide +kernel))) rfl, mem_lwg (tp_8 _ (List.mem_of_getElem? (i := 0) (by decide +kernel))) rfl⟩
def M_X10_path : MD := (yX10_path, cX10_path, 3, (some .int))
theorem mk_X10_path : MKV M_X10_path 2 := ⟨⟨mem_lwg (tb_1 _ (List.mem_of_getElem? (i := 13) (by decide +kernel))) rfl, mem_lwg (tb_6 _ (List.mem_of_getElem? (i := 187) (by decide +kernel))) rfl, by decide +kernel, by decide +kernel, by decide +kernel, by decide⟩, mem_lwg (tb_6 _ (List.mem_of_getElem? (i := 185) (by decide +kernel))) rfl, mem_lwg (tb_6 _ (List.mem_of_getElem? (i := 186) (by decide +kernel))) rfl⟩
def M_X10_leak : MD := (yX10_leak, cX10_leak, 4, (some .int))
theorem mk_X10_leak : MKV M_X10_leak 1 := ⟨⟨mem_lwg (tb_1 _ (List.mem_of_getElem? (i := 13) (by decide +kernel))) rfl, mem_lwg (tb_6 _ (List.mem_of_getElem? (i := 227) (by decide +kernel))) rfl, by decide +kernel, by decide +kernel, by decide +kernel, by decide⟩, mem_lwg (tb_6 _ (List.mem_of_getElem? (i := 225) (by decide +kernel))) rfl, mem_lwg (tb_6 _ (List.mem_of_getElem? (i := 226) (by decide +kernel))) rfl⟩
def M_X10_lost : MD := (yX10_lost, cX10_lost, 4, (some .int))
theorem mk_X10_lost : MKV M_X10_lost 1 := ⟨⟨mem_lwg (tb_1 _ (List.mem_of_getElem? (i := 13) (by decide +kernel))) rfl, mem_lwg (tb_6 _ (List.mem_of_getElem? (i := 235) (by decide +kernel))) rfl, by decide +kernel, by decide +kernel, by decide +kernel, by decide⟩, mem_lwg (tb_6 _ (List.mem_of_getElem? (i := 233) (by decide +kernel))) rfl, mem_lwg (tb_6 _ (List.mem_of_getElem? (i := 234) (by decide +kernel))) rfl⟩
def M_X10_worst : MD := (yX10_worst, cX10_worst, 6, (some .int))
theorem mk_X10_worst : MKV M_X10_worst 2 := ⟨⟨mem_lwg (tb_1 _ (List.mem_of_getElem? (i := 13) (by decide +kernel))) rfl, mem_lwg (tb_7 _ (List.mem_of_getElem? (i := 7) (by decide +kernel))) rfl, by decide +kernel, by decide +kernel, by decide +kernel, by decide⟩, mem_lwg (tb_7 _ (List.mem_of_getElem? (i := 5) (by decide +kernel))) rfl, mem_lwg (tb_7 _ (List.mem_of_getElem? (i := 6) (by decide +kernel))) rfl⟩
def M_X10_isStoppedBy : MD := (yX10_isStoppedBy, cX10_isStoppedBy, 9, (some .boolean))
theorem mk_X10_isStoppedBy : MKV M_X10_isStoppedBy 3 := ⟨⟨mem_lwg (tb_1 _ (List.mem_of_getElem? (i := 13) (by decide +kernel))) rfl, mem_lwg (tb_7 _ (List.mem_of_getElem? (i := 15) (by decide +kernel))) rfl, by decide +kernel, by decide +kernel, by decide +kernel, by decide⟩, mem_lwg (tb_7 _ (List.mem_of_getElem? (i := 14) (by decide +kernel))) rfl, mem_lwg (tp_8 _ (List.mem_of_getElem? (i := 8) (by decide +kernel))) rfl⟩
def M_X10_stopped : MD := (yX10_stopped, cX10_stopped, 4, (some .int))
theorem mk_X10_stopped : MKV M_X10_stopped 1 := ⟨⟨mem_lwg (tb_1 _ (List.mem_of_getElem? (i := 13) (by decide +kernel))) rfl, mem_lwg (tb_7 _ (List.mem_of_getElem? (i := 11) (by decide +kernel))) rfl, by decide +kernel, by decide +kernel, by decide +kernel, by decide⟩, mem_lwg (tb_7 _ (List.mem_of_getElem? (i := 9) (by decide +kernel))) rfl, mem_lwg (tb_7 _ (List.mem_of_getElem? (i := 10) (by decide +kernel))) rfl⟩
def M_X10_spare : MD := (yX10_spare, cX10_spare, 6, (some .int))
theorem mk_X10_spare : MKV M_X10_spare 1 := ⟨⟨mem_lwg (tb_1 _ (List.mem_of_getElem? (i := 13) (by decide +kernel))) rfl, mem_lwg (tb_7 _ (List.mem_of_getElem? (i := 19) (by decide +kernel))) rfl, by decide +kernel, by decide +kernel, by decide +kernel, by decide⟩, mem_lwg (tb_7 _ (List.mem_of_getElem? (i := 17) (by decide +kernel))) rfl, mem_lwg (tb_7 _ (List.mem_of_getElem? (i := 18) (by decide +kernel))) rfl⟩
def M_X10_isGoodSoFar : MD := (yX10_isGoodSoFar, cX10_isGoodSoFar, 4, (some .boolean))
theorem mk_X10_isGoodSoFar : MKV M_X10_isGoodSoFar 0 := ⟨⟨mem_lwg (tb_1 _ (List.mem_of_getElem? (i := 13) (by decide +kernel))) rfl, mem_lwg (tb_7 _ (List.mem_of_getElem? (i := 35) (by decide +kernel))) rfl, by decide +kernel, by decide +kernel, by decide +kernel, by decide⟩, mem_lwg (tb_7 _ (List.mem_of_getElem? (i := 34) (by decide +kernel))) rfl, mem_lwg (tp_8 _ (List.mem_of_getElem? (i := 11) (by decide +kernel))) rfl⟩
def M_X10_areAnyGone : MD := (yX10_areAnyGone, cX10_areAnyGone, 2, (some .boolean))
theorem mk_X10_areAnyGone : MKV M_X10_areAnyGone 0 := ⟨⟨mem_lwg (tb_1 _ (List.mem_of_getElem? (i := 13) (by decide +kernel))) rfl, mem_lwg (tb_7 _ (List.mem_of_getElem? (i := 31) (by decide +kernel))) rfl, by decide +kernel, by decide +kernel, by decide +kernel, by decide⟩, mem_lwg (tb_7 _ (List.mem_of_getElem? (i := 30) (by decide +kernel))) rfl, mem_lwg (tp_8 _ (List.mem_of_getElem? (i := 10) (by decide +kernel))) rfl⟩
def M_X10_soonest : MD := (yX10_soonest, cX10_soonest, 5, (some .int))
theorem mk_X10_soonest : MKV M_X10_soonest 0 := ⟨⟨mem_lwg (tb_1 _ (List.mem_of_getElem? (i := 13) (by decide +kernel))) rfl, mem_lwg (tb_7 _ (List.mem_of_getElem? (i := 27) (by decide +kernel))) rfl, by decide +kernel, by decide +kernel, by decide +kernel, by decide⟩, mem_lwg (tb_7 _ (List.mem_of_getElem? (i := 25) (by decide +kernel))) rfl, mem_lwg (tb_7 _ (List.mem_of_getElem? (i := 26) (by decide +kernel))) rfl⟩
def M_X10_early : MD := (yX10_early, cX10_early, 3, (some .int))
theorem mk_X10_early : MKV M_X10_early 2 := ⟨⟨mem_lwg (tb_1 _ (List.mem_of_getElem? (i := 13) (by decide +kernel))) rfl, mem_lwg (tb_7 _ (List.mem_of_getElem? (i := 39) (by decide +kernel))) rfl, by decide +kernel, by decide +kernel, by decide +kernel, by decide⟩, mem_lwg (tb_7 _ (List.mem_of_getElem? (i := 37) (by decide +kernel))) rfl, mem_lwg (tb_7 _ (List.mem_of_getElem? (i := 38) (by decide +kernel))) rfl⟩
def M_X10_until : MD := (yX10_until, cX10_until, 6, (some .int))
theorem mk_X10_until : MKV M_X10_until 2 := ⟨⟨mem_lwg (tb_1 _ (List.mem_of_getElem? (i := 13) (by decide +kernel))) rfl, mem_lwg (tb_7 _ (List.mem_of_getElem? (i := 43) (by decide +kernel))) rfl, by decide +kernel, by decide +kernel, by decide +kernel, by decide⟩, mem_lwg (tb_7 _ (List.mem_of_getElem? (i := 41) (by decide +kernel))) rfl, mem_lwg (tb_7 _ (List.mem_of_getElem? (i := 42) (by decide +kernel))) rfl⟩
def M_X10_power : MD := (yX10_power, cX10_power, 9, (some .long))
theorem mk_X10_power : MKV M_X10_power 1 := ⟨⟨mem_lwg (tb_1 _ (List.mem_of_getElem? (i := 13) (by decide +kernel))) rfl, mem_lwg (tb_7 _ (List.mem_of_getElem? (i := 47) (by decide +kernel))) rfl, by decide +kernel, by decide +kernel, by decide +kernel, by decide⟩, mem_lwg (tb_7 _ (List.mem_of_getElem? (i := 45) (by decide +kernel))) rfl, mem_lwg (tb_7 _ (List.mem_of_getElem? (i := 46) (by decide +kernel))) rfl⟩
def M_X10_above : MD := (yX10_above, cX10_above, 4, (some .int))
theorem mk_X10_above : MKV M_X10_above 1 := ⟨⟨mem_lwg (tb_1 _ (List.mem_of_getElem? (i := 13) (by decide +kernel))) rfl, mem_lwg (tb_7 _ (List.mem_of_getElem? (i := 59) (by decide +kernel))) rfl, by decide +kernel, by decide +kernel, by decide +kernel, by decide⟩, mem_lwg (tb_7 _ (List.mem_of_getElem? (i := 58) (by decide +kernel))) rfl, mem_lwg (tp_8 _ (List.mem_of_getElem? (i := 13) (by decide +kernel))) rfl⟩
def M_X10_below : MD := (yX10_below, cX10_below, 2, (some .int))
theorem mk_X10_below : MKV M_X10_below 1 := ⟨⟨mem_lwg (tb_1 _ (List.mem_of_getElem? (i := 13) (by decide +kernel))) rfl, mem_lwg (tb_7 _ (List.mem_of_getElem? (i := 55) (by decide +kernel))) rfl, by decide +kernel, by decide +kernel, by decide +kernel, by decide⟩, mem_lwg (tb_7 _ (List.mem_of_getElem? (i := 54) (by decide +kernel))) rfl, mem_lwg (tp_8 _ (List.mem_of_getElem? (i := 12) (by decide +kernel))) rfl⟩
def M_X10_share : MD := (yX10_share, cX10_share, 3, (some .int))
theorem mk_X10_share : MKV M_X10_share 1 := ⟨⟨mem_lwg (tb_1 _ (List.mem_of_getElem? (i := 13) (by decide +kernel))) rfl, mem_lwg (tb_7 _ (List.mem_of_getElem? (i := 51) (by decide +kernel))) rfl, by decide +kernel, by decide +kernel, by decide +kernel, by decide⟩, mem_lwg (tb_7 _ (List.mem_of_getElem? (i := 49) (by decide +kernel))) rfl, mem_lwg (tb_7 _ (List.mem_of_getElem? (i := 50) (by decide +kernel))) rfl⟩
def M_X10_part : MD := (yX10_part, cX10_part, 3, (some .long))
theorem mk_X10_part : MKV M_X10_part 1 := ⟨⟨mem_lwg (tb_1 _ (List.mem_of_getElem? (i := 13) (by decide +kernel))) rfl, mem_lwg (tb_7 _ (List.mem_of_getElem? (i := 73) (by decide +kernel))) rfl, by decide +kernel, by decide +kernel, by decide +kernel, by decide⟩, mem_lwg (tb_7 _ (List.mem_of_getElem? (i := 71) (by decide +kernel))) rfl, mem_lwg (tb_7 _ (List.mem_of_getElem? (i := 72) (by decide +kernel))) rfl⟩
def M_X10_image : MD := (yX10_image, cX10_image, 3, (some .boolean))
theorem mk_X10_image : MKV M_X10_image 1 := ⟨⟨mem_lwg (tb_1 _ (List.mem_of_getElem? (i := 13) (by decide +kernel))) rfl, mem_lwg (tb_7 _ (List.mem_of_getElem? (i := 87) (by decide +kernel))) rfl, by decide +kernel, by decide +kernel, by decide +kernel, by decide⟩, mem_lwg (tb_7 _ (List.mem_of_getElem? (i := 85) (by decide +kernel))) rfl, mem_lwg (tb_7 _ (List.mem_of_getElem? (i := 86) (by decide +kernel))) rfl⟩
def M_X10_manyOf : MD := (yX10_manyOf, cX10_manyOf, 4, (some .int))
theorem mk_X10_manyOf : MKV M_X10_manyOf 1 := ⟨⟨mem_lwg (tb_1 _ (List.mem_of_getElem? (i := 13) (by decide +kernel))) rfl, mem_lwg (tb_7 _ (List.mem_of_getElem? (i := 95) (by decide +kernel))) rfl, by decide +kernel, by decide +kernel, by decide +kernel, by decide⟩, mem_lwg (tb_7 _ (List.mem_of_getElem? (i := 94) (by decide +kernel))) rfl, mem_lwg (tp_8 _ (List.mem_of_getElem? (i := 14) (by decide +kernel))) rfl⟩
def M_X10_weightsOf : MD := (yX10_weightsOf, cX10_weightsOf, 4, (some .int))
theorem mk_X10_weightsOf : MKV M_X10_weightsOf 1 := ⟨⟨mem_lwg (tb_1 _ (List.mem_of_getElem? (i := 13) (by decide +kernel))) rfl, mem_lwg (tb_7 _ (List.mem_of_getElem? (i := 99) (by decide +kernel))) rfl, by decide +kernel, by decide +kernel, by decide +kernel, by decide⟩, mem_lwg (tb_7 _ (List.mem_of_getElem? (i := 98) (by decide +kernel))) rfl, mem_lwg (tp_8 _ (List.mem_of_getElem? (i := 15) (by decide +kernel))) rfl⟩
def M_X10_lookAtRows : MD := (yX10_lookAtRows, cX10_lookAtRows, 2, (some .int))
theorem mk_X10_lookAtRows : MKV M_X10_lookAtRows 1 := ⟨⟨mem_lwg (tb_1 _ (List.mem_of_getElem? (i := 13) (by decide +kernel))) rfl, mem_lwg (tb_7 _ (List.mem_of_getElem? (i := 103) (by decide +kernel))) rfl, by decide +kernel, by decide +kernel, by decide +kernel, by decide⟩, mem_lwg (tb_7 _ (List.mem_of_getElem? (i := 102) (by decide +kernel))) rfl, mem_lwg (tp_9 _ (List.mem_of_getElem? (i := 0) (by decide +kernel))) rfl⟩
def M_X10_look : MD := (yX10_look, cX10_look, 2, (some .int))
theorem mk_X10_look : MKV M_X10_look 1 := ⟨⟨mem_lwg (tb_1 _ (List.mem_of_getElem? (i := 13) (by decide +kernel))) rfl, mem_lwg (tb_7 _ (List.mem_of_getElem? (i := 91) (by decide +kernel))) rfl, by decide +kernel, by decide +kernel, by decide +kernel, by decide⟩, mem_lwg (tb_7 _ (List.mem_of_getElem? (i := 89) (by decide +kernel))) rfl, mem_lwg (tb_7 _ (List.mem_of_getElem? (i := 90) (by decide +kernel))) rfl⟩
def M_Jxe99ae_isNaN_b9ae7 : MD := (yJxe99ae_isNaN_b9ae7, cJxe99ae_isNaN_b9ae7, 2, (some .boolean))
theorem mk_Jxe99ae_isNaN_b9ae7 : MKS M_Jxe99ae_isNaN_b9ae7 1 := ⟨⟨mem_lwg (tb_1 _ (List.mem_of_getElem? (i := 17) (by decide +kernel))) rfl, mem_lwg (tb_7 _ (List.mem_of_getElem? (i := 79) (by decide +kernel))) rfl, by decide +kernel, by decide +kernel, by decide +kernel, by decide⟩, mem_lwg (tb_7 _ (List.mem_of_getElem? (i := 78) (by decide +kernel))) rfl⟩
def M_Jxe99ae_doubleToLongBits_ccdee : MD := (yJxe99ae_doubleToLongBits_ccdee, cJxe99ae_doubleToLongBits_ccdee, 2, (some .long))
theorem mk_Jxe99ae_doubleToLongBits_ccdee : MKS M_Jxe99ae_doubleToLongBits_ccdee 1 := ⟨⟨mem_lwg (tb_1 _ (List.mem_of_getElem? (i := 17) (by decide +kernel))) rfl, mem_lwg (tb_7 _ (List.mem_of_getElem? (i := 76) (by decide +kernel))) rfl, by decide +kernel, by decide +kernel, by decide +kernel, by decide⟩, mem_lwg (tb_7 _ (List.mem_of_getElem? (i := 75) (by decide +kernel))) rfl⟩
def M_Jxf58ca_isNaN_12338 : MD := (yJxf58ca_isNaN_12338, cJxf58ca_isNaN_12338, 1, (some .boolean))
theorem mk_Jxf58ca_isNaN_12338 : MKS M_Jxf58ca_isNaN_12338 1 := ⟨⟨mem_lwg (tb_1 _ (List.mem_of_getElem? (i := 16) (by decide +kernel))) rfl, mem_lwg (tb_7 _ (List.mem_of_getElem? (i := 65) (by decide +kernel))) rfl, by decide +kernel, by decide +kernel, by decide +kernel, by decide⟩, mem_lwg (tb_7 _ (List.mem_of_getElem? (i := 64) (by decide +kernel))) rfl⟩
def M_Jxf58ca_floatToIntBits_5c35a : MD := (yJxf58ca_floatToIntBits_5c35a, cJxf58ca_floatToIntBits_5c35a, 1, (some .int))
theorem mk_Jxf58ca_floatToIntBits_5c35a : MKS M_Jxf58ca_floatToIntBits_5c35a 1 := ⟨⟨mem_lwg (tb_1 _ (List.mem_of_getElem? (i := 16) (by decide +kernel))) rfl, mem_lwg (tb_7 _ (List.mem_of_getElem? (i := 62) (by decide +kernel))) rfl, by decide +kernel, by decide +kernel, by decide +kernel, by decide⟩, mem_lwg (tb_7 _ (List.mem_of_getElem? (i := 61) (by decide +kernel))) rfl⟩
def M_J9_floorMod_7cf53 : MD := (yJ9_floorMod_7cf53, cJ9_floorMod_7cf53, 3, (some .int))
theorem mk_J9_floorMod_7cf53 : MKS M_J9_floorMod_7cf53 2 := ⟨⟨mem_lwg (tb_1 _ (List.mem_of_getElem? (i := 12) (by decide +kernel))) rfl, mem_lwg (tb_4 _ (List.mem_of_getElem? (i := 101) (by decide +kernel))) rfl, by decide +kernel, by decide +kernel, by decide +kernel, by decide⟩, mem_lwg (tb_4 _ (List.mem_of_getElem? (i := 100) (by decide +kernel))) rfl⟩
def M_J9_abs_0f7a4 : MD := (yJ9_abs_0f7a4, cJ9_abs_0f7a4, 1, (some .int))
theorem mk_J9_abs_0f7a4 : MKS M_J9_abs_0f7a4 1 := ⟨⟨mem_lwg (tb_1 _ (List.mem_of_getElem? (i := 12) (by decide +kernel))) rfl, mem_lwg (tb_2 _ (List.mem_of_getElem? (i := 108) (by decide +kernel))) rfl, by decide +kernel, by decide +kernel, by decide +kernel, by decide⟩, mem_lwg (tb_2 _ (List.mem_of_getElem? (i := 107) (by decide +kernel))) rfl⟩
def M_J9_max_7cf53 : MD := (yJ9_max_7cf53, cJ9_max_7cf53, 2, (some .int))
theorem mk_J9_max_7cf53 : MKS M_J9_max_7cf53 2 := ⟨⟨mem_lwg (tb_1 _ (List.mem_of_getElem? (i := 12) (by decide +kernel))) rfl, mem_lwg (tb_3 _ (List.mem_of_getElem? (i := 96) (by decide +kernel))) rfl, by decide +kernel, by decide +kernel, by decide +kernel, by decide⟩, mem_lwg (tb_3 _ (List.mem_of_getElem? (i := 95) (by decide +kernel))) rfl⟩
def M_J9_min_7cf53 : MD := (yJ9_min_7cf53, cJ9_min_7cf53, 2, (some .int))
theorem mk_J9_min_7cf53 : MKS M_J9_min_7cf53 2 := ⟨⟨mem_lwg (tb_1 _ (List.mem_of_getElem? (i := 12) (by decide +kernel))) rfl, mem_lwg (tb_3 _ (List.mem_of_getElem? (i := 86) (by decide +kernel))) rfl, by decide +kernel, by decide +kernel, by decide +kernel, by decide⟩, mem_lwg (tb_3 _ (List.mem_of_getElem? (i := 85) (by decide +kernel))) rfl⟩
def M_J7_rangeCheck_23922 : MD := (yJ7_rangeCheck_23922, cJ7_rangeCheck_23922, 3, none)
theorem mk_J7_rangeCheck_23922 : MKS M_J7_rangeCheck_23922 3 := ⟨⟨mem_lwg (tb_1 _ (List.mem_of_getElem? (i := 3) (by decide +kernel))) rfl, mem_lwg (tb_4 _ (List.mem_of_getElem? (i := 130) (by decide +kernel))) rfl, by decide +kernel, by decide +kernel, by decide +kernel, by decide⟩, mem_lwg (tb_4 _ (List.mem_of_getElem? (i := 129) (by decide +kernel))) rfl⟩
def M_J7_fill_53178 : MD := (yJ7_fill_53178, cJ7_fill_53178, 4, none)
theorem mk_J7_fill_53178 : MKS M_J7_fill_53178 2 := ⟨⟨mem_lwg (tb_1 _ (List.mem_of_getElem? (i := 3) (by decide +kernel))) rfl, mem_lwg (tb_1 _ (List.mem_of_getElem? (i := 34) (by decide +kernel))) rfl, by decide +kernel, by decide +kernel, by decide +kernel, by decide⟩, mem_lwg (tb_1 _ (List.mem_of_getElem? (i := 33) (by decide +kernel))) rfl⟩
def M_J7_fill_fda19 : MD := (yJ7_fill_fda19, cJ7_fill_fda19, 5, none)
theorem mk_J7_fill_fda19 : MKS M_J7_fill_fda19 4 := ⟨⟨mem_lwg (tb_1 _ (List.mem_of_getElem? (i := 3) (by decide +kernel))) rfl, mem_lwg (tb_4 _ (List.mem_of_getElem? (i := 127) (by decide +kernel))) rfl, by decide +kernel, by decide +kernel, by decide +kernel, by decide⟩, mem_lwg (tb_4 _ (List.mem_of_getElem? (i := 126) (by decide +kernel))) rfl⟩
def M_J7_fill_031fb : MD := (yJ7_fill_031fb, cJ7_fill_031fb, 4, none)
theorem mk_J7_fill_031fb : MKS M_J7_fill_031fb 2 := ⟨⟨mem_lwg (tb_1 _ (List.mem_of_getElem? (i := 3) (by decide +kernel))) rfl, mem_lwg (tb_2 _ (List.mem_of_getElem? (i := 172) (by decide +kernel))) rfl, by decide +kernel, by decide +kernel, by decide +kernel, by decide⟩, mem_lwg (tb_2 _ (List.mem_of_getElem? (i := 171) (by decide +kernel))) rfl⟩
def M_L_law : MD := (yL_law, cL_law, 4, (some .boolean))
theorem ob_X9_3 : Cond.methodLink RX9 3 objectInit ∈ lwg := mem_lwg (tb_1 _ (List.mem_of_getElem? (i := 23) (by decide +kernel))) rfl
theorem cl_X9_11 : CIk RX9 11 M_X4_init 0 := CIk.of mk_X4_init (mem_lwg (tb_1 _ (List.mem_of_getElem? (i := 28) (by decide +kernel))) rfl)
theorem cl_X9_18 : CIk RX9 18 M_X1_init 0 := CIk.of mk_X1_init (mem_lwg (tb_1 _ (List.mem_of_getElem? (i := 71) (by decide +kernel))) rfl)
theorem cl_X9_97 : CVk RX9 97 M_X3_list 1 := CVk.of mk_X3_list (mem_lwg (tb_2 _ (List.mem_of_getElem? (i := 90) (by decide +kernel))) rfl)
theorem cl_X9_101 : CVk RX9 101 M_X4_begin 2 := CVk.of mk_X4_begin (mem_lwg (tb_2 _ (List.mem_of_getElem? (i := 162) (by decide +kernel))) rfl)
theorem cl_X9_105 : CVk RX9 105 M_X1_begin 0 := CVk.of mk_X1_begin (mem_lwg (tb_2 _ (List.mem_of_getElem? (i := 173) (by decide +kernel))) rfl)
theorem cl_X9_107 : CVk RX9 107 M_X9_pathsTold 0 := CVk.of mk_X9_pathsTold (mem_lwg (tb_2 _ (List.mem_of_getElem? (i := 174) (by decide +kernel))) rfl)
theorem cl_X9_113 : CVk RX9 113 M_X9_isPulse 1 := CVk.of mk_X9_isPulse (mem_lwg (tb_2 _ (List.mem_of_getElem? (i := 198) (by decide +kernel))) rfl)
theorem cl_X9_120 : CVk RX9 120 M_X4_unmark 0 := CVk.of mk_X4_unmark (mem_lwg (tb_2 _ (List.mem_of_getElem? (i := 202) (by decide +kernel))) rfl)
theorem cl_X9_126 : CVk RX9 126 M_X9_cycleTold 0 := CVk.of mk_X9_cycleTold (mem_lwg (tb_2 _ (List.mem_of_getElem? (i := 182) (by decide +kernel))) rfl)
theorem cl_X9_129 : CVk RX9 129 M_X9_searchesTold 0 := CVk.of mk_X9_searchesTold (mem_lwg (tb_2 _ (List.mem_of_getElem? (i := 190) (by decide +kernel))) rfl)
theorem cl_X9_132 : CSk RX9 132 M_X9_isCounter 1 := CSk.of mk_X9_isCounter (mem_lwg (tb_2 _ (List.mem_of_getElem? (i := 211) (by decide +kernel))) rfl)
theorem cl_X9_135 : CVk RX9 135 M_X1_scansBut 1 := CVk.of mk_X1_scansBut (mem_lwg (tb_2 _ (List.mem_of_getElem? (i := 214) (by decide +kernel))) rfl)
theorem cl_X9_142 : CVk RX9 142 M_X1_countScans 0 := CVk.of mk_X1_countScans (mem_lwg (tb_2 _ (List.mem_of_getElem? (i := 218) (by decide +kernel))) rfl)
theorem cl_X9_146 : CVk RX9 146 M_X9_isRow 1 := CVk.of mk_X9_isRow (mem_lwg (tb_2 _ (List.mem_of_getElem? (i := 226) (by decide +kernel))) rfl)
theorem cl_X9_155 : CVk RX9 155 M_X9_goneTold 0 := CVk.of mk_X9_goneTold (mem_lwg (tb_2 _ (List.mem_of_getElem? (i := 186) (by decide +kernel))) rfl)
theorem cl_X9_161 : CVk RX9 161 M_X1_exchange 2 := CVk.of mk_X1_exchange (mem_lwg (tb_3 _ (List.mem_of_getElem? (i := 2) (by decide +kernel))) rfl)
theorem cl_X9_167 : CVk RX9 167 M_X9_mark 3 := CVk.of mk_X9_mark (mem_lwg (tb_3 _ (List.mem_of_getElem? (i := 14) (by decide +kernel))) rfl)
theorem cl_X9_174 : CVk RX9 174 M_X3_orderOf 2 := CVk.of mk_X3_orderOf (mem_lwg (tb_3 _ (List.mem_of_getElem? (i := 30) (by decide +kernel))) rfl)
theorem cl_X9_181 : CVk RX9 181 M_X9_isPath 1 := CVk.of mk_X9_isPath (mem_lwg (tb_3 _ (List.mem_of_getElem? (i := 18) (by decide +kernel))) rfl)
theorem cl_X9_184 : CVk RX9 184 M_X4_firstWished 1 := CVk.of mk_X4_firstWished (mem_lwg (tb_2 _ (List.mem_of_getElem? (i := 178) (by decide +kernel))) rfl)
theorem cl_X9_190 : CVk RX9 190 M_X7_put 1 := CVk.of mk_X7_put (mem_lwg (tb_3 _ (List.mem_of_getElem? (i := 35) (by decide +kernel))) rfl)
theorem cl_X9_197 : CVk RX9 197 M_X7_read 2 := CVk.of mk_X7_read (mem_lwg (tb_3 _ (List.mem_of_getElem? (i := 47) (by decide +kernel))) rfl)
theorem cl_X9_206 : CVk RX9 206 M_X1_takeRows 2 := CVk.of mk_X1_takeRows (mem_lwg (tb_3 _ (List.mem_of_getElem? (i := 87) (by decide +kernel))) rfl)
theorem cl_X9_216 : CVk RX9 216 M_X9_findFewest 0 := CVk.of mk_X9_findFewest (mem_lwg (tb_3 _ (List.mem_of_getElem? (i := 105) (by decide +kernel))) rfl)
theorem cl_X9_222 : CVk RX9 222 M_X9_layFewest 0 := CVk.of mk_X9_layFewest (mem_lwg (tb_3 _ (List.mem_of_getElem? (i := 160) (by decide +kernel))) rfl)
theorem cl_X9_226 : CVk RX9 226 M_X9_findCogs 0 := CVk.of mk_X9_findCogs (mem_lwg (tb_3 _ (List.mem_of_getElem? (i := 164) (by decide +kernel))) rfl)
theorem cl_X9_232 : CVk RX9 232 M_X9_layCogs 0 := CVk.of mk_X9_layCogs (mem_lwg (tb_3 _ (List.mem_of_getElem? (i := 185) (by decide +kernel))) rfl)
theorem cl_X9_244 : CVk RX9 244 M_X9_isScan 1 := CVk.of mk_X9_isScan (mem_lwg (tb_3 _ (List.mem_of_getElem? (i := 201) (by decide +kernel))) rfl)
theorem cl_X9_247 : CVk RX9 247 M_X9_buildScans 0 := CVk.of mk_X9_buildScans (mem_lwg (tb_3 _ (List.mem_of_getElem? (i := 205) (by decide +kernel))) rfl)
theorem cl_X9_254 : CVk RX9 254 M_X5_residues 2 := CVk.of mk_X5_residues (mem_lwg (tb_3 _ (List.mem_of_getElem? (i := 236) (by decide +kernel))) rfl)
theorem cl_X9_259 : CVk RX9 259 M_X5_tally 3 := CVk.of mk_X5_tally (mem_lwg (tb_4 _ (List.mem_of_getElem? (i := 4) (by decide +kernel))) rfl)
theorem cl_X9_263 : CVk RX9 263 M_X9_stateOf 1 := CVk.of mk_X9_stateOf (mem_lwg (tb_4 _ (List.mem_of_getElem? (i := 13) (by decide +kernel))) rfl)
theorem cl_X9_266 : CVk RX9 266 M_X9_isIn 2 := CVk.of mk_X9_isIn (mem_lwg (tb_4 _ (List.mem_of_getElem? (i := 39) (by decide +kernel))) rfl)
theorem cl_X9_270 : CVk RX9 270 M_X3_countChanges 2 := CVk.of mk_X3_countChanges (mem_lwg (tb_4 _ (List.mem_of_getElem? (i := 48) (by decide +kernel))) rfl)
theorem cl_X9_273 : CVk RX9 273 M_X3_greatestOrder 2 := CVk.of mk_X3_greatestOrder (mem_lwg (tb_4 _ (List.mem_of_getElem? (i := 52) (by decide +kernel))) rfl)
theorem cl_X9_276 : CVk RX9 276 M_X9_weighPaths 0 := CVk.of mk_X9_weighPaths (mem_lwg (tb_3 _ (List.mem_of_getElem? (i := 113) (by decide +kernel))) rfl)
theorem cl_X9_283 : CVk RX9 283 M_X9_isGone 1 := CVk.of mk_X9_isGone (mem_lwg (tb_4 _ (List.mem_of_getElem? (i := 43) (by decide +kernel))) rfl)
theorem cl_X9_286 : CVk RX9 286 M_X9_count 1 := CVk.of mk_X9_count (mem_lwg (tb_4 _ (List.mem_of_getElem? (i := 61) (by decide +kernel))) rfl)
theorem cl_X9_288 : CVk RX9 288 M_X9_member 2 := CVk.of mk_X9_member (mem_lwg (tb_4 _ (List.mem_of_getElem? (i := 65) (by decide +kernel))) rfl)
theorem cl_X9_291 : CVk RX9 291 M_X9_gatherLeaks 0 := CVk.of mk_X9_gatherLeaks (mem_lwg (tb_4 _ (List.mem_of_getElem? (i := 73) (by decide +kernel))) rfl)
theorem cl_X9_294 : CVk RX9 294 M_X9_leakByWeight 2 := CVk.of mk_X9_leakByWeight (mem_lwg (tb_4 _ (List.mem_of_getElem? (i := 77) (by decide +kernel))) rfl)
theorem cl_X9_300 : CVk RX9 300 M_X9_leakOfWeight 3 := CVk.of mk_X9_leakOfWeight (mem_lwg (tb_4 _ (List.mem_of_getElem? (i := 82) (by decide +kernel))) rfl)
theorem cl_X9_304 : CVk RX9 304 M_X9_isStoppedBy 2 := CVk.of mk_X9_isStoppedBy (mem_lwg (tb_4 _ (List.mem_of_getElem? (i := 90) (by decide +kernel))) rfl)
theorem cl_X9_307 : CVk RX9 307 M_X9_pace 2 := CVk.of mk_X9_pace (mem_lwg (tb_4 _ (List.mem_of_getElem? (i := 94) (by decide +kernel))) rfl)
theorem cl_X9_310 : CSk RX9 310 M_J9_floorMod_7cf53 2 := CSk.of mk_J9_floorMod_7cf53 (mem_lwg (tb_4 _ (List.mem_of_getElem? (i := 99) (by decide +kernel))) rfl)
theorem cl_X9_315 : CVk RX9 315 M_X6_begin 1 := CVk.of mk_X6_begin (mem_lwg (tb_4 _ (List.mem_of_getElem? (i := 102) (by decide +kernel))) rfl)
theorem cl_X9_317 : CVk RX9 317 M_X6_add 2 := CVk.of mk_X6_add (mem_lwg (tb_4 _ (List.mem_of_getElem? (i := 103) (by decide +kernel))) rfl)
theorem cl_X9_320 : CVk RX9 320 M_X6_state 0 := CVk.of mk_X6_state (mem_lwg (tb_4 _ (List.mem_of_getElem? (i := 104) (by decide +kernel))) rfl)
theorem cl_X9_323 : CVk RX9 323 M_X3_changeOf 2 := CVk.of mk_X3_changeOf (mem_lwg (tb_4 _ (List.mem_of_getElem? (i := 98) (by decide +kernel))) rfl)
theorem cl_X9_329 : CVk RX9 329 M_X9_wouldBeGood 0 := CVk.of mk_X9_wouldBeGood (mem_lwg (tb_4 _ (List.mem_of_getElem? (i := 109) (by decide +kernel))) rfl)
theorem cl_X9_332 : CVk RX9 332 M_X9_matters 1 := CVk.of mk_X9_matters (mem_lwg (tb_4 _ (List.mem_of_getElem? (i := 113) (by decide +kernel))) rfl)
theorem cl_X9_335 : CVk RX9 335 M_X9_earlyState 2 := CVk.of mk_X9_earlyState (mem_lwg (tb_4 _ (List.mem_of_getElem? (i := 117) (by decide +kernel))) rfl)
theorem cl_X9_338 : CSk RX9 338 M_J7_fill_fda19 4 := CSk.of mk_J7_fill_fda19 (mem_lwg (tb_4 _ (List.mem_of_getElem? (i := 125) (by decide +kernel))) rfl)
theorem cl_X9_344 : CVk RX9 344 M_X9_strikeScans 1 := CVk.of mk_X9_strikeScans (mem_lwg (tb_4 _ (List.mem_of_getElem? (i := 131) (by decide +kernel))) rfl)
theorem cl_X9_347 : CVk RX9 347 M_X6_stateOf 2 := CVk.of mk_X6_stateOf (mem_lwg (tb_4 _ (List.mem_of_getElem? (i := 18) (by decide +kernel))) rfl)
theorem cl_X9_352 : CSk RX9 352 M_J9_abs_0f7a4 1 := CSk.of mk_J9_abs_0f7a4 (mem_lwg (tb_4 _ (List.mem_of_getElem? (i := 160) (by decide +kernel))) rfl)
theorem cl_X9_355 : CSk RX9 355 M_X9_twiceCosine 2 := CSk.of mk_X9_twiceCosine (mem_lwg (tb_4 _ (List.mem_of_getElem? (i := 161) (by decide +kernel))) rfl)
theorem cl_X9_360 : CVk RX9 360 M_X9_gatherWants 0 := CVk.of mk_X9_gatherWants (mem_lwg (tb_3 _ (List.mem_of_getElem? (i := 109) (by decide +kernel))) rfl)
theorem cl_X9_363 : CVk RX9 363 M_X8_countLeft 2 := CVk.of mk_X8_countLeft (mem_lwg (tb_4 _ (List.mem_of_getElem? (i := 169) (by decide +kernel))) rfl)
theorem cl_X9_367 : CVk RX9 367 M_X9_divisor 1 := CVk.of mk_X9_divisor (mem_lwg (tb_4 _ (List.mem_of_getElem? (i := 177) (by decide +kernel))) rfl)
theorem cl_X9_370 : CVk RX9 370 M_X9_dividend 1 := CVk.of mk_X9_dividend (mem_lwg (tb_4 _ (List.mem_of_getElem? (i := 181) (by decide +kernel))) rfl)
theorem cl_X9_373 : CSk RX9 373 M_X9_bitsOfFloat 1 := CSk.of mk_X9_bitsOfFloat (mem_lwg (tb_4 _ (List.mem_of_getElem? (i := 185) (by decide +kernel))) rfl)
theorem cl_X9_377 : CSk RX9 377 M_X9_bitsOfDouble 1 := CSk.of mk_X9_bitsOfDouble (mem_lwg (tb_4 _ (List.mem_of_getElem? (i := 193) (by decide +kernel))) rfl)
theorem cl_X9_388 : CVk RX9 388 M_X4_copyFrom 1 := CVk.of mk_X4_copyFrom (mem_lwg (tb_4 _ (List.mem_of_getElem? (i := 203) (by decide +kernel))) rfl)
theorem cl_X9_391 : CVk RX9 391 M_X1_copyFrom 1 := CVk.of mk_X1_copyFrom (mem_lwg (tb_4 _ (List.mem_of_getElem? (i := 208) (by decide +kernel))) rfl)
theorem cl_X9_394 : CVk RX9 394 M_X4_countMarks 2 := CVk.of mk_X4_countMarks (mem_lwg (tb_4 _ (List.mem_of_getElem? (i := 216) (by decide +kernel))) rfl)
theorem cl_X9_397 : CVk RX9 397 M_X9_countWeights 1 := CVk.of mk_X9_countWeights (mem_lwg (tb_4 _ (List.mem_of_getElem? (i := 220) (by decide +kernel))) rfl)
theorem cl_X9_400 : CVk RX9 400 M_X9_lookAtParts 1 := CVk.of mk_X9_lookAtParts (mem_lwg (tb_4 _ (List.mem_of_getElem? (i := 224) (by decide +kernel))) rfl)
theorem cl_X9_404 : CVk RX9 404 M_X3_isGone 1 := CVk.of mk_X3_isGone (mem_lwg (tb_4 _ (List.mem_of_getElem? (i := 47) (by decide +kernel))) rfl)
theorem cl_X9_405 : CSk RX9 405 M_J7_fill_031fb 2 := CSk.of mk_J7_fill_031fb (mem_lwg (tb_4 _ (List.mem_of_getElem? (i := 17) (by decide +kernel))) rfl)
theorem cl_X9_408 : CVk RX9 408 M_X5_build 2 := CVk.of mk_X5_build (mem_lwg (tb_3 _ (List.mem_of_getElem? (i := 209) (by decide +kernel))) rfl)
theorem cl_X9_412 : CVk RX9 412 M_X5_trackChief 2 := CVk.of mk_X5_trackChief (mem_lwg (tb_3 _ (List.mem_of_getElem? (i := 218) (by decide +kernel))) rfl)
theorem cl_X9_416 : CVk RX9 416 M_X5_begin 0 := CVk.of mk_X5_begin (mem_lwg (tb_3 _ (List.mem_of_getElem? (i := 228) (by decide +kernel))) rfl)
theorem cl_X9_420 : CVk RX9 420 M_X3_weigh 1 := CVk.of mk_X3_weigh (mem_lwg (tb_3 _ (List.mem_of_getElem? (i := 117) (by decide +kernel))) rfl)
theorem cl_X9_426 : CVk RX9 426 M_X8_gather 3 := CVk.of mk_X8_gather (mem_lwg (tb_3 _ (List.mem_of_getElem? (i := 125) (by decide +kernel))) rfl)
theorem cl_X9_431 : CVk RX9 431 M_X2_search 3 := CVk.of mk_X2_search (mem_lwg (tb_3 _ (List.mem_of_getElem? (i := 147) (by decide +kernel))) rfl)
theorem cl_X9_436 : CVk RX9 436 M_X0_search 4 := CVk.of mk_X0_search (mem_lwg (tb_3 _ (List.mem_of_getElem? (i := 168) (by decide +kernel))) rfl)
theorem ob_X0_3 : Cond.methodLink RX0 3 objectInit ∈ lwg := mem_lwg (tb_2 _ (List.mem_of_getElem? (i := 70) (by decide +kernel))) rfl
theorem cl_X0_39 : CVk RX0 39 M_X0_sortOut 3 := CVk.of mk_X0_sortOut (mem_lwg (tb_3 _ (List.mem_of_getElem? (i := 172) (by decide +kernel))) rfl)
theorem cl_X0_43 : CSk RX0 43 M_X0_pick 6 := CSk.of mk_X0_pick (mem_lwg (tb_3 _ (List.mem_of_getElem? (i := 177) (by decide +kernel))) rfl)
theorem cl_X0_50 : CVk RX0 50 M_X3_isGone 1 := CVk.of mk_X3_isGone (mem_lwg (tb_3 _ (List.mem_of_getElem? (i := 176) (by decide +kernel))) rfl)
theorem cl_X0_58 : CVk RX0 58 M_X0_fits 5 := CVk.of mk_X0_fits (mem_lwg (tb_3 _ (List.mem_of_getElem? (i := 180) (by decide +kernel))) rfl)
theorem cl_X0_62 : CVk RX0 62 M_X8_gap 3 := CVk.of mk_X8_gap (mem_lwg (tb_3 _ (List.mem_of_getElem? (i := 184) (by decide +kernel))) rfl)
theorem ob_X1_3 : Cond.methodLink RX1 3 objectInit ∈ lwg := mem_lwg (tb_1 _ (List.mem_of_getElem? (i := 74) (by decide +kernel))) rfl
theorem cl_X1_32 : CVk RX1 32 M_X1_begin 0 := CVk.of mk_X1_begin (mem_lwg (tb_1 _ (List.mem_of_getElem? (i := 75) (by decide +kernel))) rfl)
theorem cl_X1_35 : CSk RX1 35 M_J7_fill_53178 2 := CSk.of mk_J7_fill_53178 (mem_lwg (tb_1 _ (List.mem_of_getElem? (i := 79) (by decide +kernel))) rfl)
theorem ac_X1_41 : Cond.methodLink RX1 41 arraycopyName ∈ lwg := mem_lwg (tb_3 _ (List.mem_of_getElem? (i := 91) (by decide +kernel))) rfl
theorem cl_X1_47 : CSk RX1 47 M_J9_max_7cf53 2 := CSk.of mk_J9_max_7cf53 (mem_lwg (tb_3 _ (List.mem_of_getElem? (i := 94) (by decide +kernel))) rfl)
theorem ob_X2_3 : Cond.methodLink RX2 3 objectInit ∈ lwg := mem_lwg (tb_2 _ (List.mem_of_getElem? (i := 45) (by decide +kernel))) rfl
theorem cl_X2_40 : CSk RX2 40 M_X2_pick 7 := CSk.of mk_X2_pick (mem_lwg (tb_3 _ (List.mem_of_getElem? (i := 152) (by decide +kernel))) rfl)
theorem ac_X2_47 : Cond.methodLink RX2 47 arraycopyName ∈ lwg := mem_lwg (tb_3 _ (List.mem_of_getElem? (i := 155) (by decide +kernel))) rfl
theorem cl_X2_56 : CVk RX2 56 M_X8_keepLeft 4 := CVk.of mk_X8_keepLeft (mem_lwg (tb_3 _ (List.mem_of_getElem? (i := 156) (by decide +kernel))) rfl)
theorem ob_X3_3 : Cond.methodLink RX3 3 objectInit ∈ lwg := mem_lwg (tb_1 _ (List.mem_of_getElem? (i := 143) (by decide +kernel))) rfl
theorem cl_X3_42 : CVk RX3 42 M_X3_spell 2 := CVk.of mk_X3_spell (mem_lwg (tb_2 _ (List.mem_of_getElem? (i := 94) (by decide +kernel))) rfl)
theorem cl_X3_46 : CVk RX3 46 M_X3_keepsKinds 1 := CVk.of mk_X3_keepsKinds (mem_lwg (tb_2 _ (List.mem_of_getElem? (i := 98) (by decide +kernel))) rfl)
theorem cl_X3_50 : CVk RX3 50 M_X3_orderOf 2 := CVk.of mk_X3_orderOf (mem_lwg (tb_2 _ (List.mem_of_getElem? (i := 102) (by decide +kernel))) rfl)
theorem cl_X3_57 : CSk RX3 57 M_J9_abs_0f7a4 1 := CSk.of mk_J9_abs_0f7a4 (mem_lwg (tb_2 _ (List.mem_of_getElem? (i := 106) (by decide +kernel))) rfl)
theorem cl_X3_64 : CVk RX3 64 M_X3_changeOf 2 := CVk.of mk_X3_changeOf (mem_lwg (tb_3 _ (List.mem_of_getElem? (i := 121) (by decide +kernel))) rfl)
theorem cl_X3_70 : CSk RX3 70 M_J9_max_7cf53 2 := CSk.of mk_J9_max_7cf53 (mem_lwg (tb_4 _ (List.mem_of_getElem? (i := 56) (by decide +kernel))) rfl)
theorem ob_X4_3 : Cond.methodLink RX4 3 objectInit ∈ lwg := mem_lwg (tb_1 _ (List.mem_of_getElem? (i := 31) (by decide +kernel))) rfl
theorem cl_X4_32 : CSk RX4 32 M_J7_fill_53178 2 := CSk.of mk_J7_fill_53178 (mem_lwg (tb_1 _ (List.mem_of_getElem? (i := 32) (by decide +kernel))) rfl)
theorem cl_X4_38 : CVk RX4 38 M_X4_unmark 0 := CVk.of mk_X4_unmark (mem_lwg (tb_2 _ (List.mem_of_getElem? (i := 166) (by decide +kernel))) rfl)
theorem cl_X4_41 : CSk RX4 41 M_J7_fill_031fb 2 := CSk.of mk_J7_fill_031fb (mem_lwg (tb_2 _ (List.mem_of_getElem? (i := 170) (by decide +kernel))) rfl)
theorem ac_X4_44 : Cond.methodLink RX4 44 arraycopyName ∈ lwg := mem_lwg (tb_4 _ (List.mem_of_getElem? (i := 207) (by decide +kernel))) rfl
theorem ob_X5_3 : Cond.methodLink RX5 3 objectInit ∈ lwg := mem_lwg (tb_1 _ (List.mem_of_getElem? (i := 176) (by decide +kernel))) rfl
theorem cl_X5_40 : CVk RX5 40 M_X1_countScans 0 := CVk.of mk_X1_countScans (mem_lwg (tb_3 _ (List.mem_of_getElem? (i := 213) (by decide +kernel))) rfl)
theorem cl_X5_47 : CVk RX5 47 M_X1_ownPhase 2 := CVk.of mk_X1_ownPhase (mem_lwg (tb_3 _ (List.mem_of_getElem? (i := 214) (by decide +kernel))) rfl)
theorem cl_X5_51 : CSk RX5 51 M_J7_fill_53178 2 := CSk.of mk_J7_fill_53178 (mem_lwg (tb_3 _ (List.mem_of_getElem? (i := 222) (by decide +kernel))) rfl)
theorem cl_X5_57 : CVk RX5 57 M_X3_changeOf 2 := CVk.of mk_X3_changeOf (mem_lwg (tb_3 _ (List.mem_of_getElem? (i := 223) (by decide +kernel))) rfl)
theorem cl_X5_62 : CVk RX5 62 M_X5_addPulse 4 := CVk.of mk_X5_addPulse (mem_lwg (tb_3 _ (List.mem_of_getElem? (i := 224) (by decide +kernel))) rfl)
theorem cl_X5_66 : CVk RX5 66 M_X5_residues 2 := CVk.of mk_X5_residues (mem_lwg (tb_4 _ (List.mem_of_getElem? (i := 8) (by decide +kernel))) rfl)
theorem ob_X6_3 : Cond.methodLink RX6 3 objectInit ∈ lwg := mem_lwg (tb_1 _ (List.mem_of_getElem? (i := 212) (by decide +kernel))) rfl
theorem cl_X6_38 : CVk RX6 38 M_X6_factor 1 := CVk.of mk_X6_factor (mem_lwg (tb_4 _ (List.mem_of_getElem? (i := 26) (by decide +kernel))) rfl)
theorem cl_X6_42 : CSk RX6 42 M_J7_fill_53178 2 := CSk.of mk_J7_fill_53178 (mem_lwg (tb_4 _ (List.mem_of_getElem? (i := 30) (by decide +kernel))) rfl)
theorem cl_X6_48 : CVk RX6 48 M_X6_begin 1 := CVk.of mk_X6_begin (mem_lwg (tb_4 _ (List.mem_of_getElem? (i := 22) (by decide +kernel))) rfl)
theorem cl_X6_51 : CVk RX6 51 M_X6_add 2 := CVk.of mk_X6_add (mem_lwg (tb_4 _ (List.mem_of_getElem? (i := 31) (by decide +kernel))) rfl)
theorem cl_X6_55 : CVk RX6 55 M_X6_state 0 := CVk.of mk_X6_state (mem_lwg (tb_4 _ (List.mem_of_getElem? (i := 35) (by decide +kernel))) rfl)
theorem ob_X7_3 : Cond.methodLink RX7 3 objectInit ∈ lwg := mem_lwg (tb_1 _ (List.mem_of_getElem? (i := 110) (by decide +kernel))) rfl
theorem cl_X7_35 : CSk RX7 35 M_J7_fill_53178 2 := CSk.of mk_J7_fill_53178 (mem_lwg (tb_3 _ (List.mem_of_getElem? (i := 51) (by decide +kernel))) rfl)
theorem cl_X7_41 : CVk RX7 41 M_X7_skipBlanks 0 := CVk.of mk_X7_skipBlanks (mem_lwg (tb_3 _ (List.mem_of_getElem? (i := 52) (by decide +kernel))) rfl)
theorem cl_X7_44 : CVk RX7 44 M_X7_readRow 2 := CVk.of mk_X7_readRow (mem_lwg (tb_3 _ (List.mem_of_getElem? (i := 60) (by decide +kernel))) rfl)
theorem cl_X7_48 : CVk RX7 48 M_X7_readName 1 := CVk.of mk_X7_readName (mem_lwg (tb_3 _ (List.mem_of_getElem? (i := 64) (by decide +kernel))) rfl)
theorem cl_X7_52 : CVk RX7 52 M_X7_fail 2 := CVk.of mk_X7_fail (mem_lwg (tb_3 _ (List.mem_of_getElem? (i := 68) (by decide +kernel))) rfl)
theorem cl_X7_55 : CVk RX7 55 M_X7_byteHere 0 := CVk.of mk_X7_byteHere (mem_lwg (tb_3 _ (List.mem_of_getElem? (i := 56) (by decide +kernel))) rfl)
theorem cl_X7_59 : CVk RX7 59 M_X7_readNumbers 2 := CVk.of mk_X7_readNumbers (mem_lwg (tb_3 _ (List.mem_of_getElem? (i := 72) (by decide +kernel))) rfl)
theorem cl_X7_62 : CVk RX7 62 M_X7_digitHere 0 := CVk.of mk_X7_digitHere (mem_lwg (tb_3 _ (List.mem_of_getElem? (i := 76) (by decide +kernel))) rfl)
theorem cl_X7_66 : CVk RX7 66 M_X7_readNumber 0 := CVk.of mk_X7_readNumber (mem_lwg (tb_3 _ (List.mem_of_getElem? (i := 80) (by decide +kernel))) rfl)
theorem cl_X7_69 : CSk RX7 69 M_J9_min_7cf53 2 := CSk.of mk_J9_min_7cf53 (mem_lwg (tb_3 _ (List.mem_of_getElem? (i := 84) (by decide +kernel))) rfl)
theorem ob_X8_3 : Cond.methodLink RX8 3 objectInit ∈ lwg := mem_lwg (tb_2 _ (List.mem_of_getElem? (i := 3) (by decide +kernel))) rfl
theorem cl_X8_48 : CSk RX8 48 M_J7_fill_53178 2 := CSk.of mk_J7_fill_53178 (mem_lwg (tb_3 _ (List.mem_of_getElem? (i := 129) (by decide +kernel))) rfl)
theorem cl_X8_54 : CVk RX8 54 M_X3_changeOf 2 := CVk.of mk_X3_changeOf (mem_lwg (tb_3 _ (List.mem_of_getElem? (i := 130) (by decide +kernel))) rfl)
theorem cl_X8_58 : CVk RX8 58 M_X8_sort 3 := CVk.of mk_X8_sort (mem_lwg (tb_3 _ (List.mem_of_getElem? (i := 131) (by decide +kernel))) rfl)
theorem cl_X8_62 : CVk RX8 62 M_X3_isGone 1 := CVk.of mk_X3_isGone (mem_lwg (tb_3 _ (List.mem_of_getElem? (i := 135) (by decide +kernel))) rfl)
theorem cl_X8_69 : CVk RX8 69 M_X8_gap 3 := CVk.of mk_X8_gap (mem_lwg (tb_3 _ (List.mem_of_getElem? (i := 139) (by decide +kernel))) rfl)
theorem cl_X8_73 : CSk RX8 73 M_J9_abs_0f7a4 1 := CSk.of mk_J9_abs_0f7a4 (mem_lwg (tb_3 _ (List.mem_of_getElem? (i := 143) (by decide +kernel))) rfl)
theorem cl_X8_79 : CSk RX8 79 M_X8_divisorOf 2 := CSk.of mk_X8_divisorOf (mem_lwg (tb_3 _ (List.mem_of_getElem? (i := 144) (by decide +kernel))) rfl)
theorem cl_L_9 : CIk RL 9 M_X9_init 0 := CIk.of mk_X9_init (mem_lwg (tb_1 _ (List.mem_of_getElem? (i := 20) (by decide +kernel))) rfl)
theorem cl_L_12 : CIk RL 12 M_X10_init 0 := CIk.of mk_X10_init (mem_lwg (tb_4 _ (List.mem_of_getElem? (i := 230) (by decide +kernel))) rfl)
theorem cl_L_13 : CVk RL 13 M_X9_pulses 2 := CVk.of mk_X9_pulses (mem_lwg (tb_2 _ (List.mem_of_getElem? (i := 158) (by decide +kernel))) rfl)
theorem cl_L_17 : CVk RL 17 M_X10_pulses 2 := CVk.of mk_X10_pulses (mem_lwg (tb_5 _ (List.mem_of_getElem? (i := 120) (by decide +kernel))) rfl)
theorem cl_L_18 : CVk RL 18 M_X9_kind 2 := CVk.of mk_X9_kind (mem_lwg (tb_2 _ (List.mem_of_getElem? (i := 194) (by decide +kernel))) rfl)
theorem cl_L_22 : CVk RL 22 M_X10_kind 2 := CVk.of mk_X10_kind (mem_lwg (tb_5 _ (List.mem_of_getElem? (i := 136) (by decide +kernel))) rfl)
theorem cl_L_23 : CVk RL 23 M_X9_turn 1 := CVk.of mk_X9_turn (mem_lwg (tb_2 _ (List.mem_of_getElem? (i := 203) (by decide +kernel))) rfl)
theorem cl_L_27 : CVk RL 27 M_X10_turn 1 := CVk.of mk_X10_turn (mem_lwg (tb_5 _ (List.mem_of_getElem? (i := 144) (by decide +kernel))) rfl)
theorem cl_L_28 : CVk RL 28 M_X9_counter 2 := CVk.of mk_X9_counter (mem_lwg (tb_2 _ (List.mem_of_getElem? (i := 207) (by decide +kernel))) rfl)
theorem cl_L_31 : CVk RL 31 M_X10_counter 2 := CVk.of mk_X10_counter (mem_lwg (tb_5 _ (List.mem_of_getElem? (i := 148) (by decide +kernel))) rfl)
theorem cl_L_32 : CVk RL 32 M_X9_step 3 := CVk.of mk_X9_step (mem_lwg (tb_2 _ (List.mem_of_getElem? (i := 222) (by decide +kernel))) rfl)
theorem cl_L_36 : CVk RL 36 M_X10_step 3 := CVk.of mk_X10_step (mem_lwg (tb_5 _ (List.mem_of_getElem? (i := 164) (by decide +kernel))) rfl)
theorem cl_L_37 : CVk RL 37 M_X9_gradient 2 := CVk.of mk_X9_gradient (mem_lwg (tb_2 _ (List.mem_of_getElem? (i := 230) (by decide +kernel))) rfl)
theorem cl_L_40 : CVk RL 40 M_X10_gradient 2 := CVk.of mk_X10_gradient (mem_lwg (tb_5 _ (List.mem_of_getElem? (i := 172) (by decide +kernel))) rfl)
theorem cl_L_41 : CVk RL 41 M_X9_weight 3 := CVk.of mk_X9_weight (mem_lwg (tb_2 _ (List.mem_of_getElem? (i := 234) (by decide +kernel))) rfl)
theorem cl_L_44 : CVk RL 44 M_X10_weight 3 := CVk.of mk_X10_weight (mem_lwg (tb_5 _ (List.mem_of_getElem? (i := 176) (by decide +kernel))) rfl)
theorem cl_L_45 : CVk RL 45 M_X9_swap 2 := CVk.of mk_X9_swap (mem_lwg (tb_2 _ (List.mem_of_getElem? (i := 238) (by decide +kernel))) rfl)
theorem cl_L_48 : CVk RL 48 M_X10_swap 2 := CVk.of mk_X10_swap (mem_lwg (tb_5 _ (List.mem_of_getElem? (i := 180) (by decide +kernel))) rfl)
theorem cl_L_49 : CVk RL 49 M_X9_follow 1 := CVk.of mk_X9_follow (mem_lwg (tb_3 _ (List.mem_of_getElem? (i := 6) (by decide +kernel))) rfl)
theorem cl_L_53 : CVk RL 53 M_X10_follow 1 := CVk.of mk_X10_follow (mem_lwg (tb_5 _ (List.mem_of_getElem? (i := 188) (by decide +kernel))) rfl)
theorem cl_L_54 : CVk RL 54 M_X9_wish 2 := CVk.of mk_X9_wish (mem_lwg (tb_3 _ (List.mem_of_getElem? (i := 10) (by decide +kernel))) rfl)
theorem cl_L_58 : CVk RL 58 M_X10_wish 2 := CVk.of mk_X10_wish (mem_lwg (tb_5 _ (List.mem_of_getElem? (i := 196) (by decide +kernel))) rfl)
theorem cl_L_59 : CVk RL 59 M_X9_free 2 := CVk.of mk_X9_free (mem_lwg (tb_3 _ (List.mem_of_getElem? (i := 22) (by decide +kernel))) rfl)
theorem cl_L_62 : CVk RL 62 M_X10_free 2 := CVk.of mk_X10_free (mem_lwg (tb_5 _ (List.mem_of_getElem? (i := 208) (by decide +kernel))) rfl)
theorem cl_L_63 : CVk RL 63 M_X9_freeAll 2 := CVk.of mk_X9_freeAll (mem_lwg (tb_3 _ (List.mem_of_getElem? (i := 26) (by decide +kernel))) rfl)
theorem cl_L_66 : CVk RL 66 M_X10_freeAll 2 := CVk.of mk_X10_freeAll (mem_lwg (tb_5 _ (List.mem_of_getElem? (i := 212) (by decide +kernel))) rfl)
theorem cl_L_67 : CVk RL 67 M_X9_feed 5 := CVk.of mk_X9_feed (mem_lwg (tb_3 _ (List.mem_of_getElem? (i := 31) (by decide +kernel))) rfl)
theorem cl_L_71 : CVk RL 71 M_X10_feed 5 := CVk.of mk_X10_feed (mem_lwg (tb_5 _ (List.mem_of_getElem? (i := 216) (by decide +kernel))) rfl)
theorem cl_L_72 : CVk RL 72 M_X9_end 1 := CVk.of mk_X9_end (mem_lwg (tb_3 _ (List.mem_of_getElem? (i := 39) (by decide +kernel))) rfl)
theorem cl_L_75 : CVk RL 75 M_X10_end 1 := CVk.of mk_X10_end (mem_lwg (tb_5 _ (List.mem_of_getElem? (i := 224) (by decide +kernel))) rfl)
theorem cl_L_76 : CVk RL 76 M_X9_rows 0 := CVk.of mk_X9_rows (mem_lwg (tb_3 _ (List.mem_of_getElem? (i := 43) (by decide +kernel))) rfl)
theorem cl_L_80 : CVk RL 80 M_X10_rows 0 := CVk.of mk_X10_rows (mem_lwg (tb_5 _ (List.mem_of_getElem? (i := 228) (by decide +kernel))) rfl)
theorem cl_L_81 : CVk RL 81 M_X9_fault 1 := CVk.of mk_X9_fault (mem_lwg (tb_3 _ (List.mem_of_getElem? (i := 97) (by decide +kernel))) rfl)
theorem cl_L_85 : CVk RL 85 M_X10_fault 1 := CVk.of mk_X10_fault (mem_lwg (tb_6 _ (List.mem_of_getElem? (i := 16) (by decide +kernel))) rfl)
theorem cl_L_86 : CVk RL 86 M_X9_lay 1 := CVk.of mk_X9_lay (mem_lwg (tb_3 _ (List.mem_of_getElem? (i := 101) (by decide +kernel))) rfl)
theorem cl_L_89 : CVk RL 89 M_X10_lay 1 := CVk.of mk_X10_lay (mem_lwg (tb_6 _ (List.mem_of_getElem? (i := 108) (by decide +kernel))) rfl)
theorem cl_L_90 : CVk RL 90 M_X9_order 2 := CVk.of mk_X9_order (mem_lwg (tb_3 _ (List.mem_of_getElem? (i := 189) (by decide +kernel))) rfl)
theorem cl_L_93 : CVk RL 93 M_X10_order 2 := CVk.of mk_X10_order (mem_lwg (tb_6 _ (List.mem_of_getElem? (i := 128) (by decide +kernel))) rfl)
theorem cl_L_94 : CVk RL 94 M_X9_find 4 := CVk.of mk_X9_find (mem_lwg (tb_3 _ (List.mem_of_getElem? (i := 193) (by decide +kernel))) rfl)
theorem cl_L_98 : CVk RL 98 M_X10_find 4 := CVk.of mk_X10_find (mem_lwg (tb_6 _ (List.mem_of_getElem? (i := 132) (by decide +kernel))) rfl)
theorem cl_L_99 : CVk RL 99 M_X9_phase 2 := CVk.of mk_X9_phase (mem_lwg (tb_3 _ (List.mem_of_getElem? (i := 197) (by decide +kernel))) rfl)
theorem cl_L_102 : CVk RL 102 M_X10_phase 2 := CVk.of mk_X10_phase (mem_lwg (tb_6 _ (List.mem_of_getElem? (i := 136) (by decide +kernel))) rfl)
theorem cl_L_103 : CVk RL 103 M_X9_residue 2 := CVk.of mk_X9_residue (mem_lwg (tb_3 _ (List.mem_of_getElem? (i := 232) (by decide +kernel))) rfl)
theorem cl_L_106 : CVk RL 106 M_X10_residue 2 := CVk.of mk_X10_residue (mem_lwg (tb_6 _ (List.mem_of_getElem? (i := 168) (by decide +kernel))) rfl)
theorem cl_L_107 : CVk RL 107 M_X9_many 2 := CVk.of mk_X9_many (mem_lwg (tb_4 _ (List.mem_of_getElem? (i := 0) (by decide +kernel))) rfl)
theorem cl_L_110 : CVk RL 110 M_X10_many 2 := CVk.of mk_X10_many (mem_lwg (tb_6 _ (List.mem_of_getElem? (i := 176) (by decide +kernel))) rfl)
theorem cl_L_111 : CVk RL 111 M_X9_path 2 := CVk.of mk_X9_path (mem_lwg (tb_4 _ (List.mem_of_getElem? (i := 9) (by decide +kernel))) rfl)
theorem cl_L_114 : CVk RL 114 M_X10_path 2 := CVk.of mk_X10_path (mem_lwg (tb_6 _ (List.mem_of_getElem? (i := 184) (by decide +kernel))) rfl)
theorem cl_L_115 : CVk RL 115 M_X9_leak 1 := CVk.of mk_X9_leak (mem_lwg (tb_4 _ (List.mem_of_getElem? (i := 57) (by decide +kernel))) rfl)
theorem cl_L_118 : CVk RL 118 M_X10_leak 1 := CVk.of mk_X10_leak (mem_lwg (tb_6 _ (List.mem_of_getElem? (i := 224) (by decide +kernel))) rfl)
theorem cl_L_119 : CVk RL 119 M_X9_worst 2 := CVk.of mk_X9_worst (mem_lwg (tb_4 _ (List.mem_of_getElem? (i := 69) (by decide +kernel))) rfl)
theorem cl_L_122 : CVk RL 122 M_X10_worst 2 := CVk.of mk_X10_worst (mem_lwg (tb_7 _ (List.mem_of_getElem? (i := 4) (by decide +kernel))) rfl)
theorem cl_L_123 : CVk RL 123 M_X9_stopped 1 := CVk.of mk_X9_stopped (mem_lwg (tb_4 _ (List.mem_of_getElem? (i := 86) (by decide +kernel))) rfl)
theorem cl_L_126 : CVk RL 126 M_X10_stopped 1 := CVk.of mk_X10_stopped (mem_lwg (tb_7 _ (List.mem_of_getElem? (i := 8) (by decide +kernel))) rfl)
theorem cl_L_127 : CVk RL 127 M_X9_spare 1 := CVk.of mk_X9_spare (mem_lwg (tb_4 _ (List.mem_of_getElem? (i := 105) (by decide +kernel))) rfl)
theorem cl_L_130 : CVk RL 130 M_X10_spare 1 := CVk.of mk_X10_spare (mem_lwg (tb_7 _ (List.mem_of_getElem? (i := 16) (by decide +kernel))) rfl)
theorem cl_L_131 : CVk RL 131 M_X9_soonest 0 := CVk.of mk_X9_soonest (mem_lwg (tb_4 _ (List.mem_of_getElem? (i := 121) (by decide +kernel))) rfl)
theorem cl_L_134 : CVk RL 134 M_X10_soonest 0 := CVk.of mk_X10_soonest (mem_lwg (tb_7 _ (List.mem_of_getElem? (i := 24) (by decide +kernel))) rfl)
theorem cl_L_135 : CVk RL 135 M_X9_lost 1 := CVk.of mk_X9_lost (mem_lwg (tb_4 _ (List.mem_of_getElem? (i := 135) (by decide +kernel))) rfl)
theorem cl_L_138 : CVk RL 138 M_X10_lost 1 := CVk.of mk_X10_lost (mem_lwg (tb_6 _ (List.mem_of_getElem? (i := 232) (by decide +kernel))) rfl)
theorem cl_L_139 : CVk RL 139 M_X9_early 2 := CVk.of mk_X9_early (mem_lwg (tb_4 _ (List.mem_of_getElem? (i := 139) (by decide +kernel))) rfl)
theorem cl_L_142 : CVk RL 142 M_X10_early 2 := CVk.of mk_X10_early (mem_lwg (tb_7 _ (List.mem_of_getElem? (i := 36) (by decide +kernel))) rfl)
theorem cl_L_143 : CVk RL 143 M_X9_until 2 := CVk.of mk_X9_until (mem_lwg (tb_4 _ (List.mem_of_getElem? (i := 143) (by decide +kernel))) rfl)
theorem cl_L_146 : CVk RL 146 M_X10_until 2 := CVk.of mk_X10_until (mem_lwg (tb_7 _ (List.mem_of_getElem? (i := 40) (by decide +kernel))) rfl)
theorem cl_L_147 : CVk RL 147 M_X9_fewest 1 := CVk.of mk_X9_fewest (mem_lwg (tb_4 _ (List.mem_of_getElem? (i := 147) (by decide +kernel))) rfl)
theorem cl_L_150 : CVk RL 150 M_X10_fewest 1 := CVk.of mk_X10_fewest (mem_lwg (tb_6 _ (List.mem_of_getElem? (i := 20) (by decide +kernel))) rfl)
theorem cl_L_151 : CVk RL 151 M_X9_cogs 1 := CVk.of mk_X9_cogs (mem_lwg (tb_4 _ (List.mem_of_getElem? (i := 151) (by decide +kernel))) rfl)
theorem cl_L_154 : CVk RL 154 M_X10_cogs 1 := CVk.of mk_X10_cogs (mem_lwg (tb_6 _ (List.mem_of_getElem? (i := 92) (by decide +kernel))) rfl)
theorem cl_L_155 : CVk RL 155 M_X9_power 1 := CVk.of mk_X9_power (mem_lwg (tb_4 _ (List.mem_of_getElem? (i := 155) (by decide +kernel))) rfl)
theorem cl_L_159 : CVk RL 159 M_X10_power 1 := CVk.of mk_X10_power (mem_lwg (tb_7 _ (List.mem_of_getElem? (i := 44) (by decide +kernel))) rfl)
theorem cl_L_160 : CVk RL 160 M_X9_would 5 := CVk.of mk_X9_would (mem_lwg (tb_4 _ (List.mem_of_getElem? (i := 165) (by decide +kernel))) rfl)
theorem cl_L_163 : CVk RL 163 M_X10_would 5 := CVk.of mk_X10_would (mem_lwg (tb_6 _ (List.mem_of_getElem? (i := 120) (by decide +kernel))) rfl)
theorem cl_L_164 : CVk RL 164 M_X9_share 1 := CVk.of mk_X9_share (mem_lwg (tb_4 _ (List.mem_of_getElem? (i := 173) (by decide +kernel))) rfl)
theorem cl_L_167 : CVk RL 167 M_X10_share 1 := CVk.of mk_X10_share (mem_lwg (tb_7 _ (List.mem_of_getElem? (i := 48) (by decide +kernel))) rfl)
theorem cl_L_168 : CVk RL 168 M_X9_part 1 := CVk.of mk_X9_part (mem_lwg (tb_4 _ (List.mem_of_getElem? (i := 189) (by decide +kernel))) rfl)
theorem cl_L_171 : CVk RL 171 M_X10_part 1 := CVk.of mk_X10_part (mem_lwg (tb_7 _ (List.mem_of_getElem? (i := 70) (by decide +kernel))) rfl)
theorem cl_L_172 : CVk RL 172 M_X9_image 1 := CVk.of mk_X9_image (mem_lwg (tb_4 _ (List.mem_of_getElem? (i := 199) (by decide +kernel))) rfl)
theorem cl_L_175 : CVk RL 175 M_X10_image 1 := CVk.of mk_X10_image (mem_lwg (tb_7 _ (List.mem_of_getElem? (i := 84) (by decide +kernel))) rfl)
theorem cl_L_176 : CVk RL 176 M_X9_look 1 := CVk.of mk_X9_look (mem_lwg (tb_4 _ (List.mem_of_getElem? (i := 212) (by decide +kernel))) rfl)
theorem cl_L_179 : CVk RL 179 M_X10_look 1 := CVk.of mk_X10_look (mem_lwg (tb_7 _ (List.mem_of_getElem? (i := 88) (by decide +kernel))) rfl)
theorem cl_X10_11 : CVk RX10 11 M_X10_n 0 := CVk.of mk_X10_n (mem_lwg (tb_5 _ (List.mem_of_getElem? (i := 2) (by decide +kernel))) rfl)
theorem cl_X10_18 : CVk RX10 18 M_X10_orderOf 2 := CVk.of mk_X10_orderOf (mem_lwg (tb_5 _ (List.mem_of_getElem? (i := 6) (by decide +kernel))) rfl)
theorem cl_X10_22 : CVk RX10 22 M_X10_m 0 := CVk.of mk_X10_m (mem_lwg (tb_4 _ (List.mem_of_getElem? (i := 238) (by decide +kernel))) rfl)
theorem cl_X10_28 : CVk RX10 28 M_X10_mayFollow 3 := CVk.of mk_X10_mayFollow (mem_lwg (tb_5 _ (List.mem_of_getElem? (i := 10) (by decide +kernel))) rfl)
theorem ob_X10_36 : Cond.methodLink RX10 36 objectInit ∈ lwg := mem_lwg (tb_4 _ (List.mem_of_getElem? (i := 233) (by decide +kernel))) rfl
theorem cl_X10_98 : CVk RX10 98 M_X10_laysPaths 0 := CVk.of mk_X10_laysPaths (mem_lwg (tb_4 _ (List.mem_of_getElem? (i := 234) (by decide +kernel))) rfl)
theorem cl_X10_101 : CVk RX10 101 M_X10_laysPrimitive 0 := CVk.of mk_X10_laysPrimitive (mem_lwg (tb_5 _ (List.mem_of_getElem? (i := 14) (by decide +kernel))) rfl)
theorem cl_X10_104 : CVk RX10 104 M_X10_isWished 1 := CVk.of mk_X10_isWished (mem_lwg (tb_6 _ (List.mem_of_getElem? (i := 36) (by decide +kernel))) rfl)
theorem cl_X10_108 : CVk RX10 108 M_X10_changeOf 2 := CVk.of mk_X10_changeOf (mem_lwg (tb_6 _ (List.mem_of_getElem? (i := 56) (by decide +kernel))) rfl)
theorem cl_X10_111 : CVk RX10 111 M_X10_size 1 := CVk.of mk_X10_size (mem_lwg (tb_6 _ (List.mem_of_getElem? (i := 60) (by decide +kernel))) rfl)
theorem cl_X10_115 : CVk RX10 115 M_X10_weightOf 2 := CVk.of mk_X10_weightOf (mem_lwg (tb_6 _ (List.mem_of_getElem? (i := 64) (by decide +kernel))) rfl)
theorem cl_X10_118 : CVk RX10 118 M_X10_isSpoiled 1 := CVk.of mk_X10_isSpoiled (mem_lwg (tb_6 _ (List.mem_of_getElem? (i := 48) (by decide +kernel))) rfl)
theorem cl_X10_121 : CVk RX10 121 M_X10_weighs 1 := CVk.of mk_X10_weighs (mem_lwg (tb_6 _ (List.mem_of_getElem? (i := 52) (by decide +kernel))) rfl)
theorem cl_X10_124 : CVk RX10 124 M_X10_isIn 3 := CVk.of mk_X10_isIn (mem_lwg (tb_5 _ (List.mem_of_getElem? (i := 124) (by decide +kernel))) rfl)
theorem cl_X10_127 : CVk RX10 127 M_X10_clearsCycle 0 := CVk.of mk_X10_clearsCycle (mem_lwg (tb_5 _ (List.mem_of_getElem? (i := 128) (by decide +kernel))) rfl)
theorem cl_X10_130 : CVk RX10 130 M_X10_wishesNothing 0 := CVk.of mk_X10_wishesNothing (mem_lwg (tb_5 _ (List.mem_of_getElem? (i := 132) (by decide +kernel))) rfl)
theorem cl_X10_133 : CVk RX10 133 M_X10_isPulse 1 := CVk.of mk_X10_isPulse (mem_lwg (tb_5 _ (List.mem_of_getElem? (i := 140) (by decide +kernel))) rfl)
theorem cl_X10_136 : CVk RX10 136 M_X10_lengthOf 1 := CVk.of mk_X10_lengthOf (mem_lwg (tb_5 _ (List.mem_of_getElem? (i := 160) (by decide +kernel))) rfl)
theorem cl_X10_139 : CVk RX10 139 M_X10_isCounter 1 := CVk.of mk_X10_isCounter (mem_lwg (tb_5 _ (List.mem_of_getElem? (i := 152) (by decide +kernel))) rfl)
theorem cl_X10_142 : CVk RX10 142 M_X10_scans 0 := CVk.of mk_X10_scans (mem_lwg (tb_5 _ (List.mem_of_getElem? (i := 156) (by decide +kernel))) rfl)
theorem cl_X10_145 : CVk RX10 145 M_X10_isSource 1 := CVk.of mk_X10_isSource (mem_lwg (tb_5 _ (List.mem_of_getElem? (i := 168) (by decide +kernel))) rfl)
theorem cl_X10_148 : CVk RX10 148 M_X10_turnOf 0 := CVk.of mk_X10_turnOf (mem_lwg (tb_5 _ (List.mem_of_getElem? (i := 18) (by decide +kernel))) rfl)
theorem cl_X10_151 : CVk RX10 151 M_X10_swaps 2 := CVk.of mk_X10_swaps (mem_lwg (tb_5 _ (List.mem_of_getElem? (i := 184) (by decide +kernel))) rfl)
theorem cl_X10_155 : CVk RX10 155 M_X10_follows 0 := CVk.of mk_X10_follows (mem_lwg (tb_5 _ (List.mem_of_getElem? (i := 192) (by decide +kernel))) rfl)
theorem cl_X10_159 : CVk RX10 159 M_X10_isPath 1 := CVk.of mk_X10_isPath (mem_lwg (tb_5 _ (List.mem_of_getElem? (i := 204) (by decide +kernel))) rfl)
theorem cl_X10_162 : CVk RX10 162 M_X10_becomes 3 := CVk.of mk_X10_becomes (mem_lwg (tb_5 _ (List.mem_of_getElem? (i := 200) (by decide +kernel))) rfl)
theorem cl_X10_169 : CVk RX10 169 M_X10_types 1 := CVk.of mk_X10_types (mem_lwg (tb_5 _ (List.mem_of_getElem? (i := 220) (by decide +kernel))) rfl)
theorem cl_X10_179 : CVk RX10 179 M_X10_here 0 := CVk.of mk_X10_here (mem_lwg (tb_5 _ (List.mem_of_getElem? (i := 236) (by decide +kernel))) rfl)
theorem cl_X10_185 : CVk RX10 185 M_X10_behindBlanks 0 := CVk.of mk_X10_behindBlanks (mem_lwg (tb_5 _ (List.mem_of_getElem? (i := 232) (by decide +kernel))) rfl)
theorem cl_X10_188 : CVk RX10 188 M_X10_readName 0 := CVk.of mk_X10_readName (mem_lwg (tb_6 _ (List.mem_of_getElem? (i := 4) (by decide +kernel))) rfl)
theorem cl_X10_191 : CVk RX10 191 M_X10_errs 2 := CVk.of mk_X10_errs (mem_lwg (tb_6 _ (List.mem_of_getElem? (i := 8) (by decide +kernel))) rfl)
theorem cl_X10_195 : CVk RX10 195 M_X10_isDigit 1 := CVk.of mk_X10_isDigit (mem_lwg (tb_6 _ (List.mem_of_getElem? (i := 12) (by decide +kernel))) rfl)
theorem cl_X10_198 : CVk RX10 198 M_X10_readLine 0 := CVk.of mk_X10_readLine (mem_lwg (tb_6 _ (List.mem_of_getElem? (i := 0) (by decide +kernel))) rfl)
theorem cl_X10_201 : CVk RX10 201 M_X10_rowLong 1 := CVk.of mk_X10_rowLong (mem_lwg (tb_6 _ (List.mem_of_getElem? (i := 152) (by decide +kernel))) rfl)
theorem cl_X10_204 : CVk RX10 204 M_X10_rowOf 2 := CVk.of mk_X10_rowOf (mem_lwg (tb_6 _ (List.mem_of_getElem? (i := 156) (by decide +kernel))) rfl)
theorem cl_X10_207 : CVk RX10 207 M_X10_stepOf 2 := CVk.of mk_X10_stepOf (mem_lwg (tb_6 _ (List.mem_of_getElem? (i := 160) (by decide +kernel))) rfl)
theorem cl_X10_210 : CVk RX10 210 M_X10_rest 1 := CVk.of mk_X10_rest (mem_lwg (tb_6 _ (List.mem_of_getElem? (i := 164) (by decide +kernel))) rfl)
theorem cl_X10_213 : CVk RX10 213 M_X10_chief 0 := CVk.of mk_X10_chief (mem_lwg (tb_6 _ (List.mem_of_getElem? (i := 32) (by decide +kernel))) rfl)
theorem cl_X10_216 : CVk RX10 216 M_X10_ownPhase 2 := CVk.of mk_X10_ownPhase (mem_lwg (tb_6 _ (List.mem_of_getElem? (i := 148) (by decide +kernel))) rfl)
theorem cl_X10_221 : CVk RX10 221 M_X10_dividesBy 2 := CVk.of mk_X10_dividesBy (mem_lwg (tb_5 _ (List.mem_of_getElem? (i := 23) (by decide +kernel))) rfl)
theorem cl_X10_227 : CVk RX10 227 M_X10_isNothing 0 := CVk.of mk_X10_isNothing (mem_lwg (tb_6 _ (List.mem_of_getElem? (i := 196) (by decide +kernel))) rfl)
theorem cl_X10_230 : CVk RX10 230 M_X10_isOneAlone 0 := CVk.of mk_X10_isOneAlone (mem_lwg (tb_6 _ (List.mem_of_getElem? (i := 200) (by decide +kernel))) rfl)
theorem cl_X10_233 : CVk RX10 233 M_X10_residueOf 2 := CVk.of mk_X10_residueOf (mem_lwg (tb_6 _ (List.mem_of_getElem? (i := 172) (by decide +kernel))) rfl)
theorem cl_X10_236 : CVk RX10 236 M_X10_laysPhases 0 := CVk.of mk_X10_laysPhases (mem_lwg (tb_6 _ (List.mem_of_getElem? (i := 144) (by decide +kernel))) rfl)
theorem cl_X10_239 : CVk RX10 239 M_X10_countsFirst 2 := CVk.of mk_X10_countsFirst (mem_lwg (tb_6 _ (List.mem_of_getElem? (i := 180) (by decide +kernel))) rfl)
theorem cl_X10_242 : CVk RX10 242 M_X10_stateNow 0 := CVk.of mk_X10_stateNow (mem_lwg (tb_6 _ (List.mem_of_getElem? (i := 192) (by decide +kernel))) rfl)
theorem cl_X10_245 : CVk RX10 245 M_X10_isGone 1 := CVk.of mk_X10_isGone (mem_lwg (tb_6 _ (List.mem_of_getElem? (i := 44) (by decide +kernel))) rfl)
theorem cl_X10_248 : CVk RX10 248 M_X10_isOther 1 := CVk.of mk_X10_isOther (mem_lwg (tb_6 _ (List.mem_of_getElem? (i := 40) (by decide +kernel))) rfl)
theorem cl_X10_251 : CVk RX10 251 M_X10_stateOf 1 := CVk.of mk_X10_stateOf (mem_lwg (tb_6 _ (List.mem_of_getElem? (i := 188) (by decide +kernel))) rfl)
theorem cl_X10_254 : CVk RX10 254 M_X10_isLeak 1 := CVk.of mk_X10_isLeak (mem_lwg (tb_6 _ (List.mem_of_getElem? (i := 212) (by decide +kernel))) rfl)
theorem cl_X10_257 : CVk RX10 257 M_X10_isLost 1 := CVk.of mk_X10_isLost (mem_lwg (tb_7 _ (List.mem_of_getElem? (i := 0) (by decide +kernel))) rfl)
theorem cl_X10_263 : CVk RX10 263 M_X10_matters 3 := CVk.of mk_X10_matters (mem_lwg (tb_6 _ (List.mem_of_getElem? (i := 68) (by decide +kernel))) rfl)
theorem cl_X10_267 : CVk RX10 267 M_X10_isLeftBySteps 1 := CVk.of mk_X10_isLeftBySteps (mem_lwg (tb_6 _ (List.mem_of_getElem? (i := 80) (by decide +kernel))) rfl)
theorem cl_X10_270 : CVk RX10 270 M_X10_isLeftByCogs 2 := CVk.of mk_X10_isLeftByCogs (mem_lwg (tb_6 _ (List.mem_of_getElem? (i := 104) (by decide +kernel))) rfl)
theorem cl_X10_273 : CVk RX10 273 M_X10_nextNumber 3 := CVk.of mk_X10_nextNumber (mem_lwg (tb_6 _ (List.mem_of_getElem? (i := 88) (by decide +kernel))) rfl)
theorem cl_X10_277 : CVk RX10 277 M_X10_laysMattering 0 := CVk.of mk_X10_laysMattering (mem_lwg (tb_6 _ (List.mem_of_getElem? (i := 28) (by decide +kernel))) rfl)
theorem cl_X10_280 : CVk RX10 280 M_X10_product 0 := CVk.of mk_X10_product (mem_lwg (tb_6 _ (List.mem_of_getElem? (i := 72) (by decide +kernel))) rfl)
theorem cl_X10_283 : CVk RX10 283 M_X10_doSteps 0 := CVk.of mk_X10_doSteps (mem_lwg (tb_6 _ (List.mem_of_getElem? (i := 76) (by decide +kernel))) rfl)
theorem cl_X10_286 : CVk RX10 286 M_X10_goesOn 2 := CVk.of mk_X10_goesOn (mem_lwg (tb_6 _ (List.mem_of_getElem? (i := 84) (by decide +kernel))) rfl)
theorem cl_X10_289 : CVk RX10 289 M_X10_doCogs 1 := CVk.of mk_X10_doCogs (mem_lwg (tb_6 _ (List.mem_of_getElem? (i := 100) (by decide +kernel))) rfl)
theorem cl_X10_292 : CVk RX10 292 M_X10_laysFewest 0 := CVk.of mk_X10_laysFewest (mem_lwg (tb_6 _ (List.mem_of_getElem? (i := 24) (by decide +kernel))) rfl)
theorem cl_X10_295 : CVk RX10 295 M_X10_laysCogs 0 := CVk.of mk_X10_laysCogs (mem_lwg (tb_6 _ (List.mem_of_getElem? (i := 96) (by decide +kernel))) rfl)
theorem cl_X10_298 : CVk RX10 298 M_X10_layFewest 0 := CVk.of mk_X10_layFewest (mem_lwg (tb_6 _ (List.mem_of_getElem? (i := 112) (by decide +kernel))) rfl)
theorem cl_X10_301 : CVk RX10 301 M_X10_layCogs 0 := CVk.of mk_X10_layCogs (mem_lwg (tb_6 _ (List.mem_of_getElem? (i := 116) (by decide +kernel))) rfl)
theorem cl_X10_304 : CVk RX10 304 M_X10_isStep 1 := CVk.of mk_X10_isStep (mem_lwg (tb_6 _ (List.mem_of_getElem? (i := 124) (by decide +kernel))) rfl)
theorem cl_X10_307 : CVk RX10 307 M_X10_isScan 1 := CVk.of mk_X10_isScan (mem_lwg (tb_6 _ (List.mem_of_getElem? (i := 140) (by decide +kernel))) rfl)
theorem cl_X10_310 : CVk RX10 310 M_X10_one 1 := CVk.of mk_X10_one (mem_lwg (tb_6 _ (List.mem_of_getElem? (i := 204) (by decide +kernel))) rfl)
theorem cl_X10_314 : CVk RX10 314 M_X10_isFree 1 := CVk.of mk_X10_isFree (mem_lwg (tb_6 _ (List.mem_of_getElem? (i := 208) (by decide +kernel))) rfl)
theorem cl_X10_317 : CVk RX10 317 M_X10_changesOf 1 := CVk.of mk_X10_changesOf (mem_lwg (tb_6 _ (List.mem_of_getElem? (i := 216) (by decide +kernel))) rfl)
theorem cl_X10_320 : CVk RX10 320 M_X10_greatestOrder 1 := CVk.of mk_X10_greatestOrder (mem_lwg (tb_6 _ (List.mem_of_getElem? (i := 220) (by decide +kernel))) rfl)
theorem cl_X10_323 : CVk RX10 323 M_X10_leaks 0 := CVk.of mk_X10_leaks (mem_lwg (tb_6 _ (List.mem_of_getElem? (i := 228) (by decide +kernel))) rfl)
theorem cl_X10_326 : CVk RX10 326 M_X10_losts 0 := CVk.of mk_X10_losts (mem_lwg (tb_6 _ (List.mem_of_getElem? (i := 236) (by decide +kernel))) rfl)
theorem cl_X10_329 : CVk RX10 329 M_X10_isStoppedBy 3 := CVk.of mk_X10_isStoppedBy (mem_lwg (tb_7 _ (List.mem_of_getElem? (i := 12) (by decide +kernel))) rfl)
theorem cl_X10_332 : CVk RX10 332 M_X10_isGood 0 := CVk.of mk_X10_isGood (mem_lwg (tb_7 _ (List.mem_of_getElem? (i := 20) (by decide +kernel))) rfl)
theorem cl_X10_335 : CVk RX10 335 M_X10_areAnyGone 0 := CVk.of mk_X10_areAnyGone (mem_lwg (tb_7 _ (List.mem_of_getElem? (i := 28) (by decide +kernel))) rfl)
theorem cl_X10_338 : CVk RX10 338 M_X10_isGoodSoFar 0 := CVk.of mk_X10_isGoodSoFar (mem_lwg (tb_7 _ (List.mem_of_getElem? (i := 32) (by decide +kernel))) rfl)
theorem cl_X10_341 : CVk RX10 341 M_X10_below 1 := CVk.of mk_X10_below (mem_lwg (tb_7 _ (List.mem_of_getElem? (i := 52) (by decide +kernel))) rfl)
theorem cl_X10_344 : CVk RX10 344 M_X10_above 1 := CVk.of mk_X10_above (mem_lwg (tb_7 _ (List.mem_of_getElem? (i := 56) (by decide +kernel))) rfl)
theorem cl_X10_347 : CSk RX10 347 M_Jxf58ca_floatToIntBits_5c35a 1 := CSk.of mk_Jxf58ca_floatToIntBits_5c35a (mem_lwg (tb_7 _ (List.mem_of_getElem? (i := 60) (by decide +kernel))) rfl)
theorem cl_X10_353 : CSk RX10 353 M_Jxe99ae_doubleToLongBits_ccdee 1 := CSk.of mk_Jxe99ae_doubleToLongBits_ccdee (mem_lwg (tb_7 _ (List.mem_of_getElem? (i := 74) (by decide +kernel))) rfl)
theorem cl_X10_362 : CVk RX10 362 M_X10_manyOf 1 := CVk.of mk_X10_manyOf (mem_lwg (tb_7 _ (List.mem_of_getElem? (i := 92) (by decide +kernel))) rfl)
theorem cl_X10_365 : CVk RX10 365 M_X10_weightsOf 1 := CVk.of mk_X10_weightsOf (mem_lwg (tb_7 _ (List.mem_of_getElem? (i := 96) (by decide +kernel))) rfl)
theorem cl_X10_368 : CVk RX10 368 M_X10_lookAtRows 1 := CVk.of mk_X10_lookAtRows (mem_lwg (tb_7 _ (List.mem_of_getElem? (i := 100) (by decide +kernel))) rfl)
theorem cl_Jxe99ae_122 : CSk RJxe99ae 122 M_Jxe99ae_isNaN_b9ae7 1 := CSk.of mk_Jxe99ae_isNaN_b9ae7 (mem_lwg (tb_7 _ (List.mem_of_getElem? (i := 77) (by decide +kernel))) rfl)
theorem nl_Jxe99ae_134 : Cond.methodLink RJxe99ae 134 ⟨"java/lang/Double", "doubleToRawLongBits", "(D)J"⟩ ∈ lwg := mem_lwg (tb_7 _ (List.mem_of_getElem? (i := 80) (by decide +kernel))) rfl
theorem cl_Jxf58ca_59 : CSk RJxf58ca 59 M_Jxf58ca_isNaN_12338 1 := CSk.of mk_Jxf58ca_isNaN_12338 (mem_lwg (tb_7 _ (List.mem_of_getElem? (i := 63) (by decide +kernel))) rfl)
theorem nl_Jxf58ca_74 : Cond.methodLink RJxf58ca 74 ⟨"java/lang/Float", "floatToRawIntBits", "(F)I"⟩ ∈ lwg := mem_lwg (tb_7 _ (List.mem_of_getElem? (i := 66) (by decide +kernel))) rfl
theorem cl_J7_13 : CSk RJ7 13 M_J7_rangeCheck_23922 3 := CSk.of mk_J7_rangeCheck_23922 (mem_lwg (tb_4 _ (List.mem_of_getElem? (i := 128) (by decide +kernel))) rfl)
theorem cl_X9_35 : CNk RX9 35 M_X7_init 0 := CNk.of mk_X7_init (35, "PathCycle$Tape") (by decide) rfl rfl rfl
theorem cl_X9_42 : CNk RX9 42 M_X3_init 0 := CNk.of mk_X3_init (42, "PathCycle$Paths") (by decide) rfl rfl rfl
theorem cl_X9_53 : CNk RX9 53 M_X5_init 0 := CNk.of mk_X5_init (53, "PathCycle$Scans") (by decide) rfl rfl rfl
theorem cl_X9_60 : CNk RX9 60 M_X6_init 0 := CNk.of mk_X6_init (60, "PathCycle$Sum") (by decide) rfl rfl rfl
theorem cl_X9_78 : CNk RX9 78 M_X8_init 0 := CNk.of mk_X8_init (78, "PathCycle$Wants") (by decide) rfl rfl rfl
theorem cl_X9_85 : CNk RX9 85 M_X2_init 0 := CNk.of mk_X2_init (85, "PathCycle$Fewest") (by decide) rfl rfl rfl
theorem cl_X9_92 : CNk RX9 92 M_X0_init 0 := CNk.of mk_X0_init (92, "PathCycle$Cogs") (by decide) rfl rfl rfl
theorem nw_X9_9 : NWk RX9 9 4 := ⟨RX4, TX4, 6, ck_X4, mem_lwg (tb_1 _ (List.mem_of_getElem? (i := 26) (by decide +kernel))) rfl, mem_lwg (tb_1 _ (List.mem_of_getElem? (i := 27) (by decide +kernel))) rfl, mem_lwg (tb_1 _ (List.mem_of_getElem? (i := 2) (by decide +kernel))) rfl, by decide⟩
theorem nw_X9_16 : NWk RX9 16 1 := ⟨RX1, TX1, 6, ck_X1, mem_lwg (tb_1 _ (List.mem_of_getElem? (i := 69) (by decide +kernel))) rfl, mem_lwg (tb_1 _ (List.mem_of_getElem? (i := 70) (by decide +kernel))) rfl, mem_lwg (tb_1 _ (List.mem_of_getElem? (i := 4) (by decide +kernel))) rfl, by decide⟩
theorem nw_X9_33 : NWk RX9 33 7 := ⟨RX7, TX7, 7, ck_X7, mem_lwg (tb_1 _ (List.mem_of_getElem? (i := 105) (by decide +kernel))) rfl, mem_lwg (tb_1 _ (List.mem_of_getElem? (i := 106) (by decide +kernel))) rfl, mem_lwg (tb_1 _ (List.mem_of_getElem? (i := 5) (by decide +kernel))) rfl, by decide⟩
theorem nw_X9_40 : NWk RX9 40 3 := ⟨RX3, TX3, 6, ck_X3, mem_lwg (tb_1 _ (List.mem_of_getElem? (i := 138) (by decide +kernel))) rfl, mem_lwg (tb_1 _ (List.mem_of_getElem? (i := 139) (by decide +kernel))) rfl, mem_lwg (tb_1 _ (List.mem_of_getElem? (i := 6) (by decide +kernel))) rfl, by decide⟩
theorem nw_X9_51 : NWk RX9 51 5 := ⟨RX5, TX5, 8, ck_X5, mem_lwg (tb_1 _ (List.mem_of_getElem? (i := 171) (by decide +kernel))) rfl, mem_lwg (tb_1 _ (List.mem_of_getElem? (i := 172) (by decide +kernel))) rfl, mem_lwg (tb_1 _ (List.mem_of_getElem? (i := 7) (by decide +kernel))) rfl, by decide⟩
theorem nw_X9_58 : NWk RX9 58 6 := ⟨RX6, TX6, 8, ck_X6, mem_lwg (tb_1 _ (List.mem_of_getElem? (i := 207) (by decide +kernel))) rfl, mem_lwg (tb_1 _ (List.mem_of_getElem? (i := 208) (by decide +kernel))) rfl, mem_lwg (tb_1 _ (List.mem_of_getElem? (i := 8) (by decide +kernel))) rfl, by decide⟩
theorem nw_X9_76 : NWk RX9 76 8 := ⟨RX8, TX8, 9, ck_X8, mem_lwg (tb_1 _ (List.mem_of_getElem? (i := 238) (by decide +kernel))) rfl, mem_lwg (tb_1 _ (List.mem_of_getElem? (i := 239) (by decide +kernel))) rfl, mem_lwg (tb_1 _ (List.mem_of_getElem? (i := 9) (by decide +kernel))) rfl, by decide⟩
theorem nw_X9_83 : NWk RX9 83 2 := ⟨RX2, TX2, 5, ck_X2, mem_lwg (tb_2 _ (List.mem_of_getElem? (i := 40) (by decide +kernel))) rfl, mem_lwg (tb_2 _ (List.mem_of_getElem? (i := 41) (by decide +kernel))) rfl, mem_lwg (tb_1 _ (List.mem_of_getElem? (i := 10) (by decide +kernel))) rfl, by decide⟩
theorem nw_X9_90 : NWk RX9 90 0 := ⟨RX0, TX0, 5, ck_X0, mem_lwg (tb_2 _ (List.mem_of_getElem? (i := 65) (by decide +kernel))) rfl, mem_lwg (tb_2 _ (List.mem_of_getElem? (i := 66) (by decide +kernel))) rfl, mem_lwg (tb_1 _ (List.mem_of_getElem? (i := 11) (by decide +kernel))) rfl, by decide⟩
theorem nw_X5_28 : Cond.classLink RX5 28 ("[" ++ (FieldType.array .int).toString) ∈ lwg := mem_lwg (tb_1 _ (List.mem_of_getElem? (i := 177) (by decide +kernel))) rfl
theorem nw_L_7 : NWk RL 7 9 := ⟨RX9, TX9, 16, ck_X9, mem_lwg (tb_1 _ (List.mem_of_getElem? (i := 18) (by decide +kernel))) rfl, mem_lwg (tb_1 _ (List.mem_of_getElem? (i := 19) (by decide +kernel))) rfl, mem_lwg (tb_1 _ (List.mem_of_getElem? (i := 1) (by decide +kernel))) rfl, by decide⟩
theorem nw_L_10 : NWk RL 10 10 := ⟨RX10, TX10, 30, ck_X10, mem_lwg (tb_4 _ (List.mem_of_getElem? (i := 228) (by decide +kernel))) rfl, mem_lwg (tb_4 _ (List.mem_of_getElem? (i := 229) (by decide +kernel))) rfl, mem_lwg (tb_1 _ (List.mem_of_getElem? (i := 13) (by decide +kernel))) rfl, by decide⟩
theorem co_X9_299 : Cond.constant RX9 299 (Int32.ofInt (2147483647)) ∈ lwg := mem_lwg (tb_4 _ (List.mem_of_getElem? (i := 81) (by decide +kernel))) rfl
theorem co_X9_350 : Cond.constantLong RX9 350 (Int64.ofInt (-1)) ∈ lwg := mem_lwg (tb_4 _ (List.mem_of_getElem? (i := 159) (by decide +kernel))) rfl
theorem co_X9_358 : Cond.constantLong RX9 358 (Int64.ofInt (2)) ∈ lwg := mem_lwg (tb_4 _ (List.mem_of_getElem? (i := 164) (by decide +kernel))) rfl
theorem co_X9_381 : Cond.constantFloat RX9 381 1258291200 ∈ lwg := mem_lwg (tb_4 _ (List.mem_of_getElem? (i := 188) (by decide +kernel))) rfl
theorem co_X9_382 : Cond.constantLong RX9 382 (Int64.ofInt (1023)) ∈ lwg := mem_lwg (tb_4 _ (List.mem_of_getElem? (i := 196) (by decide +kernel))) rfl
theorem co_X9_384 : Cond.constantDouble RX9 384 4611686018427387904 ∈ lwg := mem_lwg (tb_4 _ (List.mem_of_getElem? (i := 197) (by decide +kernel))) rfl
theorem co_X9_386 : Cond.constantDouble RX9 386 4841369599423283200 ∈ lwg := mem_lwg (tb_4 _ (List.mem_of_getElem? (i := 198) (by decide +kernel))) rfl
theorem co_X2_31 : Cond.constant RX2 31 (Int32.ofInt (2147483647)) ∈ lwg := mem_lwg (tb_3 _ (List.mem_of_getElem? (i := 151) (by decide +kernel))) rfl
theorem co_X10_219 : Cond.constantLong RX10 219 (Int64.ofInt (-1)) ∈ lwg := mem_lwg (tb_5 _ (List.mem_of_getElem? (i := 22) (by decide +kernel))) rfl
theorem co_Jxe99ae_137 : Cond.constantLong RJxe99ae 137 (Int64.ofInt (9221120237041090560)) ∈ lwg := mem_lwg (tb_7 _ (List.mem_of_getElem? (i := 83) (by decide +kernel))) rfl
theorem co_Jxf58ca_77 : Cond.constant RJxf58ca 77 (Int32.ofInt (2143289344)) ∈ lwg := mem_lwg (tb_7 _ (List.mem_of_getElem? (i := 69) (by decide +kernel))) rfl
theorem ar_int : Cond.arrayClass .int ∈ lwg := mem_lwg (tb_1 _ (List.mem_of_getElem? (i := 67) (by decide +kernel))) rfl
theorem ar_byte : Cond.arrayClass .byte ∈ lwg := mem_lwg (tb_1 _ (List.mem_of_getElem? (i := 68) (by decide +kernel))) rfl
theorem ar_short : Cond.arrayClass .short ∈ lwg := mem_lwg (tb_1 _ (List.mem_of_getElem? (i := 170) (by decide +kernel))) rfl
theorem ar_boolean : Cond.arrayClass .boolean ∈ lwg := mem_lwg (tb_5 _ (List.mem_of_getElem? (i := 119) (by decide +kernel))) rfl
theorem ar_long : Cond.arrayClass .long ∈ lwg := mem_lwg (tb_5 _ (List.mem_of_getElem? (i := 118) (by decide +kernel))) rfl
theorem ar_over : Cond.arrayOver (.array .int) ∈ lw_tbl := tb_1 _ (List.mem_of_getElem? (i := 178) (by decide +kernel))
theorem ac_nat : Cond.native arraycopyName ∈ lwg := mem_lwg (tb_3 _ (List.mem_of_getElem? (i := 93) (by decide +kernel))) rfl
theorem ac_sta : Cond.static arraycopyName ∈ lwg := mem_lwg (tb_3 _ (List.mem_of_getElem? (i := 92) (by decide +kernel))) rfl
theorem ac_ini : Cond.initialized "java/lang/System" ∈ lwg := mem_lwg (tb_1 _ (List.mem_of_getElem? (i := 14) (by decide +kernel))) rfl
theorem ob_ins : Cond.instanceMethod objectInit ∈ lwg := mem_lwg (tb_1 _ (List.mem_of_getElem? (i := 24) (by decide +kernel))) rfl
theorem ob_cod : Cond.code objectInit ⟨#[0xb1]⟩ 1 none ∈ lwg := mem_lwg (tb_1 _ (List.mem_of_getElem? (i := 25) (by decide +kernel))) rfl
theorem f2r_native : Cond.native ⟨"java/lang/Float", "floatToRawIntBits", "(F)I"⟩ ∈ lwg := mem_lwg (tb_7 _ (List.mem_of_getElem? (i := 68) (by decide +kernel))) rfl
theorem f2r_static : Cond.static ⟨"java/lang/Float", "floatToRawIntBits", "(F)I"⟩ ∈ lwg := mem_lwg (tb_7 _ (List.mem_of_getElem? (i := 67) (by decide +kernel))) rfl
theorem f2r_ini : Cond.initialized "java/lang/Float" ∈ lwg := mem_lwg (tb_1 _ (List.mem_of_getElem? (i := 16) (by decide +kernel))) rfl
theorem d2r_native : Cond.native ⟨"java/lang/Double", "doubleToRawLongBits", "(D)J"⟩ ∈ lwg := mem_lwg (tb_7 _ (List.mem_of_getElem? (i := 82) (by decide +kernel))) rfl
theorem d2r_static : Cond.static ⟨"java/lang/Double", "doubleToRawLongBits", "(D)J"⟩ ∈ lwg := mem_lwg (tb_7 _ (List.mem_of_getElem? (i := 81) (by decide +kernel))) rfl
theorem d2r_ini : Cond.initialized "java/lang/Double" ∈ lwg := mem_lwg (tb_1 _ (List.mem_of_getElem? (i := 17) (by decide +kernel))) rfl
