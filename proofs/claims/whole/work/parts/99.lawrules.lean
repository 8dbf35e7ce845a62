/-- from here the law returns over this script, and Q holds then -/
def GX (X : Nat × Nat × (Nat → Int32)) (M : MD) (d mc ms pc : Nat) (ls st : List PV) (h : Hp) (Q : Ps) : Prop :=
  ∀ (l : Launch) (b0 : Nat) (D : va_G) (cA : Nat → ClassId) (p : Program) (e : Env) (R : Room) (s : State) (m : MethodId) (args : Array Value) (below : List Frame) (meth : Method) (c : Code) (H : Heap) (locs : List Loc) (cells slots : Nat) (ls' : Array Slot),
    C1 M d mc ms b0 D cA X p R s m args meth c cells slots → C2 M b0 D cA h s.heap H locs ls ls' →
    W p l e R s m args below meth c H locs cells slots (MQ below (QcM b0 D cA X Q) args s (cells + mc) (slots + ms) (fun q => b0 ≤ q)) (F0 m pc ls' (st.map (enc b0)))
theorem GX_iconst {X : Nat × Nat × (Nat → Int32)} {M : MD} {d mc ms pc : Nat} {ls st : List PV} {w : List KD} {m : Nat → Nat → Int} {Q : Ps} {n : Int} (hd : decode M.2.1 pc = .ok (.iconst n, 1))  (k : GX X M d mc ms (pc + 1) ls (iV n :: st) (w, m) Q) : GX X M d mc ms pc ls (st) (w, m) Q := by
  intro l b0 D cA p e R s mm args below meth c H locs cells slots ls' c1 c2
  have k1 := k l b0 D cA p e R s mm args below meth c H locs cells slots ls' c1 c2
  refine lv_iconst c1.1 c1.2.1 hd rfl ?_
  exact k1
theorem GX_bipush {X : Nat × Nat × (Nat → Int32)} {M : MD} {d mc ms pc : Nat} {ls st : List PV} {w : List KD} {m : Nat → Nat → Int} {Q : Ps} {n : Int} (hd : decode M.2.1 pc = .ok (.bipush n, 2)) (hn : (Int8.ofInt n).toInt32 = Int32.ofInt n) (k : GX X M d mc ms (pc + 2) ls (iV n :: st) (w, m) Q) : GX X M d mc ms pc ls (st) (w, m) Q := by
  intro l b0 D cA p e R s mm args below meth c H locs cells slots ls' c1 c2
  have k1 := k l b0 D cA p e R s mm args below meth c H locs cells slots ls' c1 c2
  refine lv_bipush c1.1 c1.2.1 hd (v := Int32.ofInt n) ?_ ?_
  · exact hn
  · exact k1
theorem GX_iload_n {X : Nat × Nat × (Nat → Int32)} {M : MD} {d mc ms pc : Nat} {ls st : List PV} {w : List KD} {m : Nat → Nat → Int} {Q : Ps} {j : Fin 4} {x : Int} (hd : decode M.2.1 pc = .ok (.iload_n j, 1)) (hl : ls[j.val]? = some (iV x)) (k : GX X M d mc ms (pc + 1) ls (iV x :: st) (w, m) Q) : GX X M d mc ms pc ls st (w, m) Q := by
  intro l b0 D cA p e R s mm args below meth c H locs cells slots ls' c1 c2
  exact lv_iload_n c1.1 c1.2.1 hd rfl (c2.2.2.2.2.2 _ _ hl (fun h => by cases h)) (k l b0 D cA p e R s mm args below meth c H locs cells slots ls' c1 c2)
theorem GX_aload_n {X : Nat × Nat × (Nat → Int32)} {M : MD} {d mc ms pc : Nat} {ls st : List PV} {w : List KD} {m : Nat → Nat → Int} {Q : Ps} {j : Fin 4} {x : Nat} (hd : decode M.2.1 pc = .ok (.aload_n j, 1)) (hl : ls[j.val]? = some (rV x)) (k : GX X M d mc ms (pc + 1) ls (rV x :: st) (w, m) Q) : GX X M d mc ms pc ls st (w, m) Q := by
  intro l b0 D cA p e R s mm args below meth c H locs cells slots ls' c1 c2
  exact lv_aload_n c1.1 c1.2.1 hd rfl (c2.2.2.2.2.2 _ _ hl (fun h => by cases h)) (k l b0 D cA p e R s mm args below meth c H locs cells slots ls' c1 c2)
theorem GX_aloadv_n {X : Nat × Nat × (Nat → Int32)} {M : MD} {d mc ms pc : Nat} {ls st : List PV} {w : List KD} {m : Nat → Nat → Int} {Q : Ps} {j : Fin 4} {x : Nat} (hd : decode M.2.1 pc = .ok (.aload_n j, 1)) (hl : ls[j.val]? = some (vV (.ref x))) (k : GX X M d mc ms (pc + 1) ls (vV (.ref x) :: st) (w, m) Q) : GX X M d mc ms pc ls st (w, m) Q := by
  intro l b0 D cA p e R s mm args below meth c H locs cells slots ls' c1 c2
  exact lv_aload_n c1.1 c1.2.1 hd rfl (c2.2.2.2.2.2 _ _ hl (fun h => by cases h)) (k l b0 D cA p e R s mm args below meth c H locs cells slots ls' c1 c2)
theorem GX_istore_n {X : Nat × Nat × (Nat → Int32)} {M : MD} {d mc ms pc : Nat} {ls st : List PV} {w : List KD} {m : Nat → Nat → Int} {Q : Ps} {j : Fin 4} {x : Int} (hd : decode M.2.1 pc = .ok (.istore_n j, 1)) (hn : j.val < M.2.2.1) (hp : okPrev ls j.val = true) (k : GX X M d mc ms (pc + 1) (ls.set j.val (iV x)) st (w, m) Q) : GX X M d mc ms pc ls (iV x :: st) (w, m) Q := by
  intro l b0 D cA p e R s mm args below meth c H locs cells slots ls' c1 c2
  refine lv_istore_n c1.1 c1.2.1 hd rfl c2.2.2.2.has hn rfl (fun ls1 h1 => ?_)
  exact k l b0 D cA p e R s mm args below meth c H locs cells slots ls1 c1 ⟨c2.1, c2.2.1, c2.2.2.1, LV.store1 rfl hp h1⟩
theorem GX_astore_n {X : Nat × Nat × (Nat → Int32)} {M : MD} {d mc ms pc : Nat} {ls st : List PV} {w : List KD} {m : Nat → Nat → Int} {Q : Ps} {j : Fin 4} {x : Nat} (hd : decode M.2.1 pc = .ok (.astore_n j, 1)) (hn : j.val < M.2.2.1) (hp : okPrev ls j.val = true) (k : GX X M d mc ms (pc + 1) (ls.set j.val (rV x)) st (w, m) Q) : GX X M d mc ms pc ls (rV x :: st) (w, m) Q := by
  intro l b0 D cA p e R s mm args below meth c H locs cells slots ls' c1 c2
  refine lv_astore_n c1.1 c1.2.1 hd rfl c2.2.2.2.has hn rfl (fun ls1 h1 => ?_)
  exact k l b0 D cA p e R s mm args below meth c H locs cells slots ls1 c1 ⟨c2.1, c2.2.1, c2.2.2.1, LV.store1 rfl hp h1⟩
theorem GX_iinc {X : Nat × Nat × (Nat → Int32)} {M : MD} {d mc ms pc : Nat} {ls st : List PV} {w : List KD} {m : Nat → Nat → Int} {Q : Ps} {j : Nat} {n x : Int} (hd : decode M.2.1 pc = .ok (.iinc j n, 3)) (hl : ls[j]? = some (iV x)) (hn : j < M.2.2.1) (hp : okPrev ls j = true) (k : GX X M d mc ms (pc + 3) (ls.set j (iV (x + n))) st (w, m) Q) : GX X M d mc ms pc ls st (w, m) Q := by
  intro l b0 D cA p e R s mm args below meth c H locs cells slots ls' c1 c2
  obtain ⟨q, hq⟩ := List.getElem?_of_mem (prs_mem (b0 := b0) hl (fun h => by cases h))
  refine lv_iinc c1.1 c1.2.1 hd c2.2.2.2.has (k := q) hq rfl hn rfl (fun ls1 h1 => ?_)
  exact k l b0 D cA p e R s mm args below meth c H locs cells slots ls1 c1 ⟨c2.1, c2.2.1, c2.2.2.1, LV.store1 (v := iV (x + n)) (by show _ = Value.int (Int32.ofInt (x + n)); rw [Int32.ofInt_add]) hp h1⟩
theorem GX_iadd {X : Nat × Nat × (Nat → Int32)} {M : MD} {d mc ms pc : Nat} {ls st : List PV} {w : List KD} {m : Nat → Nat → Int} {Q : Ps} {x y : Int} (hd : decode M.2.1 pc = .ok (.iadd, 1))  (k : GX X M d mc ms (pc + 1) ls (iV (x + y) :: st) (w, m) Q) : GX X M d mc ms pc ls (iV y :: iV x :: st) (w, m) Q := by
  intro l b0 D cA p e R s mm args below meth c H locs cells slots ls' c1 c2
  have k1 := k l b0 D cA p e R s mm args below meth c H locs cells slots ls' c1 c2
  refine lv_iadd c1.1 c1.2.1 hd ?_
  rw [← Int32.ofInt_add]
  exact k1
theorem GX_isub {X : Nat × Nat × (Nat → Int32)} {M : MD} {d mc ms pc : Nat} {ls st : List PV} {w : List KD} {m : Nat → Nat → Int} {Q : Ps} {x y : Int} (hd : decode M.2.1 pc = .ok (.isub, 1))  (k : GX X M d mc ms (pc + 1) ls (iV (x - y) :: st) (w, m) Q) : GX X M d mc ms pc ls (iV y :: iV x :: st) (w, m) Q := by
  intro l b0 D cA p e R s mm args below meth c H locs cells slots ls' c1 c2
  have k1 := k l b0 D cA p e R s mm args below meth c H locs cells slots ls' c1 c2
  refine lv_isub c1.1 c1.2.1 hd ?_
  rw [← Int32.ofInt_sub]
  exact k1
theorem GX_iand {X : Nat × Nat × (Nat → Int32)} {M : MD} {d mc ms pc : Nat} {ls st : List PV} {w : List KD} {m : Nat → Nat → Int} {Q : Ps} {x y : Int} (z : Int) (hd : decode M.2.1 pc = .ok (.iand, 1)) (hz : Int32.ofInt x &&& Int32.ofInt y = Int32.ofInt z) (k : GX X M d mc ms (pc + 1) ls (iV z :: st) (w, m) Q) : GX X M d mc ms pc ls (iV y :: iV x :: st) (w, m) Q := by
  intro l b0 D cA p e R s mm args below meth c H locs cells slots ls' c1 c2
  have k1 := k l b0 D cA p e R s mm args below meth c H locs cells slots ls' c1 c2
  refine lv_iand c1.1 c1.2.1 hd ?_
  rw [hz]
  exact k1
theorem GX_dup {X : Nat × Nat × (Nat → Int32)} {M : MD} {d mc ms pc : Nat} {ls st : List PV} {w : List KD} {m : Nat → Nat → Int} {Q : Ps} {v : PV} (hd : decode M.2.1 pc = .ok (.dup, 1)) (hc : pcat v = 1) (k : GX X M d mc ms (pc + 1) ls (v :: v :: st) (w, m) Q) : GX X M d mc ms pc ls (v :: st) (w, m) Q := by
  intro l b0 D cA p e R s mm args below meth c H locs cells slots ls' c1 c2
  have k1 := k l b0 D cA p e R s mm args below meth c H locs cells slots ls' c1 c2
  refine lv_dup c1.1 c1.2.1 hd (by rw [enc_cat]; exact hc) ?_
  exact k1
theorem GX_goto {X : Nat × Nat × (Nat → Int32)} {M : MD} {d mc ms pc : Nat} {ls st : List PV} {w : List KD} {m : Nat → Nat → Int} {Q : Ps} {off : Int} (tgt : Nat) (hd : decode M.2.1 pc = .ok (.goto off, 3)) (ht : (pc : Int) + off = (tgt : Int)) (k : GX X M d mc ms tgt ls st (w, m) Q) : GX X M d mc ms pc ls st (w, m) Q := by
  intro l b0 D cA p e R s mm args below meth c H locs cells slots ls' c1 c2
  exact lv_goto c1.1 c1.2.1 hd ht (k l b0 D cA p e R s mm args below meth c H locs cells slots ls' c1 c2)
theorem GX_icmp_gt {X : Nat × Nat × (Nat → Int32)} {M : MD} {d mc ms pc : Nat} {ls st : List PV} {w : List KD} {m : Nat → Nat → Int} {Q : Ps} {x y off : Int} (tgt : Nat) (hd : decode M.2.1 pc = .ok (.if_icmp .gt off, 3)) (ht : (pc : Int) + off = (tgt : Int)) (hx : -2147483648 ≤ x ∧ x < 2147483648) (hy : -2147483648 ≤ y ∧ y < 2147483648) (kt : y < x → GX X M d mc ms tgt ls st (w, m) Q) (kf : x ≤ y → GX X M d mc ms (pc + 3) ls st (w, m) Q) : GX X M d mc ms pc ls (iV y :: iV x :: st) (w, m) Q := by
  intro l b0 D cA p e R s mm args below meth c H locs cells slots ls' c1 c2
  refine lv_icmp_gt c1.1 c1.2.1 hd ht (fun h => kt ?_ l b0 D cA p e R s mm args below meth c H locs cells slots ls' c1 c2) (fun h => kf ?_ l b0 D cA p e R s mm args below meth c H locs cells slots ls' c1 c2)
  · simp only [ge_iff_le, gt_iff_lt, ne_eq, oi_lt hx hy, oi_le hx hy, oi_lt hy hx, oi_le hy hx, oi_inj hx hy] at h
    omega
  · simp only [ge_iff_le, gt_iff_lt, ne_eq, oi_lt hx hy, oi_le hx hy, oi_lt hy hx, oi_le hy hx, oi_inj hx hy] at h
    omega
theorem GX_if_eq {X : Nat × Nat × (Nat → Int32)} {M : MD} {d mc ms pc : Nat} {ls st : List PV} {w : List KD} {m : Nat → Nat → Int} {Q : Ps} {x off : Int} (tgt : Nat) (hd : decode M.2.1 pc = .ok (.ifCond .eq off, 3)) (ht : (pc : Int) + off = (tgt : Int)) (hx : -2147483648 ≤ x ∧ x < 2147483648) (kt : x = 0 → GX X M d mc ms tgt ls st (w, m) Q) (kf : x ≠ 0 → GX X M d mc ms (pc + 3) ls st (w, m) Q) : GX X M d mc ms pc ls (iV x :: st) (w, m) Q := by
  have hy : -2147483648 ≤ (0 : Int) ∧ (0 : Int) < 2147483648 := by decide
  intro l b0 D cA p e R s mm args below meth c H locs cells slots ls' c1 c2
  refine lv_if_eq c1.1 c1.2.1 hd ht (fun h => kt ?_ l b0 D cA p e R s mm args below meth c H locs cells slots ls' c1 c2) (fun h => kf ?_ l b0 D cA p e R s mm args below meth c H locs cells slots ls' c1 c2)
  · rw [← oi_0] at h
    simp only [ge_iff_le, gt_iff_lt, ne_eq, oi_lt hx hy, oi_le hx hy, oi_lt hy hx, oi_le hy hx, oi_inj hx hy] at h
    omega
  · rw [← oi_0] at h
    simp only [ge_iff_le, gt_iff_lt, ne_eq, oi_lt hx hy, oi_le hx hy, oi_lt hy hx, oi_le hy hx, oi_inj hx hy] at h
    omega
theorem GX_tin {X : Nat × Nat × (Nat → Int32)} {M : MD} {d mc ms pc : Nat} {ls st : List PV} {w : List KD} {m : Nat → Nat → Int} {Q : Ps} {x dflt lo hi off : Int} {offs : Array Int} {len : Nat} (tgt : Nat) (hd : decode M.2.1 pc = .ok (.tableswitch dflt lo hi offs, len)) (hx : -2147483648 ≤ x ∧ x < 2147483648) (h1 : lo ≤ x) (h2 : x ≤ hi) (ho : offs[(x - lo).toNat]? = some off) (ht : (pc : Int) + off = (tgt : Int)) (k : GX X M d mc ms tgt ls st (w, m) Q) : GX X M d mc ms pc ls (iV x :: st) (w, m) Q := by
  intro l b0 D cA p e R s mm args below meth c H locs cells slots ls' c1 c2
  exact lv_tableIn c1.1 c1.2.1 hd (by rw [oi_toInt hx]; omega) (by rw [oi_toInt hx]; omega) (by rw [oi_toInt hx]; exact ho) ht (k l b0 D cA p e R s mm args below meth c H locs cells slots ls' c1 c2)
theorem GX_tout {X : Nat × Nat × (Nat → Int32)} {M : MD} {d mc ms pc : Nat} {ls st : List PV} {w : List KD} {m : Nat → Nat → Int} {Q : Ps} {x dflt lo hi : Int} {offs : Array Int} {len : Nat} (tgt : Nat) (hd : decode M.2.1 pc = .ok (.tableswitch dflt lo hi offs, len)) (hx : -2147483648 ≤ x ∧ x < 2147483648) (h1 : x < lo ∨ hi < x) (ht : (pc : Int) + dflt = (tgt : Int)) (k : GX X M d mc ms tgt ls st (w, m) Q) : GX X M d mc ms pc ls (iV x :: st) (w, m) Q := by
  intro l b0 D cA p e R s mm args below meth c H locs cells slots ls' c1 c2
  exact lv_tableOut c1.1 c1.2.1 hd (by rw [oi_toInt hx]; exact h1) ht (k l b0 D cA p e R s mm args below meth c H locs cells slots ls' c1 c2)
theorem GX_lcmp {X : Nat × Nat × (Nat → Int32)} {M : MD} {d mc ms pc : Nat} {ls st : List PV} {w : List KD} {m : Nat → Nat → Int} {Q : Ps} {x y : Int} (z : Int) (hd : decode M.2.1 pc = .ok (.lcmp, 1)) (hz : lg_cmp (Int64.ofInt x) (Int64.ofInt y) = Int32.ofInt z) (k : GX X M d mc ms (pc + 1) ls (iV z :: st) (w, m) Q) : GX X M d mc ms pc ls (lV y :: lV x :: st) (w, m) Q := by
  intro l b0 D cA p e R s mm args below meth c H locs cells slots ls' c1 c2
  have k1 := k l b0 D cA p e R s mm args below meth c H locs cells slots ls' c1 c2
  refine W.lcmp c1.1 c1.2.1 hd ?_
  rw [hz]
  exact k1
theorem GX_zret {X : Nat × Nat × (Nat → Int32)} {M : MD} {d mc ms pc : Nat} {ls st : List PV} {w : List KD} {m : Nat → Nat → Int} {Q : Ps} {x : Int} (hd : decode M.2.1 pc = .ok (.ireturn, 1)) (hr : M.2.2.2 = some .boolean) (hx : 0 ≤ x ∧ x < 2) (k : Q (some (iV x)) (w, m)) : GX X M d 0 0 pc ls [iV x] (w, m) Q := by
  intro l b0 D cA p e R s mm args below meth c H locs cells slots ls' c1 c2
  refine W.zret (ty := .boolean) c1.hx c1.hb (by rw [c1.hr]; exact hr) (narZ hx) (fun t ht hW => ⟨⟨some (iV x), (w, m), rfl, k, by rw [ht]; exact c2.1, by rw [ht]; exact c2.2.1, c1.hK.moved hW.alike, (c1.hX.moved hW.alike).kept (by rw [ht]; exact c2.2.2.1.2.1 _ (Nat.lt_of_lt_of_le c1.hXb c1.hb0) (by show ¬ b0 ≤ X.1; have := c1.hXb; omega)), c1.hXb, c1.hXW.moved hW⟩, c2.2.2.1.F ht⟩) c2.2.2.1.2.2 hd c1.hlk
theorem GX_run {M : MD} {d mc ms mc' ms' pc : Nat} {ls st st0 : List PV} {h : Hp} {Q Q' : Ps} {as : List Value} {l : Launch} {b0 : Nat} {D : va_G} {cA : Nat → ClassId} {X : Nat × Nat × (Nat → Int32)} {p : Program} {e : Env} {R : Room} {s : State} {mm : MethodId} {args : Array Value} {below : List Frame} {meth : Method} {c : Code} {H : Heap} {locs : List Loc} {cells slots : Nat} {ls' : Array Slot}
    (c1 : C1 M d (mc' + mc) (ms' + ms) b0 D cA X p R s mm args meth c cells slots) (c2 : C2 M b0 D cA h s.heap H locs ls ls')
    (hrun : va_Run p l e R s mm args below meth c H locs cells slots mc' ms' (F0 mm pc ls' (st0.map (enc b0))) (st.map (enc b0)) (QcM b0 D cA X Q' as.toArray) (fun q => b0 ≤ q))
    (k : ∀ r h', Q' r h' → GX X M d mc ms (pc + 3) ls (r.toList ++ st) h' Q) :
    W p l e R s mm args below meth c H locs cells slots (MQ below (QcM b0 D cA X Q) args s (cells + (mc' + mc)) (slots + (ms' + ms)) (fun q => b0 ≤ q)) (F0 mm pc ls' (st0.map (enc b0))) := by
  intro T hT XT
  obtain ⟨v, st₀, t, T', L, h0, X', hL, e1, e2, ⟨⟨r, h', ho, hq, hP', hsz', hK', -, -⟩, hF1, hF2⟩, stp⟩ := hrun T hT XT
  have hce := c1.hce
  have hsl := c1.hsl
  have c1' : C1 M d mc ms b0 D cA X p R s mm args meth c (cells + mc') (slots + ms') := ⟨c1.hx, c1.hb, c1.hml, c1.hr, c1.hown, c1.hts, c1.hlk, c1.hnm, c1.hfr, c1.hlo, by omega, by omega, c1.hK, c1.hX, c1.hXb, c1.hb0, c1.hXW⟩
  have k1 := k r h' hq l b0 D cA p e R s mm args below meth c T'.heap (locs ++ L) (cells + mc') (slots + ms') ls' c1' ⟨by rw [e1]; exact hP', by rw [e1]; exact hsz', ⟨?_, ?_, ?_⟩, c2.2.2.2⟩
  · rw [show cells + mc' + mc = cells + (mc' + mc) by omega, show slots + ms' + ms = slots + (ms' + ms) by omega] at k1
    have hv : v = r.map (enc b0) := by cases ho; rfl
    have e3 : (r.toList ++ st).map (enc b0) = v.toList ++ st.map (enc b0) := by
      rw [hv]
      cases r <;> rfl
    rw [e3] at k1
    obtain ⟨t2, a1, b1⟩ := k1 T' rfl X'
    exact ⟨t2, stp t2 a1, b1⟩
  · rw [h0] at hF1
    exact Nat.le_trans c2.2.2.1.1 (by rw [e1]; exact hF1)
  · intro q h1 h2
    rw [e1, hF2 q (by rw [h0]; exact Nat.lt_of_lt_of_le h1 c2.2.2.1.1) h2, h0]
    exact c2.2.2.1.2.1 q h1 h2
  · intro q hq2
    rcases List.mem_append.mp hq2 with h | h
    · exact c2.2.2.1.2.2 q h
    · exact hL q h
theorem GX_callV {X : Nat × Nat × (Nat → Int32)} {M : MD} {d mc ms pc : Nat} {ls st : List PV} {w : List KD} {m : Nat → Nat → Int} {Q : Ps} {M' : MD} {d' mc' ms' idx o ci : Nat} {rs : List Int} (as : List PV) {st0 : List PV} {Q' : Ps} (hC : CVk M.1.cls idx M' as.length) (hci : (vwCl[ci]?).map (fun q => q.1) = some M'.1.cls) (hd : decode M.2.1 pc = .ok (.invokevirtual idx, 3)) (hw : w[o]? = some (0, ci, rs)) (hst : st0 = as.reverse ++ rV o :: st) (hcat : okCat st 8) (hdd : d' + 1 ≤ d) (hS : Sp M' d' mc' ms' (rV o :: as) (w, m) Q') (k : ∀ r h', Q' r h' → GX X M d mc ms (pc + 3) ls (r.toList ++ st) h' Q) : GX X M d (mc' + mc) (ms' + ms) pc ls st0 (w, m) Q := by
  intro l b0 D cA p e R s mm args below meth c H locs cells slots ls' c1 c2
  subst hst
  obtain ⟨hG, h1, h2, h3, h4⟩ := hC
  have hce := c1.hce
  have hsl := c1.hsl
  obtain ⟨q, hq, hqn⟩ := Option.map_eq_some_iff.mp hci
  have cw := cwV (R := R) (rm := roomD d' mc' ms') as.length c1.hts hG rfl rfl rfl ⟨rfl, h1, h2, h3⟩ (room_ok h4 hdd c1.hfr c1.hlo mc' ms')
  have hrec := va_recv (a := b0 + o) c1.hK c2.1 hq (wsOf_at (h := (w, m)) hw)
  rw [hqn] at hrec
  refine GX_run c1 c2 (as := Value.ref (b0 + o) :: as.map (enc b0)) (va_runV (As := as.map (enc b0)) (rest := st.map (enc b0)) ⟨c1.hx, c1.hb, c1.hml, c1.hown, c1.hts⟩ (hS l b0 D cA X) cw ⟨QcM_blind, hrec, fun U hU hW => ⟨by rw [List.map_cons]; rfl, by rw [hU]; exact c2.1, by rw [hU]; exact c2.2.1, c1.hK.moved hW.alike, (c1.hX.moved hW.alike).kept (by rw [hU]; exact c2.2.2.1.2.1 _ (Nat.lt_of_lt_of_le c1.hXb c1.hb0) (by show ¬ b0 ≤ X.1; have := c1.hXb; omega)), c1.hXb, c1.hXW.moved hW⟩⟩ rfl (by simp) c2.2.2.2.1 (by simp [enc]) (lv_room (by rw [cat_enc]; exact hcat)) hd ⟨by omega, by omega⟩) k
theorem GX_callI {X : Nat × Nat × (Nat → Int32)} {M : MD} {d mc ms pc : Nat} {ls st : List PV} {w : List KD} {m : Nat → Nat → Int} {Q : Ps} {M' : MD} {d' mc' ms' idx o : Nat} (as : List PV) {st0 : List PV} {Q' : Ps} (hC : CIk M.1.cls idx M' as.length) (hd : decode M.2.1 pc = .ok (.invokespecial idx, 3)) (hst : st0 = as.reverse ++ rV o :: st) (hcat : okCat st 8) (hdd : d' + 1 ≤ d) (hS : Sp M' d' mc' ms' (rV o :: as) (w, m) Q') (k : ∀ r h', Q' r h' → GX X M d mc ms (pc + 3) ls (r.toList ++ st) h' Q) : GX X M d (mc' + mc) (ms' + ms) pc ls st0 (w, m) Q := by
  intro l b0 D cA p e R s mm args below meth c H locs cells slots ls' c1 c2
  subst hst
  obtain ⟨hG, hl, hi, hini, hnm, hret, h1, h2, h3, h4⟩ := hC
  have hce := c1.hce
  have hsl := c1.hsl
  have cw := cwI (R := R) (rm := roomD d' mc' ms') (own := M.1.cls) (index := idx) (bytes := M'.2.1) (maxL := M'.2.2.1) (ws' := lwg) as.length c1.hts hG (by unfold wsM; rw [hret]) rfl rfl (c1.hts _ hini) (c1.hts _ hl) (c1.hts _ hi) hnm ⟨h1, h2, h3⟩ (room_ok h4 hdd c1.hfr c1.hlo mc' ms')
  refine GX_run c1 c2 (as := Value.ref (b0 + o) :: as.map (enc b0)) (va_runI (As := as.map (enc b0)) (rest := st.map (enc b0)) ⟨c1.hx, c1.hb, c1.hml, c1.hown, c1.hts⟩ (hS l b0 D cA X) cw ⟨QcM_blind, fun U hU hW => ⟨by rw [List.map_cons]; rfl, by rw [hU]; exact c2.1, by rw [hU]; exact c2.2.1, c1.hK.moved hW.alike, (c1.hX.moved hW.alike).kept (by rw [hU]; exact c2.2.2.1.2.1 _ (Nat.lt_of_lt_of_le c1.hXb c1.hb0) (by show ¬ b0 ≤ X.1; have := c1.hXb; omega)), c1.hXb, c1.hXW.moved hW⟩⟩ rfl (by simp) c2.2.2.2.1 (by simp [enc]) (lv_room (by rw [cat_enc]; exact hcat)) hd ⟨by omega, by omega⟩) k
theorem GX_new {X : Nat × Nat × (Nat → Int32)} {M : MD} {d mc ms pc : Nat} {ls st : List PV} {w : List KD} {m : Nat → Nat → Int} {Q : Ps} {ci idx N o : Nat} (hN : NWk M.1.cls idx ci) (hd : decode M.2.1 pc = .ok (.new idx, 3)) (hn : nOfC ci = N) (ho : w.length = o) (k : GX X M d mc ms (pc + 3) ls (rV o :: st) (w ++ [(0, ci, List.replicate N (-1))], zer m o) Q) : GX X M d (mc + 1) (ms + N) pc ls st (w, m) Q := by
  intro l b0 D cA p e R s mm args below meth c H locs cells slots ls' c1 c2
  obtain ⟨C, T, N', ⟨hc, hin, hN', hp, hnm, hT⟩, hcl, hins, hini, hty⟩ := hN
  have hts := c1.hts
  have hNN : N' = N := by rw [hN', hn]
  subst hNN
  subst ho
  have hKn := c1.hK.1 ci _ hc
  have hce := c1.hce
  have hsl := c1.hsl
  refine W.newcK c1.hx c1.hb c1.hown (hts _ hcl) (hts _ hins) (hts _ hini) rfl hd (by omega) (by omega) hKn.2.1 rfl fun H1 kC hkC e1 z1 o1 => ?_
  have hH : H.size = b0 + w.length := c2.2.1
  have c1' : C1 M d mc ms b0 D cA X p R s mm args meth c (cells + 1) (slots + N') := ⟨c1.hx, c1.hb, c1.hml, c1.hr, c1.hown, hts, c1.hlk, c1.hnm, c1.hfr, c1.hlo, by omega, by omega, c1.hK, c1.hX, c1.hXb, c1.hb0, c1.hXW⟩
  have k1 := k l b0 D cA p e R s mm args below meth c H1 locs (cells + 1) (slots + N') ls' c1' ⟨?_, ?_, ?_, c2.2.2.2⟩
  · rw [show cells + 1 + mc = cells + (mc + 1) by omega, show slots + N' + ms = slots + (ms + N') by omega] at k1
    have e0 : enc b0 (rV w.length) = Value.ref H.size := by rw [hH]; rfl
    simp only [List.map_cons, e0] at k1
    exact k1
  · rw [← wsOf_push (w := w) (m := m) (m' := zer m w.length) (kd := (0, ci, List.replicate N' (-1))) (fun a' h => zer_off m (by omega)) rfl]
    refine va_P.app (c2.1.kept (fun k q hq => o1 q.1 (c2.1 k q hq).lt)) (fun k q hq => ?_)
    have hz : k < 1 := (List.getElem?_eq_some_iff.mp hq).1
    rw [show k = 0 by omega] at hq
    cases hq
    refine ⟨(C, T, N'), hc, ?_⟩
    show t_OB (b0 + w.length) _ _ _ _ _
    rw [← hH]
    refine (u_born (tyOf ci) hts hin hKn hkC e1 hp).to (fun j hj => ?_)
    rw [fVal_0 (b0 := b0) (N := N') (m := m) w.length (hty j hj)]
    have e9 : (objF b0 (zer m w.length) w.length ci (List.replicate N' (-1))).getD j .null = fVal b0 (tyOf ci j) (zer m w.length w.length j) ((List.replicate N' (-1)).getD j (-1)) := by
      rw [List.getD_eq_getElem?_getD, objF_at (by rw [← hN']; exact hj)]
      rfl
    exact e9.symm
  · rw [z1, hH]
    simp
    omega
  · exact ⟨Nat.le_trans c2.2.2.1.1 (by omega), fun x h1 h2 => (o1 x (Nat.lt_of_lt_of_le h1 c2.2.2.1.1)).trans (c2.2.2.1.2.1 x h1 h2), c2.2.2.1.2.2⟩
theorem GX_wd {X : Nat × Nat × (Nat → Int32)} {M : MD} {d mc ms pc : Nat} {ls st : List PV} {w w2 : List KD} {m m2 : Nat → Nat → Int} {Q : Ps} (hw : w = w2) (hm : m = m2) (k : GX X M d mc ms pc ls st (w2, m2) Q) : GX X M d mc ms pc ls st (w, m) Q := by
  subst hw
  subst hm
  exact k
/-- the script's length -/
theorem GX_slen {X : Nat × Nat × (Nat → Int32)} {M : MD} {d mc ms pc : Nat} {ls st : List PV} {w : List KD} {m : Nat → Nat → Int} {Q : Ps} (hd : decode M.2.1 pc = .ok (.arraylength, 1)) (k : GX X M d mc ms (pc + 1) ls (iV (X.2.1 : Int) :: st) (w, m) Q) : GX X M d mc ms pc ls (vV (.ref X.1) :: st) (w, m) Q := by
  intro l b0 D cA p e R s mm args below meth c H locs cells slots ls' c1 c2
  have k1 := k l b0 D cA p e R s mm args below meth c H locs cells slots ls' c1 c2
  have hXb := c1.hXb
  refine va_slen c1.hx c1.hb c1.hX (Nat.lt_of_lt_of_le hXb c1.hb0) (A := fun q => b0 ≤ q) (by show ¬ b0 ≤ X.1; omega) c2.2.2.1 hd ?_
  exact k1
/-- an element of the script -/
theorem GX_scr {X : Nat × Nat × (Nat → Int32)} {M : MD} {d mc ms pc : Nat} {ls st : List PV} {w : List KD} {m : Nat → Nat → Int} {Q : Ps} {i : Int} (hd : decode M.2.1 pc = .ok (.iaload, 1)) (hi : 0 ≤ i ∧ i < X.2.1) (hn : X.2.1 < 2147483648) (k : GX X M d mc ms (pc + 1) ls (iV (X.2.2 i.toNat).toInt :: st) (w, m) Q) : GX X M d mc ms pc ls (iV i :: vV (.ref X.1) :: st) (w, m) Q := by
  intro l b0 D cA p e R s mm args below meth c H locs cells slots ls' c1 c2
  have k1 := k l b0 D cA p e R s mm args below meth c H locs cells slots ls' c1 c2
  have hXb := c1.hXb
  refine va_sld c1.hx c1.hb c1.hX (Nat.lt_of_lt_of_le hXb c1.hb0) (A := fun q => b0 ≤ q) (by show ¬ b0 ≤ X.1; omega) c2.2.2.1 (oi_in hi hn) hd ?_
  rw [oi_nat hi.1 (by omega), ← oi_eta (X.2.2 i.toNat)]
  exact k1
/-- two answers alike -/
theorem GX_same {X : Nat × Nat × (Nat → Int32)} {M : MD} {d mc ms pc : Nat} {ls st : List PV} {h : Hp} {Q : Ps} {x off : Int} (tgt : Nat) (hd : decode M.2.1 pc = .ok (.if_icmp .eq off, 3)) (ht : (pc : Int) + off = (tgt : Int)) (k : GX X M d mc ms tgt ls st h Q) : GX X M d mc ms pc ls (iV x :: iV x :: st) h Q := by
  intro l b0 D cA p e R s mm args below meth c H locs cells slots ls' c1 c2
  exact lv_icmp_eq c1.1 c1.2.1 hd ht (fun _ => k l b0 D cA p e R s mm args below meth c H locs cells slots ls' c1 c2) (fun h => absurd rfl h)
theorem lg_cmp_self (x : Int64) : lg_cmp x x = 0 := (lg_cmp_eq x x).mpr rfl
theorem GX_lsame {X : Nat × Nat × (Nat → Int32)} {M : MD} {d mc ms pc : Nat} {ls st : List PV} {w : List KD} {m : Nat → Nat → Int} {Q : Ps} {x off : Int} (tgt : Nat) (hd : decode M.2.1 pc = .ok (.lcmp, 1)) (hd2 : decode M.2.1 (pc + 1) = .ok (.ifCond .eq off, 3)) (ht : ((pc + 1 : Nat) : Int) + off = (tgt : Int)) (k : GX X M d mc ms tgt ls st (w, m) Q) : GX X M d mc ms pc ls (lV x :: lV x :: st) (w, m) Q := by
  refine GX_lcmp 0 hd (lg_cmp_self _) ?_
  exact GX_if_eq tgt hd2 ht (by decide) (fun _ => k) (fun h => absurd rfl h)
/-- the script's next argument, on the stack -/
theorem GX_arg1 {X : Nat × Nat × (Nat → Int32)} {M : MD} {d mc ms pc : Nat} {ls st : List PV} {w : List KD} {m : Nat → Nat → Int} {Q : Ps} {i : Nat} {n : Int} (j : Nat) (hj : n = (j : Int)) (hl0 : ls[0]? = some (vV (.ref X.1))) (hl3 : ls[3]? = some (iV (i : Int))) (d0 : decode M.2.1 pc = .ok (.aload_n 0, 1)) (d1 : decode M.2.1 (pc + 1) = .ok (.iload_n 3, 1)) (d2 : decode M.2.1 (pc + 2) = .ok (.iconst n, 1)) (d3 : decode M.2.1 (pc + 3) = .ok (.iadd, 1)) (d4 : decode M.2.1 (pc + 4) = .ok (.iaload, 1)) (hi : i + j < X.2.1) (hn : X.2.1 ≤ 3072)
    (k : GX X M d mc ms (pc + 5) ls (iV (X.2.2 (i + j)).toInt :: st) (w, m) Q) : GX X M d mc ms pc ls st (w, m) Q := by
  subst hj
  refine GX_aloadv_n d0 hl0 ?_
  refine GX_iload_n d1 hl3 ?_
  refine GX_iconst d2 ?_
  refine GX_iadd d3 ?_
  refine GX_scr d4 ⟨by omega, by omega⟩ (by omega) ?_
  rw [show ((i : Int) + (j : Int)).toNat = i + j by omega]
  exact k
