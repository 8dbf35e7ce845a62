/-- a class that can be made is known -/
theorem known_of {own : String} {idx ci : Nat} {args : Array Value} {s : State} (h : NWk own idx ci) (hts : ∀ w ∈ lwg, w.before args s = true) : ∃ y : ClassId × (Nat → Nat), ∀ q, vwCl[ci]? = some q → u_Kn s q.1 q.2.1 q.2.2 y.1 y.2 := by
  obtain ⟨C, T, N, ⟨hc, hin, -⟩, -, hins, -⟩ := h
  obtain ⟨cC, iS, hK⟩ := u_known (C := C) (T := T) (N := N) (n := N) hts hin (hts _ hins)
  refine ⟨(cC, iS), fun q hq => ?_⟩
  cases hc.symm.trans hq
  exact hK
theorem known_all {args : Array Value} {s : State} (hts : ∀ w ∈ lwg, w.before args s = true) : ∃ D : va_G, ∀ (c : Nat) (q : vw_C), vwCl[c]? = some q → u_Kn s q.1 q.2.1 q.2.2 (D.1 c) (D.2 c) := by
  have h : ∀ c : Nat, ∃ y : ClassId × (Nat → Nat), ∀ q, vwCl[c]? = some q → u_Kn s q.1 q.2.1 q.2.2 y.1 y.2 := by
    intro c
    match c with
    | 0 => exact known_of nw_X9_90 hts
    | 1 => exact known_of nw_X9_16 hts
    | 2 => exact known_of nw_X9_83 hts
    | 3 => exact known_of nw_X9_40 hts
    | 4 => exact known_of nw_X9_9 hts
    | 5 => exact known_of nw_X9_51 hts
    | 6 => exact known_of nw_X9_58 hts
    | 7 => exact known_of nw_X9_33 hts
    | 8 => exact known_of nw_X9_76 hts
    | 9 => exact known_of nw_L_7 hts
    | 10 => exact known_of nw_L_10 hts
    | c + 11 => exact ⟨(0, fun _ => 0), fun q hq => by simp at hq⟩
  exact ⟨(fun c => (Classical.choose (h c)).1, fun c => (Classical.choose (h c)).2), fun c q hq => Classical.choose_spec (h c) q hq⟩
theorem arr_known {ty : FieldType} {args : Array Value} {s : State} (h : (Cond.arrayClass ty).before args s = true) : ∃ cA : ClassId, ArrOfT s cA ty ∧ s.vm.findClass ("[" ++ ty.toString) = some cA := by
  obtain ⟨c, k, comp, h1, h2, h3⟩ := Cond.arrayClass_spec h
  exact ⟨c, fun n z => ⟨fun k h => (by cases h), k, h2, comp, h3⟩, h1⟩
theorem arrs_known {args : Array Value} {s : State} (hts : ∀ w ∈ lwg, w.before args s = true) (ho : (Cond.arrayOver (.array .int)).before args s = true) : ∃ cA : Nat → ClassId, ∀ (k : Nat) (q : ClassId × FieldType), (tysL cA)[k]? = some q → ArrOfT s q.1 q.2 ∧ va_RA s q.1 q.2 := by
  obtain ⟨c0, a0, b0⟩ := arr_known (hts _ ar_int)
  obtain ⟨c1, a1, b1⟩ := arr_known (hts _ ar_byte)
  obtain ⟨c2, a2, b2⟩ := arr_known (hts _ ar_short)
  obtain ⟨c3, a3, b3⟩ := arr_known (hts _ ar_boolean)
  obtain ⟨c4, a4, b4⟩ := arr_known (hts _ ar_long)
  obtain ⟨comp, c5, k5, hcomp, hidx, hk, hkind, hname⟩ := arrayOver_specB ho
  refine ⟨fun k => if k = 0 then c0 else if k = 1 then c1 else if k = 2 then c2 else if k = 3 then c3 else if k = 4 then c4 else c5, fun k q hq => ?_⟩
  match k, hq with
  | 0, hq => cases hq; exact ⟨a0, b0⟩
  | 1, hq => cases hq; exact ⟨a1, b1⟩
  | 2, hq => cases hq; exact ⟨a2, b2⟩
  | 3, hq => cases hq; exact ⟨a3, b3⟩
  | 4, hq => cases hq; exact ⟨a4, b4⟩
  | 5, hq => cases hq; exact ⟨fun n z => ⟨fun k h => (by cases h), k5, hk, comp, hkind⟩, hname⟩
  | k + 6, hq => simp [tysL] at hq
theorem xw_known {args : Array Value} {s : State} (hts : ∀ w ∈ lw_tbl, w.before args s = true) : XW s := by
  refine ⟨fun q hq => va_Nw.of rfl (hts _ (nest_in q hq)), ?_⟩
  exact hts _ ar_over
/-! THE CLAIM OUT OF ONE WALK OF THE LAW'S BODY. Your part is whole_start (and what it stands on); all else here is the same for every law, but numbers. -/
def R_law : String := "PathCycleLaw"
def lw_P (b : Addr) (xs : List Int32) (args : Array Value) (s : State) : Prop := args = #[.ref b] ∧ s.IntsAt b xs ∧ xs.length ≤ 3072 ∧ (Jvm.Cond.and given_1 narrow_1).before args s = true
/-- what a walk over the start with the record d0 says of its end, said of the start itself -/
theorem lw_closed {s t : State} {o : Outcome} {d0 : Drawn} {L : List Loc} {k n : Nat} (hd0 : s.drawn.sameBut d0 lw_cs) (hv : ∃ v, o = .returned v) (hW : (s.setDrawn d0).WarmedH t.vm) (hs : (s.setDrawn d0).sameButNew ({ t with vm := s.vm } : State) L k n) : State.butDraws s t lw_cs (fun t1 => Framed s o t1 L k n) := by
  have h2 : t.drawn = d0 := congrArg State.drawn hs.1
  refine ⟨⟨hv, hW, State.sameButNew.setDrawn hs s.drawn⟩, ?_, by decide⟩
  rw [h2]
  exact hd0
def lw_Q (_ : Array Value) (s : State) (o : Outcome) (t : State) : Prop := o = .returned (some (.int 1)) ∧ State.butDraws s t lw_cs (fun t1 => Framed s o t1 [] 600000 7302250)
def lw_Z (below : List Frame) (a : Array Value) (s : State) : State → Prop := fun t => ∃ o, t.status = .running ∧ Ended t below o ∧ lw_Q a s o t
/-- the law's own end, with 1 on the stack, nothing written that was there before, its room as the claim has it; d0: the record of draws at this point (at the entry s.drawn: begin with 'refine W.base ?_' and 'have hd0 := Drawn.sameBut.refl s.drawn lw_cs') -/
theorem lw_ret {p : Program} {l : Launch} {e : Env} {s : State} {m : MethodId} {below : List Frame} {meth : Method} {c : Code} {b : Nat} {d0 : Drawn} (hd0 : s.drawn.sameBut d0 lw_cs) (hx : p.tables.exec = Jvm.exec) (hb : c.code = code) (hr : meth.sig.returnType = ret) (hlocks : meth.locks = false) {pc : Nat} {H : Heap} {ls : Array Slot} (hdg : decode code pc = .ok (.ireturn, 1)) : W p l e room_1 (s.setDrawn d0) m #[Value.ref b] below meth c H [] 600000 7302250 (lw_Z below #[Value.ref b] s) (F0 m pc ls [.int 1]) := by
  intro T hT X
  obtain ⟨fs, hret, hrun, hended, hW, hframe⟩ := X.leave (v := some (.int 1)) (hlocks := hlocks) (fun h => by rw [hr] at h; cases h)
  have hmeth' : T.vm.method? m = some meth := X.method'
  refine ⟨T.setFrames fs, ?_, .returned (some (.int 1)), hrun, hended, rfl, lw_closed hd0 ⟨_, rfl⟩ hW hframe⟩
  jvm_step X.here [X.here.top, hx, hb, hdg, hmeth', hr, ret, narrow_b1]
  (try refine ⟨rfl, ?_⟩); (try refine ⟨rfl, ?_⟩)
  first | (intro acts; rw [hret _ acts rfl rfl rfl]) | rw [hret _ _ rfl rfl rfl]
  exact Steps.refl _
/-- what holds at the law's entry: the machine, the code, the tables' words (any of lw_tbl by 'hts w (by decide +kernel)'), the script of L ints xs at the cell b, what the Statement gives of the start (any of its parts by flat_of_before) -/
def lw_At (p : Program) (s : State) (m : MethodId) (meth : Method) (c : Code) (b L : Nat) (xs : Nat → Int32) : Prop :=
  p.tables.exec = Jvm.exec ∧ c.code = code ∧ meth.sig.returnType = ret ∧ c.maxLocals = 4 ∧ s.vm.findClass R_law = some m.cls ∧ (∀ w ∈ lw_tbl, w.before #[Value.ref b] s = true) ∧ va_X b L xs s s.heap ∧ b < s.heap.size ∧ meth.locks = false ∧ (Jvm.Cond.and given_1 narrow_1).before #[Value.ref b] s = true
theorem whole_start {p : Program} {e : Env} {s : State} {m : MethodId} {below : List Frame} {meth : Method} {c : Code} (l : Launch) (hflags : l.flags = flags0) {b L : Nat} {xs : Nat → Int32} (hL : L ≤ 3072) (C0 : lw_At p s m meth c b L xs) : W p l e room_1 s m #[Value.ref b] below meth c s.heap [] 0 0 (lw_Z below #[Value.ref b] s) (entryFrame m ([Value.ref b] : List Value).toArray 4) := by
  obtain ⟨hx, hb, hr, hml, hown, hts, hX, hbl, hlocks, hgv⟩ := id C0
  have htg : ∀ w ∈ lwg, w.before #[Value.ref b] s = true := fun w hw => hts w (List.mem_filter.mp hw).1
  obtain ⟨D, hD⟩ := known_all htg
  obtain ⟨cA, hA⟩ := arrs_known htg (hts _ ar_over)
  have hlv := LV.entry (b0 := s.heap.size) (vs := [vV (.ref b)]) (n := 4) (Nat.le_of_ble_eq_true rfl)
  have hP : va_P D vwCl (wsOf s.heap.size cA ([], fun _ _ => 0)) s.heap := fun k q h => by simp [wsOf] at h
  rw [lg_entry_eq]
  have k1 := law_all (nm := meth.name) (X := (b, L, xs)) hL (m := fun _ _ => 0) l s.heap.size D cA p e room_1 s m #[Value.ref b] below meth c s.heap [] 0 0 _
    ⟨hx, hb, hml, hr, hown, htg, hlocks, rfl, by decide, by decide, by decide, by decide, ⟨hD, hA⟩, hX, hbl, Nat.le_refl _, xw_known hts⟩
    ⟨hP, rfl, va_S.rf, hlv⟩
  intro T hT XT
  obtain ⟨t, a1, o, b1, b2, ⟨⟨r, h', e1, e2, -⟩, -⟩, L0, ⟨-, f2, f3⟩, f4⟩ := k1 T hT XT
  have ho : o = .returned (some (.int 1)) := by
    rw [e1, show r = some (iV 1) from e2]
    rfl
  refine ⟨t, a1, o, b1, b2, ho, lw_closed (Drawn.sameBut.refl s.drawn lw_cs) ⟨_, ho⟩ f2 (f3.weaken (fun x hx hlt => absurd hlt (Nat.not_lt_of_le (f4 x hx))) (by decide) (by decide))⟩
