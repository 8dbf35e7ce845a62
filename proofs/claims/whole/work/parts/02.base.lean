/-! PV: an int (as a whole number; Int32.ofInt of it is meant), a long, one of our own cells by its number, any other value. -/
abbrev MD : Type := MethodName × ByteArray × Nat × Option FieldType
abbrev PV : Type := Int ⊕ (Int ⊕ (Nat ⊕ Value))
abbrev iV (x : Int) : PV := .inl x
abbrev lV (x : Int) : PV := .inr (.inl x)
abbrev rV (a : Nat) : PV := .inr (.inr (.inl a))
abbrev vV (v : Value) : PV := .inr (.inr (.inr v))
abbrev uV : PV := .inr (.inr (.inr (.retAddr 0)))
/-- a cell's kind: 0 an object (number of its class), 1 int[], 2 byte[], 3 short[], 4 boolean[], 5 long[], 6 int[][] (length); the references that it holds -/
abbrev KD : Type := Nat × Nat × List Int
abbrev Hp : Type := List KD × (Nat → Nat → Int)
abbrev Ps : Type := Option PV → Hp → Prop
def enc (b0 : Nat) (v : PV) : Value := match v with
  | .inl x => .int (Int32.ofInt x)
  | .inr (.inl x) => .long (Int64.ofInt x)
  | .inr (.inr (.inl a)) => .ref (b0 + a)
  | .inr (.inr (.inr v)) => v
def pcat (v : PV) : Nat := match v with
  | .inl _ => 1
  | .inr (.inl _) => 2
  | .inr (.inr (.inl _)) => 1
  | .inr (.inr (.inr v)) => v.category
theorem enc_cat (b0 : Nat) (v : PV) : (enc b0 v).category = pcat v := by
  rcases v with x | x | a | v <;> rfl
def rfO (b0 : Nat) (r : Int) : Option Nat := if r < 0 then none else some (b0 + r.toNat)
def fVal (b0 : Nat) (ty : FieldType) (x r : Int) : Value := match ty with
  | .int => .int (Int32.ofInt x)
  | .boolean => .int (Int32.ofInt x)
  | .long => .long (Int64.ofInt x)
  | _ => va_rf (rfO b0 r)
def tyOf (ci : Nat) : Nat → FieldType := match ci with
  | 0 => tyX0
  | 1 => tyX1
  | 2 => tyX2
  | 3 => tyX3
  | 4 => tyX4
  | 5 => tyX5
  | 6 => tyX6
  | 7 => tyX7
  | 8 => tyX8
  | 9 => tyX9
  | _ => tyX10
def nOfC (ci : Nat) : Nat := [5, 6, 5, 6, 6, 8, 8, 7, 9, 16, 30].getD ci 0
def objF (b0 : Nat) (m : Nat → Nat → Int) (a ci : Nat) (rs : List Int) : List Value := (List.range (nOfC ci)).map fun k => fVal b0 (tyOf ci k) (m a k) (rs.getD k (-1))
def cellE (b0 : Nat) (cA : Nat → ClassId) (m : Nat → Nat → Int) (a : Nat) (kd : KD) : va_E := match kd.1 with
  | 0 => .inr (kd.2.1, objF b0 m a kd.2.1 kd.2.2)
  | 1 => .inl (cA 0, kd.2.1, .inl fun j => Int32.ofInt (m a j))
  | 2 => .inl (cA 1, kd.2.1, .inl fun j => Int32.ofInt (m a j))
  | 3 => .inl (cA 2, kd.2.1, .inl fun j => Int32.ofInt (m a j))
  | 4 => .inl (cA 3, kd.2.1, .inl fun j => Int32.ofInt (m a j))
  | 5 => .inl (cA 4, kd.2.1, .inr (.inl fun j => Int64.ofInt (m a j)))
  | _ => .inl (cA 5, kd.2.1, .inr (.inr (.inr (.inr fun j => rfO b0 (kd.2.2.getD j (-1))))))
def wsOf (b0 : Nat) (cA : Nat → ClassId) (h : Hp) : va_W := (List.range h.1.length).map fun a => (b0 + a, cellE b0 cA h.2 a (h.1.getD a (0, 0, [])))
theorem wsOf_at {b0 : Nat} {cA : Nat → ClassId} {h : Hp} {a : Nat} {kd : KD} (hk : h.1[a]? = some kd) : (wsOf b0 cA h)[a]? = some (b0 + a, cellE b0 cA h.2 a kd) := by
  have hl : a < h.1.length := (List.getElem?_eq_some_iff.mp hk).1
  unfold wsOf
  rw [List.getElem?_map, List.getElem?_range hl]
  simp only [Option.map_some, List.getD_eq_getElem?_getD, hk, Option.getD_some]
theorem wsOf_len (b0 : Nat) (cA : Nat → ClassId) (h : Hp) : (wsOf b0 cA h).length = h.1.length := by simp [wsOf]
theorem wsOf_inv {b0 : Nat} {cA : Nat → ClassId} {h : Hp} {a : Nat} {q : Nat × va_E} (hk : (wsOf b0 cA h)[a]? = some q) : ∃ kd, h.1[a]? = some kd ∧ q = (b0 + a, cellE b0 cA h.2 a kd) := by
  have hl : a < h.1.length := by rw [← wsOf_len b0 cA h]; exact (List.getElem?_eq_some_iff.mp hk).1
  refine ⟨h.1[a], List.getElem?_eq_getElem hl, ?_⟩
  rw [wsOf_at (List.getElem?_eq_getElem hl)] at hk
  exact (Option.some.inj hk).symm
theorem wsOf_D (b0 : Nat) (cA : Nat → ClassId) (h : Hp) : va_D (fun q => b0 ≤ q) (wsOf b0 cA h) := by
  refine ⟨fun i j p q hp hq e => ?_, fun k q hq => ?_⟩
  · obtain ⟨_, _, rfl⟩ := wsOf_inv hp
    obtain ⟨_, _, rfl⟩ := wsOf_inv hq
    exact Nat.add_left_cancel e
  · obtain ⟨_, _, rfl⟩ := wsOf_inv hq
    exact Nat.le_add_right _ _
def upm (m : Nat → Nat → Int) (a k : Nat) (x : Int) : Nat → Nat → Int := fun a' j => if a' = a ∧ j = k then x else m a' j
theorem upm_same (m : Nat → Nat → Int) (a k : Nat) (x : Int) : upm m a k x a k = x := by simp [upm]
theorem upm_off (m : Nat → Nat → Int) {a a' k : Nat} (x : Int) (h : a' ≠ a) : upm m a k x a' = m a' := by
  funext j
  simp [upm, h]
theorem upm_ne (m : Nat → Nat → Int) {a a' k j : Nat} (x : Int) (h : a' = a → j ≠ k) : upm m a k x a' j = m a' j := by
  unfold upm
  rw [if_neg]
  rintro ⟨h1, h2⟩
  exact h h1 h2
/-- one cell's entry changes, the others stay -/
theorem wsOf_set {b0 : Nat} {cA : Nat → ClassId} {w w' : List KD} {m m' : Nat → Nat → Int} {a : Nat} {kd : KD} {e : va_E} (hk : w'[a]? = some kd) (hl : w'.length = w.length) (hw : ∀ a', a' ≠ a → w'[a']? = w[a']?) (hm : ∀ a', a' ≠ a → m' a' = m a') (he : cellE b0 cA m' a kd = e) :
    (wsOf b0 cA (w, m)).set a (b0 + a, e) = wsOf b0 cA (w', m') := by
  apply List.ext_getElem?
  intro i
  rw [List.getElem?_set]
  by_cases hi : a = i
  · subst hi
    have h1 : a < w.length := by rw [← hl]; exact (List.getElem?_eq_some_iff.mp hk).1
    rw [if_pos rfl, wsOf_len, if_pos h1, wsOf_at (h := (w', m')) hk, he]
  · rw [if_neg hi]
    cases hx : w[i]? with
    | none =>
      have hx' : w'[i]? = none := by rw [hw i (fun e => hi e.symm)]; exact hx
      rw [List.getElem?_eq_none (by rw [wsOf_len]; exact List.getElem?_eq_none_iff.mp hx), List.getElem?_eq_none (by rw [wsOf_len]; exact List.getElem?_eq_none_iff.mp hx')]
    | some kd' =>
      have hx' : w'[i]? = some kd' := by rw [hw i (fun e => hi e.symm)]; exact hx
      rw [wsOf_at (h := (w, m)) hx, wsOf_at (h := (w', m')) hx']
      have : cellE b0 cA m i kd' = cellE b0 cA m' i kd' := by
        unfold cellE objF
        simp only [hm i (fun e => hi e.symm)]
      simp only [this]
theorem wsOf_push {b0 : Nat} {cA : Nat → ClassId} {w : List KD} {m m' : Nat → Nat → Int} {kd : KD} {e : va_E} (hm : ∀ a', a' < w.length → m' a' = m a') (he : cellE b0 cA m' w.length kd = e) :
    wsOf b0 cA (w, m) ++ [(b0 + w.length, e)] = wsOf b0 cA (w ++ [kd], m') := by
  apply List.ext_getElem?
  intro i
  by_cases hi : i < w.length
  · have hx : w[i]? = some w[i] := List.getElem?_eq_getElem hi
    rw [List.getElem?_append_left (by rw [wsOf_len]; exact hi), wsOf_at (h := (w, m)) hx, wsOf_at (h := (w ++ [kd], m')) (kd := w[i]) (by show (w ++ [kd])[i]? = _; rw [List.getElem?_append_left hi]; exact hx)]
    have : cellE b0 cA m i w[i] = cellE b0 cA m' i w[i] := by
      unfold cellE objF
      simp only [hm i hi]
    simp only [this]
  · rw [List.getElem?_append_right (by rw [wsOf_len]; exact Nat.le_of_not_lt hi), wsOf_len]
    by_cases h2 : i = w.length
    · subst h2
      rw [Nat.sub_self, wsOf_at (h := (w ++ [kd], m')) (kd := kd) (by simp)]
      simp [he]
    · rw [List.getElem?_eq_none (by simp; omega), List.getElem?_eq_none (by rw [wsOf_len]; simp; omega)]
def tysL (cA : Nat → ClassId) : List (ClassId × FieldType) := [(cA 0, .int), (cA 1, .byte), (cA 2, .short), (cA 3, .boolean), (cA 4, .long), (cA 5, .array .int)]
/-- the words that every call can carry on; the few that it can't are carried by XW -/
def lwg : List Cond := lw_tbl.filter goodWord
theorem mem_lwg {w : Cond} (h : w ∈ lw_tbl) (g : goodWord w = true) : w ∈ lwg := List.mem_filter.mpr ⟨h, g⟩
def xwN : List (Nat × String) := [(35, "PathCycle$Tape"), (42, "PathCycle$Paths"), (53, "PathCycle$Scans"), (60, "PathCycle$Sum"), (78, "PathCycle$Wants"), (85, "PathCycle$Fewest"), (92, "PathCycle$Cogs")]
def XW (U : State) : Prop := (∀ q ∈ xwN, va_Nw (.methodLinkNest "PathCycle" q.1 ⟨q.2, "<init>", "()V"⟩ "PathCycle") U) ∧ (Cond.arrayOver (.array .int)).before #[] U = true
theorem XW.moved {u U : State} (hW : u.WarmedH U.vm) (h : XW u) : XW U := ⟨fun q hq => va_Nw.warmM hW (h.1 q hq), arrayOver_alikeB hW.alike h.2⟩
/-- the heap and the tables, at a state -/
def RelU (b0 : Nat) (D : va_G) (cA : Nat → ClassId) (X : Nat × Nat × (Nat → Int32)) (h : Hp) (U : State) : Prop :=
  va_P D vwCl (wsOf b0 cA h) U.heap ∧ U.heap.size = b0 + h.1.length ∧ va_K D vwCl (tysL cA) U ∧ va_X X.1 X.2.1 X.2.2 U U.heap ∧ X.1 < b0 ∧ XW U
def roomD (d mc ms : Nat) : Room := { frames := d, cells := mc, slots := ms, locals := 40 * d }
def wsM (M : MD) : List Cond := .code M.1 M.2.1 M.2.2.1 M.2.2.2 :: lwg
def QcM (b0 : Nat) (D : va_G) (cA : Nat → ClassId) (X : Nat × Nat × (Nat → Int32)) (Q : Ps) : Array Value → State → Outcome → State → Prop := fun _ st o t =>
  (∃ (r : Option PV) (h' : Hp), o = .returned (r.map (enc b0)) ∧ Q r h' ∧ RelU b0 D cA X h' t) ∧ va_F (fun q => b0 ≤ q) st t
/-- a method's contract: started on args over the heap h it returns, and Q holds of its answer and the heap then -/
def Sp (M : MD) (d mc ms : Nat) (args : List PV) (h : Hp) (Q : Ps) : Prop :=
  ∀ (l : Launch) (b0 : Nat) (D : va_G) (cA : Nat → ClassId) (X : Nat × Nat × (Nat → Int32)),
    Met l M.1 (wsM M) (roomD d mc ms) (va_Pc (args.map (enc b0)) (RelU b0 D cA X h)) (QcM b0 D cA X Q) mc ms (fun q => b0 ≤ q)
/-- the locals -/
def LV (ls' : Array Slot) (n b0 : Nat) (ls : List PV) : Prop := ls'.size = n ∧ lv_wf ls' ∧ ∀ (i : Nat) (v : PV), ls[i]? = some v → v ≠ uV → ls'[i]? = some (.val (enc b0 v))
/-- what stands fast during a method's run -/
def C1 (M : MD) (d mc ms : Nat) (b0 : Nat) (D : va_G) (cA : Nat → ClassId) (X : Nat × Nat × (Nat → Int32)) (p : Program) (R : Room) (s : State) (m : MethodId) (args : Array Value) (meth : Method) (c : Code) (cells slots : Nat) : Prop :=
  p.tables.exec = Jvm.exec ∧ c.code = M.2.1 ∧ c.maxLocals = M.2.2.1 ∧ meth.sig.returnType = M.2.2.2 ∧ s.vm.findClass M.1.cls = some m.cls ∧ (∀ w ∈ lwg, w.before args s = true) ∧ meth.locks = false ∧ meth.name = M.1.name ∧
  d ≤ R.frames ∧ 40 * d ≤ R.locals ∧ cells + mc ≤ R.cells ∧ slots + ms ≤ R.slots ∧ va_K D vwCl (tysL cA) s ∧ va_X X.1 X.2.1 X.2.2 s s.heap ∧ X.1 < b0 ∧ b0 ≤ s.heap.size ∧ XW s
def C2 (M : MD) (b0 : Nat) (D : va_G) (cA : Nat → ClassId) (h : Hp) (H0 H : Heap) (locs : List Loc) (ls : List PV) (ls' : Array Slot) : Prop :=
  va_P D vwCl (wsOf b0 cA h) H ∧ H.size = b0 + h.1.length ∧ va_S (fun q => b0 ≤ q) H0 H locs ∧ LV ls' M.2.2.1 b0 ls
/-- from here the method returns, and Q holds then -/
def G (M : MD) (d mc ms pc : Nat) (ls st : List PV) (h : Hp) (Q : Ps) : Prop :=
  ∀ (l : Launch) (b0 : Nat) (D : va_G) (cA : Nat → ClassId) (X : Nat × Nat × (Nat → Int32)) (p : Program) (e : Env) (R : Room) (s : State) (m : MethodId) (args : Array Value) (below : List Frame) (meth : Method) (c : Code) (H : Heap) (locs : List Loc) (cells slots : Nat) (ls' : Array Slot),
    C1 M d mc ms b0 D cA X p R s m args meth c cells slots → C2 M b0 D cA h s.heap H locs ls ls' →
    W p l e R s m args below meth c H locs cells slots (MQ below (QcM b0 D cA X Q) args s (cells + mc) (slots + ms) (fun q => b0 ≤ q)) (F0 m pc ls' (st.map (enc b0)))
theorem G.post {M : MD} {d mc ms pc : Nat} {ls st : List PV} {h : Hp} {Q Q' : Ps} (k : G M d mc ms pc ls st h Q) (hq : ∀ r h', Q r h' → Q' r h') : G M d mc ms pc ls st h Q' := by
  intro l b0 D cA X p e R s m args below meth c H locs cells slots ls' c1 c2 T hT XT
  obtain ⟨t, a, o, b1, b2, ⟨⟨r, h', e1, e2, e3⟩, e4⟩, b4⟩ := k l b0 D cA X p e R s m args below meth c H locs cells slots ls' c1 c2 T hT XT
  exact ⟨t, a, o, b1, b2, ⟨⟨r, h', e1, hq _ _ e2, e3⟩, e4⟩, b4⟩
theorem Sp.post {M : MD} {d mc ms : Nat} {as : List PV} {h : Hp} {Q Q' : Ps} (k : Sp M d mc ms as h Q) (hq : ∀ r h', Q r h' → Q' r h') : Sp M d mc ms as h Q' := by
  intro l b0 D cA X
  have k1 := k l b0 D cA X
  intro p e ha hc hk s m args below hf happ hP hK
  obtain ⟨n, o, g1, g2, g3, ⟨⟨r, h', e1, e2, e3⟩, e4⟩, g5⟩ := k1 p e ha hc hk s m args below hf happ hP hK
  exact ⟨n, o, g1, g2, g3, ⟨⟨r, h', e1, hq _ _ e2, e3⟩, e4⟩, g5⟩
/-! entry: a contract out of the walk of the body -/
def entL : List PV → List PV
  | [] => []
  | v :: vs => if pcat v = 2 then v :: uV :: entL vs else v :: entL vs
theorem entL_args (b0 : Nat) : ∀ (vs : List PV) (o i : Nat) (v : PV), (entL vs)[i]? = some v → v ≠ uV → (o + i, enc b0 v) ∈ lv_args o (vs.map (enc b0))
  | [], o, i, v, h, _ => by simp [entL] at h
  | w :: vs, o, i, v, h, hv => by
    unfold entL at h
    rw [List.map_cons]
    unfold lv_args
    rw [enc_cat]
    by_cases hc : pcat w = 2
    · rw [if_pos hc] at h ⊢
      match i with
      | 0 =>
        simp at h
        subst h
        exact List.mem_cons_self
      | 1 =>
        simp at h
        exact absurd h.symm hv
      | i + 2 =>
        simp at h
        have := entL_args b0 vs (o + 2) i v h hv
        rw [show o + (i + 2) = o + 2 + i by omega]
        exact List.mem_cons_of_mem _ this
    · rw [if_neg hc] at h ⊢
      match i with
      | 0 =>
        simp at h
        subst h
        exact List.mem_cons_self
      | i + 1 =>
        simp at h
        have := entL_args b0 vs (o + 1) i v h hv
        rw [show o + (i + 1) = o + 1 + i by omega]
        exact List.mem_cons_of_mem _ this
theorem entL_len (b0 : Nat) : ∀ (vs : List PV), (lg_sl (vs.map (enc b0))).length = (entL vs).length
  | [] => rfl
  | w :: vs => by
    have ih := entL_len b0 vs
    unfold lg_sl at ih ⊢
    unfold entL
    rw [List.map_cons, List.flatMap_cons, List.length_append, ih, enc_cat]
    by_cases hc : pcat w = 2
    · rw [if_pos hc, if_pos hc]; simp; omega
    · rw [if_neg hc, if_neg hc]; simp; omega
theorem LV.entry {b0 n : Nat} {vs : List PV} (h : (entL vs).length ≤ n) : LV ((lg_sl (vs.map (enc b0)) ++ List.replicate (n - (lg_sl (vs.map (enc b0))).length) Slot.unset).toArray) n b0 (entL vs ++ List.replicate (n - (entL vs).length) uV) := by
  obtain ⟨h1, h2, h3⟩ := lv_entry (vs.map (enc b0)) (n := n) (by rw [entL_len]; exact h)
  refine ⟨h1, h2, fun i v hi hv => ?_⟩
  by_cases hl : i < (entL vs).length
  · rw [List.getElem?_append_left hl] at hi
    have := h3 _ (entL_args b0 vs 0 i v hi hv)
    rw [Nat.zero_add] at this
    exact this
  · rw [List.getElem?_append_right (Nat.le_of_not_lt hl)] at hi
    have := List.mem_of_getElem? hi
    exact absurd (List.eq_of_mem_replicate this) hv
set_option maxHeartbeats 1000000 in
theorem Sp.ofG {M : MD} {d mc ms : Nat} {as : List PV} {h : Hp} {Q : Ps} {ls : List PV} (hy : plainName M.1.cls = true) (hl : entL as ++ List.replicate (M.2.2.1 - (entL as).length) uV = ls) (hn : (entL as).length ≤ M.2.2.1) (k : G M d mc ms 0 ls [] h Q) : Sp M d mc ms as h Q := by
  intro l b0 D cA X
  refine Met.ofW (cc := M.2.1) (maxL := M.2.2.1) (ret := M.2.2.2) hy rfl ?_
  intro p e s m args below meth c s₁ B hml hv
  obtain ⟨rfl, hP, hsz, hK, hX, hXb, hXW⟩ := hv
  have hts0 := atoms_spec (ws := wsM M) B.pre
  have hts : ∀ w ∈ lwg, w.before (as.map (enc b0)).toArray s = true := fun w hw => hts0 w (List.mem_cons_of_mem _ hw)
  have hnm := (name_of_methodNamed B.named B.method).1
  have hown : s.vm.findClass M.1.cls = some m.cls := findClass_of_methodNamed B.named
  rw [lg_entry_eq]
  have hlv := LV.entry (b0 := b0) hn
  rw [hl] at hlv
  have k1 := k l b0 D cA X p e (headSpec (wsM M) (roomD d mc ms)).room s m (as.map (enc b0)).toArray below meth c s.heap [] 0 0 _
    ⟨B.exec, B.bytes, hml, B.returns, hown, hts, B.notSynchronized, hnm, Nat.le_refl _, Nat.le_refl _, by show 0 + mc ≤ mc; omega, by show 0 + ms ≤ ms; omega, hK, hX, hXb, by rw [hsz]; omega, hXW⟩
    ⟨hP, hsz, va_S.rf, hlv⟩
  rw [Nat.zero_add, Nat.zero_add] at k1
  exact k1
theorem oi_inj {x y : Int} (hx : -2147483648 ≤ x ∧ x < 2147483648) (hy : -2147483648 ≤ y ∧ y < 2147483648) : Int32.ofInt x = Int32.ofInt y ↔ x = y := by
  rw [← Int32.toInt_inj, Int32.toInt_ofInt_of_le (by omega) (by omega), Int32.toInt_ofInt_of_le (by omega) (by omega)]
theorem oi_lt {x y : Int} (hx : -2147483648 ≤ x ∧ x < 2147483648) (hy : -2147483648 ≤ y ∧ y < 2147483648) : Int32.ofInt x < Int32.ofInt y ↔ x < y := by
  rw [Int32.lt_iff_toInt_lt, Int32.toInt_ofInt_of_le (by omega) (by omega), Int32.toInt_ofInt_of_le (by omega) (by omega)]
theorem oi_le {x y : Int} (hx : -2147483648 ≤ x ∧ x < 2147483648) (hy : -2147483648 ≤ y ∧ y < 2147483648) : Int32.ofInt x ≤ Int32.ofInt y ↔ x ≤ y := by
  rw [Int32.le_iff_toInt_le, Int32.toInt_ofInt_of_le (by omega) (by omega), Int32.toInt_ofInt_of_le (by omega) (by omega)]
theorem oi_toInt {x : Int} (hx : -2147483648 ≤ x ∧ x < 2147483648) : (Int32.ofInt x).toInt = x := Int32.toInt_ofInt_of_le (by omega) (by omega)
theorem oi_nat {x : Int} (h0 : 0 ≤ x) (hx : x < 2147483648) : (Int32.ofInt x).toNatClampNeg = x.toNat := by
  show (Int32.ofInt x).toInt.toNat = _
  rw [oi_toInt ⟨by omega, hx⟩]
theorem oi_in {i : Int} {n : Nat} (h : 0 ≤ i ∧ i < n) (hn : n < 2147483648) : vp_in (Int32.ofInt i) n := by
  rw [vp_in_iff, oi_toInt ⟨by omega, by omega⟩]
  exact h
theorem oi_0 : Int32.ofInt 0 = 0 := rfl
theorem oi_eta (x : Int32) : Int32.ofInt x.toInt = x := Int32.ofInt_toInt x
theorem oi_rng (x : Int32) : -2147483648 ≤ x.toInt ∧ x.toInt < 2147483648 := ⟨Int32.le_toInt x, Int32.toInt_lt x⟩
theorem G_iconst {M : MD} {d mc ms pc : Nat} {ls st : List PV} {w : List KD} {m : Nat → Nat → Int} {Q : Ps} {n : Int} (hd : decode M.2.1 pc = .ok (.iconst n, 1))  (k : G M d mc ms (pc + 1) ls (iV n :: st) (w, m) Q) : G M d mc ms pc ls (st) (w, m) Q := by
  intro l b0 D cA X p e R s mm args below meth c H locs cells slots ls' c1 c2
  have k1 := k l b0 D cA X p e R s mm args below meth c H locs cells slots ls' c1 c2
  refine lv_iconst c1.1 c1.2.1 hd rfl ?_
  exact k1
theorem G_bipush {M : MD} {d mc ms pc : Nat} {ls st : List PV} {w : List KD} {m : Nat → Nat → Int} {Q : Ps} {n : Int} (hd : decode M.2.1 pc = .ok (.bipush n, 2)) (hn : (Int8.ofInt n).toInt32 = Int32.ofInt n) (k : G M d mc ms (pc + 2) ls (iV n :: st) (w, m) Q) : G M d mc ms pc ls (st) (w, m) Q := by
  intro l b0 D cA X p e R s mm args below meth c H locs cells slots ls' c1 c2
  have k1 := k l b0 D cA X p e R s mm args below meth c H locs cells slots ls' c1 c2
  refine lv_bipush c1.1 c1.2.1 hd (v := Int32.ofInt n) ?_ ?_
  · exact hn
  · exact k1
theorem G_sipush {M : MD} {d mc ms pc : Nat} {ls st : List PV} {w : List KD} {m : Nat → Nat → Int} {Q : Ps} {n : Int} (hd : decode M.2.1 pc = .ok (.sipush n, 3)) (hn : (Int16.ofInt n).toInt32 = Int32.ofInt n) (k : G M d mc ms (pc + 3) ls (iV n :: st) (w, m) Q) : G M d mc ms pc ls (st) (w, m) Q := by
  intro l b0 D cA X p e R s mm args below meth c H locs cells slots ls' c1 c2
  have k1 := k l b0 D cA X p e R s mm args below meth c H locs cells slots ls' c1 c2
  refine lv_sipush c1.1 c1.2.1 hd (v := Int32.ofInt n) ?_ ?_
  · exact hn
  · exact k1
theorem G_lconst {M : MD} {d mc ms pc : Nat} {ls st : List PV} {w : List KD} {m : Nat → Nat → Int} {Q : Ps} {n : Fin 2} (hd : decode M.2.1 pc = .ok (.lconst n, 1))  (k : G M d mc ms (pc + 1) ls (lV (n.val : Int) :: st) (w, m) Q) : G M d mc ms pc ls (st) (w, m) Q := by
  intro l b0 D cA X p e R s mm args below meth c H locs cells slots ls' c1 c2
  have k1 := k l b0 D cA X p e R s mm args below meth c H locs cells slots ls' c1 c2
  refine lv_lconst c1.1 c1.2.1 hd (v := Int64.ofInt (n.val : Int)) (Int64.ofInt_eq_ofNat).symm ?_
  exact k1
theorem G_iload_n {M : MD} {d mc ms pc : Nat} {ls st : List PV} {w : List KD} {m : Nat → Nat → Int} {Q : Ps} {j : Fin 4} {x : Int} (hd : decode M.2.1 pc = .ok (.iload_n j, 1)) (hl : ls[j.val]? = some (iV x)) (k : G M d mc ms (pc + 1) ls (iV x :: st) (w, m) Q) : G M d mc ms pc ls st (w, m) Q := by
  intro l b0 D cA X p e R s mm args below meth c H locs cells slots ls' c1 c2
  exact lv_iload_n c1.1 c1.2.1 hd rfl (c2.2.2.2.2.2 _ _ hl (fun h => by cases h)) (k l b0 D cA X p e R s mm args below meth c H locs cells slots ls' c1 c2)
theorem G_iload {M : MD} {d mc ms pc : Nat} {ls st : List PV} {w : List KD} {m : Nat → Nat → Int} {Q : Ps} {j : Nat} {x : Int} (hd : decode M.2.1 pc = .ok (.iload j, 2)) (hl : ls[j]? = some (iV x)) (k : G M d mc ms (pc + 2) ls (iV x :: st) (w, m) Q) : G M d mc ms pc ls st (w, m) Q := by
  intro l b0 D cA X p e R s mm args below meth c H locs cells slots ls' c1 c2
  exact lv_iload c1.1 c1.2.1 hd (c2.2.2.2.2.2 _ _ hl (fun h => by cases h)) (k l b0 D cA X p e R s mm args below meth c H locs cells slots ls' c1 c2)
theorem G_lload_n {M : MD} {d mc ms pc : Nat} {ls st : List PV} {w : List KD} {m : Nat → Nat → Int} {Q : Ps} {j : Fin 4} {x : Int} (hd : decode M.2.1 pc = .ok (.lload_n j, 1)) (hl : ls[j.val]? = some (lV x)) (k : G M d mc ms (pc + 1) ls (lV x :: st) (w, m) Q) : G M d mc ms pc ls st (w, m) Q := by
  intro l b0 D cA X p e R s mm args below meth c H locs cells slots ls' c1 c2
  exact lv_lload_n c1.1 c1.2.1 hd rfl (c2.2.2.2.2.2 _ _ hl (fun h => by cases h)) (k l b0 D cA X p e R s mm args below meth c H locs cells slots ls' c1 c2)
theorem G_lload {M : MD} {d mc ms pc : Nat} {ls st : List PV} {w : List KD} {m : Nat → Nat → Int} {Q : Ps} {j : Nat} {x : Int} (hd : decode M.2.1 pc = .ok (.lload j, 2)) (hl : ls[j]? = some (lV x)) (k : G M d mc ms (pc + 2) ls (lV x :: st) (w, m) Q) : G M d mc ms pc ls st (w, m) Q := by
  intro l b0 D cA X p e R s mm args below meth c H locs cells slots ls' c1 c2
  exact lv_lload c1.1 c1.2.1 hd (c2.2.2.2.2.2 _ _ hl (fun h => by cases h)) (k l b0 D cA X p e R s mm args below meth c H locs cells slots ls' c1 c2)
theorem G_aload_n {M : MD} {d mc ms pc : Nat} {ls st : List PV} {w : List KD} {m : Nat → Nat → Int} {Q : Ps} {j : Fin 4} {x : Nat} (hd : decode M.2.1 pc = .ok (.aload_n j, 1)) (hl : ls[j.val]? = some (rV x)) (k : G M d mc ms (pc + 1) ls (rV x :: st) (w, m) Q) : G M d mc ms pc ls st (w, m) Q := by
  intro l b0 D cA X p e R s mm args below meth c H locs cells slots ls' c1 c2
  exact lv_aload_n c1.1 c1.2.1 hd rfl (c2.2.2.2.2.2 _ _ hl (fun h => by cases h)) (k l b0 D cA X p e R s mm args below meth c H locs cells slots ls' c1 c2)
theorem G_aload {M : MD} {d mc ms pc : Nat} {ls st : List PV} {w : List KD} {m : Nat → Nat → Int} {Q : Ps} {j : Nat} {x : Nat} (hd : decode M.2.1 pc = .ok (.aload j, 2)) (hl : ls[j]? = some (rV x)) (k : G M d mc ms (pc + 2) ls (rV x :: st) (w, m) Q) : G M d mc ms pc ls st (w, m) Q := by
  intro l b0 D cA X p e R s mm args below meth c H locs cells slots ls' c1 c2
  exact lv_aload c1.1 c1.2.1 hd (c2.2.2.2.2.2 _ _ hl (fun h => by cases h)) (k l b0 D cA X p e R s mm args below meth c H locs cells slots ls' c1 c2)
theorem G_fload_n {M : MD} {d mc ms pc : Nat} {ls st : List PV} {w : List KD} {m : Nat → Nat → Int} {Q : Ps} {j : Fin 4} {x : UInt32} (hd : decode M.2.1 pc = .ok (.fload_n j, 1)) (hl : ls[j.val]? = some (vV (.float x))) (k : G M d mc ms (pc + 1) ls (vV (.float x) :: st) (w, m) Q) : G M d mc ms pc ls st (w, m) Q := by
  intro l b0 D cA X p e R s mm args below meth c H locs cells slots ls' c1 c2
  exact lv_fload_n c1.1 c1.2.1 hd rfl (c2.2.2.2.2.2 _ _ hl (fun h => by cases h)) (k l b0 D cA X p e R s mm args below meth c H locs cells slots ls' c1 c2)
theorem G_dload_n {M : MD} {d mc ms pc : Nat} {ls st : List PV} {w : List KD} {m : Nat → Nat → Int} {Q : Ps} {j : Fin 4} {x : UInt64} (hd : decode M.2.1 pc = .ok (.dload_n j, 1)) (hl : ls[j.val]? = some (vV (.double x))) (k : G M d mc ms (pc + 1) ls (vV (.double x) :: st) (w, m) Q) : G M d mc ms pc ls st (w, m) Q := by
  intro l b0 D cA X p e R s mm args below meth c H locs cells slots ls' c1 c2
  exact lv_dload_n c1.1 c1.2.1 hd rfl (c2.2.2.2.2.2 _ _ hl (fun h => by cases h)) (k l b0 D cA X p e R s mm args below meth c H locs cells slots ls' c1 c2)
theorem G_aloadv_n {M : MD} {d mc ms pc : Nat} {ls st : List PV} {w : List KD} {m : Nat → Nat → Int} {Q : Ps} {j : Fin 4} {x : Nat} (hd : decode M.2.1 pc = .ok (.aload_n j, 1)) (hl : ls[j.val]? = some (vV (.ref x))) (k : G M d mc ms (pc + 1) ls (vV (.ref x) :: st) (w, m) Q) : G M d mc ms pc ls st (w, m) Q := by
  intro l b0 D cA X p e R s mm args below meth c H locs cells slots ls' c1 c2
  exact lv_aload_n c1.1 c1.2.1 hd rfl (c2.2.2.2.2.2 _ _ hl (fun h => by cases h)) (k l b0 D cA X p e R s mm args below meth c H locs cells slots ls' c1 c2)
def okPrev (ls : List PV) (i : Nat) : Bool := match i with
  | 0 => true
  | j + 1 => match ls[j]? with
    | some v => decide (pcat v ≠ 2)
    | none => true
def prsOf (b0 : Nat) (ls : List PV) : List (Nat × Value) := (List.range ls.length).filterMap fun i => match ls[i]? with
  | some v => if v = uV then none else some (i, enc b0 v)
  | none => none
theorem prs_mem {b0 : Nat} {ls : List PV} {i : Nat} {v : PV} (h : ls[i]? = some v) (hv : v ≠ uV) : (i, enc b0 v) ∈ prsOf b0 ls := by
  refine List.mem_filterMap.mpr ⟨i, List.mem_range.mpr (List.getElem?_eq_some_iff.mp h).1, ?_⟩
  simp only [h, if_neg hv]
theorem prs_inv {b0 : Nat} {ls : List PV} {q : Nat × Value} (h : q ∈ prsOf b0 ls) : ∃ v, ls[q.1]? = some v ∧ v ≠ uV ∧ q.2 = enc b0 v := by
  obtain ⟨i, -, hi⟩ := List.mem_filterMap.mp h
  cases hx : ls[i]? with
  | none => rw [hx] at hi; cases hi
  | some v =>
    rw [hx] at hi
    by_cases hv : v = uV
    · simp [hv] at hi
    · simp only [if_neg hv] at hi
      cases hi
      exact ⟨v, hx, hv, rfl⟩
theorem LV.has {ls' : Array Slot} {n b0 : Nat} {ls : List PV} (h : LV ls' n b0 ls) : lv_has ls' n (prsOf b0 ls) := by
  refine ⟨h.1, h.2.1, fun q hq => ?_⟩
  obtain ⟨v, h1, h2, h3⟩ := prs_inv hq
  rw [h3]
  exact h.2.2 _ _ h1 h2
theorem LV.store1 {ls' : Array Slot} {n b0 : Nat} {ls : List PV} {i : Nat} {v : PV} {val : Value} (hval : val = enc b0 v) (hp : okPrev ls i = true) (h : lv_has ls' n ((i, val) :: (prsOf b0 ls).filter (fun q => !(q.1 == i) && !(q.1 + 1 == i && q.2.category == 2)))) : LV ls' n b0 (ls.set i v) := by
  subst hval
  refine ⟨h.1, h.2.1, fun j u hj hu => ?_⟩
  rw [List.getElem?_set] at hj
  by_cases e : i = j
  · subst e
    rw [if_pos rfl] at hj
    by_cases hl : i < ls.length
    · rw [if_pos hl] at hj
      cases hj
      exact h.2.2 _ List.mem_cons_self
    · rw [if_neg hl] at hj
      cases hj
  · rw [if_neg e] at hj
    refine h.2.2 (j, enc b0 u) (List.mem_cons_of_mem _ (List.mem_filter.mpr ⟨prs_mem hj hu, ?_⟩))
    have h1 : (j == i) = false := by simpa using fun h => e h.symm
    simp only [h1, Bool.not_false, Bool.true_and, Bool.not_eq_true']
    by_cases e2 : j + 1 = i
    · subst e2
      simp only [okPrev, hj, decide_eq_true_eq] at hp
      have : ((enc b0 u).category == 2) = false := by rw [enc_cat]; simpa using hp
      simp [this]
    · have : (j + 1 == i) = false := by simpa using e2
      simp [this]
theorem LV.store2 {ls' : Array Slot} {n b0 : Nat} {ls : List PV} {i : Nat} {v : PV} {val : Value} (hval : val = enc b0 v) (hp : okPrev ls i = true) (h : lv_has ls' n ((i, val) :: (prsOf b0 ls).filter (fun q => !(q.1 == i) && (!(q.1 == i + 1) && !(q.1 + 1 == i && q.2.category == 2))))) : LV ls' n b0 ((ls.set i v).set (i + 1) uV) := by
  subst hval
  refine ⟨h.1, h.2.1, fun j u hj hu => ?_⟩
  rw [List.getElem?_set] at hj
  by_cases e1 : i + 1 = j
  · rw [if_pos e1] at hj
    split at hj
    · cases hj
      exact absurd rfl hu
    · cases hj
  rw [if_neg e1, List.getElem?_set] at hj
  by_cases e : i = j
  · subst e
    rw [if_pos rfl] at hj
    by_cases hl : i < ls.length
    · rw [if_pos hl] at hj
      cases hj
      exact h.2.2 _ List.mem_cons_self
    · rw [if_neg hl] at hj
      cases hj
  · rw [if_neg e] at hj
    refine h.2.2 (j, enc b0 u) (List.mem_cons_of_mem _ (List.mem_filter.mpr ⟨prs_mem hj hu, ?_⟩))
    have h1 : (j == i) = false := by simpa using fun h => e h.symm
    have h3 : (j == i + 1) = false := by simpa using fun h => e1 h.symm
    simp only [h1, h3, Bool.not_false, Bool.true_and, Bool.not_eq_true']
    by_cases e2 : j + 1 = i
    · subst e2
      simp only [okPrev, hj, decide_eq_true_eq] at hp
      have : ((enc b0 u).category == 2) = false := by rw [enc_cat]; simpa using hp
      simp [this]
    · have : (j + 1 == i) = false := by simpa using e2
      simp [this]
theorem G_istore_n {M : MD} {d mc ms pc : Nat} {ls st : List PV} {w : List KD} {m : Nat → Nat → Int} {Q : Ps} {j : Fin 4} {x : Int} (hd : decode M.2.1 pc = .ok (.istore_n j, 1)) (hn : j.val < M.2.2.1) (hp : okPrev ls j.val = true) (k : G M d mc ms (pc + 1) (ls.set j.val (iV x)) st (w, m) Q) : G M d mc ms pc ls (iV x :: st) (w, m) Q := by
  intro l b0 D cA X p e R s mm args below meth c H locs cells slots ls' c1 c2
  refine lv_istore_n c1.1 c1.2.1 hd rfl c2.2.2.2.has hn rfl (fun ls1 h1 => ?_)
  exact k l b0 D cA X p e R s mm args below meth c H locs cells slots ls1 c1 ⟨c2.1, c2.2.1, c2.2.2.1, LV.store1 rfl hp h1⟩
theorem G_istore {M : MD} {d mc ms pc : Nat} {ls st : List PV} {w : List KD} {m : Nat → Nat → Int} {Q : Ps} {j : Nat} {x : Int} (hd : decode M.2.1 pc = .ok (.istore j, 2)) (hn : j < M.2.2.1) (hp : okPrev ls j = true) (k : G M d mc ms (pc + 2) (ls.set j (iV x)) st (w, m) Q) : G M d mc ms pc ls (iV x :: st) (w, m) Q := by
  intro l b0 D cA X p e R s mm args below meth c H locs cells slots ls' c1 c2
  refine lv_istore c1.1 c1.2.1 hd c2.2.2.2.has hn rfl (fun ls1 h1 => ?_)
  exact k l b0 D cA X p e R s mm args below meth c H locs cells slots ls1 c1 ⟨c2.1, c2.2.1, c2.2.2.1, LV.store1 rfl hp h1⟩
theorem G_astore_n {M : MD} {d mc ms pc : Nat} {ls st : List PV} {w : List KD} {m : Nat → Nat → Int} {Q : Ps} {j : Fin 4} {x : Nat} (hd : decode M.2.1 pc = .ok (.astore_n j, 1)) (hn : j.val < M.2.2.1) (hp : okPrev ls j.val = true) (k : G M d mc ms (pc + 1) (ls.set j.val (rV x)) st (w, m) Q) : G M d mc ms pc ls (rV x :: st) (w, m) Q := by
  intro l b0 D cA X p e R s mm args below meth c H locs cells slots ls' c1 c2
  refine lv_astore_n c1.1 c1.2.1 hd rfl c2.2.2.2.has hn rfl (fun ls1 h1 => ?_)
  exact k l b0 D cA X p e R s mm args below meth c H locs cells slots ls1 c1 ⟨c2.1, c2.2.1, c2.2.2.1, LV.store1 rfl hp h1⟩
theorem G_astore {M : MD} {d mc ms pc : Nat} {ls st : List PV} {w : List KD} {m : Nat → Nat → Int} {Q : Ps} {j : Nat} {x : Nat} (hd : decode M.2.1 pc = .ok (.astore j, 2)) (hn : j < M.2.2.1) (hp : okPrev ls j = true) (k : G M d mc ms (pc + 2) (ls.set j (rV x)) st (w, m) Q) : G M d mc ms pc ls (rV x :: st) (w, m) Q := by
  intro l b0 D cA X p e R s mm args below meth c H locs cells slots ls' c1 c2
  refine lv_astore c1.1 c1.2.1 hd c2.2.2.2.has hn rfl (fun ls1 h1 => ?_)
  exact k l b0 D cA X p e R s mm args below meth c H locs cells slots ls1 c1 ⟨c2.1, c2.2.1, c2.2.2.1, LV.store1 rfl hp h1⟩
theorem G_lstore_n {M : MD} {d mc ms pc : Nat} {ls st : List PV} {w : List KD} {m : Nat → Nat → Int} {Q : Ps} {j : Fin 4} {x : Int} (hd : decode M.2.1 pc = .ok (.lstore_n j, 1)) (hn : j.val + 1 < M.2.2.1) (hp : okPrev ls j.val = true) (k : G M d mc ms (pc + 1) ((ls.set j.val (lV x)).set (j.val + 1) uV) st (w, m) Q) : G M d mc ms pc ls (lV x :: st) (w, m) Q := by
  intro l b0 D cA X p e R s mm args below meth c H locs cells slots ls' c1 c2
  refine lv_lstore_n c1.1 c1.2.1 hd rfl c2.2.2.2.has hn rfl (fun ls1 h1 => ?_)
  exact k l b0 D cA X p e R s mm args below meth c H locs cells slots ls1 c1 ⟨c2.1, c2.2.1, c2.2.2.1, LV.store2 rfl hp h1⟩
theorem G_lstore {M : MD} {d mc ms pc : Nat} {ls st : List PV} {w : List KD} {m : Nat → Nat → Int} {Q : Ps} {j : Nat} {x : Int} (hd : decode M.2.1 pc = .ok (.lstore j, 2)) (hn : j + 1 < M.2.2.1) (hp : okPrev ls j = true) (k : G M d mc ms (pc + 2) ((ls.set j (lV x)).set (j + 1) uV) st (w, m) Q) : G M d mc ms pc ls (lV x :: st) (w, m) Q := by
  intro l b0 D cA X p e R s mm args below meth c H locs cells slots ls' c1 c2
  refine lv_lstore c1.1 c1.2.1 hd c2.2.2.2.has hn rfl (fun ls1 h1 => ?_)
  exact k l b0 D cA X p e R s mm args below meth c H locs cells slots ls1 c1 ⟨c2.1, c2.2.1, c2.2.2.1, LV.store2 rfl hp h1⟩
theorem G_fstore_n {M : MD} {d mc ms pc : Nat} {ls st : List PV} {w : List KD} {m : Nat → Nat → Int} {Q : Ps} {j : Fin 4} {x : UInt32} (hd : decode M.2.1 pc = .ok (.fstore_n j, 1)) (hn : j.val < M.2.2.1) (hp : okPrev ls j.val = true) (k : G M d mc ms (pc + 1) (ls.set j.val (vV (.float x))) st (w, m) Q) : G M d mc ms pc ls (vV (.float x) :: st) (w, m) Q := by
  intro l b0 D cA X p e R s mm args below meth c H locs cells slots ls' c1 c2
  refine lv_fstore_n c1.1 c1.2.1 hd rfl c2.2.2.2.has hn rfl (fun ls1 h1 => ?_)
  exact k l b0 D cA X p e R s mm args below meth c H locs cells slots ls1 c1 ⟨c2.1, c2.2.1, c2.2.2.1, LV.store1 (v := vV (.float x)) rfl hp h1⟩
theorem G_dstore_n {M : MD} {d mc ms pc : Nat} {ls st : List PV} {w : List KD} {m : Nat → Nat → Int} {Q : Ps} {j : Fin 4} {x : UInt64} (hd : decode M.2.1 pc = .ok (.dstore_n j, 1)) (hn : j.val + 1 < M.2.2.1) (hp : okPrev ls j.val = true) (k : G M d mc ms (pc + 1) ((ls.set j.val (vV (.double x))).set (j.val + 1) uV) st (w, m) Q) : G M d mc ms pc ls (vV (.double x) :: st) (w, m) Q := by
  intro l b0 D cA X p e R s mm args below meth c H locs cells slots ls' c1 c2
  refine lv_dstore_n c1.1 c1.2.1 hd rfl c2.2.2.2.has hn rfl (fun ls1 h1 => ?_)
  exact k l b0 D cA X p e R s mm args below meth c H locs cells slots ls1 c1 ⟨c2.1, c2.2.1, c2.2.2.1, LV.store2 (v := vV (.double x)) rfl hp h1⟩
theorem G_iinc {M : MD} {d mc ms pc : Nat} {ls st : List PV} {w : List KD} {m : Nat → Nat → Int} {Q : Ps} {j : Nat} {n x : Int} (hd : decode M.2.1 pc = .ok (.iinc j n, 3)) (hl : ls[j]? = some (iV x)) (hn : j < M.2.2.1) (hp : okPrev ls j = true) (k : G M d mc ms (pc + 3) (ls.set j (iV (x + n))) st (w, m) Q) : G M d mc ms pc ls st (w, m) Q := by
  intro l b0 D cA X p e R s mm args below meth c H locs cells slots ls' c1 c2
  obtain ⟨q, hq⟩ := List.getElem?_of_mem (prs_mem (b0 := b0) hl (fun h => by cases h))
  refine lv_iinc c1.1 c1.2.1 hd c2.2.2.2.has (k := q) hq rfl hn rfl (fun ls1 h1 => ?_)
  exact k l b0 D cA X p e R s mm args below meth c H locs cells slots ls1 c1 ⟨c2.1, c2.2.1, c2.2.2.1, LV.store1 (v := iV (x + n)) (by show _ = Value.int (Int32.ofInt (x + n)); rw [Int32.ofInt_add]) hp h1⟩
theorem G_iadd {M : MD} {d mc ms pc : Nat} {ls st : List PV} {w : List KD} {m : Nat → Nat → Int} {Q : Ps} {x y : Int} (hd : decode M.2.1 pc = .ok (.iadd, 1))  (k : G M d mc ms (pc + 1) ls (iV (x + y) :: st) (w, m) Q) : G M d mc ms pc ls (iV y :: iV x :: st) (w, m) Q := by
  intro l b0 D cA X p e R s mm args below meth c H locs cells slots ls' c1 c2
  have k1 := k l b0 D cA X p e R s mm args below meth c H locs cells slots ls' c1 c2
  refine lv_iadd c1.1 c1.2.1 hd ?_
  rw [← Int32.ofInt_add]
  exact k1
theorem G_isub {M : MD} {d mc ms pc : Nat} {ls st : List PV} {w : List KD} {m : Nat → Nat → Int} {Q : Ps} {x y : Int} (hd : decode M.2.1 pc = .ok (.isub, 1))  (k : G M d mc ms (pc + 1) ls (iV (x - y) :: st) (w, m) Q) : G M d mc ms pc ls (iV y :: iV x :: st) (w, m) Q := by
  intro l b0 D cA X p e R s mm args below meth c H locs cells slots ls' c1 c2
  have k1 := k l b0 D cA X p e R s mm args below meth c H locs cells slots ls' c1 c2
  refine lv_isub c1.1 c1.2.1 hd ?_
  rw [← Int32.ofInt_sub]
  exact k1
theorem G_imul {M : MD} {d mc ms pc : Nat} {ls st : List PV} {w : List KD} {m : Nat → Nat → Int} {Q : Ps} {x y : Int} (hd : decode M.2.1 pc = .ok (.imul, 1))  (k : G M d mc ms (pc + 1) ls (iV (x * y) :: st) (w, m) Q) : G M d mc ms pc ls (iV y :: iV x :: st) (w, m) Q := by
  intro l b0 D cA X p e R s mm args below meth c H locs cells slots ls' c1 c2
  have k1 := k l b0 D cA X p e R s mm args below meth c H locs cells slots ls' c1 c2
  refine lv_imul c1.1 c1.2.1 hd ?_
  rw [← Int32.ofInt_mul]
  exact k1
theorem G_ineg {M : MD} {d mc ms pc : Nat} {ls st : List PV} {w : List KD} {m : Nat → Nat → Int} {Q : Ps} {x : Int} (hd : decode M.2.1 pc = .ok (.ineg, 1))  (k : G M d mc ms (pc + 1) ls (iV (-x) :: st) (w, m) Q) : G M d mc ms pc ls (iV x :: st) (w, m) Q := by
  intro l b0 D cA X p e R s mm args below meth c H locs cells slots ls' c1 c2
  have k1 := k l b0 D cA X p e R s mm args below meth c H locs cells slots ls' c1 c2
  refine lv_ineg c1.1 c1.2.1 hd ?_
  rw [← Int32.ofInt_neg]
  exact k1
theorem G_ladd {M : MD} {d mc ms pc : Nat} {ls st : List PV} {w : List KD} {m : Nat → Nat → Int} {Q : Ps} {x y : Int} (hd : decode M.2.1 pc = .ok (.ladd, 1))  (k : G M d mc ms (pc + 1) ls (lV (x + y) :: st) (w, m) Q) : G M d mc ms pc ls (lV y :: lV x :: st) (w, m) Q := by
  intro l b0 D cA X p e R s mm args below meth c H locs cells slots ls' c1 c2
  have k1 := k l b0 D cA X p e R s mm args below meth c H locs cells slots ls' c1 c2
  refine lv_ladd c1.1 c1.2.1 hd ?_
  rw [← Int64.ofInt_add]
  exact k1
theorem G_lsub {M : MD} {d mc ms pc : Nat} {ls st : List PV} {w : List KD} {m : Nat → Nat → Int} {Q : Ps} {x y : Int} (hd : decode M.2.1 pc = .ok (.lsub, 1))  (k : G M d mc ms (pc + 1) ls (lV (x - y) :: st) (w, m) Q) : G M d mc ms pc ls (lV y :: lV x :: st) (w, m) Q := by
  intro l b0 D cA X p e R s mm args below meth c H locs cells slots ls' c1 c2
  have k1 := k l b0 D cA X p e R s mm args below meth c H locs cells slots ls' c1 c2
  refine lv_lsub c1.1 c1.2.1 hd ?_
  rw [← Int64.ofInt_sub]
  exact k1
theorem G_lmul {M : MD} {d mc ms pc : Nat} {ls st : List PV} {w : List KD} {m : Nat → Nat → Int} {Q : Ps} {x y : Int} (hd : decode M.2.1 pc = .ok (.lmul, 1))  (k : G M d mc ms (pc + 1) ls (lV (x * y) :: st) (w, m) Q) : G M d mc ms pc ls (lV y :: lV x :: st) (w, m) Q := by
  intro l b0 D cA X p e R s mm args below meth c H locs cells slots ls' c1 c2
  have k1 := k l b0 D cA X p e R s mm args below meth c H locs cells slots ls' c1 c2
  refine lv_lmul c1.1 c1.2.1 hd ?_
  rw [← Int64.ofInt_mul]
  exact k1
theorem G_iand {M : MD} {d mc ms pc : Nat} {ls st : List PV} {w : List KD} {m : Nat → Nat → Int} {Q : Ps} {x y : Int} (z : Int) (hd : decode M.2.1 pc = .ok (.iand, 1)) (hz : Int32.ofInt x &&& Int32.ofInt y = Int32.ofInt z) (k : G M d mc ms (pc + 1) ls (iV z :: st) (w, m) Q) : G M d mc ms pc ls (iV y :: iV x :: st) (w, m) Q := by
  intro l b0 D cA X p e R s mm args below meth c H locs cells slots ls' c1 c2
  have k1 := k l b0 D cA X p e R s mm args below meth c H locs cells slots ls' c1 c2
  refine lv_iand c1.1 c1.2.1 hd ?_
  rw [hz]
  exact k1
theorem G_ior {M : MD} {d mc ms pc : Nat} {ls st : List PV} {w : List KD} {m : Nat → Nat → Int} {Q : Ps} {x y : Int} (z : Int) (hd : decode M.2.1 pc = .ok (.ior, 1)) (hz : Int32.ofInt x ||| Int32.ofInt y = Int32.ofInt z) (k : G M d mc ms (pc + 1) ls (iV z :: st) (w, m) Q) : G M d mc ms pc ls (iV y :: iV x :: st) (w, m) Q := by
  intro l b0 D cA X p e R s mm args below meth c H locs cells slots ls' c1 c2
  have k1 := k l b0 D cA X p e R s mm args below meth c H locs cells slots ls' c1 c2
  refine lv_ior c1.1 c1.2.1 hd ?_
  rw [hz]
  exact k1
theorem G_ixor {M : MD} {d mc ms pc : Nat} {ls st : List PV} {w : List KD} {m : Nat → Nat → Int} {Q : Ps} {x y : Int} (z : Int) (hd : decode M.2.1 pc = .ok (.ixor, 1)) (hz : Int32.ofInt x ^^^ Int32.ofInt y = Int32.ofInt z) (k : G M d mc ms (pc + 1) ls (iV z :: st) (w, m) Q) : G M d mc ms pc ls (iV y :: iV x :: st) (w, m) Q := by
  intro l b0 D cA X p e R s mm args below meth c H locs cells slots ls' c1 c2
  have k1 := k l b0 D cA X p e R s mm args below meth c H locs cells slots ls' c1 c2
  refine lv_ixor c1.1 c1.2.1 hd ?_
  rw [hz]
  exact k1
theorem G_ishl {M : MD} {d mc ms pc : Nat} {ls st : List PV} {w : List KD} {m : Nat → Nat → Int} {Q : Ps} {x y : Int} (z : Int) (hd : decode M.2.1 pc = .ok (.ishl, 1)) (hz : Int32.ofInt x <<< (Int32.ofInt y &&& 31) = Int32.ofInt z) (k : G M d mc ms (pc + 1) ls (iV z :: st) (w, m) Q) : G M d mc ms pc ls (iV y :: iV x :: st) (w, m) Q := by
  intro l b0 D cA X p e R s mm args below meth c H locs cells slots ls' c1 c2
  have k1 := k l b0 D cA X p e R s mm args below meth c H locs cells slots ls' c1 c2
  refine lv_ishl c1.1 c1.2.1 hd ?_
  rw [hz]
  exact k1
theorem G_ishr {M : MD} {d mc ms pc : Nat} {ls st : List PV} {w : List KD} {m : Nat → Nat → Int} {Q : Ps} {x y : Int} (z : Int) (hd : decode M.2.1 pc = .ok (.ishr, 1)) (hz : Int32.ofInt x >>> (Int32.ofInt y &&& 31) = Int32.ofInt z) (k : G M d mc ms (pc + 1) ls (iV z :: st) (w, m) Q) : G M d mc ms pc ls (iV y :: iV x :: st) (w, m) Q := by
  intro l b0 D cA X p e R s mm args below meth c H locs cells slots ls' c1 c2
  have k1 := k l b0 D cA X p e R s mm args below meth c H locs cells slots ls' c1 c2
  refine lv_ishr c1.1 c1.2.1 hd ?_
  rw [hz]
  exact k1
theorem G_lor {M : MD} {d mc ms pc : Nat} {ls st : List PV} {w : List KD} {m : Nat → Nat → Int} {Q : Ps} {x y : Int} (z : Int) (hd : decode M.2.1 pc = .ok (.lor, 1)) (hz : Int64.ofInt x ||| Int64.ofInt y = Int64.ofInt z) (k : G M d mc ms (pc + 1) ls (lV z :: st) (w, m) Q) : G M d mc ms pc ls (lV y :: lV x :: st) (w, m) Q := by
  intro l b0 D cA X p e R s mm args below meth c H locs cells slots ls' c1 c2
  have k1 := k l b0 D cA X p e R s mm args below meth c H locs cells slots ls' c1 c2
  refine lv_lor c1.1 c1.2.1 hd ?_
  rw [hz]
  exact k1
theorem G_lshl {M : MD} {d mc ms pc : Nat} {ls st : List PV} {w : List KD} {m : Nat → Nat → Int} {Q : Ps} {x y : Int} (z : Int) (hd : decode M.2.1 pc = .ok (.lshl, 1)) (hz : Int64.ofInt x <<< ((Int32.ofInt y).toInt64 &&& 63) = Int64.ofInt z) (k : G M d mc ms (pc + 1) ls (lV z :: st) (w, m) Q) : G M d mc ms pc ls (iV y :: lV x :: st) (w, m) Q := by
  intro l b0 D cA X p e R s mm args below meth c H locs cells slots ls' c1 c2
  have k1 := k l b0 D cA X p e R s mm args below meth c H locs cells slots ls' c1 c2
  refine lv_lshl c1.1 c1.2.1 hd hz ?_
  exact k1
theorem oi_div {x y : Int} (hx : -2147483648 < x ∧ x < 2147483648) (hy : -2147483648 ≤ y ∧ y < 2147483648) : Int32.ofInt x / Int32.ofInt y = Int32.ofInt (x.tdiv y) := by
  rw [← Int32.toInt_inj, Int32.toInt_div_of_ne_left, oi_toInt ⟨by omega, hx.2⟩, oi_toInt hy]
  · symm
    apply oi_toInt
    have h1 : (x.tdiv y).natAbs ≤ x.natAbs := by
      rw [Int.natAbs_tdiv]
      exact Nat.div_le_self _ _
    omega
  · intro h
    have := congrArg Int32.toInt h
    rw [oi_toInt ⟨by omega, hx.2⟩] at this
    have h2 : Int32.minValue.toInt = -2147483648 := by decide
    omega
theorem oi_rem {x y : Int} (hx : -2147483648 < x ∧ x < 2147483648) (hy : -2147483648 ≤ y ∧ y < 2147483648) : Int32.ofInt x - Int32.ofInt x / Int32.ofInt y * Int32.ofInt y = Int32.ofInt (x.tmod y) := by
  rw [oi_div hx hy, ← Int32.ofInt_mul, ← Int32.ofInt_sub]
  congr 1
  have := Int.mul_tdiv_add_tmod x y
  rw [Int.mul_comm (x.tdiv y) y]
  omega
theorem G_idiv {M : MD} {d mc ms pc : Nat} {ls st : List PV} {w : List KD} {m : Nat → Nat → Int} {Q : Ps} {x y : Int} (hd : decode M.2.1 pc = .ok (.idiv, 1)) (hx : -2147483648 < x ∧ x < 2147483648) (hy : -2147483648 ≤ y ∧ y < 2147483648) (h0 : y ≠ 0) (k : G M d mc ms (pc + 1) ls (iV (x.tdiv y) :: st) (w, m) Q) : G M d mc ms pc ls (iV y :: iV x :: st) (w, m) Q := by
  intro l b0 D cA X p e R s mm args below meth c H locs cells slots ls' c1 c2
  have k1 := k l b0 D cA X p e R s mm args below meth c H locs cells slots ls' c1 c2
  refine lv_idiv c1.1 c1.2.1 hd ?_ ?_
  · rw [← oi_0, oi_inj hy (by decide)]
    exact h0
  · rw [oi_div hx hy]
    exact k1
theorem G_irem {M : MD} {d mc ms pc : Nat} {ls st : List PV} {w : List KD} {m : Nat → Nat → Int} {Q : Ps} {x y : Int} (hd : decode M.2.1 pc = .ok (.irem, 1)) (hx : -2147483648 < x ∧ x < 2147483648) (hy : -2147483648 ≤ y ∧ y < 2147483648) (h0 : y ≠ 0) (k : G M d mc ms (pc + 1) ls (iV (x.tmod y) :: st) (w, m) Q) : G M d mc ms pc ls (iV y :: iV x :: st) (w, m) Q := by
  intro l b0 D cA X p e R s mm args below meth c H locs cells slots ls' c1 c2
  have k1 := k l b0 D cA X p e R s mm args below meth c H locs cells slots ls' c1 c2
  refine lv_irem c1.1 c1.2.1 hd ?_ ?_
  · rw [← oi_0, oi_inj hy (by decide)]
    exact h0
  · rw [oi_rem hx hy]
    exact k1
theorem G_ldiv {M : MD} {d mc ms pc : Nat} {ls st : List PV} {w : List KD} {m : Nat → Nat → Int} {Q : Ps} {x y : Int} (z : Int) (hd : decode M.2.1 pc = .ok (.ldiv, 1)) (h0 : ¬ Int64.ofInt y = 0) (hz : Int64.ofInt x / Int64.ofInt y = Int64.ofInt z) (k : G M d mc ms (pc + 1) ls (lV z :: st) (w, m) Q) : G M d mc ms pc ls (lV y :: lV x :: st) (w, m) Q := by
  intro l b0 D cA X p e R s mm args below meth c H locs cells slots ls' c1 c2
  have k1 := k l b0 D cA X p e R s mm args below meth c H locs cells slots ls' c1 c2
  refine lv_ldiv c1.1 c1.2.1 hd h0 ?_
  rw [hz]
  exact k1
theorem G_i2l {M : MD} {d mc ms pc : Nat} {ls st : List PV} {w : List KD} {m : Nat → Nat → Int} {Q : Ps} {x : Int} (hd : decode M.2.1 pc = .ok (.i2l, 1)) (hx : -2147483648 ≤ x ∧ x < 2147483648) (k : G M d mc ms (pc + 1) ls (lV x :: st) (w, m) Q) : G M d mc ms pc ls (iV x :: st) (w, m) Q := by
  intro l b0 D cA X p e R s mm args below meth c H locs cells slots ls' c1 c2
  have k1 := k l b0 D cA X p e R s mm args below meth c H locs cells slots ls' c1 c2
  refine lv_i2l c1.1 c1.2.1 hd (v := Int64.ofInt x) ?_ ?_
  · exact Int32.toInt64_ofInt (by show -2147483648 ≤ x; omega) (by show x ≤ 2147483647; omega)
  · exact k1
theorem G_i2b {M : MD} {d mc ms pc : Nat} {ls st : List PV} {w : List KD} {m : Nat → Nat → Int} {Q : Ps} {x : Int} (hd : decode M.2.1 pc = .ok (.i2b, 1))  (k : G M d mc ms (pc + 1) ls (iV (x.bmod 256) :: st) (w, m) Q) : G M d mc ms pc ls (iV x :: st) (w, m) Q := by
  intro l b0 D cA X p e R s mm args below meth c H locs cells slots ls' c1 c2
  have k1 := k l b0 D cA X p e R s mm args below meth c H locs cells slots ls' c1 c2
  refine lv_i2b c1.1 c1.2.1 hd (v := Int32.ofInt (x.bmod 256)) ?_ ?_
  · rw [← Int32.toInt_inj, Int8.toInt_toInt32, Int32.toInt_toInt8, Int32.toInt_ofInt, oi_toInt]
    · rw [show (Int32.size) = 4294967296 from rfl, Int.bmod_bmod_of_dvd (by decide)]
    · have h1 := Int.le_bmod (x := x) (m := 256) (by decide)
      have h2 := Int.bmod_lt (x := x) (m := 256) (by decide)
      omega
  · exact k1
theorem G_i2s {M : MD} {d mc ms pc : Nat} {ls st : List PV} {w : List KD} {m : Nat → Nat → Int} {Q : Ps} {x : Int} (hd : decode M.2.1 pc = .ok (.i2s, 1)) (hx : -32768 ≤ x ∧ x < 32768) (k : G M d mc ms (pc + 1) ls (iV x :: st) (w, m) Q) : G M d mc ms pc ls (iV x :: st) (w, m) Q := by
  intro l b0 D cA X p e R s mm args below meth c H locs cells slots ls' c1 c2
  have k1 := k l b0 D cA X p e R s mm args below meth c H locs cells slots ls' c1 c2
  refine lv_i2s c1.1 c1.2.1 hd (v := Int32.ofInt x) ?_ ?_
  · rw [← Int32.toInt_inj, Int16.toInt_toInt32, Int32.toInt_toInt16, oi_toInt (by omega)]
    exact Int.bmod_eq_of_le (by omega) (by omega)
  · exact k1
theorem G_dup {M : MD} {d mc ms pc : Nat} {ls st : List PV} {w : List KD} {m : Nat → Nat → Int} {Q : Ps} {v : PV} (hd : decode M.2.1 pc = .ok (.dup, 1)) (hc : pcat v = 1) (k : G M d mc ms (pc + 1) ls (v :: v :: st) (w, m) Q) : G M d mc ms pc ls (v :: st) (w, m) Q := by
  intro l b0 D cA X p e R s mm args below meth c H locs cells slots ls' c1 c2
  have k1 := k l b0 D cA X p e R s mm args below meth c H locs cells slots ls' c1 c2
  refine lv_dup c1.1 c1.2.1 hd (by rw [enc_cat]; exact hc) ?_
  exact k1
theorem G_dup2 {M : MD} {d mc ms pc : Nat} {ls st : List PV} {w : List KD} {m : Nat → Nat → Int} {Q : Ps} {v u : PV} (hd : decode M.2.1 pc = .ok (.dup2, 1)) (hc : pcat v = 1) (hc2 : pcat u = 1) (k : G M d mc ms (pc + 1) ls (v :: u :: v :: u :: st) (w, m) Q) : G M d mc ms pc ls (v :: u :: st) (w, m) Q := by
  intro l b0 D cA X p e R s mm args below meth c H locs cells slots ls' c1 c2
  have k1 := k l b0 D cA X p e R s mm args below meth c H locs cells slots ls' c1 c2
  refine lv_dup2_11 c1.1 c1.2.1 hd (by rw [enc_cat]; exact hc) (by rw [enc_cat]; exact hc2) ?_
  exact k1
theorem G_pop {M : MD} {d mc ms pc : Nat} {ls st : List PV} {w : List KD} {m : Nat → Nat → Int} {Q : Ps} {v : PV} (hd : decode M.2.1 pc = .ok (.pop, 1)) (hc : pcat v = 1) (k : G M d mc ms (pc + 1) ls (st) (w, m) Q) : G M d mc ms pc ls (v :: st) (w, m) Q := by
  intro l b0 D cA X p e R s mm args below meth c H locs cells slots ls' c1 c2
  have k1 := k l b0 D cA X p e R s mm args below meth c H locs cells slots ls' c1 c2
  refine lv_pop c1.1 c1.2.1 hd (by rw [enc_cat]; exact hc) ?_
  exact k1
theorem G_fconst0 {M : MD} {d mc ms pc : Nat} {ls st : List PV} {w : List KD} {m : Nat → Nat → Int} {Q : Ps}  (hd : decode M.2.1 pc = .ok (.fconst 0, 1))  (k : G M d mc ms (pc + 1) ls (vV (.float FP.fconst0) :: st) (w, m) Q) : G M d mc ms pc ls (st) (w, m) Q := by
  intro l b0 D cA X p e R s mm args below meth c H locs cells slots ls' c1 c2
  have k1 := k l b0 D cA X p e R s mm args below meth c H locs cells slots ls' c1 c2
  refine lv_fconst0 c1.1 c1.2.1 hd ?_
  exact k1
theorem G_fconst1 {M : MD} {d mc ms pc : Nat} {ls st : List PV} {w : List KD} {m : Nat → Nat → Int} {Q : Ps}  (hd : decode M.2.1 pc = .ok (.fconst 1, 1))  (k : G M d mc ms (pc + 1) ls (vV (.float FP.fconst1) :: st) (w, m) Q) : G M d mc ms pc ls (st) (w, m) Q := by
  intro l b0 D cA X p e R s mm args below meth c H locs cells slots ls' c1 c2
  have k1 := k l b0 D cA X p e R s mm args below meth c H locs cells slots ls' c1 c2
  refine lv_fconst1 c1.1 c1.2.1 hd ?_
  exact k1
theorem G_fconst2 {M : MD} {d mc ms pc : Nat} {ls st : List PV} {w : List KD} {m : Nat → Nat → Int} {Q : Ps}  (hd : decode M.2.1 pc = .ok (.fconst 2, 1))  (k : G M d mc ms (pc + 1) ls (vV (.float FP.fconst2) :: st) (w, m) Q) : G M d mc ms pc ls (st) (w, m) Q := by
  intro l b0 D cA X p e R s mm args below meth c H locs cells slots ls' c1 c2
  have k1 := k l b0 D cA X p e R s mm args below meth c H locs cells slots ls' c1 c2
  refine lv_fconst2 c1.1 c1.2.1 hd ?_
  exact k1
theorem G_dconst0 {M : MD} {d mc ms pc : Nat} {ls st : List PV} {w : List KD} {m : Nat → Nat → Int} {Q : Ps}  (hd : decode M.2.1 pc = .ok (.dconst 0, 1))  (k : G M d mc ms (pc + 1) ls (vV (.double FP.dconst0) :: st) (w, m) Q) : G M d mc ms pc ls (st) (w, m) Q := by
  intro l b0 D cA X p e R s mm args below meth c H locs cells slots ls' c1 c2
  have k1 := k l b0 D cA X p e R s mm args below meth c H locs cells slots ls' c1 c2
  refine lv_dconst0 c1.1 c1.2.1 hd ?_
  exact k1
theorem G_dconst1 {M : MD} {d mc ms pc : Nat} {ls st : List PV} {w : List KD} {m : Nat → Nat → Int} {Q : Ps}  (hd : decode M.2.1 pc = .ok (.dconst 1, 1))  (k : G M d mc ms (pc + 1) ls (vV (.double FP.dconst1) :: st) (w, m) Q) : G M d mc ms pc ls (st) (w, m) Q := by
  intro l b0 D cA X p e R s mm args below meth c H locs cells slots ls' c1 c2
  have k1 := k l b0 D cA X p e R s mm args below meth c H locs cells slots ls' c1 c2
  refine lv_dconst1 c1.1 c1.2.1 hd ?_
  exact k1
theorem G_fmul {M : MD} {d mc ms pc : Nat} {ls st : List PV} {w : List KD} {m : Nat → Nat → Int} {Q : Ps} {x y : UInt32} (hd : decode M.2.1 pc = .ok (.fmul, 1)) (hne : vf_n32 (FP.fmul x y)) (k : G M d mc ms (pc + 1) ls (vV (.float (FP.fmul x y)) :: st) (w, m) Q) : G M d mc ms pc ls (vV (.float y) :: vV (.float x) :: st) (w, m) Q := by
  intro l b0 D cA X p e R s mm args below meth c H locs cells slots ls' c1 c2
  have k1 := k l b0 D cA X p e R s mm args below meth c H locs cells slots ls' c1 c2
  refine lv_fmul c1.1 c1.2.1 hd hne ?_
  exact k1
theorem G_fsub {M : MD} {d mc ms pc : Nat} {ls st : List PV} {w : List KD} {m : Nat → Nat → Int} {Q : Ps} {x y : UInt32} (hd : decode M.2.1 pc = .ok (.fsub, 1)) (hne : vf_n32 (FP.fsub x y)) (k : G M d mc ms (pc + 1) ls (vV (.float (FP.fsub x y)) :: st) (w, m) Q) : G M d mc ms pc ls (vV (.float y) :: vV (.float x) :: st) (w, m) Q := by
  intro l b0 D cA X p e R s mm args below meth c H locs cells slots ls' c1 c2
  have k1 := k l b0 D cA X p e R s mm args below meth c H locs cells slots ls' c1 c2
  refine lv_fsub c1.1 c1.2.1 hd hne ?_
  exact k1
theorem G_fdiv {M : MD} {d mc ms pc : Nat} {ls st : List PV} {w : List KD} {m : Nat → Nat → Int} {Q : Ps} {x y : UInt32} (hd : decode M.2.1 pc = .ok (.fdiv, 1)) (hne : vf_n32 (FP.fdiv x y)) (k : G M d mc ms (pc + 1) ls (vV (.float (FP.fdiv x y)) :: st) (w, m) Q) : G M d mc ms pc ls (vV (.float y) :: vV (.float x) :: st) (w, m) Q := by
  intro l b0 D cA X p e R s mm args below meth c H locs cells slots ls' c1 c2
  have k1 := k l b0 D cA X p e R s mm args below meth c H locs cells slots ls' c1 c2
  refine lv_fdiv c1.1 c1.2.1 hd hne ?_
  exact k1
theorem G_dmul {M : MD} {d mc ms pc : Nat} {ls st : List PV} {w : List KD} {m : Nat → Nat → Int} {Q : Ps} {x y : UInt64} (hd : decode M.2.1 pc = .ok (.dmul, 1)) (hne : vf_n64 (FP.dmul x y)) (k : G M d mc ms (pc + 1) ls (vV (.double (FP.dmul x y)) :: st) (w, m) Q) : G M d mc ms pc ls (vV (.double y) :: vV (.double x) :: st) (w, m) Q := by
  intro l b0 D cA X p e R s mm args below meth c H locs cells slots ls' c1 c2
  have k1 := k l b0 D cA X p e R s mm args below meth c H locs cells slots ls' c1 c2
  refine lv_dmul c1.1 c1.2.1 hd hne ?_
  exact k1
theorem G_dsub {M : MD} {d mc ms pc : Nat} {ls st : List PV} {w : List KD} {m : Nat → Nat → Int} {Q : Ps} {x y : UInt64} (hd : decode M.2.1 pc = .ok (.dsub, 1)) (hne : vf_n64 (FP.dsub x y)) (k : G M d mc ms (pc + 1) ls (vV (.double (FP.dsub x y)) :: st) (w, m) Q) : G M d mc ms pc ls (vV (.double y) :: vV (.double x) :: st) (w, m) Q := by
  intro l b0 D cA X p e R s mm args below meth c H locs cells slots ls' c1 c2
  have k1 := k l b0 D cA X p e R s mm args below meth c H locs cells slots ls' c1 c2
  refine lv_dsub c1.1 c1.2.1 hd hne ?_
  exact k1
theorem G_ddiv {M : MD} {d mc ms pc : Nat} {ls st : List PV} {w : List KD} {m : Nat → Nat → Int} {Q : Ps} {x y : UInt64} (hd : decode M.2.1 pc = .ok (.ddiv, 1)) (hne : vf_n64 (FP.ddiv x y)) (k : G M d mc ms (pc + 1) ls (vV (.double (FP.ddiv x y)) :: st) (w, m) Q) : G M d mc ms pc ls (vV (.double y) :: vV (.double x) :: st) (w, m) Q := by
  intro l b0 D cA X p e R s mm args below meth c H locs cells slots ls' c1 c2
  have k1 := k l b0 D cA X p e R s mm args below meth c H locs cells slots ls' c1 c2
  refine lv_ddiv c1.1 c1.2.1 hd hne ?_
  exact k1
theorem G_fcmp {M : MD} {d mc ms pc : Nat} {ls st : List PV} {w : List KD} {m : Nat → Nat → Int} {Q : Ps} {x y : UInt32} {op : CmpOp} (hd : decode M.2.1 pc = .ok (.fcmp op, 1))  (k : G M d mc ms (pc + 1) ls (iV (Op.cmpValue (FP.fcmp x y) op).toInt :: st) (w, m) Q) : G M d mc ms pc ls (vV (.float y) :: vV (.float x) :: st) (w, m) Q := by
  intro l b0 D cA X p e R s mm args below meth c H locs cells slots ls' c1 c2
  have k1 := k l b0 D cA X p e R s mm args below meth c H locs cells slots ls' c1 c2
  refine lv_fcmp c1.1 c1.2.1 hd ?_
  rw [← oi_eta (Op.cmpValue (FP.fcmp x y) op)]
  exact k1
theorem G_dcmp {M : MD} {d mc ms pc : Nat} {ls st : List PV} {w : List KD} {m : Nat → Nat → Int} {Q : Ps} {x y : UInt64} {op : CmpOp} (hd : decode M.2.1 pc = .ok (.dcmp op, 1))  (k : G M d mc ms (pc + 1) ls (iV (Op.cmpValue (FP.dcmp x y) op).toInt :: st) (w, m) Q) : G M d mc ms pc ls (vV (.double y) :: vV (.double x) :: st) (w, m) Q := by
  intro l b0 D cA X p e R s mm args below meth c H locs cells slots ls' c1 c2
  have k1 := k l b0 D cA X p e R s mm args below meth c H locs cells slots ls' c1 c2
  refine lv_dcmp c1.1 c1.2.1 hd ?_
  rw [← oi_eta (Op.cmpValue (FP.dcmp x y) op)]
  exact k1
theorem G_i2f {M : MD} {d mc ms pc : Nat} {ls st : List PV} {w : List KD} {m : Nat → Nat → Int} {Q : Ps} {x : Int} (hd : decode M.2.1 pc = .ok (.i2f, 1))  (k : G M d mc ms (pc + 1) ls (vV (.float (FP.i2f (Int32.ofInt x))) :: st) (w, m) Q) : G M d mc ms pc ls (iV x :: st) (w, m) Q := by
  intro l b0 D cA X p e R s mm args below meth c H locs cells slots ls' c1 c2
  have k1 := k l b0 D cA X p e R s mm args below meth c H locs cells slots ls' c1 c2
  refine lv_i2f c1.1 c1.2.1 hd ?_
  exact k1
theorem G_i2d {M : MD} {d mc ms pc : Nat} {ls st : List PV} {w : List KD} {m : Nat → Nat → Int} {Q : Ps} {x : Int} (hd : decode M.2.1 pc = .ok (.i2d, 1))  (k : G M d mc ms (pc + 1) ls (vV (.double (FP.i2d (Int32.ofInt x))) :: st) (w, m) Q) : G M d mc ms pc ls (iV x :: st) (w, m) Q := by
  intro l b0 D cA X p e R s mm args below meth c H locs cells slots ls' c1 c2
  have k1 := k l b0 D cA X p e R s mm args below meth c H locs cells slots ls' c1 c2
  refine lv_i2d c1.1 c1.2.1 hd ?_
  exact k1
theorem G_f2i {M : MD} {d mc ms pc : Nat} {ls st : List PV} {w : List KD} {m : Nat → Nat → Int} {Q : Ps} {x : UInt32} (hd : decode M.2.1 pc = .ok (.f2i, 1))  (k : G M d mc ms (pc + 1) ls (iV (FP.f2i x).toInt :: st) (w, m) Q) : G M d mc ms pc ls (vV (.float x) :: st) (w, m) Q := by
  intro l b0 D cA X p e R s mm args below meth c H locs cells slots ls' c1 c2
  have k1 := k l b0 D cA X p e R s mm args below meth c H locs cells slots ls' c1 c2
  refine lv_f2i c1.1 c1.2.1 hd ?_
  rw [← oi_eta (FP.f2i x)]
  exact k1
theorem G_d2l {M : MD} {d mc ms pc : Nat} {ls st : List PV} {w : List KD} {m : Nat → Nat → Int} {Q : Ps} {x : UInt64} (hd : decode M.2.1 pc = .ok (.d2l, 1))  (k : G M d mc ms (pc + 1) ls (lV (FP.d2l x).toInt :: st) (w, m) Q) : G M d mc ms pc ls (vV (.double x) :: st) (w, m) Q := by
  intro l b0 D cA X p e R s mm args below meth c H locs cells slots ls' c1 c2
  have k1 := k l b0 D cA X p e R s mm args below meth c H locs cells slots ls' c1 c2
  refine lv_d2l c1.1 c1.2.1 hd ?_
  rw [← Int64.ofInt_toInt (FP.d2l x)]
  exact k1
theorem oj_toInt {x : Int} (hx : -9223372036854775808 ≤ x ∧ x < 9223372036854775808) : (Int64.ofInt x).toInt = x := Int64.toInt_ofInt_of_le (by omega) (by omega)
theorem G_lcmp {M : MD} {d mc ms pc : Nat} {ls st : List PV} {w : List KD} {m : Nat → Nat → Int} {Q : Ps} {x y : Int} (z : Int) (hd : decode M.2.1 pc = .ok (.lcmp, 1)) (hz : lg_cmp (Int64.ofInt x) (Int64.ofInt y) = Int32.ofInt z) (k : G M d mc ms (pc + 1) ls (iV z :: st) (w, m) Q) : G M d mc ms pc ls (lV y :: lV x :: st) (w, m) Q := by
  intro l b0 D cA X p e R s mm args below meth c H locs cells slots ls' c1 c2
  have k1 := k l b0 D cA X p e R s mm args below meth c H locs cells slots ls' c1 c2
  refine W.lcmp c1.1 c1.2.1 hd ?_
  rw [hz]
  exact k1
theorem G_ldc {M : MD} {d mc ms pc : Nat} {ls st : List PV} {w : List KD} {m : Nat → Nat → Int} {Q : Ps} {i : Nat} {v : Int} (hd : decode M.2.1 pc = .ok (.ldc i, 2)) (hw : Cond.constant M.1.cls i (Int32.ofInt v) ∈ lwg) (k : G M d mc ms (pc + 2) ls (iV v :: st) (w, m) Q) : G M d mc ms pc ls st (w, m) Q := by
  intro l b0 D cA X p e R s mm args below meth c H locs cells slots ls' c1 c2
  exact lv_ldc c1.1 c1.2.1 c1.2.2.2.2.1 (c1.2.2.2.2.2.1 _ hw) hd (k l b0 D cA X p e R s mm args below meth c H locs cells slots ls' c1 c2)
theorem G_ldcf {M : MD} {d mc ms pc : Nat} {ls st : List PV} {w : List KD} {m : Nat → Nat → Int} {Q : Ps} {i : Nat} {v : UInt32} (hd : decode M.2.1 pc = .ok (.ldc i, 2)) (hw : Cond.constantFloat M.1.cls i v ∈ lwg) (k : G M d mc ms (pc + 2) ls (vV (.float v) :: st) (w, m) Q) : G M d mc ms pc ls st (w, m) Q := by
  intro l b0 D cA X p e R s mm args below meth c H locs cells slots ls' c1 c2
  exact lv_ldcf c1.1 c1.2.1 c1.2.2.2.2.1 (c1.2.2.2.2.2.1 _ hw) hd (k l b0 D cA X p e R s mm args below meth c H locs cells slots ls' c1 c2)
theorem G_ldc2 {M : MD} {d mc ms pc : Nat} {ls st : List PV} {w : List KD} {m : Nat → Nat → Int} {Q : Ps} {i : Nat} {v : Int} (hd : decode M.2.1 pc = .ok (.ldc2_w i, 3)) (hw : Cond.constantLong M.1.cls i (Int64.ofInt v) ∈ lwg) (k : G M d mc ms (pc + 3) ls (lV v :: st) (w, m) Q) : G M d mc ms pc ls st (w, m) Q := by
  intro l b0 D cA X p e R s mm args below meth c H locs cells slots ls' c1 c2
  exact lv_ldc2 c1.1 c1.2.1 c1.2.2.2.2.1 (c1.2.2.2.2.2.1 _ hw) hd (k l b0 D cA X p e R s mm args below meth c H locs cells slots ls' c1 c2)
theorem G_ldc2d {M : MD} {d mc ms pc : Nat} {ls st : List PV} {w : List KD} {m : Nat → Nat → Int} {Q : Ps} {i : Nat} {v : UInt64} (hd : decode M.2.1 pc = .ok (.ldc2_w i, 3)) (hw : Cond.constantDouble M.1.cls i v ∈ lwg) (k : G M d mc ms (pc + 3) ls (vV (.double v) :: st) (w, m) Q) : G M d mc ms pc ls st (w, m) Q := by
  intro l b0 D cA X p e R s mm args below meth c H locs cells slots ls' c1 c2
  exact lv_ldc2d c1.1 c1.2.1 c1.2.2.2.2.1 (c1.2.2.2.2.2.1 _ hw) hd (k l b0 D cA X p e R s mm args below meth c H locs cells slots ls' c1 c2)
theorem G_goto {M : MD} {d mc ms pc : Nat} {ls st : List PV} {w : List KD} {m : Nat → Nat → Int} {Q : Ps} {off : Int} (tgt : Nat) (hd : decode M.2.1 pc = .ok (.goto off, 3)) (ht : (pc : Int) + off = (tgt : Int)) (k : G M d mc ms tgt ls st (w, m) Q) : G M d mc ms pc ls st (w, m) Q := by
  intro l b0 D cA X p e R s mm args below meth c H locs cells slots ls' c1 c2
  exact lv_goto c1.1 c1.2.1 hd ht (k l b0 D cA X p e R s mm args below meth c H locs cells slots ls' c1 c2)
theorem G_icmp_lt {M : MD} {d mc ms pc : Nat} {ls st : List PV} {w : List KD} {m : Nat → Nat → Int} {Q : Ps} {x y off : Int} (tgt : Nat) (hd : decode M.2.1 pc = .ok (.if_icmp .lt off, 3)) (ht : (pc : Int) + off = (tgt : Int)) (hx : -2147483648 ≤ x ∧ x < 2147483648) (hy : -2147483648 ≤ y ∧ y < 2147483648) (kt : x < y → G M d mc ms tgt ls st (w, m) Q) (kf : y ≤ x → G M d mc ms (pc + 3) ls st (w, m) Q) : G M d mc ms pc ls (iV y :: iV x :: st) (w, m) Q := by
  intro l b0 D cA X p e R s mm args below meth c H locs cells slots ls' c1 c2
  refine lv_icmp_lt c1.1 c1.2.1 hd ht (fun h => kt ?_ l b0 D cA X p e R s mm args below meth c H locs cells slots ls' c1 c2) (fun h => kf ?_ l b0 D cA X p e R s mm args below meth c H locs cells slots ls' c1 c2)
  · simp only [ge_iff_le, gt_iff_lt, ne_eq, oi_lt hx hy, oi_le hx hy, oi_lt hy hx, oi_le hy hx, oi_inj hx hy] at h
    omega
  · simp only [ge_iff_le, gt_iff_lt, ne_eq, oi_lt hx hy, oi_le hx hy, oi_lt hy hx, oi_le hy hx, oi_inj hx hy] at h
    omega
theorem G_if_lt {M : MD} {d mc ms pc : Nat} {ls st : List PV} {w : List KD} {m : Nat → Nat → Int} {Q : Ps} {x off : Int} (tgt : Nat) (hd : decode M.2.1 pc = .ok (.ifCond .lt off, 3)) (ht : (pc : Int) + off = (tgt : Int)) (hx : -2147483648 ≤ x ∧ x < 2147483648) (kt : x < 0 → G M d mc ms tgt ls st (w, m) Q) (kf : 0 ≤ x → G M d mc ms (pc + 3) ls st (w, m) Q) : G M d mc ms pc ls (iV x :: st) (w, m) Q := by
  have hy : -2147483648 ≤ (0 : Int) ∧ (0 : Int) < 2147483648 := by decide
  intro l b0 D cA X p e R s mm args below meth c H locs cells slots ls' c1 c2
  refine lv_if_lt c1.1 c1.2.1 hd ht (fun h => kt ?_ l b0 D cA X p e R s mm args below meth c H locs cells slots ls' c1 c2) (fun h => kf ?_ l b0 D cA X p e R s mm args below meth c H locs cells slots ls' c1 c2)
  · rw [← oi_0] at h
    simp only [ge_iff_le, gt_iff_lt, ne_eq, oi_lt hx hy, oi_le hx hy, oi_lt hy hx, oi_le hy hx, oi_inj hx hy] at h
    omega
  · rw [← oi_0] at h
    simp only [ge_iff_le, gt_iff_lt, ne_eq, oi_lt hx hy, oi_le hx hy, oi_lt hy hx, oi_le hy hx, oi_inj hx hy] at h
    omega
theorem G_icmp_ge {M : MD} {d mc ms pc : Nat} {ls st : List PV} {w : List KD} {m : Nat → Nat → Int} {Q : Ps} {x y off : Int} (tgt : Nat) (hd : decode M.2.1 pc = .ok (.if_icmp .ge off, 3)) (ht : (pc : Int) + off = (tgt : Int)) (hx : -2147483648 ≤ x ∧ x < 2147483648) (hy : -2147483648 ≤ y ∧ y < 2147483648) (kt : y ≤ x → G M d mc ms tgt ls st (w, m) Q) (kf : x < y → G M d mc ms (pc + 3) ls st (w, m) Q) : G M d mc ms pc ls (iV y :: iV x :: st) (w, m) Q := by
  intro l b0 D cA X p e R s mm args below meth c H locs cells slots ls' c1 c2
  refine lv_icmp_ge c1.1 c1.2.1 hd ht (fun h => kt ?_ l b0 D cA X p e R s mm args below meth c H locs cells slots ls' c1 c2) (fun h => kf ?_ l b0 D cA X p e R s mm args below meth c H locs cells slots ls' c1 c2)
  · simp only [ge_iff_le, gt_iff_lt, ne_eq, oi_lt hx hy, oi_le hx hy, oi_lt hy hx, oi_le hy hx, oi_inj hx hy] at h
    omega
  · simp only [ge_iff_le, gt_iff_lt, ne_eq, oi_lt hx hy, oi_le hx hy, oi_lt hy hx, oi_le hy hx, oi_inj hx hy] at h
    omega
theorem G_if_ge {M : MD} {d mc ms pc : Nat} {ls st : List PV} {w : List KD} {m : Nat → Nat → Int} {Q : Ps} {x off : Int} (tgt : Nat) (hd : decode M.2.1 pc = .ok (.ifCond .ge off, 3)) (ht : (pc : Int) + off = (tgt : Int)) (hx : -2147483648 ≤ x ∧ x < 2147483648) (kt : 0 ≤ x → G M d mc ms tgt ls st (w, m) Q) (kf : x < 0 → G M d mc ms (pc + 3) ls st (w, m) Q) : G M d mc ms pc ls (iV x :: st) (w, m) Q := by
  have hy : -2147483648 ≤ (0 : Int) ∧ (0 : Int) < 2147483648 := by decide
  intro l b0 D cA X p e R s mm args below meth c H locs cells slots ls' c1 c2
  refine lv_if_ge c1.1 c1.2.1 hd ht (fun h => kt ?_ l b0 D cA X p e R s mm args below meth c H locs cells slots ls' c1 c2) (fun h => kf ?_ l b0 D cA X p e R s mm args below meth c H locs cells slots ls' c1 c2)
  · rw [← oi_0] at h
    simp only [ge_iff_le, gt_iff_lt, ne_eq, oi_lt hx hy, oi_le hx hy, oi_lt hy hx, oi_le hy hx, oi_inj hx hy] at h
    omega
  · rw [← oi_0] at h
    simp only [ge_iff_le, gt_iff_lt, ne_eq, oi_lt hx hy, oi_le hx hy, oi_lt hy hx, oi_le hy hx, oi_inj hx hy] at h
    omega
theorem G_icmp_gt {M : MD} {d mc ms pc : Nat} {ls st : List PV} {w : List KD} {m : Nat → Nat → Int} {Q : Ps} {x y off : Int} (tgt : Nat) (hd : decode M.2.1 pc = .ok (.if_icmp .gt off, 3)) (ht : (pc : Int) + off = (tgt : Int)) (hx : -2147483648 ≤ x ∧ x < 2147483648) (hy : -2147483648 ≤ y ∧ y < 2147483648) (kt : y < x → G M d mc ms tgt ls st (w, m) Q) (kf : x ≤ y → G M d mc ms (pc + 3) ls st (w, m) Q) : G M d mc ms pc ls (iV y :: iV x :: st) (w, m) Q := by
  intro l b0 D cA X p e R s mm args below meth c H locs cells slots ls' c1 c2
  refine lv_icmp_gt c1.1 c1.2.1 hd ht (fun h => kt ?_ l b0 D cA X p e R s mm args below meth c H locs cells slots ls' c1 c2) (fun h => kf ?_ l b0 D cA X p e R s mm args below meth c H locs cells slots ls' c1 c2)
  · simp only [ge_iff_le, gt_iff_lt, ne_eq, oi_lt hx hy, oi_le hx hy, oi_lt hy hx, oi_le hy hx, oi_inj hx hy] at h
    omega
  · simp only [ge_iff_le, gt_iff_lt, ne_eq, oi_lt hx hy, oi_le hx hy, oi_lt hy hx, oi_le hy hx, oi_inj hx hy] at h
    omega
theorem G_if_gt {M : MD} {d mc ms pc : Nat} {ls st : List PV} {w : List KD} {m : Nat → Nat → Int} {Q : Ps} {x off : Int} (tgt : Nat) (hd : decode M.2.1 pc = .ok (.ifCond .gt off, 3)) (ht : (pc : Int) + off = (tgt : Int)) (hx : -2147483648 ≤ x ∧ x < 2147483648) (kt : 0 < x → G M d mc ms tgt ls st (w, m) Q) (kf : x ≤ 0 → G M d mc ms (pc + 3) ls st (w, m) Q) : G M d mc ms pc ls (iV x :: st) (w, m) Q := by
  have hy : -2147483648 ≤ (0 : Int) ∧ (0 : Int) < 2147483648 := by decide
  intro l b0 D cA X p e R s mm args below meth c H locs cells slots ls' c1 c2
  refine lv_if_gt c1.1 c1.2.1 hd ht (fun h => kt ?_ l b0 D cA X p e R s mm args below meth c H locs cells slots ls' c1 c2) (fun h => kf ?_ l b0 D cA X p e R s mm args below meth c H locs cells slots ls' c1 c2)
  · rw [← oi_0] at h
    simp only [ge_iff_le, gt_iff_lt, ne_eq, oi_lt hx hy, oi_le hx hy, oi_lt hy hx, oi_le hy hx, oi_inj hx hy] at h
    omega
  · rw [← oi_0] at h
    simp only [ge_iff_le, gt_iff_lt, ne_eq, oi_lt hx hy, oi_le hx hy, oi_lt hy hx, oi_le hy hx, oi_inj hx hy] at h
    omega
theorem G_icmp_le {M : MD} {d mc ms pc : Nat} {ls st : List PV} {w : List KD} {m : Nat → Nat → Int} {Q : Ps} {x y off : Int} (tgt : Nat) (hd : decode M.2.1 pc = .ok (.if_icmp .le off, 3)) (ht : (pc : Int) + off = (tgt : Int)) (hx : -2147483648 ≤ x ∧ x < 2147483648) (hy : -2147483648 ≤ y ∧ y < 2147483648) (kt : x ≤ y → G M d mc ms tgt ls st (w, m) Q) (kf : y < x → G M d mc ms (pc + 3) ls st (w, m) Q) : G M d mc ms pc ls (iV y :: iV x :: st) (w, m) Q := by
  intro l b0 D cA X p e R s mm args below meth c H locs cells slots ls' c1 c2
  refine lv_icmp_le c1.1 c1.2.1 hd ht (fun h => kt ?_ l b0 D cA X p e R s mm args below meth c H locs cells slots ls' c1 c2) (fun h => kf ?_ l b0 D cA X p e R s mm args below meth c H locs cells slots ls' c1 c2)
  · simp only [ge_iff_le, gt_iff_lt, ne_eq, oi_lt hx hy, oi_le hx hy, oi_lt hy hx, oi_le hy hx, oi_inj hx hy] at h
    omega
  · simp only [ge_iff_le, gt_iff_lt, ne_eq, oi_lt hx hy, oi_le hx hy, oi_lt hy hx, oi_le hy hx, oi_inj hx hy] at h
    omega
theorem G_if_le {M : MD} {d mc ms pc : Nat} {ls st : List PV} {w : List KD} {m : Nat → Nat → Int} {Q : Ps} {x off : Int} (tgt : Nat) (hd : decode M.2.1 pc = .ok (.ifCond .le off, 3)) (ht : (pc : Int) + off = (tgt : Int)) (hx : -2147483648 ≤ x ∧ x < 2147483648) (kt : x ≤ 0 → G M d mc ms tgt ls st (w, m) Q) (kf : 0 < x → G M d mc ms (pc + 3) ls st (w, m) Q) : G M d mc ms pc ls (iV x :: st) (w, m) Q := by
  have hy : -2147483648 ≤ (0 : Int) ∧ (0 : Int) < 2147483648 := by decide
  intro l b0 D cA X p e R s mm args below meth c H locs cells slots ls' c1 c2
  refine lv_if_le c1.1 c1.2.1 hd ht (fun h => kt ?_ l b0 D cA X p e R s mm args below meth c H locs cells slots ls' c1 c2) (fun h => kf ?_ l b0 D cA X p e R s mm args below meth c H locs cells slots ls' c1 c2)
  · rw [← oi_0] at h
    simp only [ge_iff_le, gt_iff_lt, ne_eq, oi_lt hx hy, oi_le hx hy, oi_lt hy hx, oi_le hy hx, oi_inj hx hy] at h
    omega
  · rw [← oi_0] at h
    simp only [ge_iff_le, gt_iff_lt, ne_eq, oi_lt hx hy, oi_le hx hy, oi_lt hy hx, oi_le hy hx, oi_inj hx hy] at h
    omega
theorem G_icmp_eq {M : MD} {d mc ms pc : Nat} {ls st : List PV} {w : List KD} {m : Nat → Nat → Int} {Q : Ps} {x y off : Int} (tgt : Nat) (hd : decode M.2.1 pc = .ok (.if_icmp .eq off, 3)) (ht : (pc : Int) + off = (tgt : Int)) (hx : -2147483648 ≤ x ∧ x < 2147483648) (hy : -2147483648 ≤ y ∧ y < 2147483648) (kt : x = y → G M d mc ms tgt ls st (w, m) Q) (kf : x ≠ y → G M d mc ms (pc + 3) ls st (w, m) Q) : G M d mc ms pc ls (iV y :: iV x :: st) (w, m) Q := by
  intro l b0 D cA X p e R s mm args below meth c H locs cells slots ls' c1 c2
  refine lv_icmp_eq c1.1 c1.2.1 hd ht (fun h => kt ?_ l b0 D cA X p e R s mm args below meth c H locs cells slots ls' c1 c2) (fun h => kf ?_ l b0 D cA X p e R s mm args below meth c H locs cells slots ls' c1 c2)
  · simp only [ge_iff_le, gt_iff_lt, ne_eq, oi_lt hx hy, oi_le hx hy, oi_lt hy hx, oi_le hy hx, oi_inj hx hy] at h
    omega
  · simp only [ge_iff_le, gt_iff_lt, ne_eq, oi_lt hx hy, oi_le hx hy, oi_lt hy hx, oi_le hy hx, oi_inj hx hy] at h
    omega
theorem G_if_eq {M : MD} {d mc ms pc : Nat} {ls st : List PV} {w : List KD} {m : Nat → Nat → Int} {Q : Ps} {x off : Int} (tgt : Nat) (hd : decode M.2.1 pc = .ok (.ifCond .eq off, 3)) (ht : (pc : Int) + off = (tgt : Int)) (hx : -2147483648 ≤ x ∧ x < 2147483648) (kt : x = 0 → G M d mc ms tgt ls st (w, m) Q) (kf : x ≠ 0 → G M d mc ms (pc + 3) ls st (w, m) Q) : G M d mc ms pc ls (iV x :: st) (w, m) Q := by
  have hy : -2147483648 ≤ (0 : Int) ∧ (0 : Int) < 2147483648 := by decide
  intro l b0 D cA X p e R s mm args below meth c H locs cells slots ls' c1 c2
  refine lv_if_eq c1.1 c1.2.1 hd ht (fun h => kt ?_ l b0 D cA X p e R s mm args below meth c H locs cells slots ls' c1 c2) (fun h => kf ?_ l b0 D cA X p e R s mm args below meth c H locs cells slots ls' c1 c2)
  · rw [← oi_0] at h
    simp only [ge_iff_le, gt_iff_lt, ne_eq, oi_lt hx hy, oi_le hx hy, oi_lt hy hx, oi_le hy hx, oi_inj hx hy] at h
    omega
  · rw [← oi_0] at h
    simp only [ge_iff_le, gt_iff_lt, ne_eq, oi_lt hx hy, oi_le hx hy, oi_lt hy hx, oi_le hy hx, oi_inj hx hy] at h
    omega
theorem G_icmp_ne {M : MD} {d mc ms pc : Nat} {ls st : List PV} {w : List KD} {m : Nat → Nat → Int} {Q : Ps} {x y off : Int} (tgt : Nat) (hd : decode M.2.1 pc = .ok (.if_icmp .ne off, 3)) (ht : (pc : Int) + off = (tgt : Int)) (hx : -2147483648 ≤ x ∧ x < 2147483648) (hy : -2147483648 ≤ y ∧ y < 2147483648) (kt : x ≠ y → G M d mc ms tgt ls st (w, m) Q) (kf : x = y → G M d mc ms (pc + 3) ls st (w, m) Q) : G M d mc ms pc ls (iV y :: iV x :: st) (w, m) Q := by
  intro l b0 D cA X p e R s mm args below meth c H locs cells slots ls' c1 c2
  refine lv_icmp_ne c1.1 c1.2.1 hd ht (fun h => kt ?_ l b0 D cA X p e R s mm args below meth c H locs cells slots ls' c1 c2) (fun h => kf ?_ l b0 D cA X p e R s mm args below meth c H locs cells slots ls' c1 c2)
  · simp only [ge_iff_le, gt_iff_lt, ne_eq, oi_lt hx hy, oi_le hx hy, oi_lt hy hx, oi_le hy hx, oi_inj hx hy] at h
    omega
  · simp only [ge_iff_le, gt_iff_lt, ne_eq, oi_lt hx hy, oi_le hx hy, oi_lt hy hx, oi_le hy hx, oi_inj hx hy] at h
    omega
theorem G_if_ne {M : MD} {d mc ms pc : Nat} {ls st : List PV} {w : List KD} {m : Nat → Nat → Int} {Q : Ps} {x off : Int} (tgt : Nat) (hd : decode M.2.1 pc = .ok (.ifCond .ne off, 3)) (ht : (pc : Int) + off = (tgt : Int)) (hx : -2147483648 ≤ x ∧ x < 2147483648) (kt : x ≠ 0 → G M d mc ms tgt ls st (w, m) Q) (kf : x = 0 → G M d mc ms (pc + 3) ls st (w, m) Q) : G M d mc ms pc ls (iV x :: st) (w, m) Q := by
  have hy : -2147483648 ≤ (0 : Int) ∧ (0 : Int) < 2147483648 := by decide
  intro l b0 D cA X p e R s mm args below meth c H locs cells slots ls' c1 c2
  refine lv_if_ne c1.1 c1.2.1 hd ht (fun h => kt ?_ l b0 D cA X p e R s mm args below meth c H locs cells slots ls' c1 c2) (fun h => kf ?_ l b0 D cA X p e R s mm args below meth c H locs cells slots ls' c1 c2)
  · rw [← oi_0] at h
    simp only [ge_iff_le, gt_iff_lt, ne_eq, oi_lt hx hy, oi_le hx hy, oi_lt hy hx, oi_le hy hx, oi_inj hx hy] at h
    omega
  · rw [← oi_0] at h
    simp only [ge_iff_le, gt_iff_lt, ne_eq, oi_lt hx hy, oi_le hx hy, oi_lt hy hx, oi_le hy hx, oi_inj hx hy] at h
    omega
theorem G_tin {M : MD} {d mc ms pc : Nat} {ls st : List PV} {w : List KD} {m : Nat → Nat → Int} {Q : Ps} {x dflt lo hi off : Int} {offs : Array Int} {len : Nat} (tgt : Nat) (hd : decode M.2.1 pc = .ok (.tableswitch dflt lo hi offs, len)) (hx : -2147483648 ≤ x ∧ x < 2147483648) (h1 : lo ≤ x) (h2 : x ≤ hi) (ho : offs[(x - lo).toNat]? = some off) (ht : (pc : Int) + off = (tgt : Int)) (k : G M d mc ms tgt ls st (w, m) Q) : G M d mc ms pc ls (iV x :: st) (w, m) Q := by
  intro l b0 D cA X p e R s mm args below meth c H locs cells slots ls' c1 c2
  exact lv_tableIn c1.1 c1.2.1 hd (by rw [oi_toInt hx]; omega) (by rw [oi_toInt hx]; omega) (by rw [oi_toInt hx]; exact ho) ht (k l b0 D cA X p e R s mm args below meth c H locs cells slots ls' c1 c2)
theorem G_tout {M : MD} {d mc ms pc : Nat} {ls st : List PV} {w : List KD} {m : Nat → Nat → Int} {Q : Ps} {x dflt lo hi : Int} {offs : Array Int} {len : Nat} (tgt : Nat) (hd : decode M.2.1 pc = .ok (.tableswitch dflt lo hi offs, len)) (hx : -2147483648 ≤ x ∧ x < 2147483648) (h1 : x < lo ∨ hi < x) (ht : (pc : Int) + dflt = (tgt : Int)) (k : G M d mc ms tgt ls st (w, m) Q) : G M d mc ms pc ls (iV x :: st) (w, m) Q := by
  intro l b0 D cA X p e R s mm args below meth c H locs cells slots ls' c1 c2
  exact lv_tableOut c1.1 c1.2.1 hd (by rw [oi_toInt hx]; exact h1) ht (k l b0 D cA X p e R s mm args below meth c H locs cells slots ls' c1 c2)
