theorem C1.hx {M : MD} {d mc ms b0 : Nat} {D : va_G} {cA : Nat → ClassId} {X : Nat × Nat × (Nat → Int32)} {p : Program} {R : Room} {s : State} {mm : MethodId} {args : Array Value} {meth : Method} {c : Code} {cells slots : Nat} (c1 : C1 M d mc ms b0 D cA X p R s mm args meth c cells slots) : p.tables.exec = Jvm.exec := c1.1
theorem C1.hb {M : MD} {d mc ms b0 : Nat} {D : va_G} {cA : Nat → ClassId} {X : Nat × Nat × (Nat → Int32)} {p : Program} {R : Room} {s : State} {mm : MethodId} {args : Array Value} {meth : Method} {c : Code} {cells slots : Nat} (c1 : C1 M d mc ms b0 D cA X p R s mm args meth c cells slots) : c.code = M.2.1 := c1.2.1
theorem C1.hml {M : MD} {d mc ms b0 : Nat} {D : va_G} {cA : Nat → ClassId} {X : Nat × Nat × (Nat → Int32)} {p : Program} {R : Room} {s : State} {mm : MethodId} {args : Array Value} {meth : Method} {c : Code} {cells slots : Nat} (c1 : C1 M d mc ms b0 D cA X p R s mm args meth c cells slots) : c.maxLocals = M.2.2.1 := c1.2.2.1
theorem C1.hr {M : MD} {d mc ms b0 : Nat} {D : va_G} {cA : Nat → ClassId} {X : Nat × Nat × (Nat → Int32)} {p : Program} {R : Room} {s : State} {mm : MethodId} {args : Array Value} {meth : Method} {c : Code} {cells slots : Nat} (c1 : C1 M d mc ms b0 D cA X p R s mm args meth c cells slots) : meth.sig.returnType = M.2.2.2 := c1.2.2.2.1
theorem C1.hown {M : MD} {d mc ms b0 : Nat} {D : va_G} {cA : Nat → ClassId} {X : Nat × Nat × (Nat → Int32)} {p : Program} {R : Room} {s : State} {mm : MethodId} {args : Array Value} {meth : Method} {c : Code} {cells slots : Nat} (c1 : C1 M d mc ms b0 D cA X p R s mm args meth c cells slots) : s.vm.findClass M.1.cls = some mm.cls := c1.2.2.2.2.1
theorem C1.hts {M : MD} {d mc ms b0 : Nat} {D : va_G} {cA : Nat → ClassId} {X : Nat × Nat × (Nat → Int32)} {p : Program} {R : Room} {s : State} {mm : MethodId} {args : Array Value} {meth : Method} {c : Code} {cells slots : Nat} (c1 : C1 M d mc ms b0 D cA X p R s mm args meth c cells slots) : ∀ w ∈ lwg, w.before args s = true := c1.2.2.2.2.2.1
theorem C1.hlk {M : MD} {d mc ms b0 : Nat} {D : va_G} {cA : Nat → ClassId} {X : Nat × Nat × (Nat → Int32)} {p : Program} {R : Room} {s : State} {mm : MethodId} {args : Array Value} {meth : Method} {c : Code} {cells slots : Nat} (c1 : C1 M d mc ms b0 D cA X p R s mm args meth c cells slots) : meth.locks = false := c1.2.2.2.2.2.2.1
theorem C1.hnm {M : MD} {d mc ms b0 : Nat} {D : va_G} {cA : Nat → ClassId} {X : Nat × Nat × (Nat → Int32)} {p : Program} {R : Room} {s : State} {mm : MethodId} {args : Array Value} {meth : Method} {c : Code} {cells slots : Nat} (c1 : C1 M d mc ms b0 D cA X p R s mm args meth c cells slots) : meth.name = M.1.name := c1.2.2.2.2.2.2.2.1
theorem C1.hfr {M : MD} {d mc ms b0 : Nat} {D : va_G} {cA : Nat → ClassId} {X : Nat × Nat × (Nat → Int32)} {p : Program} {R : Room} {s : State} {mm : MethodId} {args : Array Value} {meth : Method} {c : Code} {cells slots : Nat} (c1 : C1 M d mc ms b0 D cA X p R s mm args meth c cells slots) : d ≤ R.frames := c1.2.2.2.2.2.2.2.2.1
theorem C1.hlo {M : MD} {d mc ms b0 : Nat} {D : va_G} {cA : Nat → ClassId} {X : Nat × Nat × (Nat → Int32)} {p : Program} {R : Room} {s : State} {mm : MethodId} {args : Array Value} {meth : Method} {c : Code} {cells slots : Nat} (c1 : C1 M d mc ms b0 D cA X p R s mm args meth c cells slots) : 40 * d ≤ R.locals := c1.2.2.2.2.2.2.2.2.2.1
theorem C1.hce {M : MD} {d mc ms b0 : Nat} {D : va_G} {cA : Nat → ClassId} {X : Nat × Nat × (Nat → Int32)} {p : Program} {R : Room} {s : State} {mm : MethodId} {args : Array Value} {meth : Method} {c : Code} {cells slots : Nat} (c1 : C1 M d mc ms b0 D cA X p R s mm args meth c cells slots) : cells + mc ≤ R.cells := c1.2.2.2.2.2.2.2.2.2.2.1
theorem C1.hsl {M : MD} {d mc ms b0 : Nat} {D : va_G} {cA : Nat → ClassId} {X : Nat × Nat × (Nat → Int32)} {p : Program} {R : Room} {s : State} {mm : MethodId} {args : Array Value} {meth : Method} {c : Code} {cells slots : Nat} (c1 : C1 M d mc ms b0 D cA X p R s mm args meth c cells slots) : slots + ms ≤ R.slots := c1.2.2.2.2.2.2.2.2.2.2.2.1
theorem C1.hK {M : MD} {d mc ms b0 : Nat} {D : va_G} {cA : Nat → ClassId} {X : Nat × Nat × (Nat → Int32)} {p : Program} {R : Room} {s : State} {mm : MethodId} {args : Array Value} {meth : Method} {c : Code} {cells slots : Nat} (c1 : C1 M d mc ms b0 D cA X p R s mm args meth c cells slots) : va_K D vwCl (tysL cA) s := c1.2.2.2.2.2.2.2.2.2.2.2.2.1
theorem C1.hX {M : MD} {d mc ms b0 : Nat} {D : va_G} {cA : Nat → ClassId} {X : Nat × Nat × (Nat → Int32)} {p : Program} {R : Room} {s : State} {mm : MethodId} {args : Array Value} {meth : Method} {c : Code} {cells slots : Nat} (c1 : C1 M d mc ms b0 D cA X p R s mm args meth c cells slots) : va_X X.1 X.2.1 X.2.2 s s.heap := c1.2.2.2.2.2.2.2.2.2.2.2.2.2.1
theorem C1.hXb {M : MD} {d mc ms b0 : Nat} {D : va_G} {cA : Nat → ClassId} {X : Nat × Nat × (Nat → Int32)} {p : Program} {R : Room} {s : State} {mm : MethodId} {args : Array Value} {meth : Method} {c : Code} {cells slots : Nat} (c1 : C1 M d mc ms b0 D cA X p R s mm args meth c cells slots) : X.1 < b0 := c1.2.2.2.2.2.2.2.2.2.2.2.2.2.2.1
theorem C1.hb0 {M : MD} {d mc ms b0 : Nat} {D : va_G} {cA : Nat → ClassId} {X : Nat × Nat × (Nat → Int32)} {p : Program} {R : Room} {s : State} {mm : MethodId} {args : Array Value} {meth : Method} {c : Code} {cells slots : Nat} (c1 : C1 M d mc ms b0 D cA X p R s mm args meth c cells slots) : b0 ≤ s.heap.size := c1.2.2.2.2.2.2.2.2.2.2.2.2.2.2.2.1
theorem C1.hXW {M : MD} {d mc ms b0 : Nat} {D : va_G} {cA : Nat → ClassId} {X : Nat × Nat × (Nat → Int32)} {p : Program} {R : Room} {s : State} {mm : MethodId} {args : Array Value} {meth : Method} {c : Code} {cells slots : Nat} (c1 : C1 M d mc ms b0 D cA X p R s mm args meth c cells slots) : XW s := c1.2.2.2.2.2.2.2.2.2.2.2.2.2.2.2.2
theorem rfO_nat (b0 r : Nat) : rfO b0 (r : Int) = some (b0 + r) := by
  unfold rfO
  rw [if_neg (by omega)]
  rfl
theorem updV_upm (F : Int → Value) (m : Nat → Nat → Int) (a k : Nat) (x : Int) : updV (fun j => F (m a j)) k (F x) = fun j => F (upm m a k x a j) := by
  funext j
  unfold updV upm
  by_cases h : j = k <;> simp [h]
/-- a store into one of our own cells: what stands behind it -/
theorem C2.put {M : MD} {b0 : Nat} {D : va_G} {cA : Nat → ClassId} {w w' : List KD} {m m' : Nat → Nat → Int} {H0 H H1 : Heap} {locs : List Loc} {ls : List PV} {ls' : Array Slot} {a kk : Nat} {kd : KD} (c2 : C2 M b0 D cA (w, m) H0 H locs ls ls') (hk0 : a < w.length) (hk : w'[a]? = some kd) (hl : w'.length = w.length) (hw : ∀ a', a' ≠ a → w'[a']? = w[a']?) (hm : ∀ a', a' ≠ a → m' a' = m a')
    (z : H1.size = H.size) (oq : ∀ q : Nat, q ≠ b0 + a → H1[q]? = H[q]?) (hat : va_at D vwCl (b0 + a, cellE b0 cA m' a kd) H1) : C2 M b0 D cA (w', m') H0 H1 (locs ++ [⟨b0 + a, kk⟩]) ls ls' := by
  have hk1 : w[a]? = some w[a] := List.getElem?_eq_getElem hk0
  refine ⟨?_, ?_, c2.2.2.1.put z oq (Nat.le_add_right _ _), c2.2.2.2⟩
  · rw [← wsOf_set hk hl hw hm rfl]
    exact c2.1.set (wsOf_D b0 cA (w, m)) (wsOf_at (h := (w, m)) hk1) hat oq
  · rw [z]
    show H.size = b0 + w'.length
    rw [hl]
    exact c2.2.1
theorem G_iald {M : MD} {d mc ms pc : Nat} {ls st : List PV} {w : List KD} {m : Nat → Nat → Int} {Q : Ps} {a n : Nat} {i : Int} {rs : List Int} (hd : decode M.2.1 pc = .ok (.iaload, 1)) (hw : w[a]? = some (1, n, rs)) (hi : 0 ≤ i ∧ i < n) (hn : n < 2147483648) (k : G M d mc ms (pc + 1) ls (iV (m a i.toNat) :: st) (w, m) Q) : G M d mc ms pc ls (iV i :: rV a :: st) (w, m) Q := by
  intro l b0 D cA X p e R s mm args below meth c H locs cells slots ls' c1 c2
  have k1 := k l b0 D cA X p e R s mm args below meth c H locs cells slots ls' c1 c2
  refine va_iald c1.hx c1.hb c1.hK c2.1 a 0 (wsOf_at (h := (w, m)) hw) rfl (oi_in hi hn) hd ?_
  rw [oi_nat hi.1 (by omega)]
  exact k1
theorem G_bald {M : MD} {d mc ms pc : Nat} {ls st : List PV} {w : List KD} {m : Nat → Nat → Int} {Q : Ps} {a n : Nat} {i : Int} {rs : List Int} (hd : decode M.2.1 pc = .ok (.baload, 1)) (hw : w[a]? = some (2, n, rs)) (hi : 0 ≤ i ∧ i < n) (hn : n < 2147483648) (k : G M d mc ms (pc + 1) ls (iV (m a i.toNat) :: st) (w, m) Q) : G M d mc ms pc ls (iV i :: rV a :: st) (w, m) Q := by
  intro l b0 D cA X p e R s mm args below meth c H locs cells slots ls' c1 c2
  have k1 := k l b0 D cA X p e R s mm args below meth c H locs cells slots ls' c1 c2
  refine va_bald c1.hx c1.hb c1.hK c2.1 a 1 (wsOf_at (h := (w, m)) hw) rfl (oi_in hi hn) hd ?_
  rw [oi_nat hi.1 (by omega)]
  exact k1
theorem G_sald {M : MD} {d mc ms pc : Nat} {ls st : List PV} {w : List KD} {m : Nat → Nat → Int} {Q : Ps} {a n : Nat} {i : Int} {rs : List Int} (hd : decode M.2.1 pc = .ok (.saload, 1)) (hw : w[a]? = some (3, n, rs)) (hi : 0 ≤ i ∧ i < n) (hn : n < 2147483648) (k : G M d mc ms (pc + 1) ls (iV (m a i.toNat) :: st) (w, m) Q) : G M d mc ms pc ls (iV i :: rV a :: st) (w, m) Q := by
  intro l b0 D cA X p e R s mm args below meth c H locs cells slots ls' c1 c2
  have k1 := k l b0 D cA X p e R s mm args below meth c H locs cells slots ls' c1 c2
  refine va_sald c1.hx c1.hb c1.hK c2.1 a 2 (wsOf_at (h := (w, m)) hw) rfl (oi_in hi hn) hd ?_
  rw [oi_nat hi.1 (by omega)]
  exact k1
theorem G_zald {M : MD} {d mc ms pc : Nat} {ls st : List PV} {w : List KD} {m : Nat → Nat → Int} {Q : Ps} {a n : Nat} {i : Int} {rs : List Int} (hd : decode M.2.1 pc = .ok (.baload, 1)) (hw : w[a]? = some (4, n, rs)) (hi : 0 ≤ i ∧ i < n) (hn : n < 2147483648) (k : G M d mc ms (pc + 1) ls (iV (m a i.toNat) :: st) (w, m) Q) : G M d mc ms pc ls (iV i :: rV a :: st) (w, m) Q := by
  intro l b0 D cA X p e R s mm args below meth c H locs cells slots ls' c1 c2
  have k1 := k l b0 D cA X p e R s mm args below meth c H locs cells slots ls' c1 c2
  refine va_zald c1.hx c1.hb c1.hK c2.1 a 3 (wsOf_at (h := (w, m)) hw) rfl (oi_in hi hn) hd ?_
  rw [oi_nat hi.1 (by omega)]
  exact k1
theorem G_lald {M : MD} {d mc ms pc : Nat} {ls st : List PV} {w : List KD} {m : Nat → Nat → Int} {Q : Ps} {a n : Nat} {i : Int} {rs : List Int} (hd : decode M.2.1 pc = .ok (.laload, 1)) (hw : w[a]? = some (5, n, rs)) (hi : 0 ≤ i ∧ i < n) (hn : n < 2147483648) (k : G M d mc ms (pc + 1) ls (lV (m a i.toNat) :: st) (w, m) Q) : G M d mc ms pc ls (iV i :: rV a :: st) (w, m) Q := by
  intro l b0 D cA X p e R s mm args below meth c H locs cells slots ls' c1 c2
  have k1 := k l b0 D cA X p e R s mm args below meth c H locs cells slots ls' c1 c2
  refine va_lald c1.hx c1.hb c1.hK c2.1 a 4 (wsOf_at (h := (w, m)) hw) rfl (oi_in hi hn) hd ?_
  rw [oi_nat hi.1 (by omega)]
  exact k1
theorem narB {x : Int} (hx : -128 ≤ x ∧ x < 128) : narrow .byte (.int (Int32.ofInt x)) = .int (Int32.ofInt x) := by
  rw [narrow_byte]
  congr 1
  rw [← Int32.toInt_inj, Int8.toInt_toInt32, Int32.toInt_toInt8, oi_toInt (by omega)]
  exact Int.bmod_eq_of_le (by omega) (by omega)
theorem narS {x : Int} (hx : -32768 ≤ x ∧ x < 32768) : narrow .short (.int (Int32.ofInt x)) = .int (Int32.ofInt x) := by
  rw [narrow_short]
  congr 1
  rw [← Int32.toInt_inj, Int16.toInt_toInt32, Int32.toInt_toInt16, oi_toInt (by omega)]
  exact Int.bmod_eq_of_le (by omega) (by omega)
theorem narZ {x : Int} (hx : 0 ≤ x ∧ x < 2) : narrow .boolean (.int (Int32.ofInt x)) = .int (Int32.ofInt x) := by
  rcases (show x = 0 ∨ x = 1 by omega) with rfl | rfl <;> rfl
theorem G_iast {M : MD} {d mc ms pc : Nat} {ls st : List PV} {w : List KD} {m : Nat → Nat → Int} {Q : Ps} {a n : Nat} {i x : Int} {rs : List Int} (hd : decode M.2.1 pc = .ok (.iastore, 1)) (hw : w[a]? = some (1, n, rs)) (hi : 0 ≤ i ∧ i < n) (hn : n < 2147483648)  (k : G M d mc ms (pc + 1) ls st (w, upm m a i.toNat x) Q) : G M d mc ms pc ls (iV x :: iV i :: rV a :: st) (w, m) Q := by
  intro l b0 D cA X p e R s mm args below meth c H locs cells slots ls' c1 c2
  have ha := wsOf_at (b0 := b0) (cA := cA) (h := (w, m)) hw
  refine W.iast c1.hx c1.hb (c2.1 a _ ha) ((c1.hK.2 0 _ rfl).1 n (fun j => .int (Int32.ofInt (m a j)))) (fun q => by cases q) (by show ¬ (_ ∨ (arrV _ _ _).slots.size ≤ _); rw [arrV_size]; exact oi_in hi hn) rfl rfl hd fun H1 e1 z oq => ?_
  refine k l b0 D cA X p e R s mm args below meth c H1 _ cells slots ls' c1 (c2.put (List.getElem?_eq_some_iff.mp hw).1 hw rfl (fun _ _ => rfl) (fun a' h => upm_off m x h) z oq ?_)
  show H1[b0 + a]? = some (arrV _ _ (fun j => .int (Int32.ofInt (upm m a i.toNat x a j))))
  rw [e1, oi_nat hi.1 (by omega)]
  show some ((arrV _ _ (fun j => .int (Int32.ofInt (m a j)))).setSlot _ _) = _
  rw [arrV_store, updV_upm (fun z => .int (Int32.ofInt z))]
theorem G_bast {M : MD} {d mc ms pc : Nat} {ls st : List PV} {w : List KD} {m : Nat → Nat → Int} {Q : Ps} {a n : Nat} {i x : Int} {rs : List Int} (hd : decode M.2.1 pc = .ok (.bastore, 1)) (hw : w[a]? = some (2, n, rs)) (hi : 0 ≤ i ∧ i < n) (hn : n < 2147483648) (hx : -128 ≤ x ∧ x < 128) (k : G M d mc ms (pc + 1) ls st (w, upm m a i.toNat x) Q) : G M d mc ms pc ls (iV x :: iV i :: rV a :: st) (w, m) Q := by
  intro l b0 D cA X p e R s mm args below meth c H locs cells slots ls' c1 c2
  have ha := wsOf_at (b0 := b0) (cA := cA) (h := (w, m)) hw
  refine W.bast c1.hx c1.hb (c2.1 a _ ha) ((c1.hK.2 1 _ rfl).1 n (fun j => .int (Int32.ofInt (m a j)))) (fun q => by cases q) (by show ¬ (_ ∨ (arrV _ _ _).slots.size ≤ _); rw [arrV_size]; exact oi_in hi hn) rfl rfl hd fun H1 e1 z oq => ?_
  refine k l b0 D cA X p e R s mm args below meth c H1 _ cells slots ls' c1 (c2.put (List.getElem?_eq_some_iff.mp hw).1 hw rfl (fun _ _ => rfl) (fun a' h => upm_off m x h) z oq ?_)
  show H1[b0 + a]? = some (arrV _ _ (fun j => .int (Int32.ofInt (upm m a i.toNat x a j))))
  rw [e1, oi_nat hi.1 (by omega), narB hx]
  show some ((arrV _ _ (fun j => .int (Int32.ofInt (m a j)))).setSlot _ _) = _
  rw [arrV_store, updV_upm (fun z => .int (Int32.ofInt z))]
theorem G_sast {M : MD} {d mc ms pc : Nat} {ls st : List PV} {w : List KD} {m : Nat → Nat → Int} {Q : Ps} {a n : Nat} {i x : Int} {rs : List Int} (hd : decode M.2.1 pc = .ok (.sastore, 1)) (hw : w[a]? = some (3, n, rs)) (hi : 0 ≤ i ∧ i < n) (hn : n < 2147483648) (hx : -32768 ≤ x ∧ x < 32768) (k : G M d mc ms (pc + 1) ls st (w, upm m a i.toNat x) Q) : G M d mc ms pc ls (iV x :: iV i :: rV a :: st) (w, m) Q := by
  intro l b0 D cA X p e R s mm args below meth c H locs cells slots ls' c1 c2
  have ha := wsOf_at (b0 := b0) (cA := cA) (h := (w, m)) hw
  refine W.sast c1.hx c1.hb (c2.1 a _ ha) ((c1.hK.2 2 _ rfl).1 n (fun j => .int (Int32.ofInt (m a j)))) (fun q => by cases q) (by show ¬ (_ ∨ (arrV _ _ _).slots.size ≤ _); rw [arrV_size]; exact oi_in hi hn) rfl rfl hd fun H1 e1 z oq => ?_
  refine k l b0 D cA X p e R s mm args below meth c H1 _ cells slots ls' c1 (c2.put (List.getElem?_eq_some_iff.mp hw).1 hw rfl (fun _ _ => rfl) (fun a' h => upm_off m x h) z oq ?_)
  show H1[b0 + a]? = some (arrV _ _ (fun j => .int (Int32.ofInt (upm m a i.toNat x a j))))
  rw [e1, oi_nat hi.1 (by omega), narS hx]
  show some ((arrV _ _ (fun j => .int (Int32.ofInt (m a j)))).setSlot _ _) = _
  rw [arrV_store, updV_upm (fun z => .int (Int32.ofInt z))]
theorem G_zast {M : MD} {d mc ms pc : Nat} {ls st : List PV} {w : List KD} {m : Nat → Nat → Int} {Q : Ps} {a n : Nat} {i x : Int} {rs : List Int} (hd : decode M.2.1 pc = .ok (.bastore, 1)) (hw : w[a]? = some (4, n, rs)) (hi : 0 ≤ i ∧ i < n) (hn : n < 2147483648) (hx : 0 ≤ x ∧ x < 2) (k : G M d mc ms (pc + 1) ls st (w, upm m a i.toNat x) Q) : G M d mc ms pc ls (iV x :: iV i :: rV a :: st) (w, m) Q := by
  intro l b0 D cA X p e R s mm args below meth c H locs cells slots ls' c1 c2
  have ha := wsOf_at (b0 := b0) (cA := cA) (h := (w, m)) hw
  refine W.zast c1.hx c1.hb (c2.1 a _ ha) ((c1.hK.2 3 _ rfl).1 n (fun j => .int (Int32.ofInt (m a j)))) (fun q => by cases q) (by show ¬ (_ ∨ (arrV _ _ _).slots.size ≤ _); rw [arrV_size]; exact oi_in hi hn) rfl rfl hd fun H1 e1 z oq => ?_
  refine k l b0 D cA X p e R s mm args below meth c H1 _ cells slots ls' c1 (c2.put (List.getElem?_eq_some_iff.mp hw).1 hw rfl (fun _ _ => rfl) (fun a' h => upm_off m x h) z oq ?_)
  show H1[b0 + a]? = some (arrV _ _ (fun j => .int (Int32.ofInt (upm m a i.toNat x a j))))
  rw [e1, oi_nat hi.1 (by omega), narZ hx]
  show some ((arrV _ _ (fun j => .int (Int32.ofInt (m a j)))).setSlot _ _) = _
  rw [arrV_store, updV_upm (fun z => .int (Int32.ofInt z))]
theorem G_last {M : MD} {d mc ms pc : Nat} {ls st : List PV} {w : List KD} {m : Nat → Nat → Int} {Q : Ps} {a n : Nat} {i x : Int} {rs : List Int} (hd : decode M.2.1 pc = .ok (.lastore, 1)) (hw : w[a]? = some (5, n, rs)) (hi : 0 ≤ i ∧ i < n) (hn : n < 2147483648)  (k : G M d mc ms (pc + 1) ls st (w, upm m a i.toNat x) Q) : G M d mc ms pc ls (lV x :: iV i :: rV a :: st) (w, m) Q := by
  intro l b0 D cA X p e R s mm args below meth c H locs cells slots ls' c1 c2
  have ha := wsOf_at (b0 := b0) (cA := cA) (h := (w, m)) hw
  refine W.last c1.hx c1.hb (c2.1 a _ ha) ((c1.hK.2 4 _ rfl).1 n (fun j => .long (Int64.ofInt (m a j)))) (fun q => by cases q) (by show ¬ (_ ∨ (arrV _ _ _).slots.size ≤ _); rw [arrV_size]; exact oi_in hi hn) rfl rfl hd fun H1 e1 z oq => ?_
  refine k l b0 D cA X p e R s mm args below meth c H1 _ cells slots ls' c1 (c2.put (List.getElem?_eq_some_iff.mp hw).1 hw rfl (fun _ _ => rfl) (fun a' h => upm_off m x h) z oq ?_)
  show H1[b0 + a]? = some (arrV _ _ (fun j => .long (Int64.ofInt (upm m a i.toNat x a j))))
  rw [e1, oi_nat hi.1 (by omega)]
  show some ((arrV _ _ (fun j => .long (Int64.ofInt (m a j)))).setSlot _ _) = _
  rw [arrV_store, updV_upm (fun z => .long (Int64.ofInt z))]
theorem G_aald {M : MD} {d mc ms pc : Nat} {ls st : List PV} {w : List KD} {m : Nat → Nat → Int} {Q : Ps} {a n r : Nat} {i : Int} {rs : List Int} (hd : decode M.2.1 pc = .ok (.aaload, 1)) (hw : w[a]? = some (6, n, rs)) (hi : 0 ≤ i ∧ i < n) (hn : n < 2147483648) (hr : rs[i.toNat]? = some (r : Int)) (k : G M d mc ms (pc + 1) ls (rV r :: st) (w, m) Q) : G M d mc ms pc ls (iV i :: rV a :: st) (w, m) Q := by
  intro l b0 D cA X p e R s mm args below meth c H locs cells slots ls' c1 c2
  have ha := wsOf_at (b0 := b0) (cA := cA) (h := (w, m)) hw
  refine W.aald (v := .ref (b0 + r)) (ty := .array .int) c1.hx c1.hb (c2.1 a _ ha) ((c1.hK.2 5 _ rfl).1 n (fun j => va_rf (rfO b0 (rs.getD j (-1))))) rfl (fun q => by cases q) (by show ¬ (_ ∨ (arrV _ _ _).slots.size ≤ _); rw [arrV_size]; exact oi_in hi hn) ?_ rfl rfl hd (k l b0 D cA X p e R s mm args below meth c H locs cells slots ls' c1 c2)
  show (arrV _ _ _).slots[_]? = _
  rw [oi_nat hi.1 (by omega), arrV_read _ _ (show i.toNat < n by omega)]
  show some (va_rf (rfO b0 (rs.getD i.toNat (-1)))) = _
  rw [List.getD_eq_getElem?_getD, hr, Option.getD_some, rfO_nat]
  rfl
theorem G_alen1 {M : MD} {d mc ms pc : Nat} {ls st : List PV} {w : List KD} {m : Nat → Nat → Int} {Q : Ps} {a n : Nat} {rs : List Int} (hd : decode M.2.1 pc = .ok (.arraylength, 1)) (hw : w[a]? = some (1, n, rs)) (k : G M d mc ms (pc + 1) ls (iV (n : Int) :: st) (w, m) Q) : G M d mc ms pc ls (rV a :: st) (w, m) Q := by
  intro l b0 D cA X p e R s mm args below meth c H locs cells slots ls' c1 c2
  exact va_alen c1.hx c1.hb c1.hK c2.1 a 0 (wsOf_at (h := (w, m)) hw) rfl (v := Int32.ofInt (n : Int)) (Int32.ofInt_eq_ofNat).symm hd (k l b0 D cA X p e R s mm args below meth c H locs cells slots ls' c1 c2)
theorem G_alen2 {M : MD} {d mc ms pc : Nat} {ls st : List PV} {w : List KD} {m : Nat → Nat → Int} {Q : Ps} {a n : Nat} {rs : List Int} (hd : decode M.2.1 pc = .ok (.arraylength, 1)) (hw : w[a]? = some (2, n, rs)) (k : G M d mc ms (pc + 1) ls (iV (n : Int) :: st) (w, m) Q) : G M d mc ms pc ls (rV a :: st) (w, m) Q := by
  intro l b0 D cA X p e R s mm args below meth c H locs cells slots ls' c1 c2
  exact va_alen c1.hx c1.hb c1.hK c2.1 a 1 (wsOf_at (h := (w, m)) hw) rfl (v := Int32.ofInt (n : Int)) (Int32.ofInt_eq_ofNat).symm hd (k l b0 D cA X p e R s mm args below meth c H locs cells slots ls' c1 c2)
theorem G_alen3 {M : MD} {d mc ms pc : Nat} {ls st : List PV} {w : List KD} {m : Nat → Nat → Int} {Q : Ps} {a n : Nat} {rs : List Int} (hd : decode M.2.1 pc = .ok (.arraylength, 1)) (hw : w[a]? = some (3, n, rs)) (k : G M d mc ms (pc + 1) ls (iV (n : Int) :: st) (w, m) Q) : G M d mc ms pc ls (rV a :: st) (w, m) Q := by
  intro l b0 D cA X p e R s mm args below meth c H locs cells slots ls' c1 c2
  exact va_alen c1.hx c1.hb c1.hK c2.1 a 2 (wsOf_at (h := (w, m)) hw) rfl (v := Int32.ofInt (n : Int)) (Int32.ofInt_eq_ofNat).symm hd (k l b0 D cA X p e R s mm args below meth c H locs cells slots ls' c1 c2)
theorem G_alen4 {M : MD} {d mc ms pc : Nat} {ls st : List PV} {w : List KD} {m : Nat → Nat → Int} {Q : Ps} {a n : Nat} {rs : List Int} (hd : decode M.2.1 pc = .ok (.arraylength, 1)) (hw : w[a]? = some (4, n, rs)) (k : G M d mc ms (pc + 1) ls (iV (n : Int) :: st) (w, m) Q) : G M d mc ms pc ls (rV a :: st) (w, m) Q := by
  intro l b0 D cA X p e R s mm args below meth c H locs cells slots ls' c1 c2
  exact va_alen c1.hx c1.hb c1.hK c2.1 a 3 (wsOf_at (h := (w, m)) hw) rfl (v := Int32.ofInt (n : Int)) (Int32.ofInt_eq_ofNat).symm hd (k l b0 D cA X p e R s mm args below meth c H locs cells slots ls' c1 c2)
theorem G_alen5 {M : MD} {d mc ms pc : Nat} {ls st : List PV} {w : List KD} {m : Nat → Nat → Int} {Q : Ps} {a n : Nat} {rs : List Int} (hd : decode M.2.1 pc = .ok (.arraylength, 1)) (hw : w[a]? = some (5, n, rs)) (k : G M d mc ms (pc + 1) ls (iV (n : Int) :: st) (w, m) Q) : G M d mc ms pc ls (rV a :: st) (w, m) Q := by
  intro l b0 D cA X p e R s mm args below meth c H locs cells slots ls' c1 c2
  exact va_alen c1.hx c1.hb c1.hK c2.1 a 4 (wsOf_at (h := (w, m)) hw) rfl (v := Int32.ofInt (n : Int)) (Int32.ofInt_eq_ofNat).symm hd (k l b0 D cA X p e R s mm args below meth c H locs cells slots ls' c1 c2)
theorem G_alen6 {M : MD} {d mc ms pc : Nat} {ls st : List PV} {w : List KD} {m : Nat → Nat → Int} {Q : Ps} {a n : Nat} {rs : List Int} (hd : decode M.2.1 pc = .ok (.arraylength, 1)) (hw : w[a]? = some (6, n, rs)) (k : G M d mc ms (pc + 1) ls (iV (n : Int) :: st) (w, m) Q) : G M d mc ms pc ls (rV a :: st) (w, m) Q := by
  intro l b0 D cA X p e R s mm args below meth c H locs cells slots ls' c1 c2
  exact va_alen c1.hx c1.hb c1.hK c2.1 a 5 (wsOf_at (h := (w, m)) hw) rfl (v := Int32.ofInt (n : Int)) (Int32.ofInt_eq_ofNat).symm hd (k l b0 D cA X p e R s mm args below meth c H locs cells slots ls' c1 c2)
theorem G_scr {M : MD} {d mc ms pc : Nat} {ls st : List PV} {w : List KD} {m : Nat → Nat → Int} {Q : Ps} (xa L : Nat) (xs : Nat → Int32) {i : Int} (hd : decode M.2.1 pc = .ok (.iaload, 1)) (hi : 0 ≤ i ∧ i < L) (hn : L < 2147483648) (k : G M d mc ms (pc + 1) ls (iV (xs i.toNat).toInt :: st) (w, m) Q) : ∀ l b0 D cA X p e R s mm args below meth c H locs cells slots ls', X = (xa, L, xs) → C1 M d mc ms b0 D cA X p R s mm args meth c cells slots → C2 M b0 D cA (w, m) s.heap H locs ls ls' → W p l e R s mm args below meth c H locs cells slots (MQ below (QcM b0 D cA X Q) args s (cells + mc) (slots + ms) (fun q => b0 ≤ q)) (F0 mm pc ls' ((iV i :: vV (.ref xa) :: st).map (enc b0))) := by
  intro l b0 D cA X p e R s mm args below meth c H locs cells slots ls' hXe c1 c2
  have k1 := k l b0 D cA X p e R s mm args below meth c H locs cells slots ls' c1 c2
  subst hXe
  have hX : va_X xa L xs s s.heap := c1.hX
  have hXb : xa < b0 := c1.hXb
  refine va_sld c1.hx c1.hb hX (Nat.lt_of_lt_of_le hXb c1.hb0) (A := fun q => b0 ≤ q) (by show ¬ b0 ≤ xa; have : xa < b0 := hXb; omega) c2.2.2.1 (oi_in hi hn) hd ?_
  rw [oi_nat hi.1 (by omega), ← oi_eta (xs i.toNat)]
  exact k1
def CLk (ci : Nat) (C : String) (T : u_T) (N : Nat) : Prop := vwCl[ci]? = some (C, T, N) ∧ (∀ x ∈ u_ws C T N, x ∈ lwg) ∧ N = nOfC ci ∧ (∀ k, k < N → parseFieldDescriptor (T k).2.2.1 = some (tyOf ci k)) ∧ (∀ a, a < N → ∀ b, b < N → a ≠ b → (T a).2.1 ≠ (T b).2.1) ∧ ∀ k, k < N → (T k).1 = C
def FLr (own : String) (idx ci k : Nat) : Prop := ∃ C T N, CLk ci C T N ∧ k < N ∧ Cond.fieldLink own idx (T k).1 (T k).2.1 (T k).2.2.1 ∈ lwg
def FLk (own : String) (idx ci k : Nat) (fin : Bool) : Prop := ∃ C T N, CLk ci C T N ∧ k < N ∧ Cond.fieldLink own idx (T k).1 (T k).2.1 (T k).2.2.1 ∈ lwg ∧ (T k).2.2.2 = fin ∧ (fin = true → C = own)
theorem FLk.r {own : String} {idx ci k : Nat} {fin : Bool} (h : FLk own idx ci k fin) : FLr own idx ci k := by
  obtain ⟨C, T, N, h1, h2, h3, -⟩ := h
  exact ⟨C, T, N, h1, h2, h3⟩
def isI (ty : FieldType) : Bool := match ty with
  | .int => true
  | .boolean => true
  | _ => false
def isR (ty : FieldType) : Bool := match ty with
  | .object _ => true
  | .array _ => true
  | _ => false
theorem fVal_I {b0 : Nat} {ty : FieldType} {x r : Int} (h : isI ty = true) : fVal b0 ty x r = .int (Int32.ofInt x) := by
  cases ty <;> first | rfl | (simp [isI] at h)
theorem fVal_R {b0 : Nat} {ty : FieldType} {x r : Int} (h : isR ty = true) : fVal b0 ty x r = va_rf (rfO b0 r) := by
  cases ty <;> first | rfl | (simp [isR] at h)
theorem objF_at {b0 : Nat} {m : Nat → Nat → Int} {a ci k : Nat} {rs : List Int} (hk : k < nOfC ci) : (objF b0 m a ci rs)[k]? = some (fVal b0 (tyOf ci k) (m a k) (rs.getD k (-1))) := by
  unfold objF
  rw [List.getElem?_map, List.getElem?_range hk]
  rfl
theorem objF_len (b0 : Nat) (m : Nat → Nat → Int) (a ci : Nat) (rs : List Int) : (objF b0 m a ci rs).length = nOfC ci := by simp [objF]
theorem G_getI {M : MD} {d mc ms pc : Nat} {ls st : List PV} {w : List KD} {m : Nat → Nat → Int} {Q : Ps} {o ci f idx : Nat} {rs : List Int} (hF : FLr M.1.cls idx ci f) (hd : decode M.2.1 pc = .ok (.getfield idx, 3)) (hw : w[o]? = some (0, ci, rs)) (hty : isI (tyOf ci f) = true) (k : G M d mc ms (pc + 3) ls (iV (m o f) :: st) (w, m) Q) : G M d mc ms pc ls (rV o :: st) (w, m) Q := by
  intro l b0 D cA X p e R s mm args below meth c H locs cells slots ls' c1 c2
  obtain ⟨C, T, N, ⟨hc, hin, hN, hp, hnm, hT⟩, hk, hl⟩ := hF
  have k1 := k l b0 D cA X p e R s mm args below meth c H locs cells slots ls' c1 c2
  refine va_get (v := .int (Int32.ofInt (m o f))) c1.hx c1.hb c1.hts hin c1.hown c1.hK c2.1 o (wsOf_at (h := (w, m)) hw) hc f hk (c1.hts _ hl) (fun _ h => h) ?_ hd k1
  rw [objF_at (by rw [← hN]; exact hk), fVal_I hty]
theorem G_getR {M : MD} {d mc ms pc : Nat} {ls st : List PV} {w : List KD} {m : Nat → Nat → Int} {Q : Ps} {o ci f idx r : Nat} {rs : List Int} (hF : FLr M.1.cls idx ci f) (hd : decode M.2.1 pc = .ok (.getfield idx, 3)) (hw : w[o]? = some (0, ci, rs)) (hty : isR (tyOf ci f) = true) (hr : rs[f]? = some (r : Int)) (k : G M d mc ms (pc + 3) ls (rV r :: st) (w, m) Q) : G M d mc ms pc ls (rV o :: st) (w, m) Q := by
  intro l b0 D cA X p e R s mm args below meth c H locs cells slots ls' c1 c2
  obtain ⟨C, T, N, ⟨hc, hin, hN, hp, hnm, hT⟩, hk, hl⟩ := hF
  have k1 := k l b0 D cA X p e R s mm args below meth c H locs cells slots ls' c1 c2
  refine va_get (v := .ref (b0 + r)) c1.hx c1.hb c1.hts hin c1.hown c1.hK c2.1 o (wsOf_at (h := (w, m)) hw) hc f hk (c1.hts _ hl) (fun _ h => h) ?_ hd k1
  rw [objF_at (by rw [← hN]; exact hk), fVal_R hty, List.getD_eq_getElem?_getD, hr, Option.getD_some, rfO_nat]
  rfl
theorem objF_set {b0 : Nat} {m m' : Nat → Nat → Int} {a ci k : Nat} {rs rs' : List Int} {v : Value} (hk : k < nOfC ci) (hv : fVal b0 (tyOf ci k) (m' a k) (rs'.getD k (-1)) = v) (ho : ∀ j, j ≠ k → m' a j = m a j ∧ rs'.getD j (-1) = rs.getD j (-1)) : (objF b0 m a ci rs).set k v = objF b0 m' a ci rs' := by
  apply List.ext_getElem?
  intro i
  rw [List.getElem?_set]
  by_cases hi : k = i
  · subst hi
    rw [if_pos rfl, objF_len, if_pos hk, objF_at hk, hv]
  · rw [if_neg hi]
    by_cases hl : i < nOfC ci
    · rw [objF_at hl, objF_at hl, (ho i (fun e => hi e.symm)).1, (ho i (fun e => hi e.symm)).2]
    · rw [List.getElem?_eq_none (by rw [objF_len]; omega), List.getElem?_eq_none (by rw [objF_len]; omega)]
theorem fits_I {ty : FieldType} {x : Int} (h : isI ty = true) (hx : ty = .boolean → 0 ≤ x ∧ x < 2) : fits ty (.int (Int32.ofInt x)) = true := by
  cases ty with
  | int => rfl
  | boolean => rcases (show x = 0 ∨ x = 1 by have := hx rfl; omega) with rfl | rfl <;> rfl
  | _ => simp [isI] at h
theorem fits_R {ty : FieldType} {a : Nat} (h : isR ty = true) : fits ty (.ref a) = true := by
  cases ty <;> first | rfl | (simp [isR] at h)
theorem nar_R {ty : FieldType} {a : Nat} (h : isR ty = true) : narrow ty (.ref a) = .ref a := by
  cases ty <;> first | rfl | (simp [isR] at h)
theorem nar_I {ty : FieldType} {x : Int} (h : isI ty = true) (hx : ty = .boolean → 0 ≤ x ∧ x < 2) : narrow ty (.int (Int32.ofInt x)) = .int (Int32.ofInt x) := by
  cases ty with
  | int => rfl
  | boolean => exact narZ (hx rfl)
  | _ => simp [isI] at h
theorem G_putI {M : MD} {d mc ms pc : Nat} {ls st : List PV} {w : List KD} {m : Nat → Nat → Int} {Q : Ps} {o ci f idx : Nat} {x : Int} {rs : List Int} (hF : FLk M.1.cls idx ci f false) (hd : decode M.2.1 pc = .ok (.putfield idx, 3)) (hw : w[o]? = some (0, ci, rs)) (hty : isI (tyOf ci f) = true) (hx : tyOf ci f = .boolean → 0 ≤ x ∧ x < 2) (k : G M d mc ms (pc + 3) ls st (w, upm m o f x) Q) : G M d mc ms pc ls (iV x :: rV o :: st) (w, m) Q := by
  intro l b0 D cA X p e R s mm args below meth c H locs cells slots ls' c1 c2
  obtain ⟨C, T, N, ⟨hc, hin, hN, hp, hnm, hT⟩, hk, hl, hfin, -⟩ := hF
  have hts := c1.hts
  have ha := wsOf_at (b0 := b0) (cA := cA) (h := (w, m)) hw
  have hap := va_apart (own := M.1.cls) hts hin (tyOf ci) hp hnm c1.hK hc
  obtain ⟨r, h1, cell, q1, q2, q3, q4⟩ := c2.1 o _ ha
  have hr : r = (C, T, N) := Option.some.inj (h1.symm.trans hc)
  subst hr
  obtain ⟨hS, hfc, kC, hkC, hkind⟩ := c1.hK.1 ci _ hc
  obtain ⟨cf, kf, fi, fl, hi, hsl⟩ := hS f hk
  have hlay := hts _ (hin _ (u_in_lay hk))
  unfold u_lay at hlay
  rw [if_neg (by rw [hfin]; decide)] at hlay
  have hst := (u_facts hfc hkC (u_lays hts hin hk) hi).1
  have h6 := u_store hfc hkC hkind hlay hi (hp f hk) (nar_I hty hx) (fits_I hty hx)
  refine W.putK c1.hx c1.hb (f := fl) ⟨c1.hown, hts _ hl, ⟨_, _, _, hi⟩, hst⟩ (by rw [q2]; exact h6) q1 q3 (by rw [hsl]; exact k2_hasslot (q4 f hk)) rfl rfl hd fun H1 e1 z oq => ?_
  rw [hsl] at e1 ⊢
  refine k l b0 D cA X p e R s mm args below meth c H1 _ cells slots ls' c1 (c2.put (List.getElem?_eq_some_iff.mp hw).1 hw rfl (fun _ _ => rfl) (fun a' h => upm_off m x h) z oq ?_)
  refine ⟨(C, T, N), hc, ?_⟩
  refine t_OB.to (V := updV (vp_V (objF b0 m o ci rs)) f (.int (Int32.ofInt x))) ⟨_, e1, q2, q3, t_set q4 hap hk _⟩ (fun j hj => ?_)
  rw [vp_updV_set (by rw [objF_len, ← hN]; exact hk)]
  congr 1
  exact objF_set (by rw [← hN]; exact hk) (by rw [upm_same, fVal_I hty]) (fun j hj => ⟨upm_ne m x (fun _ => hj), rfl⟩)
theorem G_putR {M : MD} {d mc ms pc : Nat} {ls st : List PV} {w : List KD} {m : Nat → Nat → Int} {Q : Ps} {o ci f idx r : Nat} {rs : List Int} (hF : FLk M.1.cls idx ci f true) (hd : decode M.2.1 pc = .ok (.putfield idx, 3)) (hw : w[o]? = some (0, ci, rs)) (hty : isR (tyOf ci f) = true) (hini : M.1.name = "<init>") (hrl : f < rs.length) (k : G M d mc ms (pc + 3) ls st (w.set o (0, ci, rs.set f (r : Int)), m) Q) : G M d mc ms pc ls (rV r :: rV o :: st) (w, m) Q := by
  intro l b0 D cA X p e R s mm args below meth c H locs cells slots ls' c1 c2
  obtain ⟨C, T, N, ⟨hc, hin, hN, hp, hnm, hT⟩, hk, hl, hfin, hCo⟩ := hF
  have hts := c1.hts
  have ha := wsOf_at (b0 := b0) (cA := cA) (h := (w, m)) hw
  have hap := va_apart (own := M.1.cls) hts hin (tyOf ci) hp hnm c1.hK hc
  obtain ⟨r0, h1, cell, q1, q2, q3, q4⟩ := c2.1 o _ ha
  have hr : r0 = (C, T, N) := Option.some.inj (h1.symm.trans hc)
  subst hr
  obtain ⟨hS, hfc, kC, hkC, hkind⟩ := c1.hK.1 ci _ hc
  obtain ⟨cf, kf, fi, fl, hi, hsl⟩ := hS f hk
  have hlay := hts _ (hin _ (u_in_lay hk))
  unfold u_lay at hlay
  rw [if_pos hfin] at hlay
  have hst := (u_facts hfc hkC (u_lays hts hin hk) hi).1
  have hcf : mm.cls = cf := by
    obtain ⟨_, _, c', _, _, _, -, -, hf', -, -, -, hown2, -⟩ := Cond.laysFinal_spec hlay
    have e1 : c' = cf := by have := hi.symm.trans hf'; simp at this; exact this.1.symm
    rw [hT f hk, hCo rfl] at hown2
    rw [← e1]; exact Option.some.inj (c1.hown.symm.trans hown2)
  have h6 := u_fits (v := .ref (b0 + r)) hfc hkC hkind (Or.inr hlay) hi (hp f hk) (nar_R hty) (fits_R hty)
  refine W.putFinK c1.hx c1.hb c1.hown (hts _ hl) hi hst hcf (by rw [c1.hnm]; exact hini) (by rw [q2]; exact h6) q1 q3 (by rw [hsl]; exact k2_hasslot (q4 f hk)) rfl rfl hd fun H1 e1 z oq => ?_
  rw [hsl] at e1 ⊢
  have hol : o < w.length := (List.getElem?_eq_some_iff.mp hw).1
  refine k l b0 D cA X p e R s mm args below meth c H1 _ cells slots ls' c1 (c2.put (kd := (0, ci, rs.set f (r : Int))) hol (by rw [List.getElem?_set, if_pos rfl, if_pos hol]) (by simp) (fun a' h => by rw [List.getElem?_set, if_neg (fun e => h e.symm)]) (fun a' h => rfl) z oq ?_)
  refine ⟨(C, T, N), hc, ?_⟩
  refine t_OB.to (V := updV (vp_V (objF b0 m o ci rs)) f (.ref (b0 + r))) ⟨_, e1, q2, q3, t_set q4 hap hk _⟩ (fun j hj => ?_)
  rw [vp_updV_set (by rw [objF_len, ← hN]; exact hk)]
  congr 1
  refine objF_set (by rw [← hN]; exact hk) ?_ (fun j hj => ⟨rfl, ?_⟩)
  · rw [fVal_R hty, List.getD_eq_getElem?_getD, List.getElem?_set, if_pos rfl, if_pos hrl, Option.getD_some, rfO_nat]
    rfl
  · rw [List.getD_eq_getElem?_getD, List.getD_eq_getElem?_getD, List.getElem?_set, if_neg (fun e => hj e.symm)]
def zer (m : Nat → Nat → Int) (a : Nat) : Nat → Nat → Int := fun a' j => if a' = a then 0 else m a' j
theorem zer_off (m : Nat → Nat → Int) {a a' : Nat} (h : a' ≠ a) : zer m a a' = m a' := by
  funext j
  simp [zer, h]
theorem zer_at (m : Nat → Nat → Int) (a j : Nat) : zer m a a j = 0 := by simp [zer]
theorem fVal_0 {b0 ci k N : Nat} {m : Nat → Nat → Int} (a : Nat) : isI (tyOf ci k) = true ∨ isR (tyOf ci k) = true → defaultValue (tyOf ci k) = fVal b0 (tyOf ci k) (zer m a a k) ((List.replicate N (-1)).getD k (-1)) := by
  have h2 : (List.replicate N (-1 : Int)).getD k (-1) = -1 := by
    rw [List.getD_eq_getElem?_getD, List.getElem?_replicate]
    split <;> rfl
  rw [zer_at, h2]
  intro h
  generalize tyOf ci k = ty at h
  cases ty <;> first | rfl | (simp [isI, isR] at h)
def NWk (own : String) (idx ci : Nat) : Prop := ∃ C T N, CLk ci C T N ∧ Cond.classLink own idx C ∈ lwg ∧ Cond.instantiable C N ∈ lwg ∧ Cond.initialized C ∈ lwg ∧ ∀ k, k < N → isI (tyOf ci k) = true ∨ isR (tyOf ci k) = true
theorem G_new {M : MD} {d mc ms pc : Nat} {ls st : List PV} {w : List KD} {m : Nat → Nat → Int} {Q : Ps} {ci idx N o : Nat} (hN : NWk M.1.cls idx ci) (hd : decode M.2.1 pc = .ok (.new idx, 3)) (hn : nOfC ci = N) (ho : w.length = o) (k : G M d mc ms (pc + 3) ls (rV o :: st) (w ++ [(0, ci, List.replicate N (-1))], zer m o) Q) : G M d (mc + 1) (ms + N) pc ls st (w, m) Q := by
  intro l b0 D cA X p e R s mm args below meth c H locs cells slots ls' c1 c2
  obtain ⟨C, T, N', ⟨hc, hin, hN', hp, hnm, hT⟩, hcl, hins, hini, hty⟩ := hN
  have hts := c1.hts
  have hNN : N' = N := by rw [hN', hn]
  subst hNN
  subst ho
  have hKn := c1.hK.1 ci _ hc
  have hce := c1.hce
  have hsl := c1.hsl
  refine W.newcK c1.hx c1.hb c1.hown (hts _ hcl) (hts _ hins) (hts _ hini) rfl hd (by omega) (by omega) hKn.2.1 rfl fun H1 kC hkC e1 z1 o1 => ?_
  have hH : H.size = b0 + w.length := c2.2.1
  have c1' : C1 M d mc ms b0 D cA X p R s mm args meth c (cells + 1) (slots + N') := ⟨c1.hx, c1.hb, c1.hml, c1.hr, c1.hown, hts, c1.hlk, c1.hnm, c1.hfr, c1.hlo, by omega, by omega, c1.hK, c1.hX, c1.hXb, c1.hb0, c1.hXW⟩
  have k1 := k l b0 D cA X p e R s mm args below meth c H1 locs (cells + 1) (slots + N') ls' c1' ⟨?_, ?_, ?_, c2.2.2.2⟩
  · rw [show cells + 1 + mc = cells + (mc + 1) by omega, show slots + N' + ms = slots + (ms + N') by omega] at k1
    have e0 : enc b0 (rV w.length) = Value.ref H.size := by rw [hH]; rfl
    simp only [List.map_cons, e0] at k1
    exact k1
  · rw [← wsOf_push (w := w) (m := m) (m' := zer m w.length) (kd := (0, ci, List.replicate N' (-1))) (fun a' h => zer_off m (by omega)) rfl]
    refine va_P.app (c2.1.kept (fun k q hq => o1 q.1 (c2.1 k q hq).lt)) (fun k q hq => ?_)
    have hz : k < 1 := (List.getElem?_eq_some_iff.mp hq).1
    rw [show k = 0 by omega] at hq
    cases hq
    refine ⟨(C, T, N'), hc, ?_⟩
    show t_OB (b0 + w.length) _ _ _ _ _
    rw [← hH]
    refine (u_born (tyOf ci) hts hin hKn hkC e1 hp).to (fun j hj => ?_)
    rw [fVal_0 (b0 := b0) (N := N') (m := m) w.length (hty j hj)]
    have e9 : (objF b0 (zer m w.length) w.length ci (List.replicate N' (-1))).getD j .null = fVal b0 (tyOf ci j) (zer m w.length w.length j) ((List.replicate N' (-1)).getD j (-1)) := by
      rw [List.getD_eq_getElem?_getD, objF_at (by rw [← hN']; exact hj)]
      rfl
    exact e9.symm
  · rw [z1, hH]
    simp
    omega
  · exact ⟨Nat.le_trans c2.2.2.1.1 (by omega), fun x h1 h2 => (o1 x (Nat.lt_of_lt_of_le h1 c2.2.2.1.1)).trans (c2.2.2.1.2.1 x h1 h2), c2.2.2.1.2.2⟩
theorem G_newai {M : MD} {d mc ms pc : Nat} {ls st : List PV} {w : List KD} {m : Nat → Nat → Int} {Q : Ps} {n o : Nat} (hd : decode M.2.1 pc = .ok (.newarray .int, 2)) (hw : Cond.arrayClass .int ∈ lwg) (hn : n ≤ 60000) (ho : w.length = o) (k : G M d mc ms (pc + 2) ls (rV o :: st) (w ++ [(1, n, [])], zer m o) Q) : G M d (mc + 1) (ms + n) pc ls (iV (n : Int) :: st) (w, m) Q := by
  intro l b0 D cA X p e R s mm args below meth c H locs cells slots ls' c1 c2
  have hts := c1.hts
  subst ho
  have hce := c1.hce
  have hsl := c1.hsl
  have hnn : (Int32.ofInt (n : Int)).toNatClampNeg = n := by rw [oi_nat (by omega) (by omega)]; rfl
  refine va_newaK c1.hx c1.hb (atype := .int) (hts _ hw) rfl hd rfl (by rw [← oi_0, oi_lt (by omega) (by decide)]; omega) hnn (by show n * _ ≤ _; simp [newarray.typeOf, componentBytes]; omega) (by omega) (by omega) rfl fun H1 cA' e1 z1 o1 hAr hNm => ?_
  have hH : H.size = b0 + w.length := c2.2.1
  have hcA : cA' = cA 0 := by
    have h1 := (c1.hK.2 0 _ rfl).2
    have h2 : s.vm.findClass ("[" ++ FieldType.toString .int) = some (cA 0) := h1
    have h3 : s.vm.findClass ("[" ++ FieldType.toString .int) = some cA' := hNm
    exact Option.some.inj (h3.symm.trans h2)
  subst hcA
  have c1' : C1 M d mc ms b0 D cA X p R s mm args meth c (cells + 1) (slots + n) := ⟨c1.hx, c1.hb, c1.hml, c1.hr, c1.hown, hts, c1.hlk, c1.hnm, c1.hfr, c1.hlo, by omega, by omega, c1.hK, c1.hX, c1.hXb, c1.hb0, c1.hXW⟩
  have k1 := k l b0 D cA X p e R s mm args below meth c H1 locs (cells + 1) (slots + n) ls' c1' ⟨?_, ?_, ?_, c2.2.2.2⟩
  · rw [show cells + 1 + mc = cells + (mc + 1) by omega, show slots + n + ms = slots + (ms + n) by omega] at k1
    have e0 : enc b0 (rV w.length) = Value.ref H.size := by rw [hH]; rfl
    simp only [List.map_cons, e0] at k1
    exact k1
  · rw [← wsOf_push (w := w) (m := m) (m' := zer m w.length) (kd := (1, n, [])) (fun a' h => zer_off m (by omega)) rfl]
    refine va_P.app (c2.1.kept (fun k q hq => o1 q.1 (c2.1 k q hq).lt)) (fun k q hq => ?_)
    have hz : k < 1 := (List.getElem?_eq_some_iff.mp hq).1
    rw [show k = 0 by omega] at hq
    cases hq
    show H1[b0 + w.length]? = some (vp_cell _ _)
    rw [← hH, e1]
    congr 1
    show (arrV (cA 0) n fun _ => defaultValue .int) = arrV (cA 0) n (fun j => .int (Int32.ofInt (zer m w.length w.length j)))
    congr 1
    funext j
    rw [zer_at]
    rfl
  · rw [z1, hH]
    simp
    omega
  · exact ⟨Nat.le_trans c2.2.2.1.1 (by omega), fun x h1 h2 => (o1 x (Nat.lt_of_lt_of_le h1 c2.2.2.1.1)).trans (c2.2.2.1.2.1 x h1 h2), c2.2.2.1.2.2⟩
theorem G_newab {M : MD} {d mc ms pc : Nat} {ls st : List PV} {w : List KD} {m : Nat → Nat → Int} {Q : Ps} {n o : Nat} (hd : decode M.2.1 pc = .ok (.newarray .byte, 2)) (hw : Cond.arrayClass .byte ∈ lwg) (hn : n ≤ 60000) (ho : w.length = o) (k : G M d mc ms (pc + 2) ls (rV o :: st) (w ++ [(2, n, [])], zer m o) Q) : G M d (mc + 1) (ms + n) pc ls (iV (n : Int) :: st) (w, m) Q := by
  intro l b0 D cA X p e R s mm args below meth c H locs cells slots ls' c1 c2
  have hts := c1.hts
  subst ho
  have hce := c1.hce
  have hsl := c1.hsl
  have hnn : (Int32.ofInt (n : Int)).toNatClampNeg = n := by rw [oi_nat (by omega) (by omega)]; rfl
  refine va_newaK c1.hx c1.hb (atype := .byte) (hts _ hw) rfl hd rfl (by rw [← oi_0, oi_lt (by omega) (by decide)]; omega) hnn (by show n * _ ≤ _; simp [newarray.typeOf, componentBytes]; omega) (by omega) (by omega) rfl fun H1 cA' e1 z1 o1 hAr hNm => ?_
  have hH : H.size = b0 + w.length := c2.2.1
  have hcA : cA' = cA 1 := by
    have h1 := (c1.hK.2 1 _ rfl).2
    have h2 : s.vm.findClass ("[" ++ FieldType.toString .byte) = some (cA 1) := h1
    have h3 : s.vm.findClass ("[" ++ FieldType.toString .byte) = some cA' := hNm
    exact Option.some.inj (h3.symm.trans h2)
  subst hcA
  have c1' : C1 M d mc ms b0 D cA X p R s mm args meth c (cells + 1) (slots + n) := ⟨c1.hx, c1.hb, c1.hml, c1.hr, c1.hown, hts, c1.hlk, c1.hnm, c1.hfr, c1.hlo, by omega, by omega, c1.hK, c1.hX, c1.hXb, c1.hb0, c1.hXW⟩
  have k1 := k l b0 D cA X p e R s mm args below meth c H1 locs (cells + 1) (slots + n) ls' c1' ⟨?_, ?_, ?_, c2.2.2.2⟩
  · rw [show cells + 1 + mc = cells + (mc + 1) by omega, show slots + n + ms = slots + (ms + n) by omega] at k1
    have e0 : enc b0 (rV w.length) = Value.ref H.size := by rw [hH]; rfl
    simp only [List.map_cons, e0] at k1
    exact k1
  · rw [← wsOf_push (w := w) (m := m) (m' := zer m w.length) (kd := (2, n, [])) (fun a' h => zer_off m (by omega)) rfl]
    refine va_P.app (c2.1.kept (fun k q hq => o1 q.1 (c2.1 k q hq).lt)) (fun k q hq => ?_)
    have hz : k < 1 := (List.getElem?_eq_some_iff.mp hq).1
    rw [show k = 0 by omega] at hq
    cases hq
    show H1[b0 + w.length]? = some (vp_cell _ _)
    rw [← hH, e1]
    congr 1
    show (arrV (cA 1) n fun _ => defaultValue .byte) = arrV (cA 1) n (fun j => .int (Int32.ofInt (zer m w.length w.length j)))
    congr 1
    funext j
    rw [zer_at]
    rfl
  · rw [z1, hH]
    simp
    omega
  · exact ⟨Nat.le_trans c2.2.2.1.1 (by omega), fun x h1 h2 => (o1 x (Nat.lt_of_lt_of_le h1 c2.2.2.1.1)).trans (c2.2.2.1.2.1 x h1 h2), c2.2.2.1.2.2⟩
theorem G_newas {M : MD} {d mc ms pc : Nat} {ls st : List PV} {w : List KD} {m : Nat → Nat → Int} {Q : Ps} {n o : Nat} (hd : decode M.2.1 pc = .ok (.newarray .short, 2)) (hw : Cond.arrayClass .short ∈ lwg) (hn : n ≤ 60000) (ho : w.length = o) (k : G M d mc ms (pc + 2) ls (rV o :: st) (w ++ [(3, n, [])], zer m o) Q) : G M d (mc + 1) (ms + n) pc ls (iV (n : Int) :: st) (w, m) Q := by
  intro l b0 D cA X p e R s mm args below meth c H locs cells slots ls' c1 c2
  have hts := c1.hts
  subst ho
  have hce := c1.hce
  have hsl := c1.hsl
  have hnn : (Int32.ofInt (n : Int)).toNatClampNeg = n := by rw [oi_nat (by omega) (by omega)]; rfl
  refine va_newaK c1.hx c1.hb (atype := .short) (hts _ hw) rfl hd rfl (by rw [← oi_0, oi_lt (by omega) (by decide)]; omega) hnn (by show n * _ ≤ _; simp [newarray.typeOf, componentBytes]; omega) (by omega) (by omega) rfl fun H1 cA' e1 z1 o1 hAr hNm => ?_
  have hH : H.size = b0 + w.length := c2.2.1
  have hcA : cA' = cA 2 := by
    have h1 := (c1.hK.2 2 _ rfl).2
    have h2 : s.vm.findClass ("[" ++ FieldType.toString .short) = some (cA 2) := h1
    have h3 : s.vm.findClass ("[" ++ FieldType.toString .short) = some cA' := hNm
    exact Option.some.inj (h3.symm.trans h2)
  subst hcA
  have c1' : C1 M d mc ms b0 D cA X p R s mm args meth c (cells + 1) (slots + n) := ⟨c1.hx, c1.hb, c1.hml, c1.hr, c1.hown, hts, c1.hlk, c1.hnm, c1.hfr, c1.hlo, by omega, by omega, c1.hK, c1.hX, c1.hXb, c1.hb0, c1.hXW⟩
  have k1 := k l b0 D cA X p e R s mm args below meth c H1 locs (cells + 1) (slots + n) ls' c1' ⟨?_, ?_, ?_, c2.2.2.2⟩
  · rw [show cells + 1 + mc = cells + (mc + 1) by omega, show slots + n + ms = slots + (ms + n) by omega] at k1
    have e0 : enc b0 (rV w.length) = Value.ref H.size := by rw [hH]; rfl
    simp only [List.map_cons, e0] at k1
    exact k1
  · rw [← wsOf_push (w := w) (m := m) (m' := zer m w.length) (kd := (3, n, [])) (fun a' h => zer_off m (by omega)) rfl]
    refine va_P.app (c2.1.kept (fun k q hq => o1 q.1 (c2.1 k q hq).lt)) (fun k q hq => ?_)
    have hz : k < 1 := (List.getElem?_eq_some_iff.mp hq).1
    rw [show k = 0 by omega] at hq
    cases hq
    show H1[b0 + w.length]? = some (vp_cell _ _)
    rw [← hH, e1]
    congr 1
    show (arrV (cA 2) n fun _ => defaultValue .short) = arrV (cA 2) n (fun j => .int (Int32.ofInt (zer m w.length w.length j)))
    congr 1
    funext j
    rw [zer_at]
    rfl
  · rw [z1, hH]
    simp
    omega
  · exact ⟨Nat.le_trans c2.2.2.1.1 (by omega), fun x h1 h2 => (o1 x (Nat.lt_of_lt_of_le h1 c2.2.2.1.1)).trans (c2.2.2.1.2.1 x h1 h2), c2.2.2.1.2.2⟩
theorem G_newaz {M : MD} {d mc ms pc : Nat} {ls st : List PV} {w : List KD} {m : Nat → Nat → Int} {Q : Ps} {n o : Nat} (hd : decode M.2.1 pc = .ok (.newarray .boolean, 2)) (hw : Cond.arrayClass .boolean ∈ lwg) (hn : n ≤ 60000) (ho : w.length = o) (k : G M d mc ms (pc + 2) ls (rV o :: st) (w ++ [(4, n, [])], zer m o) Q) : G M d (mc + 1) (ms + n) pc ls (iV (n : Int) :: st) (w, m) Q := by
  intro l b0 D cA X p e R s mm args below meth c H locs cells slots ls' c1 c2
  have hts := c1.hts
  subst ho
  have hce := c1.hce
  have hsl := c1.hsl
  have hnn : (Int32.ofInt (n : Int)).toNatClampNeg = n := by rw [oi_nat (by omega) (by omega)]; rfl
  refine va_newaK c1.hx c1.hb (atype := .boolean) (hts _ hw) rfl hd rfl (by rw [← oi_0, oi_lt (by omega) (by decide)]; omega) hnn (by show n * _ ≤ _; simp [newarray.typeOf, componentBytes]; omega) (by omega) (by omega) rfl fun H1 cA' e1 z1 o1 hAr hNm => ?_
  have hH : H.size = b0 + w.length := c2.2.1
  have hcA : cA' = cA 3 := by
    have h1 := (c1.hK.2 3 _ rfl).2
    have h2 : s.vm.findClass ("[" ++ FieldType.toString .boolean) = some (cA 3) := h1
    have h3 : s.vm.findClass ("[" ++ FieldType.toString .boolean) = some cA' := hNm
    exact Option.some.inj (h3.symm.trans h2)
  subst hcA
  have c1' : C1 M d mc ms b0 D cA X p R s mm args meth c (cells + 1) (slots + n) := ⟨c1.hx, c1.hb, c1.hml, c1.hr, c1.hown, hts, c1.hlk, c1.hnm, c1.hfr, c1.hlo, by omega, by omega, c1.hK, c1.hX, c1.hXb, c1.hb0, c1.hXW⟩
  have k1 := k l b0 D cA X p e R s mm args below meth c H1 locs (cells + 1) (slots + n) ls' c1' ⟨?_, ?_, ?_, c2.2.2.2⟩
  · rw [show cells + 1 + mc = cells + (mc + 1) by omega, show slots + n + ms = slots + (ms + n) by omega] at k1
    have e0 : enc b0 (rV w.length) = Value.ref H.size := by rw [hH]; rfl
    simp only [List.map_cons, e0] at k1
    exact k1
  · rw [← wsOf_push (w := w) (m := m) (m' := zer m w.length) (kd := (4, n, [])) (fun a' h => zer_off m (by omega)) rfl]
    refine va_P.app (c2.1.kept (fun k q hq => o1 q.1 (c2.1 k q hq).lt)) (fun k q hq => ?_)
    have hz : k < 1 := (List.getElem?_eq_some_iff.mp hq).1
    rw [show k = 0 by omega] at hq
    cases hq
    show H1[b0 + w.length]? = some (vp_cell _ _)
    rw [← hH, e1]
    congr 1
    show (arrV (cA 3) n fun _ => defaultValue .boolean) = arrV (cA 3) n (fun j => .int (Int32.ofInt (zer m w.length w.length j)))
    congr 1
    funext j
    rw [zer_at]
    rfl
  · rw [z1, hH]
    simp
    omega
  · exact ⟨Nat.le_trans c2.2.2.1.1 (by omega), fun x h1 h2 => (o1 x (Nat.lt_of_lt_of_le h1 c2.2.2.1.1)).trans (c2.2.2.1.2.1 x h1 h2), c2.2.2.1.2.2⟩
theorem G_newal {M : MD} {d mc ms pc : Nat} {ls st : List PV} {w : List KD} {m : Nat → Nat → Int} {Q : Ps} {n o : Nat} (hd : decode M.2.1 pc = .ok (.newarray .long, 2)) (hw : Cond.arrayClass .long ∈ lwg) (hn : n ≤ 60000) (ho : w.length = o) (k : G M d mc ms (pc + 2) ls (rV o :: st) (w ++ [(5, n, [])], zer m o) Q) : G M d (mc + 1) (ms + n) pc ls (iV (n : Int) :: st) (w, m) Q := by
  intro l b0 D cA X p e R s mm args below meth c H locs cells slots ls' c1 c2
  have hts := c1.hts
  subst ho
  have hce := c1.hce
  have hsl := c1.hsl
  have hnn : (Int32.ofInt (n : Int)).toNatClampNeg = n := by rw [oi_nat (by omega) (by omega)]; rfl
  refine va_newaK c1.hx c1.hb (atype := .long) (hts _ hw) rfl hd rfl (by rw [← oi_0, oi_lt (by omega) (by decide)]; omega) hnn (by show n * _ ≤ _; simp [newarray.typeOf, componentBytes]; omega) (by omega) (by omega) rfl fun H1 cA' e1 z1 o1 hAr hNm => ?_
  have hH : H.size = b0 + w.length := c2.2.1
  have hcA : cA' = cA 4 := by
    have h1 := (c1.hK.2 4 _ rfl).2
    have h2 : s.vm.findClass ("[" ++ FieldType.toString .long) = some (cA 4) := h1
    have h3 : s.vm.findClass ("[" ++ FieldType.toString .long) = some cA' := hNm
    exact Option.some.inj (h3.symm.trans h2)
  subst hcA
  have c1' : C1 M d mc ms b0 D cA X p R s mm args meth c (cells + 1) (slots + n) := ⟨c1.hx, c1.hb, c1.hml, c1.hr, c1.hown, hts, c1.hlk, c1.hnm, c1.hfr, c1.hlo, by omega, by omega, c1.hK, c1.hX, c1.hXb, c1.hb0, c1.hXW⟩
  have k1 := k l b0 D cA X p e R s mm args below meth c H1 locs (cells + 1) (slots + n) ls' c1' ⟨?_, ?_, ?_, c2.2.2.2⟩
  · rw [show cells + 1 + mc = cells + (mc + 1) by omega, show slots + n + ms = slots + (ms + n) by omega] at k1
    have e0 : enc b0 (rV w.length) = Value.ref H.size := by rw [hH]; rfl
    simp only [List.map_cons, e0] at k1
    exact k1
  · rw [← wsOf_push (w := w) (m := m) (m' := zer m w.length) (kd := (5, n, [])) (fun a' h => zer_off m (by omega)) rfl]
    refine va_P.app (c2.1.kept (fun k q hq => o1 q.1 (c2.1 k q hq).lt)) (fun k q hq => ?_)
    have hz : k < 1 := (List.getElem?_eq_some_iff.mp hq).1
    rw [show k = 0 by omega] at hq
    cases hq
    show H1[b0 + w.length]? = some (vp_cell _ _)
    rw [← hH, e1]
    congr 1
    show (arrV (cA 4) n fun _ => defaultValue .long) = arrV (cA 4) n (fun j => .long (Int64.ofInt (zer m w.length w.length j)))
    congr 1
    funext j
    rw [zer_at]
    rfl
  · rw [z1, hH]
    simp
    omega
  · exact ⟨Nat.le_trans c2.2.2.1.1 (by omega), fun x h1 h2 => (o1 x (Nat.lt_of_lt_of_le h1 c2.2.2.1.1)).trans (c2.2.2.1.2.1 x h1 h2), c2.2.2.1.2.2⟩
theorem G_iret {M : MD} {d mc ms pc : Nat} {ls st : List PV} {w : List KD} {m : Nat → Nat → Int} {Q : Ps} {x : Int} (hd : decode M.2.1 pc = .ok (.ireturn, 1)) (hr : M.2.2.2 = some .int) (k : Q (some (iV x)) (w, m)) : G M d 0 0 pc ls [iV x] (w, m) Q := by
  intro l b0 D cA X p e R s mm args below meth c H locs cells slots ls' c1 c2
  refine W.iret c1.hx c1.hb (by rw [c1.hr]; exact hr) (fun t ht hW => ⟨⟨some (iV x), (w, m), rfl, k, by rw [ht]; exact c2.1, by rw [ht]; exact c2.2.1, c1.hK.moved hW.alike, (c1.hX.moved hW.alike).kept (by rw [ht]; exact c2.2.2.1.2.1 _ (Nat.lt_of_lt_of_le c1.hXb c1.hb0) (by show ¬ b0 ≤ X.1; have := c1.hXb; omega)), c1.hXb, c1.hXW.moved hW⟩, c2.2.2.1.F ht⟩) c2.2.2.1.2.2 hd c1.hlk
theorem G_zret {M : MD} {d mc ms pc : Nat} {ls st : List PV} {w : List KD} {m : Nat → Nat → Int} {Q : Ps} {x : Int} (hd : decode M.2.1 pc = .ok (.ireturn, 1)) (hr : M.2.2.2 = some .boolean) (hx : 0 ≤ x ∧ x < 2) (k : Q (some (iV x)) (w, m)) : G M d 0 0 pc ls [iV x] (w, m) Q := by
  intro l b0 D cA X p e R s mm args below meth c H locs cells slots ls' c1 c2
  refine W.zret (ty := .boolean) c1.hx c1.hb (by rw [c1.hr]; exact hr) (narZ hx) (fun t ht hW => ⟨⟨some (iV x), (w, m), rfl, k, by rw [ht]; exact c2.1, by rw [ht]; exact c2.2.1, c1.hK.moved hW.alike, (c1.hX.moved hW.alike).kept (by rw [ht]; exact c2.2.2.1.2.1 _ (Nat.lt_of_lt_of_le c1.hXb c1.hb0) (by show ¬ b0 ≤ X.1; have := c1.hXb; omega)), c1.hXb, c1.hXW.moved hW⟩, c2.2.2.1.F ht⟩) c2.2.2.1.2.2 hd c1.hlk
theorem G_lret {M : MD} {d mc ms pc : Nat} {ls st : List PV} {w : List KD} {m : Nat → Nat → Int} {Q : Ps} {x : Int} (hd : decode M.2.1 pc = .ok (.lreturn, 1)) (hr : M.2.2.2 = some .long) (k : Q (some (lV x)) (w, m)) : G M d 0 0 pc ls [lV x] (w, m) Q := by
  intro l b0 D cA X p e R s mm args below meth c H locs cells slots ls' c1 c2
  refine W.lret c1.hx c1.hb (by rw [c1.hr]; exact hr) (fun t ht hW => ⟨⟨some (lV x), (w, m), rfl, k, by rw [ht]; exact c2.1, by rw [ht]; exact c2.2.1, c1.hK.moved hW.alike, (c1.hX.moved hW.alike).kept (by rw [ht]; exact c2.2.2.1.2.1 _ (Nat.lt_of_lt_of_le c1.hXb c1.hb0) (by show ¬ b0 ≤ X.1; have := c1.hXb; omega)), c1.hXb, c1.hXW.moved hW⟩, c2.2.2.1.F ht⟩) c2.2.2.1.2.2 hd c1.hlk
theorem G_aret {M : MD} {d mc ms pc : Nat} {ls st : List PV} {w : List KD} {m : Nat → Nat → Int} {Q : Ps} {x : Nat} (hd : decode M.2.1 pc = .ok (.areturn, 1)) (hr : M.2.2.2 = some (.array .int)) (k : Q (some (rV x)) (w, m)) : G M d 0 0 pc ls [rV x] (w, m) Q := by
  intro l b0 D cA X p e R s mm args below meth c H locs cells slots ls' c1 c2
  refine W.aret c1.hx c1.hb (by rw [c1.hr]; exact hr) (Or.inr ⟨.int, rfl⟩) (Or.inr ⟨_, rfl⟩) (fun t ht hW => ⟨⟨some (rV x), (w, m), rfl, k, by rw [ht]; exact c2.1, by rw [ht]; exact c2.2.1, c1.hK.moved hW.alike, (c1.hX.moved hW.alike).kept (by rw [ht]; exact c2.2.2.1.2.1 _ (Nat.lt_of_lt_of_le c1.hXb c1.hb0) (by show ¬ b0 ≤ X.1; have := c1.hXb; omega)), c1.hXb, c1.hXW.moved hW⟩, c2.2.2.1.F ht⟩) c2.2.2.1.2.2 hd c1.hlk
theorem G_vret {M : MD} {d mc ms pc : Nat} {ls st : List PV} {w : List KD} {m : Nat → Nat → Int} {Q : Ps} (hd : decode M.2.1 pc = .ok (.return_, 1)) (hr : M.2.2.2 = none) (k : Q none (w, m)) : G M d 0 0 pc ls [] (w, m) Q := by
  intro l b0 D cA X p e R s mm args below meth c H locs cells slots ls' c1 c2
  refine W.vret c1.hx c1.hb (by rw [c1.hr]; exact hr) (fun t ht hW => ⟨⟨none, (w, m), rfl, k, by rw [ht]; exact c2.1, by rw [ht]; exact c2.2.1, c1.hK.moved hW.alike, (c1.hX.moved hW.alike).kept (by rw [ht]; exact c2.2.2.1.2.1 _ (Nat.lt_of_lt_of_le c1.hXb c1.hb0) (by show ¬ b0 ≤ X.1; have := c1.hXb; omega)), c1.hXb, c1.hXW.moved hW⟩, c2.2.2.1.F ht⟩) c2.2.2.1.2.2 hd c1.hlk
/-- what a call needs of the words -/
def WG (M' : MD) : Prop := GoodIn lwg (wsM M')
theorem QcM_blind {b0 : Nat} {D : va_G} {cA : Nat → ClassId} {X : Nat × Nat × (Nat → Int32)} {as : List Value} {h : Hp} : FrameBlind (va_Pc as (RelU b0 D cA X h)) := by
  intro a U g mk hq
  obtain ⟨h0, h1, h2, h3, h4, h5, h6⟩ := hq
  exact ⟨h0, h1, h2, va_K.moved (u := U) (U := U.calling g mk a) (Vm.Alike.refl U.vm) h3, va_X.moved (u := U) (U := U.calling g mk a) (Vm.Alike.refl U.vm) h4, h5, XW.moved (u := U) (U := U.calling g mk a) (State.WarmedH.refl U) h6⟩
/-- behind a call that ran -/
theorem G_run {M : MD} {d mc ms mc' ms' pc : Nat} {ls st st0 : List PV} {h : Hp} {Q Q' : Ps} {as : List Value} {l : Launch} {b0 : Nat} {D : va_G} {cA : Nat → ClassId} {X : Nat × Nat × (Nat → Int32)} {p : Program} {e : Env} {R : Room} {s : State} {mm : MethodId} {args : Array Value} {below : List Frame} {meth : Method} {c : Code} {H : Heap} {locs : List Loc} {cells slots : Nat} {ls' : Array Slot}
    (c1 : C1 M d (mc' + mc) (ms' + ms) b0 D cA X p R s mm args meth c cells slots) (c2 : C2 M b0 D cA h s.heap H locs ls ls')
    (hrun : va_Run p l e R s mm args below meth c H locs cells slots mc' ms' (F0 mm pc ls' (st0.map (enc b0))) (st.map (enc b0)) (QcM b0 D cA X Q' as.toArray) (fun q => b0 ≤ q))
    (k : ∀ r h', Q' r h' → G M d mc ms (pc + 3) ls (r.toList ++ st) h' Q) :
    W p l e R s mm args below meth c H locs cells slots (MQ below (QcM b0 D cA X Q) args s (cells + (mc' + mc)) (slots + (ms' + ms)) (fun q => b0 ≤ q)) (F0 mm pc ls' (st0.map (enc b0))) := by
  intro T hT XT
  obtain ⟨v, st₀, t, T', L, h0, X', hL, e1, e2, ⟨⟨r, h', ho, hq, hP', hsz', hK', -, -⟩, hF1, hF2⟩, stp⟩ := hrun T hT XT
  have hce := c1.hce
  have hsl := c1.hsl
  have c1' : C1 M d mc ms b0 D cA X p R s mm args meth c (cells + mc') (slots + ms') := ⟨c1.hx, c1.hb, c1.hml, c1.hr, c1.hown, c1.hts, c1.hlk, c1.hnm, c1.hfr, c1.hlo, by omega, by omega, c1.hK, c1.hX, c1.hXb, c1.hb0, c1.hXW⟩
  have k1 := k r h' hq l b0 D cA X p e R s mm args below meth c T'.heap (locs ++ L) (cells + mc') (slots + ms') ls' c1' ⟨by rw [e1]; exact hP', by rw [e1]; exact hsz', ⟨?_, ?_, ?_⟩, c2.2.2.2⟩
  · rw [show cells + mc' + mc = cells + (mc' + mc) by omega, show slots + ms' + ms = slots + (ms' + ms) by omega] at k1
    have hv : v = r.map (enc b0) := by cases ho; rfl
    have e3 : (r.toList ++ st).map (enc b0) = v.toList ++ st.map (enc b0) := by
      rw [hv]
      cases r <;> rfl
    rw [e3] at k1
    obtain ⟨t2, a1, b1⟩ := k1 T' rfl X'
    exact ⟨t2, stp t2 a1, b1⟩
  · rw [h0] at hF1
    exact Nat.le_trans c2.2.2.1.1 (by rw [e1]; exact hF1)
  · intro q h1 h2
    rw [e1, hF2 q (by rw [h0]; exact Nat.lt_of_lt_of_le h1 c2.2.2.1.1) h2, h0]
    exact c2.2.2.1.2.1 q h1 h2
  · intro q hq2
    rcases List.mem_append.mp hq2 with h | h
    · exact c2.2.2.1.2.2 q h
    · exact hL q h
/-- an instance method: its words -/
def CVk (own : String) (idx : Nat) (M' : MD) (n : Nat) : Prop := GoodIn lwg (wsV own idx M'.1.cls M'.1 (wsM M')) ∧ M'.1.cls ≠ "java/lang/invoke/MethodHandle" ∧ M'.1.cls ≠ "java/lang/invoke/VarHandle" ∧ (parseMethodDescriptor M'.1.desc).map (fun d => d.parameters.length) = some n ∧ M'.2.2.1 ≤ 20
def CSk (own : String) (idx : Nat) (M' : MD) (n : Nat) : Prop := GoodIn lwg (wsM M') ∧ Cond.methodLink own idx M'.1 ∈ lwg ∧ Cond.static M'.1 ∈ lwg ∧ Cond.initialized M'.1.cls ∈ lwg ∧ M'.1.cls ≠ "java/lang/invoke/MethodHandle" ∧ M'.1.cls ≠ "java/lang/invoke/VarHandle" ∧ (parseMethodDescriptor M'.1.desc).map (fun d => d.parameters.length) = some n ∧ M'.2.2.1 ≤ 20
def CIk (own : String) (idx : Nat) (M' : MD) (n : Nat) : Prop := GoodIn lwg (wsM M') ∧ Cond.methodLink own idx M'.1 ∈ lwg ∧ Cond.instanceMethod M'.1 ∈ lwg ∧ Cond.initialized M'.1.cls ∈ lwg ∧ M'.1.name = "<init>" ∧ M'.2.2.2 = none ∧ M'.1.cls ≠ "java/lang/invoke/MethodHandle" ∧ M'.1.cls ≠ "java/lang/invoke/VarHandle" ∧ (parseMethodDescriptor M'.1.desc).map (fun d => d.parameters.length) = some n ∧ M'.2.2.1 ≤ 20
def CNk (own : String) (idx : Nat) (M' : MD) (n : Nat) : Prop := (∃ q ∈ xwN, own = "PathCycle" ∧ idx = q.1 ∧ M'.1 = ⟨q.2, "<init>", "()V"⟩) ∧ GoodIn lwg (wsM M') ∧ Cond.instanceMethod M'.1 ∈ lwg ∧ Cond.initialized M'.1.cls ∈ lwg ∧ M'.1.name = "<init>" ∧ M'.2.2.2 = none ∧ M'.1.cls ≠ "java/lang/invoke/MethodHandle" ∧ M'.1.cls ≠ "java/lang/invoke/VarHandle" ∧ (parseMethodDescriptor M'.1.desc).map (fun d => d.parameters.length) = some n ∧ M'.2.2.1 ≤ 20
theorem room_ok {d d' m20 : Nat} {R : Room} (h20 : m20 ≤ 20) (hd : d' + 1 ≤ d) (h1 : d ≤ R.frames) (h2 : 40 * d ≤ R.locals) (mc ms : Nat) : (roomD d' mc ms).frames + 1 ≤ R.frames ∧ 8 + (m20 + 11) + (roomD d' mc ms).locals ≤ R.locals := by
  refine ⟨Nat.le_trans hd h1, ?_⟩
  show 8 + (m20 + 11) + 40 * d' ≤ R.locals
  omega
def okCat (st : List PV) (b : Nat) : Prop := (st.map pcat).sum ≤ b
theorem cat_enc (b0 : Nat) : ∀ st : List PV, ((st.map (enc b0)).map fun v => v.category).sum = (st.map pcat).sum
  | [] => rfl
  | v :: st => by
    simp only [List.map_cons, List.sum_cons, enc_cat]
    rw [cat_enc b0 st]
theorem G_callV {M : MD} {d mc ms pc : Nat} {ls st : List PV} {w : List KD} {m : Nat → Nat → Int} {Q : Ps} {M' : MD} {d' mc' ms' idx o ci : Nat} {rs : List Int} (as : List PV) {st0 : List PV} {Q' : Ps} (hC : CVk M.1.cls idx M' as.length) (hci : (vwCl[ci]?).map (fun q => q.1) = some M'.1.cls) (hd : decode M.2.1 pc = .ok (.invokevirtual idx, 3)) (hw : w[o]? = some (0, ci, rs)) (hst : st0 = as.reverse ++ rV o :: st) (hcat : okCat st 8) (hdd : d' + 1 ≤ d) (hS : Sp M' d' mc' ms' (rV o :: as) (w, m) Q') (k : ∀ r h', Q' r h' → G M d mc ms (pc + 3) ls (r.toList ++ st) h' Q) : G M d (mc' + mc) (ms' + ms) pc ls st0 (w, m) Q := by
  intro l b0 D cA X p e R s mm args below meth c H locs cells slots ls' c1 c2
  subst hst
  obtain ⟨hG, h1, h2, h3, h4⟩ := hC
  have hce := c1.hce
  have hsl := c1.hsl
  obtain ⟨q, hq, hqn⟩ := Option.map_eq_some_iff.mp hci
  have cw := cwV (R := R) (rm := roomD d' mc' ms') as.length c1.hts hG rfl rfl rfl ⟨rfl, h1, h2, h3⟩ (room_ok h4 hdd c1.hfr c1.hlo mc' ms')
  have hrec := va_recv (a := b0 + o) c1.hK c2.1 hq (wsOf_at (h := (w, m)) hw)
  rw [hqn] at hrec
  refine G_run c1 c2 (as := Value.ref (b0 + o) :: as.map (enc b0)) (va_runV (As := as.map (enc b0)) (rest := st.map (enc b0)) ⟨c1.hx, c1.hb, c1.hml, c1.hown, c1.hts⟩ (hS l b0 D cA X) cw ⟨QcM_blind, hrec, fun U hU hW => ⟨by rw [List.map_cons]; rfl, by rw [hU]; exact c2.1, by rw [hU]; exact c2.2.1, c1.hK.moved hW.alike, (c1.hX.moved hW.alike).kept (by rw [hU]; exact c2.2.2.1.2.1 _ (Nat.lt_of_lt_of_le c1.hXb c1.hb0) (by show ¬ b0 ≤ X.1; have := c1.hXb; omega)), c1.hXb, c1.hXW.moved hW⟩⟩ rfl (by simp) c2.2.2.2.1 (by simp [enc]) (lv_room (by rw [cat_enc]; exact hcat)) hd ⟨by omega, by omega⟩) k
theorem G_callS {M : MD} {d mc ms pc : Nat} {ls st : List PV} {w : List KD} {m : Nat → Nat → Int} {Q : Ps} {M' : MD} {d' mc' ms' idx : Nat} (as : List PV) {st0 : List PV} {Q' : Ps} (hC : CSk M.1.cls idx M' as.length) (hd : decode M.2.1 pc = .ok (.invokestatic idx, 3)) (hst : st0 = as.reverse ++ st) (hcat : okCat st 8) (hdd : d' + 1 ≤ d) (hS : Sp M' d' mc' ms' as (w, m) Q') (k : ∀ r h', Q' r h' → G M d mc ms (pc + 3) ls (r.toList ++ st) h' Q) : G M d (mc' + mc) (ms' + ms) pc ls st0 (w, m) Q := by
  intro l b0 D cA X p e R s mm args below meth c H locs cells slots ls' c1 c2
  subst hst
  obtain ⟨hG, hl, hs, hini, h1, h2, h3, h4⟩ := hC
  have hce := c1.hce
  have hsl := c1.hsl
  have cw := callB_of (R := R) (rm := roomD d' mc' ms') (own := M.1.cls) (index := idx) as.length c1.hts hG rfl rfl rfl (c1.hts _ hini) (c1.hts _ hl) ⟨h1, h2, h3⟩ (room_ok h4 hdd c1.hfr c1.hlo mc' ms')
  refine G_run c1 c2 (as := as.map (enc b0)) (va_runS (As := as.map (enc b0)) (rest := st.map (enc b0)) ⟨c1.hx, c1.hb, c1.hml, c1.hown, c1.hts⟩ (hS l b0 D cA X) ⟨cw, c1.hts _ hs⟩ ⟨QcM_blind, fun U hU hW => ⟨rfl, by rw [hU]; exact c2.1, by rw [hU]; exact c2.2.1, c1.hK.moved hW.alike, (c1.hX.moved hW.alike).kept (by rw [hU]; exact c2.2.2.1.2.1 _ (Nat.lt_of_lt_of_le c1.hXb c1.hb0) (by show ¬ b0 ≤ X.1; have := c1.hXb; omega)), c1.hXb, c1.hXW.moved hW⟩⟩ rfl (by simp) c2.2.2.2.1 (by simp) (lv_room (by rw [cat_enc]; exact hcat)) hd ⟨by omega, by omega⟩) k
theorem G_callI {M : MD} {d mc ms pc : Nat} {ls st : List PV} {w : List KD} {m : Nat → Nat → Int} {Q : Ps} {M' : MD} {d' mc' ms' idx o : Nat} (as : List PV) {st0 : List PV} {Q' : Ps} (hC : CIk M.1.cls idx M' as.length) (hd : decode M.2.1 pc = .ok (.invokespecial idx, 3)) (hst : st0 = as.reverse ++ rV o :: st) (hcat : okCat st 8) (hdd : d' + 1 ≤ d) (hS : Sp M' d' mc' ms' (rV o :: as) (w, m) Q') (k : ∀ r h', Q' r h' → G M d mc ms (pc + 3) ls (r.toList ++ st) h' Q) : G M d (mc' + mc) (ms' + ms) pc ls st0 (w, m) Q := by
  intro l b0 D cA X p e R s mm args below meth c H locs cells slots ls' c1 c2
  subst hst
  obtain ⟨hG, hl, hi, hini, hnm, hret, h1, h2, h3, h4⟩ := hC
  have hce := c1.hce
  have hsl := c1.hsl
  have cw := cwI (R := R) (rm := roomD d' mc' ms') (own := M.1.cls) (index := idx) (bytes := M'.2.1) (maxL := M'.2.2.1) (ws' := lwg) as.length c1.hts hG (by unfold wsM; rw [hret]) rfl rfl (c1.hts _ hini) (c1.hts _ hl) (c1.hts _ hi) hnm ⟨h1, h2, h3⟩ (room_ok h4 hdd c1.hfr c1.hlo mc' ms')
  refine G_run c1 c2 (as := Value.ref (b0 + o) :: as.map (enc b0)) (va_runI (As := as.map (enc b0)) (rest := st.map (enc b0)) ⟨c1.hx, c1.hb, c1.hml, c1.hown, c1.hts⟩ (hS l b0 D cA X) cw ⟨QcM_blind, fun U hU hW => ⟨by rw [List.map_cons]; rfl, by rw [hU]; exact c2.1, by rw [hU]; exact c2.2.1, c1.hK.moved hW.alike, (c1.hX.moved hW.alike).kept (by rw [hU]; exact c2.2.2.1.2.1 _ (Nat.lt_of_lt_of_le c1.hXb c1.hb0) (by show ¬ b0 ≤ X.1; have := c1.hXb; omega)), c1.hXb, c1.hXW.moved hW⟩⟩ rfl (by simp) c2.2.2.2.1 (by simp [enc]) (lv_room (by rw [cat_enc]; exact hcat)) hd ⟨by omega, by omega⟩) k
theorem G_callN {M : MD} {d mc ms pc : Nat} {ls st : List PV} {w : List KD} {m : Nat → Nat → Int} {Q : Ps} {M' : MD} {d' mc' ms' idx o : Nat} (as : List PV) {st0 : List PV} {Q' : Ps} (hC : CNk M.1.cls idx M' as.length) (hd : decode M.2.1 pc = .ok (.invokespecial idx, 3)) (hst : st0 = as.reverse ++ rV o :: st) (hcat : okCat st 8) (hdd : d' + 1 ≤ d) (hS : Sp M' d' mc' ms' (rV o :: as) (w, m) Q') (k : ∀ r h', Q' r h' → G M d mc ms (pc + 3) ls (r.toList ++ st) h' Q) : G M d (mc' + mc) (ms' + ms) pc ls st0 (w, m) Q := by
  intro l b0 D cA X p e R s mm args below meth c H locs cells slots ls' c1 c2
  subst hst
  obtain ⟨⟨q, hq, e1, e2, e3⟩, hG, hi, hini, hnm, hret, h1, h2, h3, h4⟩ := hC
  have hl := c1.hXW.1 q hq
  rw [← e1, ← e2, ← e3] at hl
  have hce := c1.hce
  have hsl := c1.hsl
  have cw := va_cnB (R := R) (rm := roomD d' mc' ms') (own := M.1.cls) (index := idx) (y := M'.1) (host := M.1.cls) (bytes := M'.2.1) (maxL := M'.2.2.1) (ret := none) (ws' := lwg) as.length c1.hts hG (by unfold wsM; rw [hret]) rfl rfl hl (c1.hts _ hini) ⟨h1, h2, h3⟩ (room_ok h4 hdd c1.hfr c1.hlo mc' ms')
  refine G_run c1 c2 (as := Value.ref (b0 + o) :: as.map (enc b0)) (va_runIN (As := as.map (enc b0)) (rest := st.map (enc b0)) ⟨c1.hx, c1.hb, c1.hml, c1.hown, c1.hts⟩ (hS l b0 D cA X) ⟨cw, hnm, c1.hts _ hi⟩ ⟨QcM_blind, fun U hU hW => ⟨by rw [List.map_cons]; rfl, by rw [hU]; exact c2.1, by rw [hU]; exact c2.2.1, c1.hK.moved hW.alike, (c1.hX.moved hW.alike).kept (by rw [hU]; exact c2.2.2.1.2.1 _ (Nat.lt_of_lt_of_le c1.hXb c1.hb0) (by show ¬ b0 ≤ X.1; have := c1.hXb; omega)), c1.hXb, c1.hXW.moved hW⟩⟩ rfl (by simp) c2.2.2.2.1 (by simp [enc]) (lv_room (by rw [cat_enc]; exact hcat)) hd ⟨by omega, by omega⟩) k
theorem G_obj {M : MD} {d mc ms pc : Nat} {ls st : List PV} {w : List KD} {m : Nat → Nat → Int} {Q : Ps} {idx o : Nat} (hd : decode M.2.1 pc = .ok (.invokespecial idx, 3)) (hl : Cond.methodLink M.1.cls idx objectInit ∈ lwg) (hi : Cond.instanceMethod objectInit ∈ lwg) (hc : Cond.code objectInit ⟨#[0xb1]⟩ 1 none ∈ lwg) (hcat : okCat st 8) (hdd : 1 ≤ d) (k : G M d mc ms (pc + 3) ls st (w, m) Q) : G M d mc ms pc ls (rV o :: st) (w, m) Q := by
  intro l b0 D cA X p e R s mm args below meth c H locs cells slots ls' c1 c2
  have hfr := c1.hfr
  have hlo := c1.hlo
  have hcat' : (st.map pcat).sum ≤ 8 := hcat
  exact W.objInit c1.hx c1.hb c1.hown (c1.hts _ hl) (c1.hts _ hi) (c1.hts _ hc) rfl (by rw [c1.hml]; exact c2.2.2.2.1) rfl hd (by omega) (by rw [cat_enc]; show 2 * 0 + _ + 12 ≤ _; omega) (k l b0 D cA X p e R s mm args below meth c H locs cells slots ls' c1 c2)
def cpm (m : Nat → Nat → Int) (a0 a n : Nat) : Nat → Nat → Int := fun a' j => if a' = a ∧ j < n then m a0 j else m a' j
theorem cpm_off (m : Nat → Nat → Int) {a0 a n a' : Nat} (h : a' ≠ a) : cpm m a0 a n a' = m a' := by
  funext j
  simp [cpm, h]
theorem G_acopyi {M : MD} {d mc ms pc : Nat} {ls st : List PV} {w : List KD} {m : Nat → Nat → Int} {Q : Ps} {idx a0 a n n0 n1 : Nat} {rs0 rs1 : List Int} (hd : decode M.2.1 pc = .ok (.invokestatic idx, 3)) (hl : Cond.methodLink M.1.cls idx arraycopyName ∈ lwg) (hna : Cond.native arraycopyName ∈ lwg) (hsta : Cond.static arraycopyName ∈ lwg) (hini : Cond.initialized "java/lang/System" ∈ lwg) (hw0 : w[a0]? = some (1, n0, rs0)) (hw : w[a]? = some (1, n1, rs1)) (hn0 : n ≤ n0) (hn1 : n ≤ n1) (hb : n1 < 2147483648) (hcat : okCat st 8) (hdd : 1 ≤ d) (k : G M d mc ms (pc + 3) ls st (w, cpm m a0 a n) Q) : G M d mc ms pc ls (iV (n : Int) :: iV 0 :: rV a :: iV 0 :: rV a0 :: st) (w, m) Q := by
  intro l b0 D cA X p e R s mm args below meth c H locs cells slots ls' c1 c2
  have hfr := c1.hfr
  have hlo := c1.hlo
  have hcat' : (st.map pcat).sum ≤ 8 := hcat
  have hnn : (Int32.ofInt (n : Int)).toNatClampNeg = n := by rw [oi_nat (by omega) (by omega)]; rfl
  have hni : (Int32.ofInt (n : Int)).toInt = n := oi_toInt (by omega)
  have hng : ¬ Int32.ofInt (n : Int) < 0 := by rw [← oi_0, oi_lt (by omega) (by decide)]; omega
  intro T hT XT
  have hc0 : H[b0 + a0]? = some (vp_cell (cA 0) (n0, .inl fun j => Int32.ofInt (m a0 j))) := c2.1 a0 _ (wsOf_at (h := (w, m)) hw0)
  have hc1 : H[b0 + a]? = some (vp_cell (cA 0) (n1, .inl fun j => Int32.ofInt (m a j))) := c2.1 a _ (wsOf_at (h := (w, m)) hw)
  obtain ⟨-, k0, hk0, cm0, hkk0⟩ := (c1.hK.2 0 _ rfl).1 n0 (fun j => .int (Int32.ofInt (m a0 j)))
  obtain ⟨-, k1, hk1, cm1, hkk1⟩ := (c1.hK.2 0 _ rfl).1 n1 (fun j => .int (Int32.ofInt (m a j)))
  have hfit : ∀ i, i < n → fits .int (.int (Int32.ofInt (m a0 i))) = true := fun i hi => rfl
  obtain ⟨vm', X', step⟩ := XT.arraycopy c1.hx c1.hown (c1.hts _ hl) (c1.hts _ hna) (c1.hts _ hsta) (c1.hts _ hini) (src := b0 + a0) (dst := b0 + a) (cs := vp_cell (cA 0) (n0, .inl fun j => Int32.ofInt (m a0 j))) (cd := vp_cell (cA 0) (n1, .inl fun j => Int32.ofInt (m a j))) (srcPos := 0) (destPos := 0) (n := Int32.ofInt (n : Int)) (by rw [hT]; exact hc0) (by rw [hT]; exact hc1)
    (fun _ h => by cases h) (fun _ h => by cases h) (fun h => by cases h) (fun h => by cases h) hk0 hk1 hkk0 hkk1 (by simp [refKind]) (by decide) (by decide) hng
    (by rw [hni]; show ¬ (0 : Int) + _ > ((arrV _ n0 (fun j => .int (Int32.ofInt (m a0 j)))).slots.size : Int); rw [arrV_size]; omega)
    (by rw [hni]; show ¬ (0 : Int) + _ > ((arrV _ n1 (fun j => .int (Int32.ofInt (m a j)))).slots.size : Int); rw [arrV_size]; omega)
    (fun vm₁ _ i hi => by
      have e : (vp_cell (cA 0) (n0, .inl fun j => Int32.ofInt (m a0 j))).slots.getD ((0 : Int32).toNatClampNeg + i) .null = .int (Int32.ofInt (m a0 i)) := by
        show (arrV _ n0 (fun j => .int (Int32.ofInt (m a0 j)))).slots.getD _ _ = _
        rw [show (0 : Int32).toNatClampNeg = 0 from rfl, Nat.zero_add, Array.getD_eq_getD_getElem?, arrV_read _ _ (by omega)]
        rfl
      refine ⟨?_, ?_⟩
      · rw [e]
        exact hfit i (by omega)
      · rw [e]
        exact trivial)
    (g := F0 mm pc ls' ((iV (n : Int) :: iV 0 :: rV a :: iV 0 :: rV a0 :: st).map (enc b0))) rfl (by rw [c1.hml]; exact c2.2.2.2.1) (rest := st.map (enc b0)) rfl (by rw [c1.hb]; exact hd) (by omega) (by rw [cat_enc]; have h20 : nativeFrameWords "java/lang/System" "arraycopy" 5 ≤ 20 := (by decide); show 2 * 0 + _ + (nativeFrameWords "java/lang/System" "arraycopy" 5 + 11) ≤ _; omega)
  have e1 : copied (vp_cell (cA 0) (n0, .inl fun j => Int32.ofInt (m a0 j))) (vp_cell (cA 0) (n1, .inl fun j => Int32.ofInt (m a j))) 0 0 (Int32.ofInt (n : Int)) = vp_cell (cA 0) (n1, .inl fun j => Int32.ofInt (cpm m a0 a n a j)) := by
    have e2 := va_copied (fun z => .int z) (cA 0) (cA 0) (n0 := n0) (n1 := n1) (sp := 0) (dp := 0) (n := n) (fun j => Int32.ofInt (m a0 j)) (fun j => Int32.ofInt (m a j)) (by omega)
    have e3 : copied (vp_cell (cA 0) (n0, .inl fun j => Int32.ofInt (m a0 j))) (vp_cell (cA 0) (n1, .inl fun j => Int32.ofInt (m a j))) 0 0 (Int32.ofInt (n : Int)) = (arrV (cA 0) n1 fun j => Value.int (Int32.ofInt (m a j))).storeRun 0 ((arrV (cA 0) n0 fun j => Value.int (Int32.ofInt (m a0 j))).stretch 0 (Int32.ofInt (n : Int)).toNatClampNeg) := rfl
    rw [e3, hnn, e2]
    show arrV _ _ _ = arrV _ _ (fun j => Value.int (Int32.ofInt (cpm m a0 a n a j)))
    congr 1
    funext j
    unfold va_cpy cpm
    by_cases hj : j < n <;> simp [hj]
  rw [e1] at X' step
  have hl0 : b0 + a < H.size := (Array.getElem?_eq_some_iff.mp hc1).1
  have oq : ∀ q : Nat, q ≠ b0 + a → (H.setIfInBounds (b0 + a) (vp_cell (cA 0) (n1, .inl fun j => Int32.ofInt (cpm m a0 a n a j))))[q]? = H[q]? := fun q hq => by simp [Array.getElem?_setIfInBounds, Ne.symm hq]
  have c2' := c2.put (H1 := H.setIfInBounds (b0 + a) (vp_cell (cA 0) (n1, .inl fun j => Int32.ofInt (cpm m a0 a n a j)))) (kk := 0) (m' := cpm m a0 a n) (List.getElem?_eq_some_iff.mp hw).1 hw rfl (fun _ _ => rfl) (fun a' h => cpm_off m h) (by simp) oq (show (H.setIfInBounds (b0 + a) _)[b0 + a]? = some _ by simp [Array.getElem?_setIfInBounds, hl0])
  obtain ⟨t, a1, b1⟩ := k l b0 D cA X p e R s mm args below meth c _ _ cells slots ls' c1 ⟨c2'.1, c2'.2.1, ⟨c2'.2.2.1.1, c2'.2.2.1.2.1, fun q hq => by
      rcases List.mem_append.mp hq with h | h
      · exact c2.2.2.1.2.2 q h
      · obtain ⟨z, -, hz⟩ := List.mem_map.mp h
        rw [← hz]
        exact Nat.le_add_right _ _⟩, c2'.2.2.2⟩ _ (by rw [← hT]; rfl) X'
  exact ⟨t, step t a1, b1⟩
theorem fitB {x : Int} (hx : -128 ≤ x ∧ x < 128) : fits .byte (.int (Int32.ofInt x)) = true := by
  have h := narB hx
  unfold fits
  rw [narrow_byte] at h
  simp only [Value.int.injEq] at h
  simp [h]
  rw [show (-128 : Int32) = Int32.ofInt (-128) from rfl, show (127 : Int32) = Int32.ofInt 127 from rfl, oi_le (by decide) (by omega), oi_le (by omega) (by decide)]
  omega
theorem G_acopyb {M : MD} {d mc ms pc : Nat} {ls st : List PV} {w : List KD} {m : Nat → Nat → Int} {Q : Ps} {idx a0 a n n0 n1 : Nat} {rs0 rs1 : List Int} (hd : decode M.2.1 pc = .ok (.invokestatic idx, 3)) (hl : Cond.methodLink M.1.cls idx arraycopyName ∈ lwg) (hna : Cond.native arraycopyName ∈ lwg) (hsta : Cond.static arraycopyName ∈ lwg) (hini : Cond.initialized "java/lang/System" ∈ lwg) (hw0 : w[a0]? = some (2, n0, rs0)) (hw : w[a]? = some (2, n1, rs1)) (hn0 : n ≤ n0) (hn1 : n ≤ n1) (hb : n1 < 2147483648) (hx : ∀ j, j < n → -128 ≤ m a0 j ∧ m a0 j < 128) (hcat : okCat st 8) (hdd : 1 ≤ d) (k : G M d mc ms (pc + 3) ls st (w, cpm m a0 a n) Q) : G M d mc ms pc ls (iV (n : Int) :: iV 0 :: rV a :: iV 0 :: rV a0 :: st) (w, m) Q := by
  intro l b0 D cA X p e R s mm args below meth c H locs cells slots ls' c1 c2
  have hfr := c1.hfr
  have hlo := c1.hlo
  have hcat' : (st.map pcat).sum ≤ 8 := hcat
  have hnn : (Int32.ofInt (n : Int)).toNatClampNeg = n := by rw [oi_nat (by omega) (by omega)]; rfl
  have hni : (Int32.ofInt (n : Int)).toInt = n := oi_toInt (by omega)
  have hng : ¬ Int32.ofInt (n : Int) < 0 := by rw [← oi_0, oi_lt (by omega) (by decide)]; omega
  intro T hT XT
  have hc0 : H[b0 + a0]? = some (vp_cell (cA 1) (n0, .inl fun j => Int32.ofInt (m a0 j))) := c2.1 a0 _ (wsOf_at (h := (w, m)) hw0)
  have hc1 : H[b0 + a]? = some (vp_cell (cA 1) (n1, .inl fun j => Int32.ofInt (m a j))) := c2.1 a _ (wsOf_at (h := (w, m)) hw)
  obtain ⟨-, k0, hk0, cm0, hkk0⟩ := (c1.hK.2 1 _ rfl).1 n0 (fun j => .int (Int32.ofInt (m a0 j)))
  obtain ⟨-, k1, hk1, cm1, hkk1⟩ := (c1.hK.2 1 _ rfl).1 n1 (fun j => .int (Int32.ofInt (m a j)))
  have hfit : ∀ i, i < n → fits .byte (.int (Int32.ofInt (m a0 i))) = true := fun i hi => fitB (hx _ (by omega))
  obtain ⟨vm', X', step⟩ := XT.arraycopy c1.hx c1.hown (c1.hts _ hl) (c1.hts _ hna) (c1.hts _ hsta) (c1.hts _ hini) (src := b0 + a0) (dst := b0 + a) (cs := vp_cell (cA 1) (n0, .inl fun j => Int32.ofInt (m a0 j))) (cd := vp_cell (cA 1) (n1, .inl fun j => Int32.ofInt (m a j))) (srcPos := 0) (destPos := 0) (n := Int32.ofInt (n : Int)) (by rw [hT]; exact hc0) (by rw [hT]; exact hc1)
    (fun _ h => by cases h) (fun _ h => by cases h) (fun h => by cases h) (fun h => by cases h) hk0 hk1 hkk0 hkk1 (by simp [refKind]) (by decide) (by decide) hng
    (by rw [hni]; show ¬ (0 : Int) + _ > ((arrV _ n0 (fun j => .int (Int32.ofInt (m a0 j)))).slots.size : Int); rw [arrV_size]; omega)
    (by rw [hni]; show ¬ (0 : Int) + _ > ((arrV _ n1 (fun j => .int (Int32.ofInt (m a j)))).slots.size : Int); rw [arrV_size]; omega)
    (fun vm₁ _ i hi => by
      have e : (vp_cell (cA 1) (n0, .inl fun j => Int32.ofInt (m a0 j))).slots.getD ((0 : Int32).toNatClampNeg + i) .null = .int (Int32.ofInt (m a0 i)) := by
        show (arrV _ n0 (fun j => .int (Int32.ofInt (m a0 j)))).slots.getD _ _ = _
        rw [show (0 : Int32).toNatClampNeg = 0 from rfl, Nat.zero_add, Array.getD_eq_getD_getElem?, arrV_read _ _ (by omega)]
        rfl
      refine ⟨?_, ?_⟩
      · rw [e]
        exact hfit i (by omega)
      · rw [e]
        exact trivial)
    (g := F0 mm pc ls' ((iV (n : Int) :: iV 0 :: rV a :: iV 0 :: rV a0 :: st).map (enc b0))) rfl (by rw [c1.hml]; exact c2.2.2.2.1) (rest := st.map (enc b0)) rfl (by rw [c1.hb]; exact hd) (by omega) (by rw [cat_enc]; have h20 : nativeFrameWords "java/lang/System" "arraycopy" 5 ≤ 20 := (by decide); show 2 * 0 + _ + (nativeFrameWords "java/lang/System" "arraycopy" 5 + 11) ≤ _; omega)
  have e1 : copied (vp_cell (cA 1) (n0, .inl fun j => Int32.ofInt (m a0 j))) (vp_cell (cA 1) (n1, .inl fun j => Int32.ofInt (m a j))) 0 0 (Int32.ofInt (n : Int)) = vp_cell (cA 1) (n1, .inl fun j => Int32.ofInt (cpm m a0 a n a j)) := by
    have e2 := va_copied (fun z => .int z) (cA 1) (cA 1) (n0 := n0) (n1 := n1) (sp := 0) (dp := 0) (n := n) (fun j => Int32.ofInt (m a0 j)) (fun j => Int32.ofInt (m a j)) (by omega)
    have e3 : copied (vp_cell (cA 1) (n0, .inl fun j => Int32.ofInt (m a0 j))) (vp_cell (cA 1) (n1, .inl fun j => Int32.ofInt (m a j))) 0 0 (Int32.ofInt (n : Int)) = (arrV (cA 1) n1 fun j => Value.int (Int32.ofInt (m a j))).storeRun 0 ((arrV (cA 1) n0 fun j => Value.int (Int32.ofInt (m a0 j))).stretch 0 (Int32.ofInt (n : Int)).toNatClampNeg) := rfl
    rw [e3, hnn, e2]
    show arrV _ _ _ = arrV _ _ (fun j => Value.int (Int32.ofInt (cpm m a0 a n a j)))
    congr 1
    funext j
    unfold va_cpy cpm
    by_cases hj : j < n <;> simp [hj]
  rw [e1] at X' step
  have hl0 : b0 + a < H.size := (Array.getElem?_eq_some_iff.mp hc1).1
  have oq : ∀ q : Nat, q ≠ b0 + a → (H.setIfInBounds (b0 + a) (vp_cell (cA 1) (n1, .inl fun j => Int32.ofInt (cpm m a0 a n a j))))[q]? = H[q]? := fun q hq => by simp [Array.getElem?_setIfInBounds, Ne.symm hq]
  have c2' := c2.put (H1 := H.setIfInBounds (b0 + a) (vp_cell (cA 1) (n1, .inl fun j => Int32.ofInt (cpm m a0 a n a j)))) (kk := 0) (m' := cpm m a0 a n) (List.getElem?_eq_some_iff.mp hw).1 hw rfl (fun _ _ => rfl) (fun a' h => cpm_off m h) (by simp) oq (show (H.setIfInBounds (b0 + a) _)[b0 + a]? = some _ by simp [Array.getElem?_setIfInBounds, hl0])
  obtain ⟨t, a1, b1⟩ := k l b0 D cA X p e R s mm args below meth c _ _ cells slots ls' c1 ⟨c2'.1, c2'.2.1, ⟨c2'.2.2.1.1, c2'.2.2.1.2.1, fun q hq => by
      rcases List.mem_append.mp hq with h | h
      · exact c2.2.2.1.2.2 q h
      · obtain ⟨z, -, hz⟩ := List.mem_map.mp h
        rw [← hz]
        exact Nat.le_add_right _ _⟩, c2'.2.2.2⟩ _ (by rw [← hT]; rfl) X'
  exact ⟨t, step t a1, b1⟩
def zmn (m : Nat → Nat → Int) (o n : Nat) : Nat → Nat → Int := fun a j => if o ≤ a ∧ a ≤ o + n then 0 else m a j
theorem G_mna {M : MD} {d mc ms pc : Nat} {ls st : List PV} {w : List KD} {m : Nat → Nat → Int} {Q : Ps} {idx n kk o : Nat} (hd : decode M.2.1 pc = .ok (.multianewarray idx 2, 4)) (hcl : Cond.classLink M.1.cls idx ("[" ++ (FieldType.array .int).toString) ∈ lwg) (harr : Cond.arrayClass .int ∈ lwg) (hn : n ≤ 1000) (hk : kk ≤ 1000) (ho : w.length = o) (k : G M d mc ms (pc + 4) ls (rV o :: st) (w ++ ((6, n, (List.range n).map fun i => ((o + 1 + i : Nat) : Int)) :: List.replicate n (1, kk, [])), zmn m o n) Q) : G M d (mc + (1 + n)) (ms + (n + n * kk)) pc ls (iV (kk : Int) :: iV (n : Int) :: st) (w, m) Q := by
  intro l b0 D cA X p e R s mm args below meth c H locs cells slots ls' c1 c2
  have hts := c1.hts
  subst ho
  have hce := c1.hce
  have hsl := c1.hsl
  have hnn : (Int32.ofInt (n : Int)).toNatClampNeg = n := by rw [oi_nat (by omega) (by omega)]; rfl
  have hkk : (Int32.ofInt (kk : Int)).toNatClampNeg = kk := by rw [oi_nat (by omega) (by omega)]; rfl
  have hng : ¬ Int32.ofInt (n : Int) < 0 := by rw [← oi_0, oi_lt (by omega) (by decide)]; omega
  have hkg : ¬ Int32.ofInt (kk : Int) < 0 := by rw [← oi_0, oi_lt (by omega) (by decide)]; omega
  intro T hT Xs
  obtain ⟨vm₁, cA', comp, -, fA, fC, hO, -, X', step⟩ := Xs.multianewarray2F c1.hx c1.hown (hts _ hcl) c1.hXW.2 (hts _ harr) (g := F0 mm pc ls' ((iV (kk : Int) :: iV (n : Int) :: st).map (enc b0))) rfl (by rw [c1.hb]; exact hd) rfl hng hkg (by rw [hnn]; omega) (by rw [hkk]; simp [componentBytes]; omega) (by rw [hkk]; omega) rfl rfl (by rw [hnn]; omega) (by rw [hnn, hkk]; omega)
  have hcA : cA' = cA 5 := by
    have h1 := (c1.hK.2 5 _ rfl).2
    exact Option.some.inj (fA.symm.trans h1)
  have hcI : comp = cA 0 := by
    have h1 := (c1.hK.2 0 _ rfl).2
    have h3 : s.vm.findClass ("[" ++ FieldType.toString .int) = some comp := fC
    exact Option.some.inj (h3.symm.trans h1)
  subst hcA
  subst hcI
  rw [hnn, hkk] at X' step
  have hH : H.size = b0 + w.length := c2.2.1
  generalize hF : Jvm.Free.Multi.fill (T.setVm vm₁) (cA 5) (cA 0) n kk (defaultValue .int) n = F at X' step
  have hTh : (T.setVm vm₁).heap = H := hT
  obtain ⟨f1, f2, -, -⟩ := Jvm.Free.Multi.fill_facts (T.setVm vm₁) (cA 5) (cA 0) n kk (defaultValue .int) n
  rw [hF, hTh] at f1 f2
  have hold : ∀ x : Nat, x < H.size → F.heap[x]? = H[x]? := fun x hx => by
    have := Jvm.Free.Multi.fill_old (T.setVm vm₁) (cA 5) (cA 0) n kk (defaultValue .int) (a := x) (by rw [hTh]; exact hx) n
    rw [hF, hTh] at this
    exact this
  have hrow : ∀ j : Nat, j < n → F.heap[H.size + 1 + j]? = some (arrV (cA 0) kk (fun _ => .int 0)) := fun j hj => by
    have := Jvm.Free.Multi.fill_inner (T.setVm vm₁) (cA 5) (cA 0) n kk (defaultValue .int) n j hj
    rw [hF, hTh] at this
    rw [this, ← arrV_new]
    rfl
  have c1' : C1 M d mc ms b0 D cA X p R s mm args meth c (cells + 1 + n) (slots + n + n * kk) := ⟨c1.hx, c1.hb, c1.hml, c1.hr, c1.hown, hts, c1.hlk, c1.hnm, c1.hfr, c1.hlo, by omega, by omega, c1.hK, c1.hX, c1.hXb, c1.hb0, c1.hXW⟩
  have k1 := k l b0 D cA X p e R s mm args below meth c F.heap locs (cells + 1 + n) (slots + n + n * kk) ls' c1' ⟨?_, ?_, ?_, c2.2.2.2⟩
  · rw [show cells + 1 + n + mc = cells + (mc + (1 + n)) by omega, show slots + n + n * kk + ms = slots + (ms + (n + n * kk)) by omega] at k1
    have e0 : enc b0 (rV w.length) = Value.ref T.heap.size := by rw [hT, hH]; rfl
    simp only [List.map_cons, e0] at k1
    obtain ⟨t, a1, b1⟩ := k1 F rfl X'
    exact ⟨t, step t a1, b1⟩
  · intro i q hq
    obtain ⟨kd, hkd, rfl⟩ := wsOf_inv hq
    by_cases hi : i < w.length
    · have hkd' : w[i]? = some kd := by
        have h2 : (w ++ ((6, n, (List.range n).map fun i => ((w.length + 1 + i : Nat) : Int)) :: List.replicate n (1, kk, [])))[i]? = some kd := hkd
        rw [List.getElem?_append_left hi] at h2
        exact h2
      have h3 := c2.1 i _ (wsOf_at (h := (w, m)) hkd')
      have h4 : cellE b0 cA m i kd = cellE b0 cA (zmn m w.length n) i kd := by
        have : zmn m w.length n i = m i := by
          funext j
          unfold zmn
          rw [if_neg (by omega)]
        unfold cellE objF
        simp only [this]
      show va_at D vwCl (b0 + i, cellE b0 cA (zmn m w.length n) i kd) F.heap
      rw [← h4]
      exact h3.kept (hold _ (by rw [hH]; show b0 + i < _; omega))
    · have h2 : (w ++ ((6, n, (List.range n).map fun i => ((w.length + 1 + i : Nat) : Int)) :: List.replicate n (1, kk, [])))[i]? = some kd := hkd
      rw [List.getElem?_append_right (by omega)] at h2
      by_cases hi2 : i = w.length
      · subst hi2
        rw [Nat.sub_self] at h2
        cases h2
        show F.heap[b0 + w.length]? = some (vp_cell (cA 5) (n, .inr (.inr (.inr (.inr fun j => rfO b0 (((List.range n).map fun i => ((w.length + 1 + i : Nat) : Int)).getD j (-1)))))))
        rw [← hH, f2, vp_cell_q, vr_outer]
        congr 2
        funext j
        congr 1
        by_cases hj : j < n
        · rw [if_pos hj, List.getD_eq_getElem?_getD, List.getElem?_map, List.getElem?_range hj]
          show _ = rfO b0 ((w.length + 1 + j : Nat) : Int)
          rw [rfO_nat, hH]
          congr 1
          omega
        · rw [if_neg hj, List.getD_eq_getElem?_getD, List.getElem?_eq_none (by simp; omega)]
          rfl
      · obtain ⟨j, hj⟩ : ∃ j, i - w.length = j + 1 := ⟨i - w.length - 1, by omega⟩
        rw [hj, List.getElem?_cons_succ, List.getElem?_replicate] at h2
        split at h2
        · rename_i hjn
          cases h2
          show F.heap[b0 + i]? = some (arrV (cA 0) kk (fun j => .int (Int32.ofInt (zmn m w.length n i j))))
          rw [show b0 + i = H.size + 1 + j by rw [hH]; omega, hrow j hjn]
          congr 2
          funext x
          unfold zmn
          rw [if_pos (by omega)]
          rfl
        · cases h2
  · rw [f1, hH]
    simp
    omega
  · exact ⟨Nat.le_trans c2.2.2.1.1 (by rw [f1]; omega), fun x h1 h2 => (hold x (Nat.lt_of_lt_of_le h1 c2.2.2.1.1)).trans (c2.2.2.1.2.1 x h1 h2), c2.2.2.1.2.2⟩
theorem G_f2raw {M : MD} {d mc ms pc : Nat} {ls st : List PV} {w : List KD} {m : Nat → Nat → Int} {Q : Ps} {idx : Nat} {b : UInt32} (hd : decode M.2.1 pc = .ok (.invokestatic idx, 3)) (h1 : Cond.methodLink M.1.cls idx ⟨"java/lang/Float", "floatToRawIntBits", "(F)I"⟩ ∈ lwg) (h2 : Cond.native ⟨"java/lang/Float", "floatToRawIntBits", "(F)I"⟩ ∈ lwg) (h3 : Cond.static ⟨"java/lang/Float", "floatToRawIntBits", "(F)I"⟩ ∈ lwg) (h4 : Cond.initialized "java/lang/Float" ∈ lwg) (hcat : okCat st 8) (hdd : 1 ≤ d) (k : G M d mc ms (pc + 3) ls (iV b.toInt32.toInt :: st) (w, m) Q) : G M d mc ms pc ls (vV (.float b) :: st) (w, m) Q := by
  intro l b0 D cA X p e R s mm args below meth c H locs cells slots ls' c1 c2
  have hfr := c1.hfr
  have hlo := c1.hlo
  have hcat' : (st.map pcat).sum ≤ 8 := hcat
  have k1 := k l b0 D cA X p e R s mm args below meth c H locs cells slots ls' c1 c2
  refine vn_f2i c1.hx c1.hb (by rw [c1.hml]; exact c2.2.2.2.1.symm) c1.hown (c1.hts _ h1) (c1.hts _ h2) (c1.hts _ h3) (c1.hts _ h4) (by omega) (by rw [cat_enc]; omega) hd ?_
  rw [← oi_eta b.toInt32]
  exact k1
theorem G_d2raw {M : MD} {d mc ms pc : Nat} {ls st : List PV} {w : List KD} {m : Nat → Nat → Int} {Q : Ps} {idx : Nat} {b : UInt64} (hd : decode M.2.1 pc = .ok (.invokestatic idx, 3)) (h1 : Cond.methodLink M.1.cls idx ⟨"java/lang/Double", "doubleToRawLongBits", "(D)J"⟩ ∈ lwg) (h2 : Cond.native ⟨"java/lang/Double", "doubleToRawLongBits", "(D)J"⟩ ∈ lwg) (h3 : Cond.static ⟨"java/lang/Double", "doubleToRawLongBits", "(D)J"⟩ ∈ lwg) (h4 : Cond.initialized "java/lang/Double" ∈ lwg) (hcat : okCat st 8) (hdd : 1 ≤ d) (k : G M d mc ms (pc + 3) ls (lV b.toInt64.toInt :: st) (w, m) Q) : G M d mc ms pc ls (vV (.double b) :: st) (w, m) Q := by
  intro l b0 D cA X p e R s mm args below meth c H locs cells slots ls' c1 c2
  have hfr := c1.hfr
  have hlo := c1.hlo
  have hcat' : (st.map pcat).sum ≤ 8 := hcat
  have k1 := k l b0 D cA X p e R s mm args below meth c H locs cells slots ls' c1 c2
  refine vn_d2l c1.hx c1.hb (by rw [c1.hml]; exact c2.2.2.2.1.symm) c1.hown (c1.hts _ h1) (c1.hts _ h2) (c1.hts _ h3) (c1.hts _ h4) (by omega) (by rw [cat_enc]; omega) hd ?_
  rw [← Int64.ofInt_toInt b.toInt64]
  exact k1
