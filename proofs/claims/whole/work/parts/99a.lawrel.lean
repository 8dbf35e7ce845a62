/-! the law: what holds between the class's cells and the reference's, between two calls -/
theorem GX_cv {X : Nat × Nat × (Nat → Int32)} {M : MD} {d mc ms pc : Nat} {ls st : List PV} {w : List KD} {m : Nat → Nat → Int} {Q : Ps} {M' : MD} {d' idx o ci : Nat} {rs : List Int} (as : List PV) {st0 : List PV} {Q' : Ps} (hC : CVk M.1.cls idx M' as.length) (hci : (vwCl[ci]?).map (fun q => q.1) = some M'.1.cls) (hd : decode M.2.1 pc = .ok (.invokevirtual idx, 3)) (hw : w[o]? = some (0, ci, rs)) (hst : st0 = as.reverse ++ rV o :: st) (hcat : okCat st 8) (hdd : d' + 1 ≤ d) (hS : Sp M' d' 0 0 (rV o :: as) (w, m) Q') (k : ∀ r h', Q' r h' → GX X M d mc ms (pc + 3) ls (r.toList ++ st) h' Q) : GX X M d mc ms pc ls st0 (w, m) Q := by
  have t := GX_callV (X := X) (mc' := 0) (ms' := 0) (mc := mc) (ms := ms) (M := M) (st := st) as hC hci hd hw hst hcat hdd hS k
  rw [Nat.zero_add, Nat.zero_add] at t
  exact t
/-- script[..] != 0, on the stack -/
def bz (x : Int) : Int := if x = 0 then 0 else 1
theorem bz_or (x : Int) : bz x = 0 ∨ bz x = 1 := by
  unfold bz
  by_cases h : x = 0
  · rw [if_pos h]; exact Or.inl rfl
  · rw [if_neg h]; exact Or.inr rfl
theorem GX_bool {X : Nat × Nat × (Nat → Int32)} {M : MD} {d mc ms pc : Nat} {ls st : List PV} {w : List KD} {m : Nat → Nat → Int} {Q : Ps} {x : Int} (hx : -2147483648 ≤ x ∧ x < 2147483648) (d0 : decode M.2.1 pc = .ok (.ifCond .eq 7, 3)) (d1 : decode M.2.1 (pc + 3) = .ok (.iconst 1, 1)) (d2 : decode M.2.1 (pc + 4) = .ok (.goto 4, 3)) (d3 : decode M.2.1 (pc + 7) = .ok (.iconst 0, 1)) (k : GX X M d mc ms (pc + 8) ls (iV (bz x) :: st) (w, m) Q) : GX X M d mc ms pc ls (iV x :: st) (w, m) Q := by
  refine GX_if_eq (pc + 7) d0 (by omega) hx (fun h => ?_) (fun h => ?_)
  · rw [show bz x = 0 from if_pos h] at k
    exact GX_iconst d3 k
  · rw [show bz x = 1 from if_neg h] at k
    refine GX_iconst d1 ?_
    exact GX_goto (pc + 8) d2 (by omega) k
/-- the tapes -/
def TPR (m : Nat → Nat → Int) : Prop := ∃ z : Nat, z ≤ 400 ∧ m 21 0 = (z : Int) ∧ m 64 6 = (z : Int) ∧ (∀ j, j < z → (0 ≤ m 67 j ∧ m 67 j ≤ 255) ∧ m 22 j = (m 67 j).bmod 256) ∧ m 21 1 = m 64 7 ∧ m 21 2 = m 64 8
/-- the images -/
def IMR (m : Nat → Nat → Int) : Prop := (m 64 28 = 0 ∧ m 0 4 = 0) ∨ (m 64 28 = 1 ∧ m 0 4 = 1 ∧ ∃ u, VS u ∧ (∀ j, j < 2628 → m 83 j = u j) ∧ KC u m)
def LRL (s : Nat → Int) (m : Nat → Nat → Int) : Prop := VS s ∧ MI s m ∧ CI s m ∧ TPR m ∧ IMR m
theorem TPR.keep {m m2 : Nat → Nat → Int} (h : TPR m) (h21 : m2 21 = m 21) (h22 : m2 22 = m 22) (h67 : m2 67 = m 67) (h6 : m2 64 6 = m 64 6) (h7 : m2 64 7 = m 64 7) (h8 : m2 64 8 = m 64 8) : TPR m2 := by
  unfold TPR
  rw [h21, h22, h67, h6, h7, h8]
  exact h
theorem IMR.keep {m m2 : Nat → Nat → Int} (h : IMR m) (h28 : m2 64 28 = m 64 28) (h04 : m2 0 4 = m 0 4) (h83 : m2 83 = m 83) (k : ∀ a, 11 ≤ a → a ≤ 20 → m2 a = m a) : IMR m2 := by
  unfold IMR
  rw [h28, h04, h83]
  rcases h with h | ⟨h1, h2, u, h3, h4, h5⟩
  · exact Or.inl h
  · exact Or.inr ⟨h1, h2, u, h3, h4, h5.keep k⟩
theorem MI.far {s : Nat → Int} {m m2 : Nat → Nat → Int} (h : MI s m) (k : ∀ a, 63 < a → m2 a = m a) : MI s m2 :=
  h.congr (k 65 (by decide)) (k 66 (by decide)) (k 72 (by decide)) (k 76 (by decide)) (by rw [k 64 (by decide)]) (by rw [k 64 (by decide)]) (by rw [k 64 (by decide)])
theorem CI.far {s : Nat → Int} {m m2 : Nat → Nat → Int} (h : CI s m) (hV : VS s) (k : ∀ a, a < 64 → m2 a = m a) : CI s m2 :=
  h.out hV.N.2.1 (fun a _ _ h3 => k a h3) (fun j _ => by rw [k 0 (by decide)])
theorem LRL.mi {s : Nat → Int} {m m1 : Nat → Nat → Int} (h : LRL s m) (f : FXo m m1) : MI s m1 := h.2.1.far (fun a ha => f.1 a (by omega) (Or.inr ha))
/-- behind both calls -/
theorem LRL.both {s s2 : Nat → Int} {m m1 m2 : Nat → Nat → Int} (h : LRL s m) (hV : VS s2) (c : CI s2 m1) (f : FXo m m1) (k : KQ s2 m1 m2) : LRL s2 m2 := by
  obtain ⟨e1, e67, e83, e6, e7, e8, e28⟩ := k.1
  have f64 : m1 64 = m 64 := f.1 64 (by decide) (Or.inr (by decide))
  have f67 : m1 67 = m 67 := f.1 67 (by decide) (Or.inr (by decide))
  have f83 : m1 83 = m 83 := f.1 83 (by decide) (Or.inr (by decide))
  refine ⟨hV, k.2, c.far hV e1, h.2.2.2.1.keep ?_ ?_ ?_ ?_ ?_ ?_, h.2.2.2.2.keep ?_ ?_ ?_ ?_⟩
  · rw [e1 21 (by decide)]; exact f.1 21 (by decide) (Or.inl (by decide))
  · rw [e1 22 (by decide)]; exact f.1 22 (by decide) (Or.inl (by decide))
  · rw [e67, f67]
  · rw [e6, f64]
  · rw [e7, f64]
  · rw [e8, f64]
  · rw [e28, f64]
  · rw [e1 0 (by decide)]; exact f.2
  · rw [e83, f83]
  · exact fun a h1 h2 => by rw [e1 a (by omega)]; exact f.1 a h1 (Or.inl (by omega))
/-- a new pair -/
theorem LRL_new {m m2 : Nat → Nat → Int} (hI : CI s0 m) (h4 : m 0 4 = 0) (h1 : m 21 0 = 0) (h2 : m 21 1 = 0) (h3 : m 21 2 = -1) (k : ∀ a, a < 64 → m2 a = m a) (hM : MI s0 m2) (h6 : m2 64 6 = 0) (h7 : m2 64 7 = 0) (h8 : m2 64 8 = -1) (h28 : m2 64 28 = 0) : LRL s0 m2 := by
  refine ⟨VS_s0, hM, hI.far VS_s0 k, ⟨0, by omega, ?_, h6, fun j hj => absurd hj (Nat.not_lt_zero j), ?_, ?_⟩, Or.inl ⟨h28, ?_⟩⟩
  · rw [k 21 (by decide)]; exact h1
  · rw [k 21 (by decide), h7]; exact h2
  · rw [k 21 (by decide), h8]; exact h3
  · rw [k 0 (by decide)]; exact h4
