theorem loop_up (n : Nat) (P : Nat → Prop) (h : ∀ i, i ≤ n → (i < n → P (i + 1)) → P i) : ∀ i, i ≤ n → P i := by
  have key : ∀ k i, i + k = n → P i := by
    intro k
    induction k with
    | zero => intro i hi; exact h i (by omega) (fun hl => absurd hl (by omega))
    | succ k ih => intro i hi; exact h i (by omega) (fun _ => ih (i + 1) (by omega))
  intro i hi
  exact key (n - i) i (by omega)
theorem loop_down (P : Nat → Prop) (h : ∀ i, (∀ j, i = j + 1 → P j) → P i) : ∀ i, P i := by
  intro i
  induction i with
  | zero => exact h 0 (fun j hj => absurd hj (by omega))
  | succ i ih => exact h (i + 1) (fun j hj => by have : i = j := by omega
                                                 rw [← this]; exact ih)
theorem G_ialdj {M : MD} {d mc ms pc : Nat} {ls st : List PV} {w : List KD} {m : Nat → Nat → Int} {Q : Ps} {a n : Nat} {i : Int} {rs : List Int} (j : Nat) (hd : decode M.2.1 pc = .ok (.iaload, 1)) (hw : w[a]? = some (1, n, rs)) (hi : i = (j : Int)) (hj : j < n) (hn : n < 2147483648) (k : G M d mc ms (pc + 1) ls (iV (m a j) :: st) (w, m) Q) : G M d mc ms pc ls (iV i :: rV a :: st) (w, m) Q := by
  subst hi
  exact G_iald hd hw ⟨by omega, by omega⟩ hn (by rw [Int.toNat_natCast]; exact k)
theorem G_baldj {M : MD} {d mc ms pc : Nat} {ls st : List PV} {w : List KD} {m : Nat → Nat → Int} {Q : Ps} {a n : Nat} {i : Int} {rs : List Int} (j : Nat) (hd : decode M.2.1 pc = .ok (.baload, 1)) (hw : w[a]? = some (2, n, rs)) (hi : i = (j : Int)) (hj : j < n) (hn : n < 2147483648) (k : G M d mc ms (pc + 1) ls (iV (m a j) :: st) (w, m) Q) : G M d mc ms pc ls (iV i :: rV a :: st) (w, m) Q := by
  subst hi
  exact G_bald hd hw ⟨by omega, by omega⟩ hn (by rw [Int.toNat_natCast]; exact k)
theorem G_saldj {M : MD} {d mc ms pc : Nat} {ls st : List PV} {w : List KD} {m : Nat → Nat → Int} {Q : Ps} {a n : Nat} {i : Int} {rs : List Int} (j : Nat) (hd : decode M.2.1 pc = .ok (.saload, 1)) (hw : w[a]? = some (3, n, rs)) (hi : i = (j : Int)) (hj : j < n) (hn : n < 2147483648) (k : G M d mc ms (pc + 1) ls (iV (m a j) :: st) (w, m) Q) : G M d mc ms pc ls (iV i :: rV a :: st) (w, m) Q := by
  subst hi
  exact G_sald hd hw ⟨by omega, by omega⟩ hn (by rw [Int.toNat_natCast]; exact k)
theorem G_zaldj {M : MD} {d mc ms pc : Nat} {ls st : List PV} {w : List KD} {m : Nat → Nat → Int} {Q : Ps} {a n : Nat} {i : Int} {rs : List Int} (j : Nat) (hd : decode M.2.1 pc = .ok (.baload, 1)) (hw : w[a]? = some (4, n, rs)) (hi : i = (j : Int)) (hj : j < n) (hn : n < 2147483648) (k : G M d mc ms (pc + 1) ls (iV (m a j) :: st) (w, m) Q) : G M d mc ms pc ls (iV i :: rV a :: st) (w, m) Q := by
  subst hi
  exact G_zald hd hw ⟨by omega, by omega⟩ hn (by rw [Int.toNat_natCast]; exact k)
theorem G_laldj {M : MD} {d mc ms pc : Nat} {ls st : List PV} {w : List KD} {m : Nat → Nat → Int} {Q : Ps} {a n : Nat} {i : Int} {rs : List Int} (j : Nat) (hd : decode M.2.1 pc = .ok (.laload, 1)) (hw : w[a]? = some (5, n, rs)) (hi : i = (j : Int)) (hj : j < n) (hn : n < 2147483648) (k : G M d mc ms (pc + 1) ls (lV (m a j) :: st) (w, m) Q) : G M d mc ms pc ls (iV i :: rV a :: st) (w, m) Q := by
  subst hi
  exact G_lald hd hw ⟨by omega, by omega⟩ hn (by rw [Int.toNat_natCast]; exact k)
theorem G_iastj {M : MD} {d mc ms pc : Nat} {ls st : List PV} {w : List KD} {m : Nat → Nat → Int} {Q : Ps} {a n : Nat} {i x : Int} {rs : List Int} (j : Nat) (hd : decode M.2.1 pc = .ok (.iastore, 1)) (hw : w[a]? = some (1, n, rs)) (hi : i = (j : Int)) (hj : j < n) (hn : n < 2147483648)  (k : G M d mc ms (pc + 1) ls st (w, upm m a j x) Q) : G M d mc ms pc ls (iV x :: iV i :: rV a :: st) (w, m) Q := by
  subst hi
  exact G_iast hd hw ⟨by omega, by omega⟩ hn (by rw [Int.toNat_natCast]; exact k)
theorem G_bastj {M : MD} {d mc ms pc : Nat} {ls st : List PV} {w : List KD} {m : Nat → Nat → Int} {Q : Ps} {a n : Nat} {i x : Int} {rs : List Int} (j : Nat) (hd : decode M.2.1 pc = .ok (.bastore, 1)) (hw : w[a]? = some (2, n, rs)) (hi : i = (j : Int)) (hj : j < n) (hn : n < 2147483648) (hx : -128 ≤ x ∧ x < 128) (k : G M d mc ms (pc + 1) ls st (w, upm m a j x) Q) : G M d mc ms pc ls (iV x :: iV i :: rV a :: st) (w, m) Q := by
  subst hi
  exact G_bast hd hw ⟨by omega, by omega⟩ hn hx (by rw [Int.toNat_natCast]; exact k)
theorem G_sastj {M : MD} {d mc ms pc : Nat} {ls st : List PV} {w : List KD} {m : Nat → Nat → Int} {Q : Ps} {a n : Nat} {i x : Int} {rs : List Int} (j : Nat) (hd : decode M.2.1 pc = .ok (.sastore, 1)) (hw : w[a]? = some (3, n, rs)) (hi : i = (j : Int)) (hj : j < n) (hn : n < 2147483648) (hx : -32768 ≤ x ∧ x < 32768) (k : G M d mc ms (pc + 1) ls st (w, upm m a j x) Q) : G M d mc ms pc ls (iV x :: iV i :: rV a :: st) (w, m) Q := by
  subst hi
  exact G_sast hd hw ⟨by omega, by omega⟩ hn hx (by rw [Int.toNat_natCast]; exact k)
theorem G_zastj {M : MD} {d mc ms pc : Nat} {ls st : List PV} {w : List KD} {m : Nat → Nat → Int} {Q : Ps} {a n : Nat} {i x : Int} {rs : List Int} (j : Nat) (hd : decode M.2.1 pc = .ok (.bastore, 1)) (hw : w[a]? = some (4, n, rs)) (hi : i = (j : Int)) (hj : j < n) (hn : n < 2147483648) (hx : 0 ≤ x ∧ x < 2) (k : G M d mc ms (pc + 1) ls st (w, upm m a j x) Q) : G M d mc ms pc ls (iV x :: iV i :: rV a :: st) (w, m) Q := by
  subst hi
  exact G_zast hd hw ⟨by omega, by omega⟩ hn hx (by rw [Int.toNat_natCast]; exact k)
theorem G_lastj {M : MD} {d mc ms pc : Nat} {ls st : List PV} {w : List KD} {m : Nat → Nat → Int} {Q : Ps} {a n : Nat} {i x : Int} {rs : List Int} (j : Nat) (hd : decode M.2.1 pc = .ok (.lastore, 1)) (hw : w[a]? = some (5, n, rs)) (hi : i = (j : Int)) (hj : j < n) (hn : n < 2147483648)  (k : G M d mc ms (pc + 1) ls st (w, upm m a j x) Q) : G M d mc ms pc ls (lV x :: iV i :: rV a :: st) (w, m) Q := by
  subst hi
  exact G_last hd hw ⟨by omega, by omega⟩ hn (by rw [Int.toNat_natCast]; exact k)
theorem G_putII {M : MD} {d mc ms pc : Nat} {ls st : List PV} {w : List KD} {m : Nat → Nat → Int} {Q : Ps} {o ci f idx : Nat} {x : Int} {rs : List Int} (hF : FLk M.1.cls idx ci f false) (hd : decode M.2.1 pc = .ok (.putfield idx, 3)) (hw : w[o]? = some (0, ci, rs)) (hty : tyOf ci f = .int) (k : G M d mc ms (pc + 3) ls st (w, upm m o f x) Q) : G M d mc ms pc ls (iV x :: rV o :: st) (w, m) Q :=
  G_putI hF hd hw (by rw [hty]; rfl) (fun h => by rw [hty] at h; cases h) k
theorem G_putZ {M : MD} {d mc ms pc : Nat} {ls st : List PV} {w : List KD} {m : Nat → Nat → Int} {Q : Ps} {o ci f idx : Nat} {x : Int} {rs : List Int} (hF : FLk M.1.cls idx ci f false) (hd : decode M.2.1 pc = .ok (.putfield idx, 3)) (hw : w[o]? = some (0, ci, rs)) (hty : tyOf ci f = .boolean) (hx : 0 ≤ x ∧ x < 2) (k : G M d mc ms (pc + 3) ls st (w, upm m o f x) Q) : G M d mc ms pc ls (iV x :: rV o :: st) (w, m) Q :=
  G_putI hF hd hw (by rw [hty]; rfl) (fun _ => hx) k
theorem G_callV0 {M : MD} {d mc ms pc : Nat} {ls st : List PV} {w : List KD} {m : Nat → Nat → Int} {Q : Ps} {M' : MD} {d' idx o ci : Nat} {rs : List Int} {Q' : Ps} (hC : CVk M.1.cls idx M' 0) (hci : (vwCl[ci]?).map (fun q => q.1) = some M'.1.cls) (hd : decode M.2.1 pc = .ok (.invokevirtual idx, 3)) (hw : w[o]? = some (0, ci, rs)) (hcat : okCat st 8) (hdd : d' + 1 ≤ d) (hS : Sp M' d' 0 0 (rV o :: []) (w, m) Q') (k : ∀ r h', Q' r h' → G M d mc ms (pc + 3) ls (r.toList ++ st) h' Q) : G M d mc ms pc ls (rV o :: st) (w, m) Q := by
  have k1 := G_callV (mc' := 0) (ms' := 0) (mc := mc) (ms := ms) (M := M) (st := st) [] hC hci hd hw rfl hcat hdd hS k
  rw [Nat.zero_add, Nat.zero_add] at k1
  exact k1
theorem G_callS0 {M : MD} {d mc ms pc : Nat} {ls st : List PV} {w : List KD} {m : Nat → Nat → Int} {Q : Ps} {M' : MD} {d' idx : Nat} {Q' : Ps} (hC : CSk M.1.cls idx M' 0) (hd : decode M.2.1 pc = .ok (.invokestatic idx, 3)) (hcat : okCat st 8) (hdd : d' + 1 ≤ d) (hS : Sp M' d' 0 0 [] (w, m) Q') (k : ∀ r h', Q' r h' → G M d mc ms (pc + 3) ls (r.toList ++ st) h' Q) : G M d mc ms pc ls (st) (w, m) Q := by
  have k1 := G_callS (mc' := 0) (ms' := 0) (mc := mc) (ms := ms) (M := M) (st := st) [] hC hd rfl hcat hdd hS k
  rw [Nat.zero_add, Nat.zero_add] at k1
  exact k1
theorem G_callV1 {M : MD} {d mc ms pc : Nat} {ls st : List PV} {w : List KD} {m : Nat → Nat → Int} {Q : Ps} {M' : MD} {d' idx o ci : Nat} {rs : List Int} {x0 : PV} {Q' : Ps} (hC : CVk M.1.cls idx M' 1) (hci : (vwCl[ci]?).map (fun q => q.1) = some M'.1.cls) (hd : decode M.2.1 pc = .ok (.invokevirtual idx, 3)) (hw : w[o]? = some (0, ci, rs)) (hcat : okCat st 8) (hdd : d' + 1 ≤ d) (hS : Sp M' d' 0 0 (rV o :: [x0]) (w, m) Q') (k : ∀ r h', Q' r h' → G M d mc ms (pc + 3) ls (r.toList ++ st) h' Q) : G M d mc ms pc ls (x0 :: rV o :: st) (w, m) Q := by
  have k1 := G_callV (mc' := 0) (ms' := 0) (mc := mc) (ms := ms) (M := M) (st := st) [x0] hC hci hd hw rfl hcat hdd hS k
  rw [Nat.zero_add, Nat.zero_add] at k1
  exact k1
theorem G_callS1 {M : MD} {d mc ms pc : Nat} {ls st : List PV} {w : List KD} {m : Nat → Nat → Int} {Q : Ps} {M' : MD} {d' idx : Nat} {x0 : PV} {Q' : Ps} (hC : CSk M.1.cls idx M' 1) (hd : decode M.2.1 pc = .ok (.invokestatic idx, 3)) (hcat : okCat st 8) (hdd : d' + 1 ≤ d) (hS : Sp M' d' 0 0 [x0] (w, m) Q') (k : ∀ r h', Q' r h' → G M d mc ms (pc + 3) ls (r.toList ++ st) h' Q) : G M d mc ms pc ls (x0 :: st) (w, m) Q := by
  have k1 := G_callS (mc' := 0) (ms' := 0) (mc := mc) (ms := ms) (M := M) (st := st) [x0] hC hd rfl hcat hdd hS k
  rw [Nat.zero_add, Nat.zero_add] at k1
  exact k1
theorem G_callV2 {M : MD} {d mc ms pc : Nat} {ls st : List PV} {w : List KD} {m : Nat → Nat → Int} {Q : Ps} {M' : MD} {d' idx o ci : Nat} {rs : List Int} {x0 x1 : PV} {Q' : Ps} (hC : CVk M.1.cls idx M' 2) (hci : (vwCl[ci]?).map (fun q => q.1) = some M'.1.cls) (hd : decode M.2.1 pc = .ok (.invokevirtual idx, 3)) (hw : w[o]? = some (0, ci, rs)) (hcat : okCat st 8) (hdd : d' + 1 ≤ d) (hS : Sp M' d' 0 0 (rV o :: [x0, x1]) (w, m) Q') (k : ∀ r h', Q' r h' → G M d mc ms (pc + 3) ls (r.toList ++ st) h' Q) : G M d mc ms pc ls (x1 :: x0 :: rV o :: st) (w, m) Q := by
  have k1 := G_callV (mc' := 0) (ms' := 0) (mc := mc) (ms := ms) (M := M) (st := st) [x0, x1] hC hci hd hw rfl hcat hdd hS k
  rw [Nat.zero_add, Nat.zero_add] at k1
  exact k1
theorem G_callS2 {M : MD} {d mc ms pc : Nat} {ls st : List PV} {w : List KD} {m : Nat → Nat → Int} {Q : Ps} {M' : MD} {d' idx : Nat} {x0 x1 : PV} {Q' : Ps} (hC : CSk M.1.cls idx M' 2) (hd : decode M.2.1 pc = .ok (.invokestatic idx, 3)) (hcat : okCat st 8) (hdd : d' + 1 ≤ d) (hS : Sp M' d' 0 0 [x0, x1] (w, m) Q') (k : ∀ r h', Q' r h' → G M d mc ms (pc + 3) ls (r.toList ++ st) h' Q) : G M d mc ms pc ls (x1 :: x0 :: st) (w, m) Q := by
  have k1 := G_callS (mc' := 0) (ms' := 0) (mc := mc) (ms := ms) (M := M) (st := st) [x0, x1] hC hd rfl hcat hdd hS k
  rw [Nat.zero_add, Nat.zero_add] at k1
  exact k1
theorem G_callV3 {M : MD} {d mc ms pc : Nat} {ls st : List PV} {w : List KD} {m : Nat → Nat → Int} {Q : Ps} {M' : MD} {d' idx o ci : Nat} {rs : List Int} {x0 x1 x2 : PV} {Q' : Ps} (hC : CVk M.1.cls idx M' 3) (hci : (vwCl[ci]?).map (fun q => q.1) = some M'.1.cls) (hd : decode M.2.1 pc = .ok (.invokevirtual idx, 3)) (hw : w[o]? = some (0, ci, rs)) (hcat : okCat st 8) (hdd : d' + 1 ≤ d) (hS : Sp M' d' 0 0 (rV o :: [x0, x1, x2]) (w, m) Q') (k : ∀ r h', Q' r h' → G M d mc ms (pc + 3) ls (r.toList ++ st) h' Q) : G M d mc ms pc ls (x2 :: x1 :: x0 :: rV o :: st) (w, m) Q := by
  have k1 := G_callV (mc' := 0) (ms' := 0) (mc := mc) (ms := ms) (M := M) (st := st) [x0, x1, x2] hC hci hd hw rfl hcat hdd hS k
  rw [Nat.zero_add, Nat.zero_add] at k1
  exact k1
theorem G_callS3 {M : MD} {d mc ms pc : Nat} {ls st : List PV} {w : List KD} {m : Nat → Nat → Int} {Q : Ps} {M' : MD} {d' idx : Nat} {x0 x1 x2 : PV} {Q' : Ps} (hC : CSk M.1.cls idx M' 3) (hd : decode M.2.1 pc = .ok (.invokestatic idx, 3)) (hcat : okCat st 8) (hdd : d' + 1 ≤ d) (hS : Sp M' d' 0 0 [x0, x1, x2] (w, m) Q') (k : ∀ r h', Q' r h' → G M d mc ms (pc + 3) ls (r.toList ++ st) h' Q) : G M d mc ms pc ls (x2 :: x1 :: x0 :: st) (w, m) Q := by
  have k1 := G_callS (mc' := 0) (ms' := 0) (mc := mc) (ms := ms) (M := M) (st := st) [x0, x1, x2] hC hd rfl hcat hdd hS k
  rw [Nat.zero_add, Nat.zero_add] at k1
  exact k1
theorem G_callV4 {M : MD} {d mc ms pc : Nat} {ls st : List PV} {w : List KD} {m : Nat → Nat → Int} {Q : Ps} {M' : MD} {d' idx o ci : Nat} {rs : List Int} {x0 x1 x2 x3 : PV} {Q' : Ps} (hC : CVk M.1.cls idx M' 4) (hci : (vwCl[ci]?).map (fun q => q.1) = some M'.1.cls) (hd : decode M.2.1 pc = .ok (.invokevirtual idx, 3)) (hw : w[o]? = some (0, ci, rs)) (hcat : okCat st 8) (hdd : d' + 1 ≤ d) (hS : Sp M' d' 0 0 (rV o :: [x0, x1, x2, x3]) (w, m) Q') (k : ∀ r h', Q' r h' → G M d mc ms (pc + 3) ls (r.toList ++ st) h' Q) : G M d mc ms pc ls (x3 :: x2 :: x1 :: x0 :: rV o :: st) (w, m) Q := by
  have k1 := G_callV (mc' := 0) (ms' := 0) (mc := mc) (ms := ms) (M := M) (st := st) [x0, x1, x2, x3] hC hci hd hw rfl hcat hdd hS k
  rw [Nat.zero_add, Nat.zero_add] at k1
  exact k1
theorem G_callS4 {M : MD} {d mc ms pc : Nat} {ls st : List PV} {w : List KD} {m : Nat → Nat → Int} {Q : Ps} {M' : MD} {d' idx : Nat} {x0 x1 x2 x3 : PV} {Q' : Ps} (hC : CSk M.1.cls idx M' 4) (hd : decode M.2.1 pc = .ok (.invokestatic idx, 3)) (hcat : okCat st 8) (hdd : d' + 1 ≤ d) (hS : Sp M' d' 0 0 [x0, x1, x2, x3] (w, m) Q') (k : ∀ r h', Q' r h' → G M d mc ms (pc + 3) ls (r.toList ++ st) h' Q) : G M d mc ms pc ls (x3 :: x2 :: x1 :: x0 :: st) (w, m) Q := by
  have k1 := G_callS (mc' := 0) (ms' := 0) (mc := mc) (ms := ms) (M := M) (st := st) [x0, x1, x2, x3] hC hd rfl hcat hdd hS k
  rw [Nat.zero_add, Nat.zero_add] at k1
  exact k1
theorem G_callV5 {M : MD} {d mc ms pc : Nat} {ls st : List PV} {w : List KD} {m : Nat → Nat → Int} {Q : Ps} {M' : MD} {d' idx o ci : Nat} {rs : List Int} {x0 x1 x2 x3 x4 : PV} {Q' : Ps} (hC : CVk M.1.cls idx M' 5) (hci : (vwCl[ci]?).map (fun q => q.1) = some M'.1.cls) (hd : decode M.2.1 pc = .ok (.invokevirtual idx, 3)) (hw : w[o]? = some (0, ci, rs)) (hcat : okCat st 8) (hdd : d' + 1 ≤ d) (hS : Sp M' d' 0 0 (rV o :: [x0, x1, x2, x3, x4]) (w, m) Q') (k : ∀ r h', Q' r h' → G M d mc ms (pc + 3) ls (r.toList ++ st) h' Q) : G M d mc ms pc ls (x4 :: x3 :: x2 :: x1 :: x0 :: rV o :: st) (w, m) Q := by
  have k1 := G_callV (mc' := 0) (ms' := 0) (mc := mc) (ms := ms) (M := M) (st := st) [x0, x1, x2, x3, x4] hC hci hd hw rfl hcat hdd hS k
  rw [Nat.zero_add, Nat.zero_add] at k1
  exact k1
theorem G_callS5 {M : MD} {d mc ms pc : Nat} {ls st : List PV} {w : List KD} {m : Nat → Nat → Int} {Q : Ps} {M' : MD} {d' idx : Nat} {x0 x1 x2 x3 x4 : PV} {Q' : Ps} (hC : CSk M.1.cls idx M' 5) (hd : decode M.2.1 pc = .ok (.invokestatic idx, 3)) (hcat : okCat st 8) (hdd : d' + 1 ≤ d) (hS : Sp M' d' 0 0 [x0, x1, x2, x3, x4] (w, m) Q') (k : ∀ r h', Q' r h' → G M d mc ms (pc + 3) ls (r.toList ++ st) h' Q) : G M d mc ms pc ls (x4 :: x3 :: x2 :: x1 :: x0 :: st) (w, m) Q := by
  have k1 := G_callS (mc' := 0) (ms' := 0) (mc := mc) (ms := ms) (M := M) (st := st) [x0, x1, x2, x3, x4] hC hd rfl hcat hdd hS k
  rw [Nat.zero_add, Nat.zero_add] at k1
  exact k1
theorem G_callV6 {M : MD} {d mc ms pc : Nat} {ls st : List PV} {w : List KD} {m : Nat → Nat → Int} {Q : Ps} {M' : MD} {d' idx o ci : Nat} {rs : List Int} {x0 x1 x2 x3 x4 x5 : PV} {Q' : Ps} (hC : CVk M.1.cls idx M' 6) (hci : (vwCl[ci]?).map (fun q => q.1) = some M'.1.cls) (hd : decode M.2.1 pc = .ok (.invokevirtual idx, 3)) (hw : w[o]? = some (0, ci, rs)) (hcat : okCat st 8) (hdd : d' + 1 ≤ d) (hS : Sp M' d' 0 0 (rV o :: [x0, x1, x2, x3, x4, x5]) (w, m) Q') (k : ∀ r h', Q' r h' → G M d mc ms (pc + 3) ls (r.toList ++ st) h' Q) : G M d mc ms pc ls (x5 :: x4 :: x3 :: x2 :: x1 :: x0 :: rV o :: st) (w, m) Q := by
  have k1 := G_callV (mc' := 0) (ms' := 0) (mc := mc) (ms := ms) (M := M) (st := st) [x0, x1, x2, x3, x4, x5] hC hci hd hw rfl hcat hdd hS k
  rw [Nat.zero_add, Nat.zero_add] at k1
  exact k1
theorem G_callS6 {M : MD} {d mc ms pc : Nat} {ls st : List PV} {w : List KD} {m : Nat → Nat → Int} {Q : Ps} {M' : MD} {d' idx : Nat} {x0 x1 x2 x3 x4 x5 : PV} {Q' : Ps} (hC : CSk M.1.cls idx M' 6) (hd : decode M.2.1 pc = .ok (.invokestatic idx, 3)) (hcat : okCat st 8) (hdd : d' + 1 ≤ d) (hS : Sp M' d' 0 0 [x0, x1, x2, x3, x4, x5] (w, m) Q') (k : ∀ r h', Q' r h' → G M d mc ms (pc + 3) ls (r.toList ++ st) h' Q) : G M d mc ms pc ls (x5 :: x4 :: x3 :: x2 :: x1 :: x0 :: st) (w, m) Q := by
  have k1 := G_callS (mc' := 0) (ms' := 0) (mc := mc) (ms := ms) (M := M) (st := st) [x0, x1, x2, x3, x4, x5] hC hd rfl hcat hdd hS k
  rw [Nat.zero_add, Nat.zero_add] at k1
  exact k1
theorem G_callV7 {M : MD} {d mc ms pc : Nat} {ls st : List PV} {w : List KD} {m : Nat → Nat → Int} {Q : Ps} {M' : MD} {d' idx o ci : Nat} {rs : List Int} {x0 x1 x2 x3 x4 x5 x6 : PV} {Q' : Ps} (hC : CVk M.1.cls idx M' 7) (hci : (vwCl[ci]?).map (fun q => q.1) = some M'.1.cls) (hd : decode M.2.1 pc = .ok (.invokevirtual idx, 3)) (hw : w[o]? = some (0, ci, rs)) (hcat : okCat st 8) (hdd : d' + 1 ≤ d) (hS : Sp M' d' 0 0 (rV o :: [x0, x1, x2, x3, x4, x5, x6]) (w, m) Q') (k : ∀ r h', Q' r h' → G M d mc ms (pc + 3) ls (r.toList ++ st) h' Q) : G M d mc ms pc ls (x6 :: x5 :: x4 :: x3 :: x2 :: x1 :: x0 :: rV o :: st) (w, m) Q := by
  have k1 := G_callV (mc' := 0) (ms' := 0) (mc := mc) (ms := ms) (M := M) (st := st) [x0, x1, x2, x3, x4, x5, x6] hC hci hd hw rfl hcat hdd hS k
  rw [Nat.zero_add, Nat.zero_add] at k1
  exact k1
theorem G_callS7 {M : MD} {d mc ms pc : Nat} {ls st : List PV} {w : List KD} {m : Nat → Nat → Int} {Q : Ps} {M' : MD} {d' idx : Nat} {x0 x1 x2 x3 x4 x5 x6 : PV} {Q' : Ps} (hC : CSk M.1.cls idx M' 7) (hd : decode M.2.1 pc = .ok (.invokestatic idx, 3)) (hcat : okCat st 8) (hdd : d' + 1 ≤ d) (hS : Sp M' d' 0 0 [x0, x1, x2, x3, x4, x5, x6] (w, m) Q') (k : ∀ r h', Q' r h' → G M d mc ms (pc + 3) ls (r.toList ++ st) h' Q) : G M d mc ms pc ls (x6 :: x5 :: x4 :: x3 :: x2 :: x1 :: x0 :: st) (w, m) Q := by
  have k1 := G_callS (mc' := 0) (ms' := 0) (mc := mc) (ms := ms) (M := M) (st := st) [x0, x1, x2, x3, x4, x5, x6] hC hd rfl hcat hdd hS k
  rw [Nat.zero_add, Nat.zero_add] at k1
  exact k1
theorem G_getIe {M : MD} {d mc ms pc : Nat} {ls st : List PV} {w : List KD} {m : Nat → Nat → Int} {Q : Ps} {o ci f idx : Nat} {v : Int} {rs : List Int} (hF : FLr M.1.cls idx ci f) (hd : decode M.2.1 pc = .ok (.getfield idx, 3)) (hw : w[o]? = some (0, ci, rs)) (hty : isI (tyOf ci f) = true) (hv : m o f = v) (k : G M d mc ms (pc + 3) ls (iV v :: st) (w, m) Q) : G M d mc ms pc ls (rV o :: st) (w, m) Q := by
  subst hv
  exact G_getI hF hd hw hty k
def wkL : List PV → List PV → Prop
  | [], _ => True
  | _ :: _, [] => False
  | v :: vs, u :: us => (v = uV ∨ v = u) ∧ wkL vs us
theorem wkL_at : ∀ (l2 l1 : List PV), wkL l2 l1 → ∀ (i : Nat) (v : PV), l2[i]? = some v → v ≠ uV → l1[i]? = some v
  | [], _, _, i, v, h, _ => by simp at h
  | _ :: _, [], hw, _, _, _, _ => hw.elim
  | x :: xs, y :: ys, hw, i, v, h, hv => by
    match i with
    | 0 =>
      simp at h
      subst h
      rcases hw.1 with e | e
      · exact absurd e hv
      · simp [e]
    | i + 1 =>
      simp at h
      have := wkL_at xs ys hw.2 i v h hv
      simpa using this
theorem G.fg {M : MD} {d mc ms pc : Nat} {ls ls2 st : List PV} {h : Hp} {Q : Ps} (k : G M d mc ms pc ls2 st h Q) (hw : wkL ls2 ls) : G M d mc ms pc ls st h Q := by
  intro l b0 D cA X p e R s mm args below meth c H locs cells slots ls' c1 c2
  exact k l b0 D cA X p e R s mm args below meth c H locs cells slots ls' c1 ⟨c2.1, c2.2.1, c2.2.2.1, c2.2.2.2.1, c2.2.2.2.2.1, fun i v hi hv => c2.2.2.2.2.2 i v (wkL_at _ _ hw i v hi hv) hv⟩
def WC : List KD := [(0, 9, [1, 6, 11, 16, -1, 21, 25, -1, 30, 46, 50, -1, 51, 52, 57, 60]), (0, 4, [-1, -1, 2, 3, 4, 5]), (1, 5, []), (1, 5, []), (1, 35, []), (2, 2401, []), (0, 1, [-1, -1, 7, 8, 9, 10]), (1, 4, []), (1, 24, []), (1, 144, []), (1, 6, []), (0, 4, [-1, -1, 12, 13, 14, 15]), (1, 5, []), (1, 5, []), (1, 35, []), (2, 2401, []), (0, 1, [-1, -1, 17, 18, 19, 20]), (1, 4, []), (1, 24, []), (1, 144, []), (1, 6, []), (0, 7, [-1, -1, -1, -1, 22, 23, 24]), (2, 400, []), (1, 144, []), (1, 6, []), (0, 3, [-1, -1, 26, 27, 28, 29]), (2, 12005, []), (3, 2401, []), (1, 2401, []), (2, 2401, []), (0, 5, [-1, -1, -1, -1, -1, 31, 38, 45]), (6, 6, [32, 33, 34, 35, 36, 37]), (1, 512, []), (1, 512, []), (1, 512, []), (1, 512, []), (1, 512, []), (1, 512, []), (6, 6, [39, 40, 41, 42, 43, 44]), (1, 512, []), (1, 512, []), (1, 512, []), (1, 512, []), (1, 512, []), (1, 512, []), (1, 48, []), (0, 6, [-1, -1, 47, 48, 49, -1, -1, -1]), (1, 8, []), (1, 8, []), (1, 48, []), (2, 2401, []), (1, 2401, []), (0, 8, [-1, -1, -1, -1, 53, 54, -1, 55, 56]), (1, 5, []), (1, 5, []), (1, 2401, []), (2, 2401, []), (0, 2, [-1, -1, 58, 59, -1]), (1, 5, []), (1, 5, []), (0, 0, [-1, -1, 61, 62, 63]), (1, 5, []), (1, 200, []), (1, 6, [])]
def WM : List KD := [(0, 10, [-1, 65, -1, -1, 66, 67, -1, -1, -1, -1, -1, 68, 69, 70, 71, 72, -1, 73, 74, 75, 76, 77, 78, -1, 79, 80, 81, 82, -1, 83]), (1, 2628, []), (1, 12005, []), (1, 400, []), (1, 6, []), (1, 144, []), (1, 3072, []), (1, 48, []), (5, 49, []), (5, 49, []), (5, 2401, []), (1, 49, []), (1, 2401, []), (1, 12005, []), (4, 2401, []), (1, 5, []), (1, 5, []), (1, 2401, []), (1, 9600, []), (1, 2628, [])]
theorem wk_0 (w : List KD) : (WC ++ w)[0]? = some (0, 9, [1, 6, 11, 16, -1, 21, 25, -1, 30, 46, 50, -1, 51, 52, 57, 60]) := rfl
theorem wk_1 (w : List KD) : (WC ++ w)[1]? = some (0, 4, [-1, -1, 2, 3, 4, 5]) := rfl
theorem wk_2 (w : List KD) : (WC ++ w)[2]? = some (1, 5, []) := rfl
theorem wk_3 (w : List KD) : (WC ++ w)[3]? = some (1, 5, []) := rfl
theorem wk_4 (w : List KD) : (WC ++ w)[4]? = some (1, 35, []) := rfl
theorem wk_5 (w : List KD) : (WC ++ w)[5]? = some (2, 2401, []) := rfl
theorem wk_6 (w : List KD) : (WC ++ w)[6]? = some (0, 1, [-1, -1, 7, 8, 9, 10]) := rfl
theorem wk_7 (w : List KD) : (WC ++ w)[7]? = some (1, 4, []) := rfl
theorem wk_8 (w : List KD) : (WC ++ w)[8]? = some (1, 24, []) := rfl
theorem wk_9 (w : List KD) : (WC ++ w)[9]? = some (1, 144, []) := rfl
theorem wk_10 (w : List KD) : (WC ++ w)[10]? = some (1, 6, []) := rfl
theorem wk_11 (w : List KD) : (WC ++ w)[11]? = some (0, 4, [-1, -1, 12, 13, 14, 15]) := rfl
theorem wk_12 (w : List KD) : (WC ++ w)[12]? = some (1, 5, []) := rfl
theorem wk_13 (w : List KD) : (WC ++ w)[13]? = some (1, 5, []) := rfl
theorem wk_14 (w : List KD) : (WC ++ w)[14]? = some (1, 35, []) := rfl
theorem wk_15 (w : List KD) : (WC ++ w)[15]? = some (2, 2401, []) := rfl
theorem wk_16 (w : List KD) : (WC ++ w)[16]? = some (0, 1, [-1, -1, 17, 18, 19, 20]) := rfl
theorem wk_17 (w : List KD) : (WC ++ w)[17]? = some (1, 4, []) := rfl
theorem wk_18 (w : List KD) : (WC ++ w)[18]? = some (1, 24, []) := rfl
theorem wk_19 (w : List KD) : (WC ++ w)[19]? = some (1, 144, []) := rfl
theorem wk_20 (w : List KD) : (WC ++ w)[20]? = some (1, 6, []) := rfl
theorem wk_21 (w : List KD) : (WC ++ w)[21]? = some (0, 7, [-1, -1, -1, -1, 22, 23, 24]) := rfl
theorem wk_22 (w : List KD) : (WC ++ w)[22]? = some (2, 400, []) := rfl
theorem wk_23 (w : List KD) : (WC ++ w)[23]? = some (1, 144, []) := rfl
theorem wk_24 (w : List KD) : (WC ++ w)[24]? = some (1, 6, []) := rfl
theorem wk_25 (w : List KD) : (WC ++ w)[25]? = some (0, 3, [-1, -1, 26, 27, 28, 29]) := rfl
theorem wk_26 (w : List KD) : (WC ++ w)[26]? = some (2, 12005, []) := rfl
theorem wk_27 (w : List KD) : (WC ++ w)[27]? = some (3, 2401, []) := rfl
theorem wk_28 (w : List KD) : (WC ++ w)[28]? = some (1, 2401, []) := rfl
theorem wk_29 (w : List KD) : (WC ++ w)[29]? = some (2, 2401, []) := rfl
theorem wk_30 (w : List KD) : (WC ++ w)[30]? = some (0, 5, [-1, -1, -1, -1, -1, 31, 38, 45]) := rfl
theorem wk_31 (w : List KD) : (WC ++ w)[31]? = some (6, 6, [32, 33, 34, 35, 36, 37]) := rfl
theorem wk_32 (w : List KD) : (WC ++ w)[32]? = some (1, 512, []) := rfl
theorem wk_33 (w : List KD) : (WC ++ w)[33]? = some (1, 512, []) := rfl
theorem wk_34 (w : List KD) : (WC ++ w)[34]? = some (1, 512, []) := rfl
theorem wk_35 (w : List KD) : (WC ++ w)[35]? = some (1, 512, []) := rfl
theorem wk_36 (w : List KD) : (WC ++ w)[36]? = some (1, 512, []) := rfl
theorem wk_37 (w : List KD) : (WC ++ w)[37]? = some (1, 512, []) := rfl
theorem wk_38 (w : List KD) : (WC ++ w)[38]? = some (6, 6, [39, 40, 41, 42, 43, 44]) := rfl
theorem wk_39 (w : List KD) : (WC ++ w)[39]? = some (1, 512, []) := rfl
theorem wk_40 (w : List KD) : (WC ++ w)[40]? = some (1, 512, []) := rfl
theorem wk_41 (w : List KD) : (WC ++ w)[41]? = some (1, 512, []) := rfl
theorem wk_42 (w : List KD) : (WC ++ w)[42]? = some (1, 512, []) := rfl
theorem wk_43 (w : List KD) : (WC ++ w)[43]? = some (1, 512, []) := rfl
theorem wk_44 (w : List KD) : (WC ++ w)[44]? = some (1, 512, []) := rfl
theorem wk_45 (w : List KD) : (WC ++ w)[45]? = some (1, 48, []) := rfl
theorem wk_46 (w : List KD) : (WC ++ w)[46]? = some (0, 6, [-1, -1, 47, 48, 49, -1, -1, -1]) := rfl
theorem wk_47 (w : List KD) : (WC ++ w)[47]? = some (1, 8, []) := rfl
theorem wk_48 (w : List KD) : (WC ++ w)[48]? = some (1, 8, []) := rfl
theorem wk_49 (w : List KD) : (WC ++ w)[49]? = some (1, 48, []) := rfl
theorem wk_50 (w : List KD) : (WC ++ w)[50]? = some (2, 2401, []) := rfl
theorem wk_51 (w : List KD) : (WC ++ w)[51]? = some (1, 2401, []) := rfl
theorem wk_52 (w : List KD) : (WC ++ w)[52]? = some (0, 8, [-1, -1, -1, -1, 53, 54, -1, 55, 56]) := rfl
theorem wk_53 (w : List KD) : (WC ++ w)[53]? = some (1, 5, []) := rfl
theorem wk_54 (w : List KD) : (WC ++ w)[54]? = some (1, 5, []) := rfl
theorem wk_55 (w : List KD) : (WC ++ w)[55]? = some (1, 2401, []) := rfl
theorem wk_56 (w : List KD) : (WC ++ w)[56]? = some (2, 2401, []) := rfl
theorem wk_57 (w : List KD) : (WC ++ w)[57]? = some (0, 2, [-1, -1, 58, 59, -1]) := rfl
theorem wk_58 (w : List KD) : (WC ++ w)[58]? = some (1, 5, []) := rfl
theorem wk_59 (w : List KD) : (WC ++ w)[59]? = some (1, 5, []) := rfl
theorem wk_60 (w : List KD) : (WC ++ w)[60]? = some (0, 0, [-1, -1, 61, 62, 63]) := rfl
theorem wk_61 (w : List KD) : (WC ++ w)[61]? = some (1, 5, []) := rfl
theorem wk_62 (w : List KD) : (WC ++ w)[62]? = some (1, 200, []) := rfl
theorem wk_63 (w : List KD) : (WC ++ w)[63]? = some (1, 6, []) := rfl
theorem wk_64 (w : List KD) : (WC ++ (WM ++ w))[64]? = some (0, 10, [-1, 65, -1, -1, 66, 67, -1, -1, -1, -1, -1, 68, 69, 70, 71, 72, -1, 73, 74, 75, 76, 77, 78, -1, 79, 80, 81, 82, -1, 83]) := rfl
theorem wk_65 (w : List KD) : (WC ++ (WM ++ w))[65]? = some (1, 2628, []) := rfl
theorem wk_66 (w : List KD) : (WC ++ (WM ++ w))[66]? = some (1, 12005, []) := rfl
theorem wk_67 (w : List KD) : (WC ++ (WM ++ w))[67]? = some (1, 400, []) := rfl
theorem wk_68 (w : List KD) : (WC ++ (WM ++ w))[68]? = some (1, 6, []) := rfl
theorem wk_69 (w : List KD) : (WC ++ (WM ++ w))[69]? = some (1, 144, []) := rfl
theorem wk_70 (w : List KD) : (WC ++ (WM ++ w))[70]? = some (1, 3072, []) := rfl
theorem wk_71 (w : List KD) : (WC ++ (WM ++ w))[71]? = some (1, 48, []) := rfl
theorem wk_72 (w : List KD) : (WC ++ (WM ++ w))[72]? = some (5, 49, []) := rfl
theorem wk_73 (w : List KD) : (WC ++ (WM ++ w))[73]? = some (5, 49, []) := rfl
theorem wk_74 (w : List KD) : (WC ++ (WM ++ w))[74]? = some (5, 2401, []) := rfl
theorem wk_75 (w : List KD) : (WC ++ (WM ++ w))[75]? = some (1, 49, []) := rfl
theorem wk_76 (w : List KD) : (WC ++ (WM ++ w))[76]? = some (1, 2401, []) := rfl
theorem wk_77 (w : List KD) : (WC ++ (WM ++ w))[77]? = some (1, 12005, []) := rfl
theorem wk_78 (w : List KD) : (WC ++ (WM ++ w))[78]? = some (4, 2401, []) := rfl
theorem wk_79 (w : List KD) : (WC ++ (WM ++ w))[79]? = some (1, 5, []) := rfl
theorem wk_80 (w : List KD) : (WC ++ (WM ++ w))[80]? = some (1, 5, []) := rfl
theorem wk_81 (w : List KD) : (WC ++ (WM ++ w))[81]? = some (1, 2401, []) := rfl
theorem wk_82 (w : List KD) : (WC ++ (WM ++ w))[82]? = some (1, 9600, []) := rfl
theorem wk_83 (w : List KD) : (WC ++ (WM ++ w))[83]? = some (1, 2628, []) := rfl
set_option maxHeartbeats 1000000 in
theorem Sp.ofGF {M : MD} {d mc ms : Nat} {as : List PV} {h : Hp} {Q : Ps} {ls : List PV} (hy : plainFor M.1 = true) (hl : entL as ++ List.replicate (M.2.2.1 - (entL as).length) uV = ls) (hn : (entL as).length ≤ M.2.2.1) (k : G M d mc ms 0 ls [] h Q) : Sp M d mc ms as h Q := by
  intro l b0 D cA X
  refine va_MetF (cc := M.2.1) (maxL := M.2.2.1) (ret := M.2.2.2) hy rfl ?_
  intro p e s m args below meth c s₁ B hml hv
  obtain ⟨rfl, hP, hsz, hK, hX, hXb, hXW⟩ := hv
  have hts0 := atoms_spec (ws := wsM M) B.pre
  have hts : ∀ w ∈ lwg, w.before (as.map (enc b0)).toArray s = true := fun w hw => hts0 w (List.mem_cons_of_mem _ hw)
  have hnm := (name_of_methodNamed B.named B.method).1
  have hown : s.vm.findClass M.1.cls = some m.cls := findClass_of_methodNamed B.named
  rw [lg_entry_eq]
  have hlv := LV.entry (b0 := b0) hn
  rw [hl] at hlv
  have k1 := k l b0 D cA X p e (headSpec (wsM M) (roomD d mc ms)).room s m (as.map (enc b0)).toArray below meth c s.heap [] 0 0 _
    ⟨B.exec, B.bytes, hml, B.returns, hown, hts, B.notSynchronized, hnm, Nat.le_refl _, Nat.le_refl _, by show 0 + mc ≤ mc; omega, by show 0 + ms ≤ ms; omega, hK, hX, hXb, by rw [hsz]; omega, hXW⟩
    ⟨hP, hsz, va_S.rf, hlv⟩
  rw [Nat.zero_add, Nat.zero_add] at k1
  exact k1
theorem upm_app (m : Nat → Nat → Int) (a k : Nat) (x : Int) (a' j : Nat) : upm m a k x a' j = if a' = a ∧ j = k then x else m a' j := rfl
