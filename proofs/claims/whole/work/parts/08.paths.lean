/-! paths of orders, by numbers alone -/
def bs (M : Nat) : Nat := 2 * M + 1
def dg (n M c k : Nat) : Int := if k + 1 = n then -1 else ((c / bs M ^ (n - 2 - k) % bs M : Nat) : Int) - M
def prevO (n M c k : Nat) : Int := if k = 0 then 0 else dg n M c (k - 1)
def okk (kind a b : Int) : Bool := !(kind == 1 && !(b == -a)) && !(kind == 2 && !(decide (b - a ≤ 1) && decide (a - b ≤ 1)))
def okc (n M : Nat) (K : Nat → Int) (c : Nat) : Bool := allN (fun k => okk (K k) (prevO n M c k) (dg n M c k)) n
def kl (n M : Nat) (K : Nat → Int) (C : Nat) : List Nat := (List.range C).filter (okc n M K)
def nC (n M : Nat) : Nat := bs M ^ (n - 1)
theorem dg_rng (n M c k : Nat) (hM : 1 ≤ M) : -(M : Int) ≤ dg n M c k ∧ dg n M c k ≤ M := by
  unfold dg
  by_cases h : k + 1 = n
  · rw [if_pos h]; omega
  · rw [if_neg h]
    have : c / bs M ^ (n - 2 - k) % bs M < bs M := Nat.mod_lt _ (by unfold bs; omega)
    have h2 : bs M = 2 * M + 1 := rfl
    omega
theorem prevO_rng (n M c k : Nat) (hM : 1 ≤ M) : -(M : Int) ≤ prevO n M c k ∧ prevO n M c k ≤ M := by
  unfold prevO
  by_cases h : k = 0
  · rw [if_pos h]; omega
  · rw [if_neg h]; exact dg_rng n M c _ hM
theorem kl_succ (n M : Nat) (K : Nat → Int) (C : Nat) : kl n M K (C + 1) = kl n M K C ++ (if okc n M K C = true then [C] else []) := by
  unfold kl
  rw [List.range_succ, List.filter_append]
  congr 1
  by_cases h : okc n M K C = true
  · simp [h]
  · simp [h]
theorem kl_len_le (n M : Nat) (K : Nat → Int) (C : Nat) : (kl n M K C).length ≤ C := by
  unfold kl
  have := List.length_filter_le (okc n M K) (List.range C)
  rw [List.length_range] at this
  exact this
theorem kl_get_lt {n M : Nat} {K : Nat → Int} {C p : Nat} (h : p < (kl n M K C).length) : (kl n M K C).getD p 0 < C ∧ okc n M K ((kl n M K C).getD p 0) = true := by
  have h1 : (kl n M K C).getD p 0 ∈ kl n M K C := by
    rw [List.getD_eq_getElem?_getD, List.getElem?_eq_getElem h]
    exact List.getElem_mem h
  have h2 := List.mem_filter.mp h1
  exact ⟨List.mem_range.mp h2.1, h2.2⟩
theorem pw_le (M : Nat) (hM : 1 ≤ M ∧ M ≤ 3) (k : Nat) (hk : k ≤ 4) : 1 ≤ bs M ^ k ∧ bs M ^ k ≤ 2401 := by
  have h1 : M = 1 ∨ M = 2 ∨ M = 3 := by omega
  have h2 : k = 0 ∨ k = 1 ∨ k = 2 ∨ k = 3 ∨ k = 4 := by omega
  rcases h1 with rfl | rfl | rfl <;> rcases h2 with rfl | rfl | rfl | rfl | rfl <;> decide
theorem nC_le {n M : Nat} (hn : 1 ≤ n ∧ n ≤ 5) (hM : 1 ≤ M ∧ M ≤ 3) : 1 ≤ nC n M ∧ nC n M ≤ 2401 := pw_le M hM (n - 1) (by omega)
theorem dg_div (n M c k : Nat) (hk : k + 2 ≤ n) : c / bs M ^ (n - 2 - k) % bs M = c / bs M ^ (n - 2 - k) % bs M := rfl
