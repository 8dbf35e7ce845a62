/-! the state of a PathCycle, by numbers alone: one row of numbers s (what the reference calls now), what is told of it -/
def pN (s : Nat → Int) : Nat := (s 0 + 3).toNat
def pM (s : Nat → Int) : Nat := (s 1 + 1).toNat
def pT (s : Nat → Int) : Nat := (s 2 + 24).toNat
def pK (s : Nat → Int) (k : Nat) : Int := s (4 + k)
def pG (s : Nat → Int) (k : Nat) : Int := s (9 + k)
def pW (s : Nat → Int) (k c : Nat) : Int := s (14 + 7 * k + c) + 1
def pL (s : Nat → Int) (j : Nat) : Nat := (s (49 + j) + 1).toNat
def pS (s : Nat → Int) (k j : Nat) : Int := s (53 + 4 * k + j)
def pRL (s : Nat → Int) (k : Nat) : Nat := (s (77 + k) + 1).toNat
def pR (s : Nat → Int) (k i : Nat) : Int := s (83 + 24 * k + i)
def pMk (s : Nat → Int) (p : Nat) : Int := s (227 + p)
/-- what every such row keeps -/
def VS (s : Nat → Int) : Prop :=
  (-2 ≤ s 0 ∧ s 0 ≤ 2) ∧ (0 ≤ s 1 ∧ s 1 ≤ 2) ∧ (-22 ≤ s 2 ∧ s 2 ≤ 24) ∧ (0 ≤ s 3 ∧ s 3 ≤ 1) ∧
  (∀ k, k < 5 → 0 ≤ s (4 + k) ∧ s (4 + k) ≤ 2) ∧ (∀ k, k < 5 → -9 ≤ s (9 + k) ∧ s (9 + k) ≤ 9) ∧
  (∀ i, i < 35 → -1 ≤ s (14 + i) ∧ s (14 + i) ≤ 8) ∧ (∀ j, j < 4 → 0 ≤ s (49 + j) ∧ s (49 + j) ≤ 11) ∧
  pL s 0 * pL s 1 * pL s 2 * pL s 3 ≤ 512 ∧ (∀ i, i < 24 → 0 ≤ s (53 + i) ∧ s (53 + i) < s 2 + 24) ∧
  (∀ k, k < 6 → 0 ≤ s (77 + k) ∧ s (77 + k) ≤ 23) ∧ (∀ i, i < 144 → 0 ≤ s (83 + i) ∧ s (83 + i) < s 2 + 24) ∧ (∀ p, p < 2401 → 0 ≤ s (227 + p) ∧ s (227 + p) ≤ 2)
def pSc (s : Nat → Int) : Nat := pL s 0 * pL s 1 * pL s 2 * pL s 3
def pths (s : Nat → Int) : List Nat := kl (pN s) (pM s) (pK s) (nC (pN s) (pM s))
def pC (s : Nat → Int) : Nat := (pths s).length
def pO (s : Nat → Int) (p k : Nat) : Int := dg (pN s) (pM s) ((pths s).getD p 0) k
def pCh (s : Nat → Int) (p k : Nat) : Int := if k = 0 then pO s p 0 else pO s p k - pO s p (k - 1)
def firstB (f : Nat → Bool) : Nat → Int
  | 0 => -1
  | n + 1 => if 0 ≤ firstB f n then firstB f n else if f n then (n : Int) else -1
def cntB (f : Nat → Bool) : Nat → Nat
  | 0 => 0
  | n + 1 => cntB f n + (if f n then 1 else 0)
def pChief (s : Nat → Int) : Int := firstB (fun p => pMk s p == 1) (pC s)
def prodN (f : Nat → Int) : Nat → Int
  | 0 => 1
  | n + 1 => prodN f n * f n
def pWt (s : Nat → Int) (p : Nat) : Int := prodN (fun k => pW s k (pCh s p k).natAbs) (pN s)
def pSp (s : Nat → Int) (p : Nat) : Int := sumN (fun k => pO s p k * pG s k) (pN s)
def pGone (s : Nat → Int) (p : Nat) : Bool := pSp s p != 0 || pWt s p == 0
/-- phases, residues -/
def pRs (s : Nat → Int) (t : Nat) : Nat → Nat
  | 0 => t
  | j + 1 => pRs s t j / pL s j
def plc (s : Nat → Int) (t j : Nat) : Nat := pRs s t j % pL s j
def pOwS (s : Nat → Int) (k t j : Nat) : Int := pR s k (t % pRL s k) + sumN (fun j => (plc s t j : Int) * pS s k j) j
def pOwn (s : Nat → Int) (k t : Nat) : Int := pOwS s k t 4 % (pT s : Int)
def pRcv (s : Nat → Int) (t : Nat) : Int := if s 3 = 0 then (if pChief s = -1 then 0 else sumN (fun k => pCh s (pChief s).toNat k * pOwn s k t) (pN s) % (pT s : Int)) else pOwn s (pN s) t
def pPh (s : Nat → Int) (k t : Nat) : Int := if k = pN s then pRcv s t else pOwn s k t
def pRes (s : Nat → Int) (p t : Nat) : Nat := ((sumN (fun k => pCh s p k * pOwn s k t) (pN s) - pRcv s t) % (pT s : Int)).toNat
def pCnt (s : Nat → Int) (p n r : Nat) : Int := (cntB (fun t => pRes s p t == r) n : Nat)
/-- 0: the sum is nothing; 2: one alone; 1 -/
def stB (T : Nat) (c : Nat → Int) : Int := if allN (fun a => Bf T c a == 0) T = true then 0 else if cntB (fun r => decide (c r > 0)) T = 1 then 2 else 1
def pSt (s : Nat → Int) (p : Nat) : Int := stB (pT s) (pCnt s p (pSc s))
def pOther (s : Nat → Int) (p : Nat) : Bool := pMk s p == 0 && !pGone s p
def pLeak (s : Nat → Int) (p : Nat) : Bool := pOther s p && pSt s p != 0
def pLost (s : Nat → Int) (p : Nat) : Bool := pMk s p == 1 && (pGone s p || pSt s p == 0)
