/-! soundness as the walks find it; the answers of the calls: which refusal (0: none), and the number -/
def pS1 (P : xPg) (i : Nat) : Bool := !(pJ P i) || (decide (0 ≤ pK P i) && decide (pK P i < nI (pN P)))
def pSB (P : xPg) : Nat → Bool
  | 0 => true
  | j + 1 => pSB P j && pS1 P j
theorem pS1_a {P : xPg} {i : Nat} (h : pO P i ≠ 10) (h2 : pO P i ≠ 11) : pS1 P i = true := by
  unfold pS1; simp [pJ, h, h2]
theorem pS1_l {P : xPg} {i : Nat} (h : pO P i = 10 ∨ pO P i = 11) (h2 : pK P i < 0) : pS1 P i = false := by
  have : ¬ 0 ≤ pK P i := Int32.not_le.mpr h2
  unfold pS1; simp [pJ, h, this]
theorem pS1_g {P : xPg} {i : Nat} (h : pO P i = 10 ∨ pO P i = 11) (h2 : nI (pN P) ≤ pK P i) : pS1 P i = false := by
  have : ¬ pK P i < nI (pN P) := Int32.not_lt.mpr h2
  unfold pS1; simp [pJ, h, this]
theorem pS1_i {P : xPg} {i : Nat} (h1 : ¬ pK P i < 0) (h2 : ¬ nI (pN P) ≤ pK P i) : pS1 P i = true := by
  unfold pS1; simp [Int32.not_lt.mp h1, Int32.not_le.mp h2]
theorem pSB_all {P : xPg} {n : Nat} : pSB P n = true ↔ ∀ i, i < n → pS1 P i = true := by
  induction n with
  | zero => exact ⟨fun _ i h => absurd h (Nat.not_lt_zero _), fun _ => rfl⟩
  | succ n ih =>
    rw [pSB, Bool.and_eq_true, ih]
    constructor
    · rintro ⟨h1, h2⟩ i hi
      by_cases e : i = n
      · subst e; exact h2
      · exact h1 i (by omega)
    · intro h
      exact ⟨fun i hi => h i (by omega), h n (by omega)⟩
theorem pSB_sd {P : xPg} : pSB P (pN P) = true ↔ pSd P := by
  rw [pSB_all]
  unfold pSd
  constructor
  · intro h i hi hj
    have := h i hi
    unfold pS1 at this
    simp [pJ, hj] at this
    exact this
  · intro h i hi
    by_cases hj : pO P i = 10 ∨ pO P i = 11
    · have := h i hi hj
      unfold pS1; simp [this.1, this.2]
    · unfold pS1; simp [pJ, hj]
theorem pSB_f {P : xPg} {i : Nat} (hi : i < pN P) (h : pS1 P i = false) : pSB P (pN P) = false := by
  cases c : pSB P (pN P) with
  | false => rfl
  | true => rw [pSB_all.mp c i hi] at h; cases h
def aRw (P : xPg) : Nat × Int32 := if pSB P (pN P) = true then (0, nI (pl P (pN P))) else (1, 0)
def aRv (P : xPg) (p : Nat) (y : Int32) : Int32 := if y = 1 then nI (pI P p) else if y = 0 then nI (pOp P p) else if pJ P (pI P p) = true then nI (pl P (pK P (pI P p)).toNatClampNeg) else pK P (pI P p)
def aRt (P : xPg) (x y : Int32) : Nat × Int32 := if pSB P (pN P) = true then (if xr x (pl P (pN P)) = true then (if xr y 3 = true then (0, aRv P x.toNatClampNeg y) else (3, 0)) else (2, 0)) else (1, 0)
def aStart (P : xPg) : Nat := if 0 < pN P ∧ pSB P (pN P) = true then 0 else 1
def rNew (R : xRn) (ck : Bool) (x y : Int32) : xRn := (1, ck, 0, 0, xu (xu (xp (rRg R) 0 8 0) 0 x) 1 y, 0, rPr R, rKd R, rWh R, rWo R)
def aStep (R : xRn) (x : Int32) : Nat := if rSt R = 0 then 1 else if xr x 1001 = true then 0 else 2
def aLook (P : xPg) (M : xMem) (R : xRn) (x : Int32) : Nat × Int32 := if xr x 6 = true then (0, if x = 0 then nI (rSt R) else if x = 5 then nI (pN P) else if rSt R = 0 then 0 else if x = 1 then (if rSt R = 1 then nI (rAt R) else nI (rLd R)) else if x = 2 then nI (rPn R) else if x = 4 then nI (xc (mQb M true) 64) else nI (xc (mQb M false) 64)) else (1, 0)
def aReg (R : xRn) (x : Int32) : Nat × Int32 := if xr x 8 = true then (0, if rSt R = 0 then 0 else rRg R x.toNatClampNeg) else (1, 0)
def aPr (R : xRn) (x : Int32) : Nat × Int32 := if rSt R ≠ 0 ∧ xr x (rPn R) = true then (0, rPr R x.toNatClampNeg) else (1, 0)
def aHeap (M : xMem) (x : Int32) : Nat × Int32 := if xr x 512 = true then (0, mHp M x.toNatClampNeg) else (1, 0)
def aShad (M : xMem) (x : Int32) : Nat × Int32 := if xr x 64 = true then (0, mSh M x.toNatClampNeg) else (1, 0)
def aRep (R : xRn) (x : Int32) : Nat × Int32 := if rSt R = 3 then (if xr x 3 = true then (0, if x = 0 then nI (rKd R) else if x = 1 then rWh R else nI (rWo R)) else (2, 0)) else (1, 0)
def aCode (P : xPg) (o r a b : Int32) : Nat := if xr o 15 = true ∧ xr r 8 = true ∧ xr a 8 = true ∧ xr b 8 = true then (if pN P = 40 then 2 else 0) else 1
/-- the program behind code -/
def pCode (P : xPg) (o r a b k : Int32) : xPg := if aCode P o r a b = 0 then pAdd P o.toNatClampNeg r.toNatClampNeg a.toNatClampNeg b.toNatClampNeg k else P
theorem xr_g {x : Int32} {n : Nat} (h : ¬ x ≤ nI n) (hn : n + 1 < 2 ^ 31) : xr x (n + 1) = false := by
  apply xr_f2
  rw [Int32.le_iff_toInt_le, xI_toInt (by omega)] at h ⊢
  omega
theorem x_lts {k : Nat} (h : k + 1 < 2 ^ 31) : nI k < nI (k + 1) := by
  rw [Int32.lt_iff_toInt_lt, xI_toInt (by omega), xI_toInt h]; omega
