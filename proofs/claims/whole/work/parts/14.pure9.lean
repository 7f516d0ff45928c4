/-! the program as the program keeps it -/
def lAdd (P : xPg) (L : xLs) (o : Nat) : xLs := if 4 < o ∧ o < 10 then lAdd2 P L (if o = 5 then 16 else 15) o else lAdd1 P L o
theorem lAdd_a {P : xPg} {L : xLs} {o : Nat} (h : 6 ≤ o) (h2 : o ≤ 9) : lAdd P L o = lAdd2 P L 15 o := by
  unfold lAdd; rw [if_pos (by omega), if_neg (by omega)]
theorem lAdd_b {P : xPg} {L : xLs} {o : Nat} (h : o = 5) : lAdd P L o = lAdd2 P L 16 o := by
  unfold lAdd; rw [if_pos (by omega), if_pos h]
theorem lAdd_c {P : xPg} {L : xLs} {o : Nat} (h : ¬ (4 < o ∧ o < 10)) : lAdd P L o = lAdd1 P L o := by
  unfold lAdd; rw [if_neg h]
theorem lAdd_ok {P : xPg} {L : xLs} {o r a b : Nat} {k : Int32} (h : lOk P L) : lOk (pAdd P o r a b k) (lAdd P L o) := by
  unfold lAdd
  by_cases c : 4 < o ∧ o < 10
  · rw [if_pos c]; exact lAdd2_ok h c rfl
  · rw [if_neg c]; exact lAdd1_ok h c
theorem pOp_le {P : xPg} {x : Nat} (hp : pOk P) (h : x < pl P (pN P)) : pOp P x ≤ 16 := by
  have := (hp.2 _ (pI_sp h).1).1
  unfold pOp
  repeat' split
  all_goals omega
theorem pH_C {P : xPg} {x : Nat} (h : pH P x = true) : 4 < pO P (pI P x) ∧ pO P (pI P x) < 10 := by
  unfold pH at h
  rw [Bool.and_eq_true] at h
  exact of_decide_eq_true h.1
theorem pOp_J (P : xPg) (x : Nat) : decide (pOp P x = 10 ∨ pOp P x = 11) = pJ P (pI P x) := by
  unfold pOp
  cases c : pH P x with
  | false => simp [pJ]
  | true =>
    have := pH_C c
    have e : pJ P (pI P x) = false := decide_eq_false (by omega)
    rw [e]
    by_cases c5 : pO P (pI P x) = 5
    · simp [c5]
    · simp [c5]
/-- the number of a line of the rewritten program -/
def aNum (P : xPg) (x : Nat) : Int32 := if pJ P (pI P x) = true then nI (pl P (pK P (pI P x)).toNatClampNeg) else pK P (pI P x)
theorem pSd_k {P : xPg} (hp : pOk P) (hs : pSd P) {i : Nat} (hi : i < pN P) (hj : pJ P i = true) : (pK P i).toNatClampNeg < pN P ∧ pK P i = nI (pK P i).toNatClampNeg := by
  have := hs i hi (of_decide_eq_true hj)
  have h1 := hp.1
  exact ⟨nI_clampLt this.2 (by omega) this.1, (nI_clampS this.1).symm⟩
theorem rMany_w1 {P : xPg} {i : Nat} (h : pO P i = 6 ∨ pO P i = 8) : rMany P i = 1 := rMany_1 (by omega)
theorem rMany_w4 {P : xPg} {i : Nat} (h : ¬ (pO P i = 6 ∨ pO P i = 8)) (h1 : 6 ≤ pO P i) (h2 : pO P i ≤ 9) : rMany P i = 4 := rMany_4 (by omega)
theorem rMany_le (P : xPg) (i : Nat) : 1 ≤ rMany P i ∧ rMany P i ≤ 4 := by
  unfold rMany; split <;> omega
/-! a line done, as the program does it: the run behind it and the line at which it stands -/
theorem xr_in {x : Int32} {w : Nat} (hw : w ≤ 512) (h1 : 1 ≤ w) : xr x (512 - w + 1) = true ↔ xIn x w := by
  unfold xIn
  constructor
  · intro h
    obtain ⟨j, hj, rfl⟩ := xr_nat h (by omega)
    exact ⟨xr_n (by omega) (by decide), by rw [nI_cl (by omega)]; omega⟩
  · rintro ⟨h, h2⟩
    obtain ⟨j, hj, rfl⟩ := xr_nat h (by decide)
    rw [nI_cl (by omega)] at h2
    exact xr_n (by omega) (by omega)
theorem xf_skip {P : Nat → Bool} {w j : Nat} (hj : j < w) (h : P j = false) (e : xf P w 0 = xf P (w - j) j) : xf P w 0 = xf P (w - (j + 1)) (j + 1) := by
  rw [e, show w - j = (w - (j + 1)) + 1 by omega, xf, if_neg (by rw [h]; decide)]
theorem xf_hit {P : Nat → Bool} {w j : Nat} (hj : j < w) (h : P j = true) (e : xf P w 0 = xf P (w - j) j) : xf P w 0 = some j := by
  rw [e, show w - j = (w - (j + 1)) + 1 by omega, xf, if_pos h]
theorem xf_end {P : Nat → Bool} {w j : Nat} (hj : w ≤ j) (e : xf P w 0 = xf P (w - j) j) : xf P w 0 = none := by
  rw [e, show w - j = 0 by omega]; rfl
theorem xld_1 (hp : Nat → Int32) (x : Nat) : xld hp x 1 1 = hp x := by
  show (0 <<< (nI 8 &&& 31)) ||| hp (x + 0) = hp x
  rw [show (0 : Int32) <<< (nI 8 &&& 31) = 0 by decide, Nat.add_zero, Int32.zero_or]
