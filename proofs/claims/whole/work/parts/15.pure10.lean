def xLr (ap : Nat → Nat) (b : Bool) : Nat := if b = true then ap 9 else ap 5
def rCf (M : xMem) (R : xRn) (x : Int32) (i : Nat) : xRn := if mMf M x = true then R else rTell R 4 x i
def mFc (M : xMem) (x : Int32) : xMem := if mMf M x = true then mFx M x.toNatClampNeg else M
def rFc (M : xMem) (R : xRn) (x : Int32) : xRn := if mMf M x = true then R else rSetS R 4
theorem mMf_t {M : xMem} {x : Int32} (h : mMf M x = true) : ∃ n, x = nI n ∧ n < 512 ∧ (n ≠ 0 → 8 ≤ n ∧ 0 < mSz M (n / 8 - 1) ∧ mOw M (n / 8 - 1) = 1) ∧ x.toNatClampNeg = n := by
  unfold mMf at h
  rw [Bool.or_eq_true] at h
  rcases h with h | h
  · have e := of_decide_eq_true h
    exact ⟨0, e, by omega, fun h => absurd rfl h, by rw [e]; decide⟩
  · obtain ⟨n, h1, h2, h3, h4, h5, h6⟩ := mBl_inv h
    exact ⟨n, h1, h2, fun _ => ⟨h3, h4, h5⟩, h6⟩
theorem rChk_f {P : xPg} {M : xMem} {R : xRn} {i : Nat} (h : pO P i = 5) : rCf M R (rRg R (pA P i)) i = rChk P M R i := by
  unfold rCf
  cases c : mMf M (rRg R (pA P i)) with
  | true =>
    rw [if_pos rfl, rChk_a h]
    unfold mMf at c
    rw [Bool.or_eq_true] at c
    exact c.imp of_decide_eq_true id
  | false =>
    unfold mMf at c
    rw [Bool.or_eq_false_iff] at c
    rw [if_neg (by decide), rChk_b h (of_decide_eq_false c.1) c.2]
theorem rPf_5 {P : xPg} {M : xMem} {R : xRn} {i : Nat} (h : pO P i = 5) : rPf P M R i = (mFc M (rA P R i), rFc M R (rA P R i)) := by
  unfold mFc rFc
  cases c : mBl M (rA P R i) with
  | true =>
    have e : mMf M (rA P R i) = true := by unfold mMf; rw [c, Bool.or_true]
    obtain ⟨n, g1, g2, g3, g4, g5, g6⟩ := mBl_inv c
    rw [if_pos e, if_pos e, rPf_5a h c]
    unfold mFx
    rw [if_neg (by omega)]
  | false =>
    by_cases c0 : rA P R i = 0
    · have e : mMf M (rA P R i) = true := by unfold mMf; rw [decide_eq_true c0]; rfl
      rw [if_pos e, if_pos e, rPf_5c h c c0]
      unfold mFx
      rw [if_pos (by rw [c0]; decide)]
    · have e : ¬ mMf M (rA P R i) = true := by unfold mMf; rw [decide_eq_false c0, c]; decide
      rw [if_neg e, if_neg e, rPf_5b h c c0]
def rCo (P : xPg) (R : xRn) (i : Nat) : Int32 := if pO P i = 1 then rA P R i + rB P R i else if pO P i = 2 then rA P R i - rB P R i else if pO P i = 3 then rA P R i * rB P R i else if pO P i = 13 then rA P R i + pK P i else pK P i
theorem rPf_co {P : xPg} {M : xMem} {R : xRn} {i : Nat} (h : pO P i ≤ 3 ∨ pO P i = 13) : rPf P M R i = (M, rSetR R (pR P i) (rCo P R i)) := by
  unfold rCo
  rcases h with h | h
  · have : pO P i = 0 ∨ pO P i = 1 ∨ pO P i = 2 ∨ pO P i = 3 := by omega
    rcases this with c | c | c | c
    · rw [rPf_0 c, if_neg (by omega), if_neg (by omega), if_neg (by omega), if_neg (by omega)]
    · rw [rPf_1 c, if_pos c]
    · rw [rPf_2 c, if_neg (by omega), if_pos c]
    · rw [rPf_3 c, if_neg (by omega), if_neg (by omega), if_pos c]
  · rw [rPf_13 h, if_neg (by omega), if_neg (by omega), if_neg (by omega), if_pos h]
def rGj (P : xPg) (R : xRn) (i : Nat) : Bool := if pO P i = 10 then decide (rA P R i = 0) else decide (rA P R i < rB P R i)
theorem rGj_nx {P : xPg} {R : xRn} {i : Nat} (hj : pO P i = 10 ∨ pO P i = 11) (h : rGj P R i = true) : rNx P R i = (pK P i).toNatClampNeg := by
  unfold rGj at h
  unfold rNx
  rw [if_pos]
  split at h
  · rename_i c; exact Or.inl ⟨c, of_decide_eq_true h⟩
  · rename_i c; exact Or.inr ⟨by omega, of_decide_eq_true h⟩
theorem rGj_no {P : xPg} {R : xRn} {i : Nat} (h : rGj P R i = false) : rNx P R i = i + 1 := by
  unfold rGj at h
  refine rNx_s ?_
  rintro (⟨h1, h2⟩ | ⟨h1, h2⟩)
  · rw [if_pos h1] at h; exact of_decide_eq_false h h2
  · rw [if_neg (by omega)] at h; exact of_decide_eq_false h h2
theorem pOp_14 {P : xPg} {x : Nat} (hp : pOk P) (hx : x < pl P (pN P)) (h : pOp P x ≠ 15) (h2 : pOp P x ≠ 16) : pH P x = false ∧ pOp P x = pO P (pI P x) := by
  unfold pOp at h h2 ⊢
  cases c : pH P x with
  | false => exact ⟨rfl, rfl⟩
  | true =>
    exfalso
    rw [c] at h h2
    by_cases c5 : pO P (pI P x) = 5
    · simp [c5] at h2
    · simp [c5] at h
theorem pOp_15 {P : xPg} {x : Nat} (hp : pOk P) (hx : x < pl P (pN P)) (h : pOp P x = 15) : pH P x = true ∧ 6 ≤ pO P (pI P x) ∧ pO P (pI P x) ≤ 9 := by
  have ho := (hp.2 _ (pI_sp hx).1).1
  unfold pOp at h
  cases c : pH P x with
  | false => rw [c] at h; simp at h; omega
  | true =>
    have := pH_C c
    rw [c] at h
    by_cases c5 : pO P (pI P x) = 5
    · simp [c5] at h
    · exact ⟨rfl, by omega, by omega⟩
theorem pOp_16 {P : xPg} {x : Nat} (hp : pOk P) (hx : x < pl P (pN P)) (h : pOp P x = 16) : pH P x = true ∧ pO P (pI P x) = 5 := by
  have ho := (hp.2 _ (pI_sp hx).1).1
  unfold pOp at h
  cases c : pH P x with
  | false => rw [c] at h; simp at h; omega
  | true =>
    rw [c] at h
    by_cases c5 : pO P (pI P x) = 5
    · exact ⟨rfl, c5⟩
    · simp [c5] at h
/-- the line behind one that is no check -/
theorem pl_next {P : xPg} {x : Nat} (hx : x < pl P (pN P)) (h : pH P x = false) : x + 1 = pl P (pI P x + 1) := by
  obtain ⟨h1, h2, h3⟩ := pI_sp hx
  have hs := pl_s P (pI P x)
  unfold pH at h
  rw [Bool.and_eq_false_iff] at h
  cases c : pC P (pI P x) with
  | false => rw [c, if_neg (by decide)] at hs; omega
  | true =>
    rw [c, if_pos rfl] at hs
    rcases h with h | h
    · rw [c] at h; cases h
    · have := of_decide_eq_false h; omega
theorem pl_chk {P : xPg} {x : Nat} (hx : x < pl P (pN P)) (h : pH P x = true) : x + 1 < pl P (pN P) := by
  obtain ⟨h1, h2, h3⟩ := pI_sp hx
  have hs := pl_s P (pI P x)
  unfold pH at h
  rw [Bool.and_eq_true] at h
  rw [if_pos h.1] at hs
  have := of_decide_eq_true h.2
  have := pl_mono (P := P) (show pI P x + 1 ≤ pN P by omega)
  omega
theorem pl_n {P : xPg} {j : Nat} (hj : j ≤ pN P) : pl P (pN P) ≤ pl P j ↔ j = pN P := by
  constructor
  · intro h
    apply Classical.byContradiction
    intro hne
    have := pl_lt (P := P) (show j < pN P by omega)
    omega
  · intro h; rw [h]; exact Nat.le_refl _
/-- the line at which the run stands behind a step -/
noncomputable def rLn (P : xPg) (M : xMem) (R : xRn) : Nat := if rSt (rOne P M R).2 = 1 then rAt (rOne P M R).2 else rAt R
theorem rLn_1 {P : xPg} {M : xMem} {R : xRn} {V : xMem × xRn} (e : rOne P M R = V) (h : rSt V.2 = 1) : rLn P M R = rAt V.2 := by
  unfold rLn; rw [e, if_pos h]
theorem rLn_0 {P : xPg} {M : xMem} {R : xRn} {V : xMem × xRn} (e : rOne P M R = V) (h : ¬ rSt V.2 = 1) : rLn P M R = rAt R := by
  unfold rLn; rw [e, if_neg h]
