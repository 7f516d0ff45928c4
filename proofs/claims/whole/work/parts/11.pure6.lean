theorem xm_z {t : Nat} (h : t < 2 ^ 31) (hc : xm t < 0) : t = 0 := by
  apply Nat.eq_zero_of_not_pos
  intro h0
  obtain ⟨j, rfl⟩ : ∃ j, t = j + 1 := ⟨t - 1, by omega⟩
  exact xm_n (by omega) hc
theorem xr_lt {j n : Nat} (h : xr (nI j) n = true) (hj : j < 2 ^ 31) (hn : n < 2 ^ 31) : j < n := by
  unfold xr at h
  rw [decide_eq_true_eq, Int32.lt_iff_toInt_lt, xI_toInt hj, xI_toInt hn] at h
  omega
theorem xr_nlt {j n : Nat} (h : xr (nI j) n = false) (hn : n < 2 ^ 31) : n ≤ j := by
  apply Nat.le_of_not_lt
  intro g
  rw [xr_n g hn] at h; cases h
theorem mBl_inv {M : xMem} {x : Int32} (h : mBl M x = true) : ∃ n, x = nI n ∧ n < 512 ∧ 8 ≤ n ∧ 0 < mSz M (n / 8 - 1) ∧ mOw M (n / 8 - 1) = 1 ∧ x.toNatClampNeg = n := by
  have h1 : xr x 512 = true := by
    unfold mBl at h
    rw [Bool.and_eq_true] at h; exact h.1
  obtain ⟨n, hn, rfl⟩ := xr_nat h1 (by decide)
  rw [mBl_n hn, decide_eq_true_eq] at h
  exact ⟨n, rfl, hn, by omega, h.2.2.1, h.2.2.2, nI_cl (by omega)⟩
theorem rChk_at (P : xPg) (M : xMem) (R : xRn) (i : Nat) : rAt (rChk P M R i) = rAt R := by
  rcases rChk_keep (P := P) (M := M) (R := R) (i := i) with e | ⟨k, a, e⟩ <;> rw [e]
theorem rOne_c {P : xPg} {M : xMem} {R : xRn} (h1 : rCk R = true) (h2 : pH P (rAt R) = true) : rOne P M R = (M, rSetA (rChk P M (rSetL R (rAt R)) (pI P (rAt R))) (rAt (rChk P M (rSetL R (rAt R)) (pI P (rAt R))) + 1)) := by
  unfold rOne
  rw [if_pos (show rH P R = true by unfold rH; rw [h1, h2]; rfl), rChk_at]
  unfold rI
  rw [if_pos h1]
theorem rOne_t {P : xPg} {M : xMem} {R : xRn} (h1 : rCk R = true) (h2 : pH P (rAt R) = false) : rOne P M R = ((rPf P M (rSetL R (rAt R)) (pI P (rAt R))).1, rEnd P (rPf P M (rSetL R (rAt R)) (pI P (rAt R))).2 (rNx P R (pI P (rAt R)))) := by
  unfold rOne
  rw [if_neg (show ¬ rH P R = true by unfold rH; rw [h2, Bool.and_false]; decide)]
  unfold rI
  rw [if_pos h1]
theorem rOne_f {P : xPg} {M : xMem} {R : xRn} (h1 : rCk R = false) : rOne P M R = ((rPf P M (rSetL R (rAt R)) (rAt R)).1, rEnd P (rPf P M (rSetL R (rAt R)) (rAt R)).2 (rNx P R (rAt R))) := by
  unfold rOne
  rw [if_neg (show ¬ rH P R = true by unfold rH; rw [h1, Bool.false_and]; decide)]
  unfold rI
  rw [if_neg (by rw [h1]; decide)]
theorem rEnd_t1 {P : xPg} {V : xRn} {n : Nat} (h : rCk V = true) (h2 : ¬ (rSt V = 1 ∧ n = pN P)) : rEnd P V n = rSetA V (pl P n) := by
  unfold rEnd
  rw [if_neg h2, if_pos h]
theorem rEnd_t2 {P : xPg} {V : xRn} {n : Nat} (h : rCk V = true) (h2 : rSt V = 1) (h3 : n = pN P) : rEnd P V n = rSetS (rSetA V (pl P n)) 2 := by
  unfold rEnd
  rw [if_pos ⟨h2, h3⟩, if_pos h]
theorem rEnd_f1 {P : xPg} {V : xRn} {n : Nat} (h : rCk V = false) (h2 : ¬ (rSt V = 1 ∧ n = pN P)) : rEnd P V n = rSetA V n := by
  unfold rEnd
  rw [if_neg h2, if_neg (by rw [h]; decide)]
theorem rEnd_f2 {P : xPg} {V : xRn} {n : Nat} (h : rCk V = false) (h2 : rSt V = 1) (h3 : n = pN P) : rEnd P V n = rSetS (rSetA V n) 2 := by
  unfold rEnd
  rw [if_pos ⟨h2, h3⟩, if_neg (by rw [h]; decide)]
theorem rPf_s4 {P : xPg} {M : xMem} {R : xRn} {i : Nat} (h : rSt R ≤ 4) : rSt (rPf P M R i).2 ≤ 4 := by
  rcases rPf_st (P := P) (M := M) (R := R) (i := i) with e | e | e <;> omega
theorem rGo_s {P : xPg} {n : Nat} {V : xMem × xRn} (h : rSt V.2 = 1) : rGo P (n + 1) V = rGo P n (rOne P V.1 V.2) := by
  rw [rGo, if_pos h]
theorem rGo_n {P : xPg} {n : Nat} {V : xMem × xRn} (h : ¬ rSt V.2 = 1) : rGo P n V = V := by
  cases n with
  | zero => rfl
  | succ n => rw [rGo, if_neg h]
theorem rCnt_s {P : xPg} {n : Nat} {V : xMem × xRn} (h : rSt V.2 = 1) : rCnt P (n + 1) V = rCnt P n (rOne P V.1 V.2) + 1 := by
  rw [rCnt, if_pos h]
theorem rCnt_n {P : xPg} {n : Nat} {V : xMem × xRn} (h : ¬ rSt V.2 = 1) : rCnt P n V = 0 := by
  cases n with
  | zero => rfl
  | succ n => rw [rCnt, if_neg h]
theorem rNx_L (P : xPg) (R : xRn) (x i : Nat) : rNx P (rSetL R x) i = rNx P R i := rfl
