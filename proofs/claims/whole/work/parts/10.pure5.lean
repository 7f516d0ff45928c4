/-! rows for the walks -/
theorem xr_t {x : Int32} {n : Nat} (h1 : ¬ x < 0) (h2 : ¬ nI n ≤ x) : xr x n = true := by
  unfold xr
  rw [decide_eq_true_eq]
  exact ⟨Int32.not_lt.mp h1, Int32.not_le.mp h2⟩
theorem xr_f1 {x : Int32} {n : Nat} (h1 : x < 0) : xr x n = false := by
  unfold xr
  rw [decide_eq_false_iff_not]
  exact fun h => absurd h1 (Int32.not_lt.mpr h.1)
theorem xr_f2 {x : Int32} {n : Nat} (h1 : nI n ≤ x) : xr x n = false := by
  unfold xr
  rw [decide_eq_false_iff_not]
  exact fun h => absurd h.2 (Int32.not_lt.mpr h1)
theorem xr_nat {x : Int32} {n : Nat} (h : xr x n = true) (hn : n < 2 ^ 31) : ∃ j, j < n ∧ x = nI j := by
  unfold xr at h
  rw [decide_eq_true_eq] at h
  exact ⟨x.toNatClampNeg, nI_clampLt h.2 hn h.1, (nI_clampS h.1).symm⟩
theorem xr_n {j n : Nat} (h : j < n) (hn : n < 2 ^ 31) : xr (nI j) n = true := by
  unfold xr
  rw [decide_eq_true_eq, Int32.le_iff_toInt_le, Int32.lt_iff_toInt_lt, xI_toInt (by omega), xI_toInt hn]
  have e : (0 : Int32).toInt = 0 := by decide
  rw [e]; omega
theorem nI_cl {n : Nat} (h : n < 2 ^ 31) : (nI n).toNatClampNeg = n := by
  unfold Int32.toNatClampNeg; rw [xI_toInt h]; omega
theorem mOk_ow {B : Nat} {M : xMem} (h : mOk B M) {k : Nat} (hk : k < 64) : mOw M k ≤ 2 := by
  by_cases c : mOw M k = 0
  · omega
  · obtain ⟨s, h1, h2, h3⟩ := h.2.1 k hk c
    have := h.1 s h1
    have := this.2.2.2 k h2 h3
    omega
theorem mOk_sz {B : Nat} {M : xMem} (h : mOk B M) (k : Nat) : mSz M k ≤ 64 := by
  by_cases c : 0 < mSz M k
  · have := h.1 k c; omega
  · omega
theorem mOk_q {B : Nat} {M : xMem} (h : mOk B M) {i : Nat} (hi : i < mQn M) : mQf M i + mSz M (mQf M i) ≤ 64 ∧ 3 ≤ mSz M (mQf M i) := by
  have := h.1 _ (h.2.2.2.1 i hi).1
  omega
theorem xsh_0 (q : Nat → Nat) : q = fun i => if i < 0 then q (i + 1) else q i := by
  funext i; rw [if_neg (by omega)]
theorem xsh_s {q f : Nat → Nat} {j : Nat} (hf : f = fun i => if i < j then q (i + 1) else q i) : xu f j (f (j + 1)) = fun i => if i < j + 1 then q (i + 1) else q i := by
  funext k
  by_cases e : k = j
  · subst e
    rw [xu_s, if_pos (by omega), hf]
    exact if_neg (by omega)
  · rw [xu_n e, hf]
    show (if k < j then q (k + 1) else q k) = _
    by_cases c : k < j
    · rw [if_pos c, if_pos (by omega)]
    · rw [if_neg c, if_neg (by omega)]
/-- one below a Nat, from 0 on -1 -/
def xm (t : Nat) : Int32 := nI t - 1
theorem xm_s (j : Nat) : xm (j + 1) = nI j := by
  unfold xm
  have : nI (j + 1) = nI j + 1 := Int32.ofNat_add j 1
  rw [this, Int32.add_sub_cancel]
theorem xm_0 : xm 0 < 0 := by decide
theorem xm_n {j : Nat} (h : j < 2 ^ 31) : ¬ xm (j + 1) < 0 := by
  rw [xm_s, Int32.lt_iff_toInt_lt, xI_toInt h]
  have e : (0 : Int32).toInt = 0 := by decide
  rw [e]; omega
theorem xm_d (j : Nat) : nI j + Int32.ofInt (-1) = xm j := by
  unfold xm
  rw [Int32.sub_eq_add_neg]
  congr 1
theorem mBl_n {M : xMem} {n : Nat} (h : n < 512) : mBl M (nI n) = decide (0 < n ∧ n % 8 = 0 ∧ 0 < mSz M (n / 8 - 1) ∧ mOw M (n / 8 - 1) = 1) := by
  unfold mBl
  rw [xr_n h (by omega), nI_cl (by omega), Bool.true_and]
theorem mBl_o {M : xMem} {x : Int32} (h : xr x 512 = false) : mBl M x = false := by
  unfold mBl
  rw [h]; rfl
theorem mWr_n {M : xMem} {n : Nat} (h : n < 512) : mWr M (nI n) = mTc (mSh M (n / 8)) (n % 8) := by
  unfold mWr
  rw [if_pos (xr_n h (by omega)), nI_cl (by omega)]
theorem mWr_o {M : xMem} {x : Int32} (h : xr x 512 = false) : mWr M x = 5 := by
  unfold mWr
  rw [h]; rfl
theorem mTc_le (x : Int32) (j : Nat) : mTc x j ≤ 3 := by
  unfold mTc
  repeat' split
  all_goals omega
theorem mWr_le (M : xMem) (x : Int32) : mWr M x ≤ 5 := by
  unfold mWr
  split
  · have := mTc_le (mSh M (x.toNatClampNeg / 8)) (x.toNatClampNeg % 8); omega
  · omega
theorem zI_1 {b : Bool} (h : nI 1 = zI b) : b = true := by cases b with
  | true => rfl
  | false => exact absurd h (by decide)
theorem zI_1n {b : Bool} (h : ¬ nI 1 = zI b) : b = false := by cases b with
  | true => exact absurd rfl h
  | false => rfl
theorem zI_0 {b : Bool} (h : nI 0 = zI b) : b = false := by cases b with
  | true => exact absurd h (by decide)
  | false => rfl
theorem zI_0n {b : Bool} (h : ¬ nI 0 = zI b) : b = true := by cases b with
  | true => rfl
  | false => exact absurd rfl h
/-- the blocks, those in the queue or the others -/
abbrev mQb (M : xMem) (b : Bool) : Nat → Bool := fun k => decide (0 < mSz M k) && (decide (mOw M k = 2) == b)
theorem mQb_t (M : xMem) : mQb M true = mIs M 2 := by
  funext k
  simp only [mQb, mIs]
  by_cases h1 : 0 < mSz M k <;> by_cases h2 : mOw M k = 2 <;> simp [h1, h2]
theorem mQb_f {B : Nat} {M : xMem} (h : mOk B M) : mQb M false = mIs M 1 := by
  funext k
  simp only [mQb, mIs]
  by_cases h1 : 0 < mSz M k
  · have := (h.1 k h1).2.2.1
    by_cases h2 : mOw M k = 2
    · simp [h1, h2]
    · have : mOw M k = 1 := by omega
      simp [h1, this]
  · simp [h1]
theorem mBl_le {M : xMem} {x : Int32} (h : x ≤ 0) : mBl M x = false := by
  by_cases c : xr x 512 = true
  · obtain ⟨j, hj, rfl⟩ := xr_nat c (by decide)
    rw [mBl_n hj]
    rw [Int32.le_iff_toInt_le, xI_toInt (by omega)] at h
    have e : (0 : Int32).toInt = 0 := by decide
    rw [e] at h
    exact decide_eq_false (by omega)
  · exact mBl_o (by simpa using c)
theorem mTc_0 {x : Int32} {j : Nat} (h : x = 0) : mTc x j = 0 := if_pos (Or.inl h)
theorem mTc_p {x : Int32} {j : Nat} (h1 : ¬ x ≤ 0) (h2 : ¬ x ≤ nI j) : mTc x j = 0 := if_pos (Or.inr ⟨Int32.not_le.mp h1, Int32.not_le.mp h2⟩)
theorem mTc_2 {x : Int32} {j : Nat} (h : x = -2) : mTc x j = 2 := by
  subst h
  unfold mTc
  rw [if_neg (fun h => h.elim (by decide) (fun h => absurd h.1 (by decide))), if_pos rfl]
theorem mTc_3 {x : Int32} {j : Nat} (h : x = -3) : mTc x j = 3 := by
  subst h
  unfold mTc
  rw [if_neg (fun h => h.elim (by decide) (fun h => absurd h.1 (by decide))), if_neg (by decide), if_pos rfl]
theorem mTc_1 {x : Int32} {j : Nat} (h0 : ¬ x = 0) (h1 : x ≤ 0 ∨ x ≤ nI j) (h2 : ¬ x = -2) (h3 : ¬ x = -3) : mTc x j = 1 := by
  unfold mTc
  rw [if_neg, if_neg h2, if_neg h3]
  rintro (h | ⟨h, h'⟩)
  · exact h0 h
  · rcases h1 with g | g
    · exact absurd h (Int32.not_lt.mpr g)
    · exact absurd h' (Int32.not_lt.mpr g)
theorem x_nat2 {x : Int32} (h1 : ¬ x < nI 1) (h2 : x ≤ nI 100) : ∃ n, 1 ≤ n ∧ n ≤ 100 ∧ x = nI n := by
  have h0 : 0 ≤ x := by
    rw [Int32.lt_iff_toInt_lt, xI_toInt (by decide)] at h1
    rw [Int32.le_iff_toInt_le, show (0 : Int32).toInt = 0 by decide]; omega
  have e := nI_clampS h0
  refine ⟨x.toNatClampNeg, ?_, ?_, e.symm⟩
  · rw [Int32.lt_iff_toInt_lt, xI_toInt (by decide)] at h1
    unfold Int32.toNatClampNeg; omega
  · rw [Int32.le_iff_toInt_le, xI_toInt (by decide)] at h2
    unfold Int32.toNatClampNeg; omega
theorem oI_nn {o : Option Nat} (h : 0 ≤ oI o) : ∃ g, o = some g := by
  cases o with
  | some g => exact ⟨g, rfl⟩
  | none => exact absurd h (by decide)
theorem oI_n {o : Option Nat} (h : ¬ 0 ≤ oI o) (hb : ∀ g, o = some g → g < 2 ^ 31) : o = none := by
  cases o with
  | some g =>
    exfalso; apply h
    rw [Int32.le_iff_toInt_le]
    show (0 : Int32).toInt ≤ (nI g).toInt
    rw [xI_toInt (hb g rfl), show (0 : Int32).toInt = 0 by decide]; omega
  | none => rfl
theorem mAl_0 {M : xMem} {x : Int32} (h : x < nI 1 ∨ nI 100 < x) : mAl M x = (M, 0) := if_pos h
theorem mAl_n {M : xMem} {n : Nat} (h1 : 1 ≤ n) (h2 : n ≤ 100) : mAl M (nI n) = match mGap (mMk ((n + 7) / 8 + 2) M) ((n + 7) / 8 + 2) with
    | some s => (mPut (mMk ((n + 7) / 8 + 2) M) s ((n + 7) / 8) n, nI (8 * s + 8))
    | none => (mMk ((n + 7) / 8 + 2) M, 0) := by
  unfold mAl
  rw [if_neg]
  · simp only [nI_cl (show n < 2 ^ 31 by omega)]
    cases mGap (mMk ((n + 7) / 8 + 2) M) ((n + 7) / 8 + 2) <;> rfl
  · rintro (h | h)
    · rw [Int32.lt_iff_toInt_lt, xI_toInt (by omega), show (1 : Int32).toInt = 1 by decide] at h; omega
    · rw [Int32.lt_iff_toInt_lt, xI_toInt (by omega), show (100 : Int32).toInt = 100 by decide] at h; omega
theorem mAl_s {M V : xMem} {n g : Nat} (h1 : 1 ≤ n) (h2 : n ≤ 100) (hV : mMk ((n + 7) / 8 + 2) M = V) (hg : mGap V ((n + 7) / 8 + 2) = some g) : mAl M (nI n) = (mPut V g ((n + 7) / 8) n, nI (8 * g + 8)) := by
  rw [mAl_n h1 h2, hV, hg]
theorem mAl_f {M V : xMem} {n : Nat} (h1 : 1 ≤ n) (h2 : n ≤ 100) (hV : mMk ((n + 7) / 8 + 2) M = V) (hg : mGap V ((n + 7) / 8 + 2) = none) : mAl M (nI n) = (V, 0) := by
  rw [mAl_n h1 h2, hV, hg]
theorem rTo_t (P : xPg) (M : xMem) (R : xRn) (i : Nat) (o : Option Nat) (k : Nat) (x : Int32) : rTell (rTo P M R i o) k x i = rTell R k x i := by
  cases o <;> rfl
theorem rChk_a {P : xPg} {M : xMem} {R : xRn} {i : Nat} (h : pO P i = 5) (h2 : rRg R (pA P i) = 0 ∨ mBl M (rRg R (pA P i)) = true) : rChk P M R i = R := by
  unfold rChk
  rw [if_pos h, if_neg]
  rintro ⟨g1, g2⟩
  rcases h2 with g | g
  · exact g1 g
  · rw [g] at g2; cases g2
theorem rChk_b {P : xPg} {M : xMem} {R : xRn} {i : Nat} (h : pO P i = 5) (h2 : ¬ rRg R (pA P i) = 0) (h3 : mBl M (rRg R (pA P i)) = false) : rChk P M R i = rTell R 4 (rRg R (pA P i)) i := by
  unfold rChk
  rw [if_pos h, if_pos ⟨h2, h3⟩]
theorem rChk_c {P : xPg} {M : xMem} {R : xRn} {i : Nat} (h : pO P i ≠ 5) : rChk P M R i = rTo P M R i (xf (rBad P M R i) (rMany P i) 0) := by
  unfold rChk
  rw [if_neg h]
theorem rTo_0 {P : xPg} {M : xMem} {R V : xRn} {i w j : Nat} (hj : j < w) (hV : V = rTo P M R i (xf (rBad P M R i) (w - (j + 1)) (j + 1))) (h : mWr M (rX P R i + nI j) = 0) : V = rTo P M R i (xf (rBad P M R i) (w - j) j) := by
  rw [show w - j = (w - (j + 1)) + 1 by omega, xf, if_neg (by unfold rBad; simp [h])]; exact hV
theorem rTo_1 {P : xPg} {M : xMem} {R V : xRn} {i w j : Nat} (hj : j < w) (hV : V = rTo P M R i (xf (rBad P M R i) (w - (j + 1)) (j + 1))) (h : 0 < mWr M (rX P R i + nI j)) : rTell V (mWr M (rX P R i + nI j)) (rX P R i + nI j) i = rTo P M R i (xf (rBad P M R i) (w - j) j) := by
  rw [show w - j = (w - (j + 1)) + 1 by omega, xf, if_pos (by unfold rBad; exact decide_eq_true (by omega)), hV, rTo_t]; rfl
theorem rMany_1 {P : xPg} {i : Nat} (h : pO P i % 2 = 0) : rMany P i = 1 := if_pos h
theorem rMany_4 {P : xPg} {i : Nat} (h : ¬ pO P i % 2 = 0) : rMany P i = 4 := if_neg h
theorem rTch_c {P : xPg} {M : xMem} {R : xRn} {i : Nat} (h : ¬ xIn (rX P R i) (rMany P i)) : rTch P M R i = (M, rSetS R 4) := by
  unfold rTch
  rw [if_neg (fun g => h ((xInb_i _ _).mp g))]
theorem rTch_6 {P : xPg} {M : xMem} {R : xRn} {i : Nat} (h : xIn (rX P R i) (rMany P i)) (h6 : pO P i = 6) : rTch P M R i = (M, rSetR R (pR P i) (mHp M (rX P R i).toNatClampNeg)) := by
  unfold rTch
  rw [if_pos ((xInb_i _ _).mpr h), if_pos h6]
theorem rTch_7 {P : xPg} {M : xMem} {R : xRn} {i : Nat} (h : xIn (rX P R i) (rMany P i)) (h6 : pO P i = 7) : rTch P M R i = (M, rSetR R (pR P i) (xld (mHp M) (rX P R i).toNatClampNeg 4 4)) := by
  unfold rTch
  rw [if_pos ((xInb_i _ _).mpr h), if_neg (by omega), if_pos h6]
theorem rTch_8 {P : xPg} {M : xMem} {R : xRn} {i : Nat} (h : xIn (rX P R i) (rMany P i)) (h6 : pO P i ≠ 6) (h7 : pO P i ≠ 7) : rTch P M R i = ((xst (mHp M) (rX P R i).toNatClampNeg (rRg R (pB P i)) (rMany P i), mSh M, mOw M, mSz M, mQn M, mQf M), R) := by
  unfold rTch
  rw [if_pos ((xInb_i _ _).mpr h), if_neg h6, if_neg h7]
theorem xbt_b (b : BitVec 32) (k : Nat) (h : k ≤ 24) : (b >>> k) &&& 255#32 = (b.sshiftRight k) &&& 255#32 := by
  apply BitVec.eq_of_getLsbD_eq
  intro i hi
  have e : (255#32).getLsbD i = decide (i < 8) := by
    have : ∀ i, i < 32 → (255#32).getLsbD i = decide (i < 8) := by decide
    exact this i hi
  rw [BitVec.getLsbD_and, BitVec.getLsbD_and, e]
  by_cases c : i < 8
  · simp only [c, decide_true, Bool.and_true, BitVec.getLsbD_ushiftRight, BitVec.getLsbD_sshiftRight]
    have h1 : k + i < 32 := by omega
    simp [h1, hi]
  · simp [c]
theorem xbt_eq (v : Int32) {j : Nat} (h : j < 4) : (v.toUInt32 >>> ((nI (8 * j)).toUInt32 &&& Int32.toUInt32 31)).toInt32 &&& nI 255 = xbt v j := by
  apply Int32.toBitVec_inj.mp
  have hj : j = 0 ∨ j = 1 ∨ j = 2 ∨ j = 3 := by omega
  rcases hj with rfl | rfl | rfl | rfl
  · exact xbt_b v.toBitVec 0 (by omega)
  · exact xbt_b v.toBitVec 8 (by omega)
  · exact xbt_b v.toBitVec 16 (by omega)
  · exact xbt_b v.toBitVec 24 (by omega)
theorem rPf_0 {P : xPg} {M : xMem} {R : xRn} {i : Nat} (h : pO P i = 0) : rPf P M R i = (M, rSetR R (pR P i) (pK P i)) := by
  unfold rPf
  rw [if_pos h]
theorem rPf_1 {P : xPg} {M : xMem} {R : xRn} {i : Nat} (h : pO P i = 1) : rPf P M R i = (M, rSetR R (pR P i) (rA P R i + rB P R i)) := by
  unfold rPf
  rw [if_neg (show ¬ pO P i = 0 by omega), if_pos h]
theorem rPf_2 {P : xPg} {M : xMem} {R : xRn} {i : Nat} (h : pO P i = 2) : rPf P M R i = (M, rSetR R (pR P i) (rA P R i - rB P R i)) := by
  unfold rPf
  rw [if_neg (show ¬ pO P i = 0 by omega), if_neg (show ¬ pO P i = 1 by omega), if_pos h]
theorem rPf_3 {P : xPg} {M : xMem} {R : xRn} {i : Nat} (h : pO P i = 3) : rPf P M R i = (M, rSetR R (pR P i) (rA P R i * rB P R i)) := by
  unfold rPf
  rw [if_neg (show ¬ pO P i = 0 by omega), if_neg (show ¬ pO P i = 1 by omega), if_neg (show ¬ pO P i = 2 by omega), if_pos h]
theorem rPf_4 {P : xPg} {M : xMem} {R : xRn} {i : Nat} (h : pO P i = 4) : rPf P M R i = ((mAl M (rA P R i)).1, rSetR R (pR P i) (mAl M (rA P R i)).2) := by
  unfold rPf
  rw [if_neg (show ¬ pO P i = 0 by omega), if_neg (show ¬ pO P i = 1 by omega), if_neg (show ¬ pO P i = 2 by omega), if_neg (show ¬ pO P i = 3 by omega), if_pos h]
theorem rPf_12 {P : xPg} {M : xMem} {R : xRn} {i : Nat} (h : pO P i = 12) : rPf P M R i = (M, rPrint R (rA P R i)) := by
  unfold rPf
  rw [if_neg (show ¬ pO P i = 0 by omega), if_neg (show ¬ pO P i = 1 by omega), if_neg (show ¬ pO P i = 2 by omega), if_neg (show ¬ pO P i = 3 by omega), if_neg (show ¬ pO P i = 4 by omega), if_neg (show ¬ pO P i = 5 by omega), if_neg (show ¬ pO P i ≤ 9 by omega), if_neg (show ¬ pO P i ≤ 11 by omega), if_pos h]
theorem rPf_13 {P : xPg} {M : xMem} {R : xRn} {i : Nat} (h : pO P i = 13) : rPf P M R i = (M, rSetR R (pR P i) (rA P R i + pK P i)) := by
  unfold rPf
  rw [if_neg (show ¬ pO P i = 0 by omega), if_neg (show ¬ pO P i = 1 by omega), if_neg (show ¬ pO P i = 2 by omega), if_neg (show ¬ pO P i = 3 by omega), if_neg (show ¬ pO P i = 4 by omega), if_neg (show ¬ pO P i = 5 by omega), if_neg (show ¬ pO P i ≤ 9 by omega), if_neg (show ¬ pO P i ≤ 11 by omega), if_neg (show ¬ pO P i = 12 by omega), if_pos h]
theorem rPf_5a {P : xPg} {M : xMem} {R : xRn} {i : Nat} (h : pO P i = 5) (h2 : mBl M (rA P R i) = true) : rPf P M R i = (mFr M ((rA P R i).toNatClampNeg / 8 - 1), R) := by
  unfold rPf
  rw [if_neg (show ¬ pO P i = 0 by omega), if_neg (show ¬ pO P i = 1 by omega), if_neg (show ¬ pO P i = 2 by omega), if_neg (show ¬ pO P i = 3 by omega), if_neg (show ¬ pO P i = 4 by omega), if_pos h, if_pos h2]
theorem rPf_5b {P : xPg} {M : xMem} {R : xRn} {i : Nat} (h : pO P i = 5) (h2 : mBl M (rA P R i) = false) (h3 : ¬ rA P R i = 0) : rPf P M R i = (M, rSetS R 4) := by
  unfold rPf
  rw [if_neg (show ¬ pO P i = 0 by omega), if_neg (show ¬ pO P i = 1 by omega), if_neg (show ¬ pO P i = 2 by omega), if_neg (show ¬ pO P i = 3 by omega), if_neg (show ¬ pO P i = 4 by omega), if_pos h, if_neg (by rw [h2]; decide), if_pos h3]
theorem rPf_5c {P : xPg} {M : xMem} {R : xRn} {i : Nat} (h : pO P i = 5) (h2 : mBl M (rA P R i) = false) (h3 : rA P R i = 0) : rPf P M R i = (M, R) := by
  unfold rPf
  rw [if_neg (show ¬ pO P i = 0 by omega), if_neg (show ¬ pO P i = 1 by omega), if_neg (show ¬ pO P i = 2 by omega), if_neg (show ¬ pO P i = 3 by omega), if_neg (show ¬ pO P i = 4 by omega), if_pos h, if_neg (by rw [h2]; decide), if_neg (fun g => g h3)]
theorem rPf_6 {P : xPg} {M : xMem} {R : xRn} {i : Nat} (h : 6 ≤ pO P i) (h2 : pO P i ≤ 9) : rPf P M R i = rTch P M R i := by
  unfold rPf
  rw [if_neg (show ¬ pO P i = 0 by omega), if_neg (show ¬ pO P i = 1 by omega), if_neg (show ¬ pO P i = 2 by omega), if_neg (show ¬ pO P i = 3 by omega), if_neg (show ¬ pO P i = 4 by omega), if_neg (show ¬ pO P i = 5 by omega), if_pos h2]
theorem rPf_10 {P : xPg} {M : xMem} {R : xRn} {i : Nat} (h : 10 ≤ pO P i) (h2 : pO P i ≤ 11) : rPf P M R i = (M, R) := by
  unfold rPf
  rw [if_neg (show ¬ pO P i = 0 by omega), if_neg (show ¬ pO P i = 1 by omega), if_neg (show ¬ pO P i = 2 by omega), if_neg (show ¬ pO P i = 3 by omega), if_neg (show ¬ pO P i = 4 by omega), if_neg (show ¬ pO P i = 5 by omega), if_neg (show ¬ pO P i ≤ 9 by omega), if_pos h2]
theorem rPf_14 {P : xPg} {M : xMem} {R : xRn} {i : Nat} (h : 14 ≤ pO P i) : rPf P M R i = (M, rSetS R 2) := by
  unfold rPf
  rw [if_neg (show ¬ pO P i = 0 by omega), if_neg (show ¬ pO P i = 1 by omega), if_neg (show ¬ pO P i = 2 by omega), if_neg (show ¬ pO P i = 3 by omega), if_neg (show ¬ pO P i = 4 by omega), if_neg (show ¬ pO P i = 5 by omega), if_neg (show ¬ pO P i ≤ 9 by omega), if_neg (show ¬ pO P i ≤ 11 by omega), if_neg (show ¬ pO P i = 12 by omega), if_neg (show ¬ pO P i = 13 by omega)]
theorem rPrint_1 {R : xRn} {v : Int32} (h : rPn R < 60) : rPrint R v = (rSt R, rCk R, rAt R, rLd R, rRg R, rPn R + 1, xu (rPr R) (rPn R) v, rKd R, rWh R, rWo R) := if_pos h
theorem rPrint_0 {R : xRn} {v : Int32} (h : 60 ≤ rPn R) : rPrint R v = R := if_neg (by omega)
theorem rNx_s {P : xPg} {R : xRn} {i : Nat} (h : ¬ ((pO P i = 10 ∧ rA P R i = 0) ∨ (pO P i = 11 ∧ rA P R i < rB P R i))) : rNx P R i = i + 1 := if_neg h
theorem rNx_j {P : xPg} {R : xRn} {i : Nat} (hs : pSd P) (hi : i < pN P) (h : (pO P i = 10 ∧ rA P R i = 0) ∨ (pO P i = 11 ∧ rA P R i < rB P R i)) : nI (rNx P R i) = pK P i := by
  unfold rNx
  rw [if_pos h]
  exact nI_clampS (hs i hi (by omega)).1
