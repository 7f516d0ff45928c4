/-! the run: state, checked, at, last done, registers, how many prints, prints, kind, where, whose -/
abbrev xRn : Type := Nat × Bool × Nat × Nat × (Nat → Int32) × Nat × (Nat → Int32) × Nat × Int32 × Nat
abbrev rSt (R : xRn) : Nat := R.1
abbrev rCk (R : xRn) : Bool := R.2.1
abbrev rAt (R : xRn) : Nat := R.2.2.1
abbrev rLd (R : xRn) : Nat := R.2.2.2.1
abbrev rRg (R : xRn) : Nat → Int32 := R.2.2.2.2.1
abbrev rPn (R : xRn) : Nat := R.2.2.2.2.2.1
abbrev rPr (R : xRn) : Nat → Int32 := R.2.2.2.2.2.2.1
abbrev rKd (R : xRn) : Nat := R.2.2.2.2.2.2.2.1
abbrev rWh (R : xRn) : Int32 := R.2.2.2.2.2.2.2.2.1
abbrev rWo (R : xRn) : Nat := R.2.2.2.2.2.2.2.2.2
abbrev rSetS (R : xRn) (s : Nat) : xRn := (s, rCk R, rAt R, rLd R, rRg R, rPn R, rPr R, rKd R, rWh R, rWo R)
abbrev rSetA (R : xRn) (a : Nat) : xRn := (rSt R, rCk R, a, rLd R, rRg R, rPn R, rPr R, rKd R, rWh R, rWo R)
abbrev rSetL (R : xRn) (a : Nat) : xRn := (rSt R, rCk R, rAt R, a, rRg R, rPn R, rPr R, rKd R, rWh R, rWo R)
abbrev rSetR (R : xRn) (r : Nat) (v : Int32) : xRn := (rSt R, rCk R, rAt R, rLd R, xu (rRg R) r v, rPn R, rPr R, rKd R, rWh R, rWo R)
abbrev rTell (R : xRn) (k : Nat) (a : Int32) (i : Nat) : xRn := (3, rCk R, rAt R, rLd R, rRg R, rPn R, rPr R, k, a, i)
abbrev rPrint (R : xRn) (v : Int32) : xRn := if rPn R < 60 then (rSt R, rCk R, rAt R, rLd R, rRg R, rPn R + 1, xu (rPr R) (rPn R) v, rKd R, rWh R, rWo R) else R
abbrev rLim (P : xPg) (R : xRn) : Nat := if rCk R then pl P (pN P) else pN P
def rOk (P : xPg) (R : xRn) : Prop := rSt R ≤ 4 ∧ rPn R ≤ 60 ∧ (rSt R ≠ 0 → pSd P ∧ 0 < pN P) ∧ (rSt R = 1 → rAt R < rLim P R) ∧ (rSt R = 3 → rCk R = true ∧ rLd R < pl P (pN P) ∧ rWo R = pI P (rLd R))
/-- x is one of the numbers below n -/
def xr (x : Int32) (n : Nat) : Bool := decide (0 ≤ x ∧ x < nI n)
/-- why the byte at x may not be touched; 0: it may -/
def mTc (s : Int32) (j : Nat) : Nat := if s = 0 ∨ (0 < s ∧ nI j < s) then 0 else if s = -2 then 2 else if s = -3 then 3 else 1
def mWr (M : xMem) (x : Int32) : Nat := if xr x 512 = true then mTc (mSh M (x.toNatClampNeg / 8)) (x.toNatClampNeg % 8) else 5
/-- a block that is not in the queue has its address there -/
def mBl (M : xMem) (x : Int32) : Bool := xr x 512 && decide (0 < x.toNatClampNeg ∧ x.toNatClampNeg % 8 = 0 ∧ 0 < mSz M (x.toNatClampNeg / 8 - 1) ∧ mOw M (x.toNatClampNeg / 8 - 1) = 1)
/-- the first of m places from k on -/
def xf (P : Nat → Bool) : Nat → Nat → Option Nat
  | 0, _ => none
  | m + 1, k => if P k then some k else xf P m (k + 1)
def rMany (P : xPg) (i : Nat) : Nat := if pO P i % 2 = 0 then 1 else 4
abbrev rX (P : xPg) (R : xRn) (i : Nat) : Int32 := rRg R (pA P i) + pK P i
def rBad (P : xPg) (M : xMem) (R : xRn) (i : Nat) : Nat → Bool := fun j => decide (mWr M (rX P R i + nI j) ≠ 0)
def rTo (P : xPg) (M : xMem) (R : xRn) (i : Nat) (o : Option Nat) : xRn := match o with
  | some j => rTell R (mWr M (rX P R i + nI j)) (rX P R i + nI j) i
  | none => R
def rChk (P : xPg) (M : xMem) (R : xRn) (i : Nat) : xRn :=
  if pO P i = 5 then (if rRg R (pA P i) ≠ 0 ∧ mBl M (rRg R (pA P i)) = false then rTell R 4 (rRg R (pA P i)) i else R)
  else rTo P M R i (xf (rBad P M R i) (rMany P i) 0)
/-- w bytes from x on, the first j of them from above read -/
def xld (hp : Nat → Int32) (x w : Nat) : Nat → Int32
  | 0 => 0
  | j + 1 => (xld hp x w j <<< (nI 8 &&& 31)) ||| hp (x + (w - 1 - j))
def xbt (v : Int32) (j : Nat) : Int32 := (v >>> (nI (8 * j) &&& 31)) &&& nI 255
def xst (hp : Nat → Int32) (x : Nat) (v : Int32) : Nat → Nat → Int32
  | 0 => hp
  | j + 1 => xu (xst hp x v j) (x + j) (xbt v j)
/-- w bytes from x on lie in the heap -/
def xIn (x : Int32) (w : Nat) : Prop := xr x 512 = true ∧ x.toNatClampNeg + w ≤ 512
theorem xIn_dec (x : Int32) (w : Nat) : ∃ b : Bool, b = true ↔ xIn x w := by
  by_cases h : xIn x w
  · exact ⟨true, by simp [h]⟩
  · exact ⟨false, by simp [h]⟩
noncomputable def xInb (x : Int32) (w : Nat) : Bool := Classical.choose (xIn_dec x w)
theorem xInb_i (x : Int32) (w : Nat) : xInb x w = true ↔ xIn x w := Classical.choose_spec (xIn_dec x w)
noncomputable def rTch (P : xPg) (M : xMem) (R : xRn) (i : Nat) : xMem × xRn :=
  if xInb (rX P R i) (rMany P i) = true then
    (if pO P i = 6 then (M, rSetR R (pR P i) (mHp M (rX P R i).toNatClampNeg))
    else if pO P i = 7 then (M, rSetR R (pR P i) (xld (mHp M) (rX P R i).toNatClampNeg 4 4))
    else ((xst (mHp M) (rX P R i).toNatClampNeg (rRg R (pB P i)) (rMany P i), mSh M, mOw M, mSz M, mQn M, mQf M), R))
  else (M, rSetS R 4)
abbrev rA (P : xPg) (R : xRn) (i : Nat) : Int32 := rRg R (pA P i)
abbrev rB (P : xPg) (R : xRn) (i : Nat) : Int32 := rRg R (pB P i)
/-- where an instruction that goes on elsewhere goes on -/
def rNx (P : xPg) (R : xRn) (i : Nat) : Nat := if (pO P i = 10 ∧ rA P R i = 0) ∨ (pO P i = 11 ∧ rA P R i < rB P R i) then (pK P i).toNatClampNeg else i + 1
noncomputable def rPf (P : xPg) (M : xMem) (R : xRn) (i : Nat) : xMem × xRn :=
  if pO P i = 0 then (M, rSetR R (pR P i) (pK P i))
  else if pO P i = 1 then (M, rSetR R (pR P i) (rA P R i + rB P R i))
  else if pO P i = 2 then (M, rSetR R (pR P i) (rA P R i - rB P R i))
  else if pO P i = 3 then (M, rSetR R (pR P i) (rA P R i * rB P R i))
  else if pO P i = 4 then ((mAl M (rA P R i)).1, rSetR R (pR P i) (mAl M (rA P R i)).2)
  else if pO P i = 5 then (if mBl M (rA P R i) = true then (mFr M ((rA P R i).toNatClampNeg / 8 - 1), R) else if rA P R i ≠ 0 then (M, rSetS R 4) else (M, R))
  else if pO P i ≤ 9 then rTch P M R i
  else if pO P i ≤ 11 then (M, R)
  else if pO P i = 12 then (M, rPrint R (rA P R i))
  else if pO P i = 13 then (M, rSetR R (pR P i) (rA P R i + pK P i))
  else (M, rSetS R 2)
/-- the instruction at which the run is -/
abbrev rI (P : xPg) (R : xRn) : Nat := if rCk R then pI P (rAt R) else rAt R
abbrev rH (P : xPg) (R : xRn) : Bool := rCk R && pH P (rAt R)
def rEnd (P : xPg) (R : xRn) (nx : Nat) : xRn := if rSt R = 1 ∧ nx = pN P then rSetS (rSetA R (if rCk R then pl P nx else nx)) 2 else rSetA R (if rCk R then pl P nx else nx)
noncomputable def rOne (P : xPg) (M : xMem) (R : xRn) : xMem × xRn :=
  if rH P R = true then (M, rSetA (rChk P M (rSetL R (rAt R)) (rI P R)) (rAt R + 1))
  else ((rPf P M (rSetL R (rAt R)) (rI P R)).1, rEnd P (rPf P M (rSetL R (rAt R)) (rI P R)).2 (rNx P R (rI P R)))
/-- n steps, and how many were done -/
noncomputable def rGo (P : xPg) : Nat → xMem × xRn → xMem × xRn
  | 0, V => V
  | n + 1, V => if rSt V.2 = 1 then rGo P n (rOne P V.1 V.2) else V
noncomputable def rCnt (P : xPg) : Nat → xMem × xRn → Nat
  | 0, _ => 0
  | n + 1, V => if rSt V.2 = 1 then rCnt P n (rOne P V.1 V.2) + 1 else 0
/-! what holds stays so -/
theorem xI_toInt {n : Nat} (h : n < 2 ^ 31) : (nI n).toInt = (n : Int) := Int32.toInt_ofNat_of_lt h
theorem nI_clampS {x : Int32} (h : 0 ≤ x) : nI x.toNatClampNeg = x := by
  rw [Int32.le_iff_toInt_le] at h
  have e : (0 : Int32).toInt = 0 := by decide
  rw [e] at h
  have h2 := Int32.toInt_lt x
  have h3 : x.toNatClampNeg < 2 ^ 31 := by unfold Int32.toNatClampNeg; omega
  apply Int32.toInt_inj.mp
  rw [xI_toInt h3]
  unfold Int32.toNatClampNeg; omega
theorem nI_clampLt {x : Int32} {n : Nat} (h : x < nI n) (hn : n < 2 ^ 31) (h0 : 0 ≤ x) : x.toNatClampNeg < n := by
  rw [Int32.lt_iff_toInt_lt, xI_toInt hn] at h
  rw [Int32.le_iff_toInt_le] at h0
  have e : (0 : Int32).toInt = 0 := by decide
  rw [e] at h0
  unfold Int32.toNatClampNeg
  omega
theorem rI_lt {P : xPg} {R : xRn} (h : rAt R < rLim P R) : rI P R < pN P := by
  unfold rI
  unfold rLim at h
  split
  · rename_i hc; rw [if_pos hc] at h; exact (pI_sp h).1
  · rename_i hc; rw [if_neg hc] at h; exact h
theorem rNx_le {P : xPg} {R : xRn} {i : Nat} (hp : pOk P) (hs : pSd P) (hi : i < pN P) : rNx P R i ≤ pN P := by
  unfold rNx
  split
  · rename_i hc
    have := hs i hi (by omega)
    exact Nat.le_of_lt (nI_clampLt this.2 (by have := hp.1; omega) this.1)
  · omega
theorem rPf_ind {P : xPg} {M : xMem} {R : xRn} {i : Nat} {C : xMem × xRn → Prop} (h0 : ∀ r v, C (M, rSetR R r v)) (h1 : C ((mAl M (rA P R i)).1, rSetR R (pR P i) (mAl M (rA P R i)).2)) (h2 : mBl M (rA P R i) = true → C (mFr M ((rA P R i).toNatClampNeg / 8 - 1), R)) (h3 : C (M, rSetS R 4)) (h4 : C (M, R)) (h5 : ∀ hp, C ((hp, mSh M, mOw M, mSz M, mQn M, mQf M), R)) (h6 : ∀ v, C (M, rPrint R v)) (h7 : C (M, rSetS R 2)) : C (rPf P M R i) := by
  unfold rPf rTch
  by_cases c0 : pO P i = 0
  · rw [if_pos c0]; exact h0 _ _
  rw [if_neg c0]
  by_cases c1 : pO P i = 1
  · rw [if_pos c1]; exact h0 _ _
  rw [if_neg c1]
  by_cases c2 : pO P i = 2
  · rw [if_pos c2]; exact h0 _ _
  rw [if_neg c2]
  by_cases c3 : pO P i = 3
  · rw [if_pos c3]; exact h0 _ _
  rw [if_neg c3]
  by_cases c4 : pO P i = 4
  · rw [if_pos c4]; exact h1
  rw [if_neg c4]
  by_cases c5 : pO P i = 5
  · rw [if_pos c5]
    by_cases d1 : mBl M (rA P R i) = true
    · rw [if_pos d1]; exact h2 d1
    rw [if_neg d1]
    by_cases d2 : rA P R i ≠ 0
    · rw [if_pos d2]; exact h3
    rw [if_neg d2]; exact h4
  rw [if_neg c5]
  by_cases c6 : pO P i ≤ 9
  · rw [if_pos c6]
    by_cases d1 : xInb (rX P R i) (rMany P i) = true
    · rw [if_pos d1]
      by_cases d2 : pO P i = 6
      · rw [if_pos d2]; exact h0 _ _
      rw [if_neg d2]
      by_cases d3 : pO P i = 7
      · rw [if_pos d3]; exact h0 _ _
      rw [if_neg d3]; exact h5 _
    rw [if_neg d1]; exact h3
  rw [if_neg c6]
  by_cases c7 : pO P i ≤ 11
  · rw [if_pos c7]; exact h4
  rw [if_neg c7]
  by_cases c8 : pO P i = 12
  · rw [if_pos c8]; exact h6 _
  rw [if_neg c8]
  by_cases c9 : pO P i = 13
  · rw [if_pos c9]; exact h0 _ _
  rw [if_neg c9]; exact h7
theorem rPrint_k {R : xRn} {v : Int32} {C : xRn → Prop} (h0 : C R) (h1 : rPn R < 60 → C (rSt R, rCk R, rAt R, rLd R, rRg R, rPn R + 1, xu (rPr R) (rPn R) v, rKd R, rWh R, rWo R)) : C (rPrint R v) := by
  unfold rPrint
  by_cases c : rPn R < 60
  · rw [if_pos c]; exact h1 c
  · rw [if_neg c]; exact h0
theorem rPf_st {P : xPg} {M : xMem} {R : xRn} {i : Nat} : rSt (rPf P M R i).2 = rSt R ∨ rSt (rPf P M R i).2 = 2 ∨ rSt (rPf P M R i).2 = 4 :=
  rPf_ind (C := fun V => rSt V.2 = rSt R ∨ rSt V.2 = 2 ∨ rSt V.2 = 4) (fun _ _ => Or.inl rfl) (Or.inl rfl) (fun _ => Or.inl rfl) (Or.inr (Or.inr rfl)) (Or.inl rfl) (fun _ => Or.inl rfl) (fun _ => Or.inl (rPrint_k (C := fun X => rSt X = rSt R) rfl (fun _ => rfl))) (Or.inr (Or.inl rfl))
theorem rPf_keep {P : xPg} {M : xMem} {R : xRn} {i : Nat} (h : rPn R ≤ 60) : rCk (rPf P M R i).2 = rCk R ∧ rPn (rPf P M R i).2 ≤ 60 ∧ rLd (rPf P M R i).2 = rLd R ∧ rWo (rPf P M R i).2 = rWo R ∧ rAt (rPf P M R i).2 = rAt R :=
  rPf_ind (C := fun V => rCk V.2 = rCk R ∧ rPn V.2 ≤ 60 ∧ rLd V.2 = rLd R ∧ rWo V.2 = rWo R ∧ rAt V.2 = rAt R) (fun _ _ => ⟨rfl, h, rfl, rfl, rfl⟩) ⟨rfl, h, rfl, rfl, rfl⟩ (fun _ => ⟨rfl, h, rfl, rfl, rfl⟩) ⟨rfl, h, rfl, rfl, rfl⟩ ⟨rfl, h, rfl, rfl, rfl⟩ (fun _ => ⟨rfl, h, rfl, rfl, rfl⟩)
    (fun v => rPrint_k (C := fun X => rCk X = rCk R ∧ rPn X ≤ 60 ∧ rLd X = rLd R ∧ rWo X = rWo R ∧ rAt X = rAt R) ⟨rfl, h, rfl, rfl, rfl⟩ (fun hc => ⟨rfl, hc, rfl, rfl, rfl⟩)) ⟨rfl, h, rfl, rfl, rfl⟩
theorem mOk_hp {B : Nat} {M : xMem} (h : mOk B M) (hp : Nat → Int32) : mOk B (hp, mSh M, mOw M, mSz M, mQn M, mQf M) := h
theorem rPf_mok {P : xPg} {M : xMem} {R : xRn} {i : Nat} (h : mOk 20 M) : mOk 20 (rPf P M R i).1 :=
  rPf_ind (C := fun V => mOk 20 V.1) (fun _ _ => h) (mAl_ok _ h) (fun hb => by simp only [mBl, Bool.and_eq_true, decide_eq_true_eq] at hb; exact mFr_ok h hb.2.2.2.1 hb.2.2.2.2) h h (fun hp => mOk_hp h hp) (fun _ => h) h
theorem rChk_keep {P : xPg} {M : xMem} {R : xRn} {i : Nat} : rChk P M R i = R ∨ ∃ (k : Nat) (a : Int32), rChk P M R i = rTell R k a i := by
  unfold rChk rTo
  repeat' split
  all_goals first | exact Or.inl rfl | exact Or.inr ⟨_, _, rfl⟩
theorem rOne_ok {P : xPg} {M : xMem} {R : xRn} (hp : pOk P) (hm : mOk 20 M) (hr : rOk P R) (h1 : rSt R = 1) : mOk 20 (rOne P M R).1 ∧ rOk P (rOne P M R).2 := by
  obtain ⟨g1, g2, g3, g4, g5⟩ := id hr
  have hat := g4 h1
  have hsd := g3 (by omega)
  have hI := rI_lt hat
  unfold rOne
  split
  · rename_i hH
    refine ⟨hm, ?_⟩
    simp only [rH, Bool.and_eq_true] at hH
    have hck := hH.1
    have hL : rLim P R = pl P (pN P) := by unfold rLim; rw [if_pos hck]
    rw [hL] at hat
    have hII : rI P R = pI P (rAt R) := by unfold rI; rw [if_pos hck]
    rcases rChk_keep (P := P) (M := M) (R := rSetL R (rAt R)) (i := rI P R) with e | ⟨k, a, e⟩
    · rw [e]
      refine ⟨g1, g2, g3, fun _ => ?_, fun h3 => absurd (h1.symm.trans h3) (by omega)⟩
      show rAt R + 1 < rLim P R
      rw [hL]
      have hh := hH.2
      simp only [pH, Bool.and_eq_true, decide_eq_true_eq] at hh
      obtain ⟨s1, s2, s3⟩ := pI_sp hat
      have hps := pl_s P (pI P (rAt R))
      rw [if_pos (by simpa using hh.1)] at hps
      have := pl_mono (P := P) (show pI P (rAt R) + 1 ≤ pN P by omega)
      omega
    · rw [e]
      refine ⟨?_, g2, fun _ => hsd, fun h => absurd h ?_, fun _ => ⟨hck, hat, hII⟩⟩
      · show 3 ≤ 4; omega
      · show ¬ (3 = 1); omega
  · have hk := rPf_keep (P := P) (M := M) (R := rSetL R (rAt R)) (i := rI P R) g2
    have hst := rPf_st (P := P) (M := M) (R := rSetL R (rAt R)) (i := rI P R)
    refine ⟨rPf_mok hm, ?_⟩
    have hnx := rNx_le (R := R) hp hsd.1 hI
    generalize rPf P M (rSetL R (rAt R)) (rI P R) = V at hk hst
    obtain ⟨k1, k2, k3, k4, k5⟩ := hk
    have hst' : rSt V.2 = 1 ∨ rSt V.2 = 2 ∨ rSt V.2 = 4 := by
      rcases hst with e | e | e
      · left; rw [e]; exact h1
      · right; left; exact e
      · right; right; exact e
    generalize rNx P R (rI P R) = nx at hnx
    unfold rEnd
    split
    · refine ⟨?_, k2, fun _ => hsd, fun h => absurd h ?_, fun h => absurd h ?_⟩
      · show 2 ≤ 4; omega
      · show ¬ 2 = 1; omega
      · show ¬ 2 = 3; omega
    · rename_i hc
      refine ⟨?_, k2, fun _ => hsd, fun h => ?_, fun h => ?_⟩
      · show rSt V.2 ≤ 4; omega
      · have h' : rSt V.2 = 1 := h
        have hne : nx ≠ pN P := fun e => hc ⟨h', e⟩
        show (if rCk V.2 then pl P nx else nx) < if rCk V.2 then pl P (pN P) else pN P
        split
        · exact pl_lt (by omega)
        · omega
      · have h' : rSt V.2 = 3 := h
        omega
