/-! the program: n, operation, r, a, b, k -/
abbrev xPg : Type := Nat × (Nat → Nat) × (Nat → Nat) × (Nat → Nat) × (Nat → Nat) × (Nat → Int32)
abbrev pN (P : xPg) : Nat := P.1
abbrev pO (P : xPg) : Nat → Nat := P.2.1
abbrev pR (P : xPg) : Nat → Nat := P.2.2.1
abbrev pA (P : xPg) : Nat → Nat := P.2.2.2.1
abbrev pB (P : xPg) : Nat → Nat := P.2.2.2.2.1
abbrev pK (P : xPg) : Nat → Int32 := P.2.2.2.2.2
def pOk (P : xPg) : Prop := pN P ≤ 40 ∧ ∀ i, i < pN P → pO P i ≤ 14 ∧ pR P i < 8 ∧ pA P i < 8 ∧ pB P i < 8
/-- has a check ahead of it -/
abbrev pC (P : xPg) : Nat → Bool := fun i => decide (4 < pO P i ∧ pO P i < 10)
/-- where an instruction's lines begin in the rewritten program -/
def pl (P : xPg) (i : Nat) : Nat := i + xc (pC P) i
theorem pl_0 (P : xPg) : pl P 0 = 0 := rfl
theorem pl_s (P : xPg) (i : Nat) : pl P (i + 1) = pl P i + 1 + (if pC P i then 1 else 0) := by
  unfold pl; rw [xc]; omega
theorem pl_ge (P : xPg) (i : Nat) : i ≤ pl P i := Nat.le_add_right _ _
theorem pl_le (P : xPg) (i : Nat) : pl P i ≤ 2 * i := by
  have := xc_le (pC P) i
  unfold pl; omega
theorem pl_lt {P : xPg} {i j : Nat} (h : i < j) : pl P i < pl P j := by
  induction j with
  | zero => omega
  | succ j ih =>
    rw [pl_s]
    by_cases e : i = j
    · subst e; omega
    · have := ih (by omega); omega
theorem pl_mono {P : xPg} {i j : Nat} (h : i ≤ j) : pl P i ≤ pl P j := by
  by_cases e : i = j
  · subst e; exact Nat.le_refl _
  · exact Nat.le_of_lt (pl_lt (by omega))
theorem pl_inj {P : xPg} {i j : Nat} (h : pl P i = pl P j) : i = j := by
  rcases Nat.lt_trichotomy i j with g | g | g
  · have := pl_lt (P := P) g; omega
  · exact g
  · have := pl_lt (P := P) g; omega
theorem pl_ex {P : xPg} {n p : Nat} (h : p < pl P n) : ∃ i, i < n ∧ pl P i ≤ p ∧ p < pl P (i + 1) := by
  induction n with
  | zero => rw [pl_0] at h; omega
  | succ n ih =>
    by_cases c : p < pl P n
    · obtain ⟨i, h1, h2⟩ := ih c; exact ⟨i, by omega, h2⟩
    · exact ⟨n, by omega, by omega, h⟩
/-- the instruction whose line it is -/
def pI (P : xPg) (p : Nat) : Nat := xc (fun i => decide (pl P (i + 1) ≤ p)) p
theorem xc_cut {P : Nat → Bool} {i n : Nat} (h : i ≤ n) (h1 : ∀ j, j < i → P j = true) (h2 : ∀ j, i ≤ j → P j = false) : xc P n = i := by
  induction n with
  | zero => rw [xc]; omega
  | succ n ih =>
    rw [xc]
    by_cases e : i = n + 1
    · have : ∀ m, m ≤ i → xc P m = m := by
        intro m
        induction m with
        | zero => intro _; rfl
        | succ m ihm => intro hm; rw [xc, ihm (by omega), h1 m (by omega)]; rfl
      rw [this n (by omega), h1 n (by omega), e]; rfl
    · rw [ih (by omega), h2 n (by omega)]; rfl
theorem pI_eq {P : xPg} {p i : Nat} (h1 : pl P i ≤ p) (h2 : p < pl P (i + 1)) : pI P p = i := by
  refine xc_cut (Nat.le_trans (pl_ge P i) h1) (fun j hj => ?_) (fun j hj => ?_)
  · have := pl_mono (P := P) (show j + 1 ≤ i by omega)
    simp only [decide_eq_true_eq]; omega
  · have := pl_mono (P := P) (show i + 1 ≤ j + 1 by omega)
    simp only [decide_eq_false_iff_not]; omega
theorem pI_sp {P : xPg} {n p : Nat} (h : p < pl P n) : pI P p < n ∧ pl P (pI P p) ≤ p ∧ p < pl P (pI P p + 1) := by
  obtain ⟨i, h1, h2, h3⟩ := pl_ex h
  rw [pI_eq h2 h3]; exact ⟨h1, h2, h3⟩
/-- is the line a check -/
def pH (P : xPg) (p : Nat) : Bool := pC P (pI P p) && decide (p = pl P (pI P p))
/-- the operation of a line -/
def pOp (P : xPg) (p : Nat) : Nat := if pH P p then (if pO P (pI P p) = 5 then 16 else 15) else pO P (pI P p)
/-- goes on elsewhere -/
abbrev pJ (P : xPg) (i : Nat) : Bool := decide (pO P i = 10 ∨ pO P i = 11)
/-- every instruction goes on within -/
def pSd (P : xPg) : Prop := ∀ i, i < pN P → (pO P i = 10 ∨ pO P i = 11) → 0 ≤ pK P i ∧ pK P i < nI (pN P)
/-- an instruction more -/
def pAdd (P : xPg) (o r a b : Nat) (k : Int32) : xPg := (pN P + 1, xu (pO P) (pN P) o, xu (pR P) (pN P) r, xu (pA P) (pN P) a, xu (pB P) (pN P) b, xu (pK P) (pN P) k)
theorem pAdd_ok {P : xPg} {o r a b : Nat} {k : Int32} (h : pOk P) (hn : pN P < 40) (ho : o ≤ 14) (hr : r < 8) (ha : a < 8) (hb : b < 8) : pOk (pAdd P o r a b k) := by
  refine ⟨?_, fun i hi => ?_⟩
  · show pN P + 1 ≤ 40; omega
  · have hi' : i < pN P + 1 := hi
    show xu (pO P) (pN P) o i ≤ 14 ∧ xu (pR P) (pN P) r i < 8 ∧ xu (pA P) (pN P) a i < 8 ∧ xu (pB P) (pN P) b i < 8
    by_cases e : i = pN P
    · subst e; rw [xu_s, xu_s, xu_s, xu_s]; exact ⟨ho, hr, ha, hb⟩
    · rw [xu_n e, xu_n e, xu_n e, xu_n e]; exact h.2 i (by omega)
theorem pAdd_pl {P : xPg} {o r a b : Nat} {k : Int32} {i : Nat} (h : i ≤ pN P) : pl (pAdd P o r a b k) i = pl P i := by
  unfold pl
  rw [xc_ext (R := pC P) (fun j hj => ?_)]
  show decide (4 < xu (pO P) (pN P) o j ∧ xu (pO P) (pN P) o j < 10) = _
  rw [xu_n (by omega)]
theorem pAdd_pls {P : xPg} {o r a b : Nat} {k : Int32} : pl (pAdd P o r a b k) (pN P + 1) = pl P (pN P) + 1 + if 4 < o ∧ o < 10 then 1 else 0 := by
  rw [pl_s, pAdd_pl (Nat.le_refl _)]
  congr 1
  have : pC (pAdd P o r a b k) (pN P) = decide (4 < o ∧ o < 10) := by
    show decide (4 < xu (pO P) (pN P) o (pN P) ∧ xu (pO P) (pN P) o (pN P) < 10) = _
    rw [xu_s]
  rw [this]; simp
theorem pAdd_pI {P : xPg} {o r a b : Nat} {k : Int32} {p : Nat} (h : p < pl P (pN P)) : pI (pAdd P o r a b k) p = pI P p := by
  obtain ⟨h1, h2, h3⟩ := pI_sp h
  refine pI_eq ?_ ?_
  · rw [pAdd_pl (by omega)]; exact h2
  · rw [pAdd_pl (by omega)]; exact h3
theorem pAdd_pI1 {P : xPg} {o r a b : Nat} {k : Int32} {p : Nat} (h1 : pl P (pN P) ≤ p) (h2 : p < pl (pAdd P o r a b k) (pN P + 1)) : pI (pAdd P o r a b k) p = pN P :=
  pI_eq (by rw [pAdd_pl (Nat.le_refl _)]; exact h1) h2
theorem pAdd_o {P : xPg} {o r a b : Nat} {k : Int32} {i : Nat} (h : i < pN P) : pO (pAdd P o r a b k) i = pO P i := xu_n (by omega)
theorem pAdd_o1 {P : xPg} {o r a b : Nat} {k : Int32} : pO (pAdd P o r a b k) (pN P) = o := xu_s
theorem pAdd_op {P : xPg} {o r a b : Nat} {k : Int32} {p : Nat} (h : p < pl P (pN P)) : pOp (pAdd P o r a b k) p = pOp P p := by
  obtain ⟨h1, h2, h3⟩ := pI_sp h
  unfold pOp pH
  rw [pAdd_pI h, pAdd_o h1, pAdd_pl (by omega)]
  have : pC (pAdd P o r a b k) (pI P p) = pC P (pI P p) := by
    show decide (4 < pO (pAdd P o r a b k) _ ∧ pO (pAdd P o r a b k) _ < 10) = _
    rw [pAdd_o h1]
  rw [this]
/-- the two listings: origins and first lines of the plain one; operations, origins, first lines of the rewritten one -/
abbrev xLs : Type := (Nat → Nat) × (Nat → Nat) × (Nat → Nat) × (Nat → Nat) × (Nat → Nat)
def lOk (P : xPg) (L : xLs) : Prop := (∀ i, i < pN P → L.1 i = i ∧ L.2.1 i = i ∧ L.2.2.2.2 i = pl P i) ∧ ∀ p, p < pl P (pN P) → L.2.2.1 p = pOp P p ∧ L.2.2.2.1 p = pI P p
theorem lOk_0 {P : xPg} (L : xLs) (h : pN P = 0) : lOk P L := by
  refine ⟨fun i hi => ?_, fun p hp => ?_⟩
  · omega
  · rw [h, pl_0] at hp; omega
/-- behind an instruction without a check -/
def lAdd1 (P : xPg) (L : xLs) (o : Nat) : xLs := (xu L.1 (pN P) (pN P), xu L.2.1 (pN P) (pN P), xu L.2.2.1 (pl P (pN P)) o, xu L.2.2.2.1 (pl P (pN P)) (pN P), xu L.2.2.2.2 (pN P) (pl P (pN P)))
/-- behind one with the check c -/
def lAdd2 (P : xPg) (L : xLs) (c o : Nat) : xLs := (xu L.1 (pN P) (pN P), xu L.2.1 (pN P) (pN P), xu (xu L.2.2.1 (pl P (pN P)) c) (pl P (pN P) + 1) o, xu (xu L.2.2.2.1 (pl P (pN P)) (pN P)) (pl P (pN P) + 1) (pN P), xu L.2.2.2.2 (pN P) (pl P (pN P)))
theorem lAdd1_ok {P : xPg} {L : xLs} {o r a b : Nat} {k : Int32} (h : lOk P L) (ho : ¬ (4 < o ∧ o < 10)) : lOk (pAdd P o r a b k) (lAdd1 P L o) := by
  have hpls := pAdd_pls (P := P) (o := o) (r := r) (a := a) (b := b) (k := k)
  rw [if_neg ho] at hpls
  have hN : pN (pAdd P o r a b k) = pN P + 1 := rfl
  refine ⟨fun i hi => ?_, fun p hp => ?_⟩
  · rw [hN] at hi
    show xu L.1 (pN P) (pN P) i = i ∧ xu L.2.1 (pN P) (pN P) i = i ∧ xu L.2.2.2.2 (pN P) (pl P (pN P)) i = _
    rw [pAdd_pl (by omega)]
    by_cases e : i = pN P
    · subst e; rw [xu_s, xu_s, xu_s]; exact ⟨rfl, rfl, rfl⟩
    · rw [xu_n e, xu_n e, xu_n e]; exact h.1 i (by omega)
  · rw [hN] at hp
    show xu L.2.2.1 (pl P (pN P)) o p = _ ∧ xu L.2.2.2.1 (pl P (pN P)) (pN P) p = _
    by_cases e : p = pl P (pN P)
    · have hI := pAdd_pI1 (r := r) (a := a) (b := b) (k := k) (Nat.le_of_eq e.symm) hp
      rw [hI]
      rw [e, xu_s, xu_s]
      refine ⟨?_, rfl⟩
      rw [← e]
      unfold pOp pH
      rw [hI]
      have hc : pC (pAdd P o r a b k) (pN P) = false := by
        show decide (4 < pO (pAdd P o r a b k) _ ∧ pO (pAdd P o r a b k) _ < 10) = _
        rw [pAdd_o1]; simpa using ho
      rw [hc, pAdd_o1]; rfl
    · have hp' : p < pl P (pN P) := by omega
      rw [xu_n e, xu_n e, pAdd_op hp', pAdd_pI hp']; exact h.2 p hp'
theorem lAdd2_ok {P : xPg} {L : xLs} {c o r a b : Nat} {k : Int32} (h : lOk P L) (ho : 4 < o ∧ o < 10) (hc : c = if o = 5 then 16 else 15) : lOk (pAdd P o r a b k) (lAdd2 P L c o) := by
  have hpls := pAdd_pls (P := P) (o := o) (r := r) (a := a) (b := b) (k := k)
  rw [if_pos ho] at hpls
  have hN : pN (pAdd P o r a b k) = pN P + 1 := rfl
  have hC : pC (pAdd P o r a b k) (pN P) = true := by
    show decide (4 < pO (pAdd P o r a b k) _ ∧ pO (pAdd P o r a b k) _ < 10) = _
    rw [pAdd_o1]; simpa using ho
  refine ⟨fun i hi => ?_, fun p hp => ?_⟩
  · rw [hN] at hi
    show xu L.1 (pN P) (pN P) i = i ∧ xu L.2.1 (pN P) (pN P) i = i ∧ xu L.2.2.2.2 (pN P) (pl P (pN P)) i = _
    rw [pAdd_pl (by omega)]
    by_cases e : i = pN P
    · subst e; rw [xu_s, xu_s, xu_s]; exact ⟨rfl, rfl, rfl⟩
    · rw [xu_n e, xu_n e, xu_n e]; exact h.1 i (by omega)
  · rw [hN] at hp
    show xu (xu L.2.2.1 (pl P (pN P)) c) (pl P (pN P) + 1) o p = _ ∧ xu (xu L.2.2.2.1 (pl P (pN P)) (pN P)) (pl P (pN P) + 1) (pN P) p = _
    by_cases e : p = pl P (pN P)
    · have hI := pAdd_pI1 (r := r) (a := a) (b := b) (k := k) (Nat.le_of_eq e.symm) hp
      have e3 : p ≠ pl P (pN P) + 1 := by omega
      rw [hI, xu_n e3, xu_n e3]
      rw [e, xu_s, xu_s]
      refine ⟨?_, rfl⟩
      rw [← e]
      unfold pOp pH
      rw [hI, hC, pAdd_o1, pAdd_pl (Nat.le_refl _), hc]
      simp [e]
    · by_cases e2 : p = pl P (pN P) + 1
      · have hI := pAdd_pI1 (P := P) (o := o) (r := r) (a := a) (b := b) (k := k) (p := p) (by omega) hp
        rw [hI]
        rw [e2, xu_s, xu_s]
        refine ⟨?_, rfl⟩
        rw [← e2]
        unfold pOp pH
        rw [hI, hC, pAdd_o1, pAdd_pl (Nat.le_refl _)]
        simp [e]
      · have hp' : p < pl P (pN P) := by omega
        rw [xu_n e2, xu_n e2, xu_n e, xu_n e, pAdd_op hp', pAdd_pI hp']; exact h.2 p hp'
