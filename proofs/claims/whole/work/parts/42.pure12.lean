def lnOk (R : xRn) (ln : Nat) : Prop := (rSt R = 1 → ln = rAt R) ∧ (2 ≤ rSt R → ln = rLd R)
def cSo (P : xPg) : Nat := if pSB P (pN P) = true then 0 else 1
theorem cSo_0 {P : xPg} (h : pSB P (pN P) = true) : cSo P = 0 := if_pos h
theorem cSo_1 {P : xPg} (h : pSB P (pN P) = false) : cSo P = 1 := if_neg (by rw [h]; decide)
theorem cSo_t {P : xPg} (h : cSo P = 0) : pSB P (pN P) = true := by
  cases c : pSB P (pN P) with
  | true => rfl
  | false => rw [cSo_1 c] at h; cases h
theorem cSo_f {P : xPg} (h : cSo P ≠ 0) : pSB P (pN P) = false := by
  cases c : pSB P (pN P) with
  | true => exact absurd (cSo_0 c) h
  | false => rfl
def exC (_ : Nat) : String := xEC
def exA (_ : Nat) : String := xEA
def exB (_ : Nat) : String := xEB
def exRt (k : Nat) : String := if k = 1 then xEC else if k = 2 then xEB else xEA
def exSt (k : Nat) : String := if k = 1 then xEC else xEA
def exCo (k : Nat) : String := if k = 1 then xEA else xEB
theorem rPf_ck {P : xPg} {M : xMem} {R : xRn} {i : Nat} : rCk (rPf P M R i).2 = rCk R :=
  rPf_ind (C := fun V => rCk V.2 = rCk R) (fun _ _ => rfl) rfl (fun _ => rfl) rfl rfl (fun _ => rfl) (fun _ => rPrint_k (C := fun X => rCk X = rCk R) rfl (fun _ => rfl)) rfl
theorem rPf_ld {P : xPg} {M : xMem} {R : xRn} {i : Nat} : rLd (rPf P M R i).2 = rLd R :=
  rPf_ind (C := fun V => rLd V.2 = rLd R) (fun _ _ => rfl) rfl (fun _ => rfl) rfl rfl (fun _ => rfl) (fun _ => rPrint_k (C := fun X => rLd X = rLd R) rfl (fun _ => rfl)) rfl
theorem rEnd_ck (P : xPg) (R : xRn) (n : Nat) : rCk (rEnd P R n) = rCk R := by unfold rEnd; split <;> rfl
theorem rEnd_ld (P : xPg) (R : xRn) (n : Nat) : rLd (rEnd P R n) = rLd R := by unfold rEnd; split <;> rfl
theorem rChk_ck (P : xPg) (M : xMem) (R : xRn) (i : Nat) : rCk (rChk P M R i) = rCk R ∧ rLd (rChk P M R i) = rLd R := by
  rcases rChk_keep (P := P) (M := M) (R := R) (i := i) with e | ⟨k, a, e⟩ <;> rw [e] <;> exact ⟨rfl, rfl⟩
theorem rOne_ck (P : xPg) (M : xMem) (R : xRn) : rCk (rOne P M R).2 = rCk R ∧ rLd (rOne P M R).2 = rAt R := by
  unfold rOne
  split
  · have h := rChk_ck P M (rSetL R (rAt R)) (rI P R)
    exact ⟨h.1, h.2⟩
  · refine ⟨?_, ?_⟩
    · show rCk (rEnd P _ _) = _
      rw [rEnd_ck, rPf_ck]
    · show rLd (rEnd P _ _) = _
      rw [rEnd_ld, rPf_ld]
theorem rLn_ok (P : xPg) (M : xMem) (R : xRn) : lnOk (rOne P M R).2 (rLn P M R) := by
  refine ⟨fun h => ?_, fun h => ?_⟩
  · unfold rLn; rw [if_pos h]
  · unfold rLn; rw [if_neg (by omega)]; exact (rOne_ck P M R).2.symm
/-- the line behind n steps -/
noncomputable def rGl (P : xPg) : Nat → xMem × xRn → Nat → Nat
  | 0, _, z => z
  | n + 1, V, z => if rSt V.2 = 1 then rGl P n (rOne P V.1 V.2) (rLn P V.1 V.2) else z
theorem rGl_s {P : xPg} {n z : Nat} {V : xMem × xRn} (h : rSt V.2 = 1) : rGl P (n + 1) V z = rGl P n (rOne P V.1 V.2) (rLn P V.1 V.2) := by
  rw [rGl, if_pos h]
theorem rGl_n {P : xPg} {n z : Nat} {V : xMem × xRn} (h : ¬ rSt V.2 = 1) : rGl P n V z = z := by
  cases n with
  | zero => rfl
  | succ n => rw [rGl, if_neg h]
theorem rGo_ck (P : xPg) : ∀ (n : Nat) (V : xMem × xRn), rCk (rGo P n V).2 = rCk V.2 := by
  intro n
  induction n with
  | zero => intro V; rfl
  | succ n ih =>
    intro V
    by_cases h : rSt V.2 = 1
    · rw [rGo_s h, ih, (rOne_ck P V.1 V.2).1]
    · rw [rGo_n h]
theorem rGo_ok {P : xPg} (hp : pOk P) : ∀ (n : Nat) (V : xMem × xRn) (z : Nat), mOk 20 V.1 → rOk P V.2 → lnOk V.2 z → mOk 20 (rGo P n V).1 ∧ rOk P (rGo P n V).2 ∧ lnOk (rGo P n V).2 (rGl P n V z) := by
  intro n
  induction n with
  | zero => intro V z h1 h2 h3; exact ⟨h1, h2, h3⟩
  | succ n ih =>
    intro V z h1 h2 h3
    by_cases h : rSt V.2 = 1
    · rw [rGo_s h, rGl_s h]
      have := rOne_ok hp h1 h2 h
      exact ih _ _ this.1 this.2 (rLn_ok P V.1 V.2)
    · rw [rGo_n h, rGl_n h]; exact ⟨h1, h2, h3⟩
theorem mLive {M : xMem} (h : mOk 20 M) : xc (mQb M false) 64 = xc (mIs M 1) 64 := by rw [mQb_f h]
theorem mWait {M : xMem} (h : mOk 20 M) : xc (mQb M true) 64 = mQn M := by rw [mQb_t]; exact h.2.2.2.2.2.1
