def vOk (P : xPg) (L : xLs) (M : xMem) (R : xRn) (ln : Nat) : Prop := pOk P ∧ mOk 20 M ∧ rOk P R ∧ lOk P L ∧ lnOk R ln
theorem rOk_0 (P : xPg) {R : xRn} (h : rPn R ≤ 60) : rOk P (rSetS R 0) :=
  ⟨Nat.zero_le _, h, fun h => absurd rfl h, fun h => absurd h (show ¬ (0 : Nat) = 1 by decide), fun h => absurd h (show ¬ (0 : Nat) = 3 by decide)⟩
theorem lnOk_0 (R : xRn) (ln : Nat) : lnOk (rSetS R 0) ln := ⟨fun h => absurd h (show ¬ (0 : Nat) = 1 by decide), fun h => absurd h (show ¬ 2 ≤ (0 : Nat) by decide)⟩
theorem vOk_0 : vOk gP gL (mNew gM) gR 0 :=
  ⟨⟨Nat.zero_le _, fun i h => absurd h (Nat.not_lt_zero _)⟩, mNew_ok gM_z, rOk_0 gP (R := gR) (Nat.zero_le _), lOk_0 _ rfl, lnOk_0 gR 0⟩
theorem aCode_0 {P : xPg} {o r a b : Int32} (h : aCode P o r a b = 0) : xr o 15 = true ∧ xr r 8 = true ∧ xr a 8 = true ∧ xr b 8 = true ∧ pN P ≠ 40 := by
  unfold aCode at h
  by_cases h1 : xr o 15 = true ∧ xr r 8 = true ∧ xr a 8 = true ∧ xr b 8 = true
  · rw [if_pos h1] at h
    by_cases h2 : pN P = 40
    · rw [if_pos h2] at h; cases h
    · exact ⟨h1.1, h1.2.1, h1.2.2.1, h1.2.2.2, h2⟩
  · rw [if_neg h1] at h; cases h
theorem vOk_code {P : xPg} {L : xLs} {M : xMem} {R : xRn} {ln : Nat} (h : vOk P L M R ln) (o r q b k : Int32) :
    vOk (pCode P o r q b k) (if aCode P o r q b = 0 then lAdd P L o.toNatClampNeg else L) M (if aCode P o r q b = 0 then rSetS R 0 else R) ln := by
  obtain ⟨h1, h2, h3, h4, h5⟩ := h
  by_cases c : aCode P o r q b = 0
  · rw [if_pos c, if_pos c, show pCode P o r q b k = _ from if_pos c]
    obtain ⟨g1, g2, g3, g4, g5⟩ := aCode_0 c
    obtain ⟨o1, p1, rfl⟩ := xr_nat g1 (by decide)
    obtain ⟨r1, p2, rfl⟩ := xr_nat g2 (by decide)
    obtain ⟨q1, p3, rfl⟩ := xr_nat g3 (by decide)
    obtain ⟨b1, p4, rfl⟩ := xr_nat g4 (by decide)
    rw [nI_cl (by omega), nI_cl (by omega), nI_cl (by omega), nI_cl (by omega)]
    have hn := h1.1
    exact ⟨pAdd_ok h1 (by omega) (by omega) p2 p3 p4, h2, rOk_0 _ h3.2.1, lAdd_ok h4, lnOk_0 R ln⟩
  · rw [if_neg c, if_neg c, show pCode P o r q b k = _ from if_neg c]
    exact ⟨h1, h2, h3, h4, h5⟩
theorem vOk_clear {P : xPg} {L : xLs} {M : xMem} {R : xRn} {ln : Nat} (h : vOk P L M R ln) : vOk (0, pO P, pR P, pA P, pB P, pK P) L M (rSetS R 0) ln :=
  ⟨⟨Nat.zero_le _, fun i h => absurd h (Nat.not_lt_zero _)⟩, h.2.1, rOk_0 _ h.2.2.1.2.1, lOk_0 _ rfl, lnOk_0 R ln⟩
theorem vOk_start {P : xPg} {L : xLs} {M : xMem} {R : xRn} {ln : Nat} (h : vOk P L M R ln) (b : Bool) (x y : Int32) :
    vOk P L (if aStart P = 0 then mNew M else M) (if aStart P = 0 then rNew R b x y else R) (if aStart P = 0 then 0 else ln) := by
  by_cases c : aStart P = 0
  · rw [if_pos c, if_pos c, if_pos c]
    have hc : 0 < pN P ∧ pSB P (pN P) = true := by
      apply Classical.byContradiction
      intro g
      rw [show aStart P = 1 from if_neg g] at c; cases c
    refine ⟨h.1, mNew_ok (mOk_z h.2.1), ⟨(by decide : 1 ≤ 4), Nat.zero_le _, fun _ => ⟨pSB_sd.mp hc.2, hc.1⟩, fun _ => ?_, fun g => absurd g (show ¬ (1 : Nat) = 3 by decide)⟩, h.2.2.2.1, ⟨fun _ => rfl, fun g => absurd g (show ¬ 2 ≤ (1 : Nat) by decide)⟩⟩
    show 0 < if b = true then pl P (pN P) else pN P
    have := pl_ge P (pN P)
    split <;> omega
  · rw [if_neg c, if_neg c, if_neg c]; exact h
theorem vOk_step {P : xPg} {L : xLs} {M : xMem} {R : xRn} {ln : Nat} (h : vOk P L M R ln) (x : Int32) :
    vOk P L (if aStep R x = 0 then (rGo P x.toNatClampNeg (M, R)).1 else M) (if aStep R x = 0 then (rGo P x.toNatClampNeg (M, R)).2 else R) (if aStep R x = 0 then rGl P x.toNatClampNeg (M, R) ln else ln) := by
  by_cases c : aStep R x = 0
  · rw [if_pos c, if_pos c, if_pos c]
    have g := rGo_ok h.1 x.toNatClampNeg (M, R) ln h.2.1 h.2.2.1 h.2.2.2.2
    exact ⟨h.1, g.1, g.2.1, h.2.2.2.1, g.2.2⟩
  · rw [if_neg c, if_neg c, if_neg c]; exact h
theorem xo_0 {u : Nat → Int64} {A : Nat × Int32} (h : A.1 = 0) : xo u A 0 = A.2.toInt64 := by
  unfold xo; rw [if_pos h]; exact if_pos rfl
theorem lg_self (v : Int64) : lg_cmp v v = 0 := by
  unfold lg_cmp
  rw [if_neg (Int64.lt_irrefl), if_pos rfl]
theorem x_lim {i L : Nat} (hL : L ≤ 3072) (hi : i ≤ 3072) (h : ¬ nI L - nI 6 < nI i) : i + 6 ≤ L := by
  by_cases c : 6 ≤ L
  · rw [pk_sub c, Int32.lt_iff_toInt_lt, xI_toInt (by omega), xI_toInt (by omega)] at h
    omega
  · exfalso; apply h
    have e : L = 0 ∨ L = 1 ∨ L = 2 ∨ L = 3 ∨ L = 4 ∨ L = 5 := by omega
    have hz : nI L - nI 6 < 0 := by rcases e with rfl | rfl | rfl | rfl | rfl | rfl <;> decide
    rw [Int32.lt_iff_toInt_lt, show (0 : Int32).toInt = 0 by decide] at hz
    rw [Int32.lt_iff_toInt_lt, xI_toInt (show i < 2 ^ 31 by omega)]; omega
theorem x_t011 {x : Int32} (h0 : ¬ x = 0) (h1 : ¬ x = 1) (h2 : ¬ x = 2) (h3 : ¬ x = 3) (h4 : ¬ x = 4) (h5 : ¬ x = 5) (h6 : ¬ x = 6) (h7 : ¬ x = 7) (h8 : ¬ x = 8) (h9 : ¬ x = 9) (h10 : ¬ x = 10) (h11 : ¬ x = 11) : x.toInt < 0 ∨ 11 < x.toInt := by
  apply Classical.byContradiction
  intro hc
  have e : x.toInt = 0 ∨ x.toInt = 1 ∨ x.toInt = 2 ∨ x.toInt = 3 ∨ x.toInt = 4 ∨ x.toInt = 5 ∨ x.toInt = 6 ∨ x.toInt = 7 ∨ x.toInt = 8 ∨ x.toInt = 9 ∨ x.toInt = 10 ∨ x.toInt = 11 := by omega
  rcases e with e | e | e | e | e | e | e | e | e | e | e | e
  · exact h0 (Int32.toInt_inj.mp (e.trans (by decide)))
  · exact h1 (Int32.toInt_inj.mp (e.trans (by decide)))
  · exact h2 (Int32.toInt_inj.mp (e.trans (by decide)))
  · exact h3 (Int32.toInt_inj.mp (e.trans (by decide)))
  · exact h4 (Int32.toInt_inj.mp (e.trans (by decide)))
  · exact h5 (Int32.toInt_inj.mp (e.trans (by decide)))
  · exact h6 (Int32.toInt_inj.mp (e.trans (by decide)))
  · exact h7 (Int32.toInt_inj.mp (e.trans (by decide)))
  · exact h8 (Int32.toInt_inj.mp (e.trans (by decide)))
  · exact h9 (Int32.toInt_inj.mp (e.trans (by decide)))
  · exact h10 (Int32.toInt_inj.mp (e.trans (by decide)))
  · exact h11 (Int32.toInt_inj.mp (e.trans (by decide)))
theorem x_arr {args : Array Value} {s : State} {ty : FieldType} (h : (Cond.arrayClass ty).before args s = true) : ∃ cA : ClassId, ArrOfT s cA ty ∧ s.vm.findClass ("[" ++ ty.toString) = some cA := by
  obtain ⟨cA, kA, comp, h1, h2, h3⟩ := Cond.arrayClass_spec h
  exact ⟨cA, fun n z => ⟨fun k h => (by cases h), kA, h2, comp, h3⟩, h1⟩
theorem x_strA {args : Array Value} {own tx : String} {k : Nat} {U : State} (h : (Cond.stringRef own k tx).before args U = true) : ∃ a : Nat, vk_R own k tx a U := by
  have h0 := h
  simp only [Cond.before, Cond.holds, Cond.value, State.resolvedAt?] at h
  cases hc : U.vm.findClass own with
  | none => simp [hc] at h
  | some cur =>
    cases hk : U.vm.classes[cur]? with
    | none => simp [hc, hk] at h
    | some kk =>
      cases hr : (kk.resolved[k]?).join with
      | none => simp [hc, hk, hr] at h
      | some rr =>
        cases rr with
        | string a =>
          refine ⟨a, ?_⟩
          have h1 : (Cond.stringRef own k tx).before #[] U = true := h0
          exact ⟨h1, by simp [Term.eval, hc, hk, hr]⟩
        | _ => simp [hc, hk, hr] at h
