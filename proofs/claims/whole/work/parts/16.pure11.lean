theorem rTo_at (P : xPg) (M : xMem) (R : xRn) (i : Nat) (o : Option Nat) : rAt (rTo P M R i o) = rAt R := by
  cases o <;> rfl
theorem rTo_st (P : xPg) (M : xMem) (R : xRn) (i : Nat) (o : Option Nat) (h : rSt R ≤ 4) : rSt (rTo P M R i o) ≤ 4 := by
  cases o with
  | none => exact h
  | some j => exact (by decide : 3 ≤ 4)
theorem rCf_at (M : xMem) (R : xRn) (x : Int32) (i : Nat) : rAt (rCf M R x i) = rAt R := by
  unfold rCf; split <;> rfl
theorem rCf_st (M : xMem) (R : xRn) (x : Int32) (i : Nat) (h : rSt R ≤ 4) : rSt (rCf M R x i) ≤ 4 := by
  unfold rCf; split
  · exact h
  · exact (by decide : 3 ≤ 4)
theorem rPrint_st (R : xRn) (v : Int32) : rSt (rPrint R v) = rSt R := by
  unfold rPrint; split <;> rfl
