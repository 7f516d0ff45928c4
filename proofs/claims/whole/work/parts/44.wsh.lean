abbrev wSh (cI cZ : ClassId) (ax : Nat) (ar ap am : Nat → Nat) (P : xPg) (L : xLs) (M : xMem) (R : xRn) (ln : Nat) : va_W := (ax, .inr (4, [.ref (ap 0), .ref (am 0), .ref (ar 0)])) :: (wRu cI ar ap am (xLr ap (rCk R)) R ln ++ wPr cI ap P L ++ wMe cI cZ am M)
set_option maxHeartbeats 4000000 in
theorem c_Ru_doLine (l : Launch) (D : va_G) (cI cZ cJ : ClassId) (sz : Nat) (ar ap am : Nat → Nat) (lr : Nat) (P : xPg) (L : xLs) (M : xMem) (R : xRn) (hp : pOk P) (hm : mOk 20 M) (hr : rOk P R) (h1 : rSt R = 1) (hl0 : lOk P L) (hlr : lr = xLr ap (rCk R)) : xCv l D (xT cI cZ cJ) y_Ru_doLine k_Ru_doLine rm_Ru_doLineT sz (wRu cI ar ap am lr R (rAt R) ++ wPr cI ap P L ++ wMe cI cZ am M) [.ref (ar 0)] (wRu cI ar ap am lr (rOne P M R).2 (rLn P M R) ++ wPr cI ap P L ++ wMe cI cZ am (rOne P M R).1) 0 0 := by
  subst hlr
  cases hck : rCk R with
  | false =>
    have e : xLr ap (R.2.1) = ap 5 := by unfold xLr; rw [show R.2.1 = false from hck]; rfl
    exact c_Ru_doLineF l D cI cZ cJ sz ar ap am P L M R hp hm hr h1 hl0 hck
  | true =>
    have hat : rAt R < pl P (pN P) := by
      have h := hr.2.2.2.1 h1
      have e : rLim P R = pl P (pN P) := if_pos hck
      omega
    by_cases c15 : pOp P (rAt R) = 15
    · exact c_Ru_doLine15 l D cI cZ cJ sz ar ap am P L M R hp hm hr h1 hl0 hck c15
    · by_cases c16 : pOp P (rAt R) = 16
      · exact c_Ru_doLine16 l D cI cZ cJ sz ar ap am P L M R hp hm hr h1 hl0 hck c16
      · exact c_Ru_doLineT l D cI cZ cJ sz ar ap am P L M R hp hm hr h1 hl0 hck (pOp_14 hp hat c15 c16)
