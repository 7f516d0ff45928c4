def xo (u : Nat → Int64) (A : Nat × Int32) : Nat → Int64 := if A.1 = 0 then vp_updL u 0 A.2.toInt64 else u
theorem x_pass0 {P : ExceptionTableEntry → Prop} : ∀ z ∈ ([] : List ExceptionTableEntry), P z := fun z h => by cases h
theorem x_pass1 {P : ExceptionTableEntry → Prop} {z1 : ExceptionTableEntry} {r : List ExceptionTableEntry} (h : P z1) (t : ∀ z ∈ r, P z) : ∀ z ∈ z1 :: r, P z := by
  intro z hz
  rcases List.mem_cons.mp hz with e | e
  · rw [e]; exact h
  · exact t z e
theorem aHeap_le (M : xMem) (x : Int32) : (aHeap M x).1 ≤ 1 := by
  unfold aHeap; split
  · exact Nat.zero_le _
  · exact Nat.le_refl _
theorem aShad_le (M : xMem) (x : Int32) : (aShad M x).1 ≤ 1 := by
  unfold aShad; split
  · exact Nat.zero_le _
  · exact Nat.le_refl _
theorem aReg_le (R : xRn) (x : Int32) : (aReg R x).1 ≤ 1 := by
  unfold aReg; split
  · exact Nat.zero_le _
  · exact Nat.le_refl _
theorem aPr_le (R : xRn) (x : Int32) : (aPr R x).1 ≤ 1 := by
  unfold aPr; split
  · exact Nat.zero_le _
  · exact Nat.le_refl _
theorem aLook_le (P : xPg) (M : xMem) (R : xRn) (x : Int32) : (aLook P M R x).1 ≤ 1 := by
  unfold aLook
  by_cases h : xr x 6 = true
  · rw [if_pos h]; exact Nat.zero_le _
  · rw [if_neg h]; exact Nat.le_refl _
theorem aRep_le (R : xRn) (x : Int32) : (aRep R x).1 ≤ 2 := by
  unfold aRep
  by_cases h : rSt R = 3
  · rw [if_pos h]
    by_cases h2 : xr x 3 = true
    · rw [if_pos h2]; exact Nat.zero_le _
    · rw [if_neg h2]; exact Nat.le_refl _
  · rw [if_neg h]; exact (by decide : 1 ≤ 2)
theorem aRw_le (P : xPg) : (aRw P).1 ≤ 1 := by
  unfold aRw
  by_cases h : pSB P (pN P) = true
  · rw [if_pos h]; exact Nat.zero_le _
  · rw [if_neg h]; exact Nat.le_refl _
theorem aRt_le (P : xPg) (x y : Int32) : (aRt P x y).1 ≤ 3 := by
  unfold aRt
  by_cases h : pSB P (pN P) = true
  · rw [if_pos h]
    by_cases h2 : xr x (pl P (pN P)) = true
    · rw [if_pos h2]
      by_cases h3 : xr y 3 = true
      · rw [if_pos h3]; exact Nat.zero_le _
      · rw [if_neg h3]; exact Nat.le_refl _
    · rw [if_neg h2]; exact (by decide : 2 ≤ 3)
  · rw [if_neg h]; exact (by decide : 1 ≤ 3)
theorem aStart_le (P : xPg) : aStart P ≤ 1 := by unfold aStart; split <;> decide
theorem aStep_le (R : xRn) (x : Int32) : aStep R x ≤ 2 := by
  unfold aStep
  by_cases h : rSt R = 0
  · rw [if_pos h]; decide
  · rw [if_neg h]
    by_cases h2 : xr x 1001 = true
    · rw [if_pos h2]; decide
    · rw [if_neg h2]; decide
theorem aCode_le (P : xPg) (o r a b : Int32) : aCode P o r a b ≤ 2 := by
  unfold aCode
  by_cases h : xr o 15 = true ∧ xr r 8 = true ∧ xr a 8 = true ∧ xr b 8 = true
  · rw [if_pos h]
    by_cases h2 : pN P = 40
    · rw [if_pos h2]; decide
    · rw [if_neg h2]; decide
  · rw [if_neg h]; decide
section XL
variable {p : Program} {l : Launch} {e : Env} {R : Room} {s : State} {m : MethodId} {args : Array Value} {below : List Frame} {meth : Method} {c : Code} {H : Heap} {locs : List Loc} {cells slots : Nat} {Q : State → Prop}
variable {cc : ByteArray} {pc nL : Nat} {ls : Array Slot} {rest : List Value} {D : va_G} {A : Nat → Prop} {a : Nat} {tys : List (ClassId × FieldType)} {ws : va_W} {H0 : Heap} {ret : Option FieldType} {own nm : String} {k0 : Cond}
theorem x_lald {cA : ClassId} {n j : Nat} {f : Nat → Int64} (M : xM p s m args meth c cc nL ret own nm (k0 :: bw)) (hK : va_K D vwCl tys s) (hP : va_P D vwCl ws H) (q0 t0 : Nat) (ha : ws[q0]? = some (a, .inl (cA, n, .inr (.inl f)))) (ht : tys[t0]? = some (cA, .long)) (hj : j < n) (hn : n < 2 ^ 31) (hd : decode cc pc = .ok (.laload, 1))
    (kk : W p l e R s m args below meth c H locs cells slots Q (F0 m (pc + 1) ls (.long (f j) :: rest))) : W p l e R s m args below meth c H locs cells slots Q (F0 m pc ls (.int (nI j) :: .ref a :: rest)) :=
  va_lald M.1 M.2.1 hK hP q0 t0 ha ht (vp_in_nI hj hn) hd (by rw [nI_clamp (Nat.lt_trans hj hn)]; exact kk)
theorem x_last {cA : ClassId} {n j : Nat} {f : Nat → Int64} {x : Int64} (M : xM p s m args meth c cc nL ret own nm (k0 :: bw)) (hK : va_K D vwCl tys s) (hP : va_P D vwCl ws H) (hD : va_D A ws) (hS : va_S A H0 H locs) (q0 t0 : Nat) (ha : ws[q0]? = some (a, .inl (cA, n, .inr (.inl f)))) (ht : tys[t0]? = some (cA, .long)) (hj : j < n) (hn : n < 2 ^ 31) (hd : decode cc pc = .ok (.lastore, 1))
    (kk : ∀ (H1 : Heap) (locs1 : List Loc), va_P D vwCl (ws.set q0 (a, .inl (cA, n, .inr (.inl (vp_updL f j x))))) H1 → va_D A (ws.set q0 (a, .inl (cA, n, .inr (.inl (vp_updL f j x))))) → va_S A H0 H1 locs1 → W p l e R s m args below meth c H1 locs1 cells slots Q (F0 m (pc + 1) ls rest)) :
    W p l e R s m args below meth c H locs cells slots Q (F0 m pc ls (.long x :: .int (nI j) :: .ref a :: rest)) :=
  va_last M.1 M.2.1 hK hP hD hS q0 t0 ha ht (vp_in_nI hj hn) hd (fun H1 l1 h1 h2 h3 => by rw [nI_clamp (Nat.lt_trans hj hn)] at h1 h2; exact kk H1 l1 h1 h2 h3)
end XL
