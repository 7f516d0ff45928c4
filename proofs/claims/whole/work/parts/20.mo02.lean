abbrev rm_Mo_empty : Room := { frames := 0, cells := 0, slots := 0, locals := 0 }
set_option maxHeartbeats 4000000 in
set_option maxRecDepth 100000 in
theorem c_Mo_empty (l : Launch) (D : va_G) (cI cZ cJ : ClassId) (sz : Nat) (a : Nat → Nat) (cd : Nat) (P : xPg) (M : xMem) (R : xRn)   : xCv l D (xT cI cZ cJ) y_Mo_empty k_Mo_empty rm_Mo_empty sz (wMo cI a cd P M R) [.ref (a 0)] (wMo cI a cd P (mNew M) R) 0 0 := by
  refine x_ofv (cc := b_Mo_empty) (nL := 2) (ret := none) (by decide) rfl (Nat.le_of_ble_eq_true rfl) ?_
  intro p e s m args below meth c ls A Q hQ hM hsz hP hK hD hA hl
  obtain ⟨hx, hb, -, hml, hown, hts, -⟩ := id hM
  have hS : va_S A s.heap s.heap [] := va_S.rf
  have hl : lv_has ls 2 [(0, .ref (a 0))] := hl
  have hP : va_P D vwCl [(a 0, .inr (5, [.int (nI cd), .int (nI (pN P)), .ref (a 1), .ref (a 2), .ref (a 3), .ref (a 4), .ref (a 5), .ref (a 6), .ref (a 7), .ref (a 8), .ref (a 9), .int (nI (mQn M)), .ref (a 10), .int (nI (rSt R)), .int (zI (rCk R)), .int (nI (rAt R)), .int (nI (rLd R)), .ref (a 11), .int (nI (rPn R)), .ref (a 12), .int (nI (rKd R)), .int (rWh R), .int (nI (rWo R))])), (a 1, .inl (cI, 40, .inl (fun zz => nI ((pO P) zz)))), (a 2, .inl (cI, 40, .inl (fun zz => nI ((pR P) zz)))), (a 3, .inl (cI, 40, .inl (fun zz => nI ((pA P) zz)))), (a 4, .inl (cI, 40, .inl (fun zz => nI ((pB P) zz)))), (a 5, .inl (cI, 40, .inl (pK P))), (a 6, .inl (cI, 512, .inl (mHp M))), (a 7, .inl (cI, 64, .inl (mSh M))), (a 8, .inl (cI, 64, .inl (fun zz => nI ((mOw M) zz)))), (a 9, .inl (cI, 64, .inl (fun zz => nI ((mSz M) zz)))), (a 10, .inl (cI, 32, .inl (fun zz => nI ((mQf M) zz)))), (a 11, .inl (cI, 8, .inl (rRg R))), (a 12, .inl (cI, 60, .inl (rPr R)))] s.heap := hP
  have hD : va_D A [(a 0, .inr (5, [.int (nI cd), .int (nI (pN P)), .ref (a 1), .ref (a 2), .ref (a 3), .ref (a 4), .ref (a 5), .ref (a 6), .ref (a 7), .ref (a 8), .ref (a 9), .int (nI (mQn M)), .ref (a 10), .int (nI (rSt R)), .int (zI (rCk R)), .int (nI (rAt R)), .int (nI (rLd R)), .ref (a 11), .int (nI (rPn R)), .ref (a 12), .int (nI (rKd R)), .int (rWh R), .int (nI (rWo R))])), (a 1, .inl (cI, 40, .inl (fun zz => nI ((pO P) zz)))), (a 2, .inl (cI, 40, .inl (fun zz => nI ((pR P) zz)))), (a 3, .inl (cI, 40, .inl (fun zz => nI ((pA P) zz)))), (a 4, .inl (cI, 40, .inl (fun zz => nI ((pB P) zz)))), (a 5, .inl (cI, 40, .inl (pK P))), (a 6, .inl (cI, 512, .inl (mHp M))), (a 7, .inl (cI, 64, .inl (mSh M))), (a 8, .inl (cI, 64, .inl (fun zz => nI ((mOw M) zz)))), (a 9, .inl (cI, 64, .inl (fun zz => nI ((mSz M) zz)))), (a 10, .inl (cI, 32, .inl (fun zz => nI ((mQf M) zz)))), (a 11, .inl (cI, 8, .inl (rRg R))), (a 12, .inl (cI, 60, .inl (rPr R)))] := hD
  refine lv_iconst (v := nI 0) hx hb d_Mo_empty_0 (by decide) ?_
  refine lv_istore_n hx hb d_Mo_empty_1 rfl hl (by decide) rfl (fun ls hl => ?_)
  have hl : lv_has ls 2 [(1, .int (nI 0)), (0, .ref (a 0))] := hl
  have loop2 : ∀ (K2 : Nat) (j : Nat) (f : Nat → Int32) (ls : Array Slot) (H : Heap) (locs : List Loc), (0 ≤ j) → (j ≤ 512) → (f = xp (mHp M) 0 j (nI 0)) → 512 - j = K2 → lv_has ls 2 [(1, .int (nI j)), (0, .ref (a 0))] → va_P D vwCl [(a 0, .inr (5, [.int (nI cd), .int (nI (pN P)), .ref (a 1), .ref (a 2), .ref (a 3), .ref (a 4), .ref (a 5), .ref (a 6), .ref (a 7), .ref (a 8), .ref (a 9), .int (nI (mQn M)), .ref (a 10), .int (nI (rSt R)), .int (zI (rCk R)), .int (nI (rAt R)), .int (nI (rLd R)), .ref (a 11), .int (nI (rPn R)), .ref (a 12), .int (nI (rKd R)), .int (rWh R), .int (nI (rWo R))])), (a 1, .inl (cI, 40, .inl (fun zz => nI ((pO P) zz)))), (a 2, .inl (cI, 40, .inl (fun zz => nI ((pR P) zz)))), (a 3, .inl (cI, 40, .inl (fun zz => nI ((pA P) zz)))), (a 4, .inl (cI, 40, .inl (fun zz => nI ((pB P) zz)))), (a 5, .inl (cI, 40, .inl (pK P))), (a 6, .inl (cI, 512, .inl f)), (a 7, .inl (cI, 64, .inl (mSh M))), (a 8, .inl (cI, 64, .inl (fun zz => nI ((mOw M) zz)))), (a 9, .inl (cI, 64, .inl (fun zz => nI ((mSz M) zz)))), (a 10, .inl (cI, 32, .inl (fun zz => nI ((mQf M) zz)))), (a 11, .inl (cI, 8, .inl (rRg R))), (a 12, .inl (cI, 60, .inl (rPr R)))] H → va_D A [(a 0, .inr (5, [.int (nI cd), .int (nI (pN P)), .ref (a 1), .ref (a 2), .ref (a 3), .ref (a 4), .ref (a 5), .ref (a 6), .ref (a 7), .ref (a 8), .ref (a 9), .int (nI (mQn M)), .ref (a 10), .int (nI (rSt R)), .int (zI (rCk R)), .int (nI (rAt R)), .int (nI (rLd R)), .ref (a 11), .int (nI (rPn R)), .ref (a 12), .int (nI (rKd R)), .int (rWh R), .int (nI (rWo R))])), (a 1, .inl (cI, 40, .inl (fun zz => nI ((pO P) zz)))), (a 2, .inl (cI, 40, .inl (fun zz => nI ((pR P) zz)))), (a 3, .inl (cI, 40, .inl (fun zz => nI ((pA P) zz)))), (a 4, .inl (cI, 40, .inl (fun zz => nI ((pB P) zz)))), (a 5, .inl (cI, 40, .inl (pK P))), (a 6, .inl (cI, 512, .inl f)), (a 7, .inl (cI, 64, .inl (mSh M))), (a 8, .inl (cI, 64, .inl (fun zz => nI ((mOw M) zz)))), (a 9, .inl (cI, 64, .inl (fun zz => nI ((mSz M) zz)))), (a 10, .inl (cI, 32, .inl (fun zz => nI ((mQf M) zz)))), (a 11, .inl (cI, 8, .inl (rRg R))), (a 12, .inl (cI, 60, .inl (rPr R)))] → va_S A s.heap H locs → W p l e rm_Mo_empty s m args below meth c H locs 0 0 Q (F0 m 2 ls []) := by
    intro K2
    induction K2 using Nat.strongRecOn with
    | _ K2 ih2 =>
      intro j f ls H locs g1 g2 hf hK2 hl hP hD hS
      refine lv_iload_n hx hb d_Mo_empty_2 rfl (lv_at hl 0 rfl) ?_
      refine lv_sipush (v := nI 512) hx hb d_Mo_empty_3 (by decide) ?_
      refine x_icmp_ge (tgt := 22) hM (by omega) (by omega) d_Mo_empty_6 (by decide) (fun hc6 => ?_) (fun hc6 => ?_)
      · skip
        obtain rfl : j = 512 := by omega
        subst hf
        have hP : va_P D vwCl [(a 0, .inr (5, [.int (nI cd), .int (nI (pN P)), .ref (a 1), .ref (a 2), .ref (a 3), .ref (a 4), .ref (a 5), .ref (a 6), .ref (a 7), .ref (a 8), .ref (a 9), .int (nI (mQn M)), .ref (a 10), .int (nI (rSt R)), .int (zI (rCk R)), .int (nI (rAt R)), .int (nI (rLd R)), .ref (a 11), .int (nI (rPn R)), .ref (a 12), .int (nI (rKd R)), .int (rWh R), .int (nI (rWo R))])), (a 1, .inl (cI, 40, .inl (fun zz => nI ((pO P) zz)))), (a 2, .inl (cI, 40, .inl (fun zz => nI ((pR P) zz)))), (a 3, .inl (cI, 40, .inl (fun zz => nI ((pA P) zz)))), (a 4, .inl (cI, 40, .inl (fun zz => nI ((pB P) zz)))), (a 5, .inl (cI, 40, .inl (pK P))), (a 6, .inl (cI, 512, .inl (xp (mHp M) 0 512 (nI 0)))), (a 7, .inl (cI, 64, .inl (mSh M))), (a 8, .inl (cI, 64, .inl (fun zz => nI ((mOw M) zz)))), (a 9, .inl (cI, 64, .inl (fun zz => nI ((mSz M) zz)))), (a 10, .inl (cI, 32, .inl (fun zz => nI ((mQf M) zz)))), (a 11, .inl (cI, 8, .inl (rRg R))), (a 12, .inl (cI, 60, .inl (rPr R)))] H := hP
        have hD : va_D A [(a 0, .inr (5, [.int (nI cd), .int (nI (pN P)), .ref (a 1), .ref (a 2), .ref (a 3), .ref (a 4), .ref (a 5), .ref (a 6), .ref (a 7), .ref (a 8), .ref (a 9), .int (nI (mQn M)), .ref (a 10), .int (nI (rSt R)), .int (zI (rCk R)), .int (nI (rAt R)), .int (nI (rLd R)), .ref (a 11), .int (nI (rPn R)), .ref (a 12), .int (nI (rKd R)), .int (rWh R), .int (nI (rWo R))])), (a 1, .inl (cI, 40, .inl (fun zz => nI ((pO P) zz)))), (a 2, .inl (cI, 40, .inl (fun zz => nI ((pR P) zz)))), (a 3, .inl (cI, 40, .inl (fun zz => nI ((pA P) zz)))), (a 4, .inl (cI, 40, .inl (fun zz => nI ((pB P) zz)))), (a 5, .inl (cI, 40, .inl (pK P))), (a 6, .inl (cI, 512, .inl (xp (mHp M) 0 512 (nI 0)))), (a 7, .inl (cI, 64, .inl (mSh M))), (a 8, .inl (cI, 64, .inl (fun zz => nI ((mOw M) zz)))), (a 9, .inl (cI, 64, .inl (fun zz => nI ((mSz M) zz)))), (a 10, .inl (cI, 32, .inl (fun zz => nI ((mQf M) zz)))), (a 11, .inl (cI, 8, .inl (rRg R))), (a 12, .inl (cI, 60, .inl (rPr R)))] := hD
        refine lv_iconst (v := nI 0) hx hb d_Mo_empty_22 (by decide) ?_
        refine lv_istore_n hx hb d_Mo_empty_23 rfl hl (by decide) rfl (fun ls hl => ?_)
        have hl : lv_has ls 2 [(1, .int (nI 0)), (0, .ref (a 0))] := hl
        have loop24 : ∀ (K24 : Nat) (j : Nat) (f1 : Nat → Int32) (f2 : Nat → Nat) (f3 : Nat → Nat) (ls : Array Slot) (H : Heap) (locs : List Loc), (0 ≤ j) → (j ≤ 64) → (f1 = xp (mSh M) 0 j (-3)) → (f2 = xp (mOw M) 0 j 0) → (f3 = xp (mSz M) 0 j 0) → 64 - j = K24 → lv_has ls 2 [(1, .int (nI j)), (0, .ref (a 0))] → va_P D vwCl [(a 0, .inr (5, [.int (nI cd), .int (nI (pN P)), .ref (a 1), .ref (a 2), .ref (a 3), .ref (a 4), .ref (a 5), .ref (a 6), .ref (a 7), .ref (a 8), .ref (a 9), .int (nI (mQn M)), .ref (a 10), .int (nI (rSt R)), .int (zI (rCk R)), .int (nI (rAt R)), .int (nI (rLd R)), .ref (a 11), .int (nI (rPn R)), .ref (a 12), .int (nI (rKd R)), .int (rWh R), .int (nI (rWo R))])), (a 1, .inl (cI, 40, .inl (fun zz => nI ((pO P) zz)))), (a 2, .inl (cI, 40, .inl (fun zz => nI ((pR P) zz)))), (a 3, .inl (cI, 40, .inl (fun zz => nI ((pA P) zz)))), (a 4, .inl (cI, 40, .inl (fun zz => nI ((pB P) zz)))), (a 5, .inl (cI, 40, .inl (pK P))), (a 6, .inl (cI, 512, .inl (xp (mHp M) 0 512 (nI 0)))), (a 7, .inl (cI, 64, .inl f1)), (a 8, .inl (cI, 64, .inl (fun zz => nI (f2 zz)))), (a 9, .inl (cI, 64, .inl (fun zz => nI (f3 zz)))), (a 10, .inl (cI, 32, .inl (fun zz => nI ((mQf M) zz)))), (a 11, .inl (cI, 8, .inl (rRg R))), (a 12, .inl (cI, 60, .inl (rPr R)))] H → va_D A [(a 0, .inr (5, [.int (nI cd), .int (nI (pN P)), .ref (a 1), .ref (a 2), .ref (a 3), .ref (a 4), .ref (a 5), .ref (a 6), .ref (a 7), .ref (a 8), .ref (a 9), .int (nI (mQn M)), .ref (a 10), .int (nI (rSt R)), .int (zI (rCk R)), .int (nI (rAt R)), .int (nI (rLd R)), .ref (a 11), .int (nI (rPn R)), .ref (a 12), .int (nI (rKd R)), .int (rWh R), .int (nI (rWo R))])), (a 1, .inl (cI, 40, .inl (fun zz => nI ((pO P) zz)))), (a 2, .inl (cI, 40, .inl (fun zz => nI ((pR P) zz)))), (a 3, .inl (cI, 40, .inl (fun zz => nI ((pA P) zz)))), (a 4, .inl (cI, 40, .inl (fun zz => nI ((pB P) zz)))), (a 5, .inl (cI, 40, .inl (pK P))), (a 6, .inl (cI, 512, .inl (xp (mHp M) 0 512 (nI 0)))), (a 7, .inl (cI, 64, .inl f1)), (a 8, .inl (cI, 64, .inl (fun zz => nI (f2 zz)))), (a 9, .inl (cI, 64, .inl (fun zz => nI (f3 zz)))), (a 10, .inl (cI, 32, .inl (fun zz => nI ((mQf M) zz)))), (a 11, .inl (cI, 8, .inl (rRg R))), (a 12, .inl (cI, 60, .inl (rPr R)))] → va_S A s.heap H locs → W p l e rm_Mo_empty s m args below meth c H locs 0 0 Q (F0 m 24 ls []) := by
          intro K24
          induction K24 using Nat.strongRecOn with
          | _ K24 ih24 =>
            intro j f1 f2 f3 ls H locs g1 g2 hf1 hf2 hf3 hK24 hl hP hD hS
            refine lv_iload_n hx hb d_Mo_empty_24 rfl (lv_at hl 0 rfl) ?_
            refine lv_bipush (v := nI 64) hx hb d_Mo_empty_25 (by decide) ?_
            refine x_icmp_ge (tgt := 58) hM (by omega) (by omega) d_Mo_empty_27 (by decide) (fun hc27 => ?_) (fun hc27 => ?_)
            · skip
              obtain rfl : j = 64 := by omega
              subst hf1 hf2 hf3
              have hP : va_P D vwCl [(a 0, .inr (5, [.int (nI cd), .int (nI (pN P)), .ref (a 1), .ref (a 2), .ref (a 3), .ref (a 4), .ref (a 5), .ref (a 6), .ref (a 7), .ref (a 8), .ref (a 9), .int (nI (mQn M)), .ref (a 10), .int (nI (rSt R)), .int (zI (rCk R)), .int (nI (rAt R)), .int (nI (rLd R)), .ref (a 11), .int (nI (rPn R)), .ref (a 12), .int (nI (rKd R)), .int (rWh R), .int (nI (rWo R))])), (a 1, .inl (cI, 40, .inl (fun zz => nI ((pO P) zz)))), (a 2, .inl (cI, 40, .inl (fun zz => nI ((pR P) zz)))), (a 3, .inl (cI, 40, .inl (fun zz => nI ((pA P) zz)))), (a 4, .inl (cI, 40, .inl (fun zz => nI ((pB P) zz)))), (a 5, .inl (cI, 40, .inl (pK P))), (a 6, .inl (cI, 512, .inl (xp (mHp M) 0 512 (nI 0)))), (a 7, .inl (cI, 64, .inl (xp (mSh M) 0 64 (-3)))), (a 8, .inl (cI, 64, .inl (fun zz => nI ((xp (mOw M) 0 64 0) zz)))), (a 9, .inl (cI, 64, .inl (fun zz => nI ((xp (mSz M) 0 64 0) zz)))), (a 10, .inl (cI, 32, .inl (fun zz => nI ((mQf M) zz)))), (a 11, .inl (cI, 8, .inl (rRg R))), (a 12, .inl (cI, 60, .inl (rPr R)))] H := hP
              have hD : va_D A [(a 0, .inr (5, [.int (nI cd), .int (nI (pN P)), .ref (a 1), .ref (a 2), .ref (a 3), .ref (a 4), .ref (a 5), .ref (a 6), .ref (a 7), .ref (a 8), .ref (a 9), .int (nI (mQn M)), .ref (a 10), .int (nI (rSt R)), .int (zI (rCk R)), .int (nI (rAt R)), .int (nI (rLd R)), .ref (a 11), .int (nI (rPn R)), .ref (a 12), .int (nI (rKd R)), .int (rWh R), .int (nI (rWo R))])), (a 1, .inl (cI, 40, .inl (fun zz => nI ((pO P) zz)))), (a 2, .inl (cI, 40, .inl (fun zz => nI ((pR P) zz)))), (a 3, .inl (cI, 40, .inl (fun zz => nI ((pA P) zz)))), (a 4, .inl (cI, 40, .inl (fun zz => nI ((pB P) zz)))), (a 5, .inl (cI, 40, .inl (pK P))), (a 6, .inl (cI, 512, .inl (xp (mHp M) 0 512 (nI 0)))), (a 7, .inl (cI, 64, .inl (xp (mSh M) 0 64 (-3)))), (a 8, .inl (cI, 64, .inl (fun zz => nI ((xp (mOw M) 0 64 0) zz)))), (a 9, .inl (cI, 64, .inl (fun zz => nI ((xp (mSz M) 0 64 0) zz)))), (a 10, .inl (cI, 32, .inl (fun zz => nI ((mQf M) zz)))), (a 11, .inl (cI, 8, .inl (rRg R))), (a 12, .inl (cI, 60, .inl (rPr R)))] := hD
              refine lv_aload_n hx hb d_Mo_empty_58 rfl (lv_at hl 1 rfl) ?_
              refine lv_iconst (v := nI 0) hx hb d_Mo_empty_59 (by decide) ?_
              refine x_put hM hK hP hD hS 0 5 11 i_Mo t_Mo t_Mo_ok n_Mo rfl rfl (by decide) q_fl_Mo_83 rfl rfl rfl (Nat.le_of_ble_eq_true rfl) d_Mo_empty_60 (fun H locs hP hD hS => ?_)
              have hP : va_P D vwCl [(a 0, .inr (5, [.int (nI cd), .int (nI (pN P)), .ref (a 1), .ref (a 2), .ref (a 3), .ref (a 4), .ref (a 5), .ref (a 6), .ref (a 7), .ref (a 8), .ref (a 9), .int (nI 0), .ref (a 10), .int (nI (rSt R)), .int (zI (rCk R)), .int (nI (rAt R)), .int (nI (rLd R)), .ref (a 11), .int (nI (rPn R)), .ref (a 12), .int (nI (rKd R)), .int (rWh R), .int (nI (rWo R))])), (a 1, .inl (cI, 40, .inl (fun zz => nI ((pO P) zz)))), (a 2, .inl (cI, 40, .inl (fun zz => nI ((pR P) zz)))), (a 3, .inl (cI, 40, .inl (fun zz => nI ((pA P) zz)))), (a 4, .inl (cI, 40, .inl (fun zz => nI ((pB P) zz)))), (a 5, .inl (cI, 40, .inl (pK P))), (a 6, .inl (cI, 512, .inl (xp (mHp M) 0 512 (nI 0)))), (a 7, .inl (cI, 64, .inl (xp (mSh M) 0 64 (-3)))), (a 8, .inl (cI, 64, .inl (fun zz => nI ((xp (mOw M) 0 64 0) zz)))), (a 9, .inl (cI, 64, .inl (fun zz => nI ((xp (mSz M) 0 64 0) zz)))), (a 10, .inl (cI, 32, .inl (fun zz => nI ((mQf M) zz)))), (a 11, .inl (cI, 8, .inl (rRg R))), (a 12, .inl (cI, 60, .inl (rPr R)))] H := hP
              have hD : va_D A [(a 0, .inr (5, [.int (nI cd), .int (nI (pN P)), .ref (a 1), .ref (a 2), .ref (a 3), .ref (a 4), .ref (a 5), .ref (a 6), .ref (a 7), .ref (a 8), .ref (a 9), .int (nI 0), .ref (a 10), .int (nI (rSt R)), .int (zI (rCk R)), .int (nI (rAt R)), .int (nI (rLd R)), .ref (a 11), .int (nI (rPn R)), .ref (a 12), .int (nI (rKd R)), .int (rWh R), .int (nI (rWo R))])), (a 1, .inl (cI, 40, .inl (fun zz => nI ((pO P) zz)))), (a 2, .inl (cI, 40, .inl (fun zz => nI ((pR P) zz)))), (a 3, .inl (cI, 40, .inl (fun zz => nI ((pA P) zz)))), (a 4, .inl (cI, 40, .inl (fun zz => nI ((pB P) zz)))), (a 5, .inl (cI, 40, .inl (pK P))), (a 6, .inl (cI, 512, .inl (xp (mHp M) 0 512 (nI 0)))), (a 7, .inl (cI, 64, .inl (xp (mSh M) 0 64 (-3)))), (a 8, .inl (cI, 64, .inl (fun zz => nI ((xp (mOw M) 0 64 0) zz)))), (a 9, .inl (cI, 64, .inl (fun zz => nI ((xp (mSz M) 0 64 0) zz)))), (a 10, .inl (cI, 32, .inl (fun zz => nI ((mQf M) zz)))), (a 11, .inl (cI, 8, .inl (rRg R))), (a 12, .inl (cI, 60, .inl (rPr R)))] := hD
              exact x_vret hM hQ rfl hP hK hD hS d_Mo_empty_63
            · skip
              refine lv_aload_n hx hb d_Mo_empty_30 rfl (lv_at hl 1 rfl) ?_
              refine x_get hM hK hP 0 5 8 i_Mo rfl rfl (by decide) q_fl_Mo_28 rfl d_Mo_empty_31 ?_
              refine lv_iload_n hx hb d_Mo_empty_34 rfl (lv_at hl 0 rfl) ?_
              refine lv_bipush (v := -3) hx hb d_Mo_empty_35 (by decide) ?_
              refine x_iast hM hK hP hD hS 7 0 rfl rfl (by omega) (by decide) d_Mo_empty_37 (fun H locs hP hD hS => ?_)
              have hP : va_P D vwCl [(a 0, .inr (5, [.int (nI cd), .int (nI (pN P)), .ref (a 1), .ref (a 2), .ref (a 3), .ref (a 4), .ref (a 5), .ref (a 6), .ref (a 7), .ref (a 8), .ref (a 9), .int (nI (mQn M)), .ref (a 10), .int (nI (rSt R)), .int (zI (rCk R)), .int (nI (rAt R)), .int (nI (rLd R)), .ref (a 11), .int (nI (rPn R)), .ref (a 12), .int (nI (rKd R)), .int (rWh R), .int (nI (rWo R))])), (a 1, .inl (cI, 40, .inl (fun zz => nI ((pO P) zz)))), (a 2, .inl (cI, 40, .inl (fun zz => nI ((pR P) zz)))), (a 3, .inl (cI, 40, .inl (fun zz => nI ((pA P) zz)))), (a 4, .inl (cI, 40, .inl (fun zz => nI ((pB P) zz)))), (a 5, .inl (cI, 40, .inl (pK P))), (a 6, .inl (cI, 512, .inl (xp (mHp M) 0 512 (nI 0)))), (a 7, .inl (cI, 64, .inl (xu f1 j (-3)))), (a 8, .inl (cI, 64, .inl (fun zz => nI (f2 zz)))), (a 9, .inl (cI, 64, .inl (fun zz => nI (f3 zz)))), (a 10, .inl (cI, 32, .inl (fun zz => nI ((mQf M) zz)))), (a 11, .inl (cI, 8, .inl (rRg R))), (a 12, .inl (cI, 60, .inl (rPr R)))] H := hP
              have hD : va_D A [(a 0, .inr (5, [.int (nI cd), .int (nI (pN P)), .ref (a 1), .ref (a 2), .ref (a 3), .ref (a 4), .ref (a 5), .ref (a 6), .ref (a 7), .ref (a 8), .ref (a 9), .int (nI (mQn M)), .ref (a 10), .int (nI (rSt R)), .int (zI (rCk R)), .int (nI (rAt R)), .int (nI (rLd R)), .ref (a 11), .int (nI (rPn R)), .ref (a 12), .int (nI (rKd R)), .int (rWh R), .int (nI (rWo R))])), (a 1, .inl (cI, 40, .inl (fun zz => nI ((pO P) zz)))), (a 2, .inl (cI, 40, .inl (fun zz => nI ((pR P) zz)))), (a 3, .inl (cI, 40, .inl (fun zz => nI ((pA P) zz)))), (a 4, .inl (cI, 40, .inl (fun zz => nI ((pB P) zz)))), (a 5, .inl (cI, 40, .inl (pK P))), (a 6, .inl (cI, 512, .inl (xp (mHp M) 0 512 (nI 0)))), (a 7, .inl (cI, 64, .inl (xu f1 j (-3)))), (a 8, .inl (cI, 64, .inl (fun zz => nI (f2 zz)))), (a 9, .inl (cI, 64, .inl (fun zz => nI (f3 zz)))), (a 10, .inl (cI, 32, .inl (fun zz => nI ((mQf M) zz)))), (a 11, .inl (cI, 8, .inl (rRg R))), (a 12, .inl (cI, 60, .inl (rPr R)))] := hD
              refine lv_aload_n hx hb d_Mo_empty_38 rfl (lv_at hl 1 rfl) ?_
              refine x_get hM hK hP 0 5 9 i_Mo rfl rfl (by decide) q_fl_Mo_31 rfl d_Mo_empty_39 ?_
              refine lv_iload_n hx hb d_Mo_empty_42 rfl (lv_at hl 0 rfl) ?_
              refine lv_iconst (v := nI 0) hx hb d_Mo_empty_43 (by decide) ?_
              refine x_iastN hM hK hP hD hS 8 0 rfl rfl (by omega) (by decide) d_Mo_empty_44 (fun H locs hP hD hS => ?_)
              have hP : va_P D vwCl [(a 0, .inr (5, [.int (nI cd), .int (nI (pN P)), .ref (a 1), .ref (a 2), .ref (a 3), .ref (a 4), .ref (a 5), .ref (a 6), .ref (a 7), .ref (a 8), .ref (a 9), .int (nI (mQn M)), .ref (a 10), .int (nI (rSt R)), .int (zI (rCk R)), .int (nI (rAt R)), .int (nI (rLd R)), .ref (a 11), .int (nI (rPn R)), .ref (a 12), .int (nI (rKd R)), .int (rWh R), .int (nI (rWo R))])), (a 1, .inl (cI, 40, .inl (fun zz => nI ((pO P) zz)))), (a 2, .inl (cI, 40, .inl (fun zz => nI ((pR P) zz)))), (a 3, .inl (cI, 40, .inl (fun zz => nI ((pA P) zz)))), (a 4, .inl (cI, 40, .inl (fun zz => nI ((pB P) zz)))), (a 5, .inl (cI, 40, .inl (pK P))), (a 6, .inl (cI, 512, .inl (xp (mHp M) 0 512 (nI 0)))), (a 7, .inl (cI, 64, .inl (xu f1 j (-3)))), (a 8, .inl (cI, 64, .inl (fun zz => nI ((xu f2 j 0) zz)))), (a 9, .inl (cI, 64, .inl (fun zz => nI (f3 zz)))), (a 10, .inl (cI, 32, .inl (fun zz => nI ((mQf M) zz)))), (a 11, .inl (cI, 8, .inl (rRg R))), (a 12, .inl (cI, 60, .inl (rPr R)))] H := hP
              have hD : va_D A [(a 0, .inr (5, [.int (nI cd), .int (nI (pN P)), .ref (a 1), .ref (a 2), .ref (a 3), .ref (a 4), .ref (a 5), .ref (a 6), .ref (a 7), .ref (a 8), .ref (a 9), .int (nI (mQn M)), .ref (a 10), .int (nI (rSt R)), .int (zI (rCk R)), .int (nI (rAt R)), .int (nI (rLd R)), .ref (a 11), .int (nI (rPn R)), .ref (a 12), .int (nI (rKd R)), .int (rWh R), .int (nI (rWo R))])), (a 1, .inl (cI, 40, .inl (fun zz => nI ((pO P) zz)))), (a 2, .inl (cI, 40, .inl (fun zz => nI ((pR P) zz)))), (a 3, .inl (cI, 40, .inl (fun zz => nI ((pA P) zz)))), (a 4, .inl (cI, 40, .inl (fun zz => nI ((pB P) zz)))), (a 5, .inl (cI, 40, .inl (pK P))), (a 6, .inl (cI, 512, .inl (xp (mHp M) 0 512 (nI 0)))), (a 7, .inl (cI, 64, .inl (xu f1 j (-3)))), (a 8, .inl (cI, 64, .inl (fun zz => nI ((xu f2 j 0) zz)))), (a 9, .inl (cI, 64, .inl (fun zz => nI (f3 zz)))), (a 10, .inl (cI, 32, .inl (fun zz => nI ((mQf M) zz)))), (a 11, .inl (cI, 8, .inl (rRg R))), (a 12, .inl (cI, 60, .inl (rPr R)))] := hD
              refine lv_aload_n hx hb d_Mo_empty_45 rfl (lv_at hl 1 rfl) ?_
              refine x_get hM hK hP 0 5 10 i_Mo rfl rfl (by decide) q_fl_Mo_34 rfl d_Mo_empty_46 ?_
              refine lv_iload_n hx hb d_Mo_empty_49 rfl (lv_at hl 0 rfl) ?_
              refine lv_iconst (v := nI 0) hx hb d_Mo_empty_50 (by decide) ?_
              refine x_iastN hM hK hP hD hS 9 0 rfl rfl (by omega) (by decide) d_Mo_empty_51 (fun H locs hP hD hS => ?_)
              have hP : va_P D vwCl [(a 0, .inr (5, [.int (nI cd), .int (nI (pN P)), .ref (a 1), .ref (a 2), .ref (a 3), .ref (a 4), .ref (a 5), .ref (a 6), .ref (a 7), .ref (a 8), .ref (a 9), .int (nI (mQn M)), .ref (a 10), .int (nI (rSt R)), .int (zI (rCk R)), .int (nI (rAt R)), .int (nI (rLd R)), .ref (a 11), .int (nI (rPn R)), .ref (a 12), .int (nI (rKd R)), .int (rWh R), .int (nI (rWo R))])), (a 1, .inl (cI, 40, .inl (fun zz => nI ((pO P) zz)))), (a 2, .inl (cI, 40, .inl (fun zz => nI ((pR P) zz)))), (a 3, .inl (cI, 40, .inl (fun zz => nI ((pA P) zz)))), (a 4, .inl (cI, 40, .inl (fun zz => nI ((pB P) zz)))), (a 5, .inl (cI, 40, .inl (pK P))), (a 6, .inl (cI, 512, .inl (xp (mHp M) 0 512 (nI 0)))), (a 7, .inl (cI, 64, .inl (xu f1 j (-3)))), (a 8, .inl (cI, 64, .inl (fun zz => nI ((xu f2 j 0) zz)))), (a 9, .inl (cI, 64, .inl (fun zz => nI ((xu f3 j 0) zz)))), (a 10, .inl (cI, 32, .inl (fun zz => nI ((mQf M) zz)))), (a 11, .inl (cI, 8, .inl (rRg R))), (a 12, .inl (cI, 60, .inl (rPr R)))] H := hP
              have hD : va_D A [(a 0, .inr (5, [.int (nI cd), .int (nI (pN P)), .ref (a 1), .ref (a 2), .ref (a 3), .ref (a 4), .ref (a 5), .ref (a 6), .ref (a 7), .ref (a 8), .ref (a 9), .int (nI (mQn M)), .ref (a 10), .int (nI (rSt R)), .int (zI (rCk R)), .int (nI (rAt R)), .int (nI (rLd R)), .ref (a 11), .int (nI (rPn R)), .ref (a 12), .int (nI (rKd R)), .int (rWh R), .int (nI (rWo R))])), (a 1, .inl (cI, 40, .inl (fun zz => nI ((pO P) zz)))), (a 2, .inl (cI, 40, .inl (fun zz => nI ((pR P) zz)))), (a 3, .inl (cI, 40, .inl (fun zz => nI ((pA P) zz)))), (a 4, .inl (cI, 40, .inl (fun zz => nI ((pB P) zz)))), (a 5, .inl (cI, 40, .inl (pK P))), (a 6, .inl (cI, 512, .inl (xp (mHp M) 0 512 (nI 0)))), (a 7, .inl (cI, 64, .inl (xu f1 j (-3)))), (a 8, .inl (cI, 64, .inl (fun zz => nI ((xu f2 j 0) zz)))), (a 9, .inl (cI, 64, .inl (fun zz => nI ((xu f3 j 0) zz)))), (a 10, .inl (cI, 32, .inl (fun zz => nI ((mQf M) zz)))), (a 11, .inl (cI, 8, .inl (rRg R))), (a 12, .inl (cI, 60, .inl (rPr R)))] := hD
              refine lv_iinc (k := 0) (v := nI (j + 1)) hx hb d_Mo_empty_52 hl rfl (by rw [show Int32.ofInt 1 = nI 1 by decide, nI_add]) (by decide) rfl (fun ls hl => ?_)
              have hl : lv_has ls 2 [(1, .int (nI (j + 1))), (0, .ref (a 0))] := hl
              refine lv_goto hx hb d_Mo_empty_55 (tgt := 24) (by decide) ?_
              exact ih24 _ (by omega) (j + 1) (xu f1 j (-3)) (xu f2 j 0) (xu f3 j 0) ls H locs (by omega) (by omega) (by rw [hf1, xp_s g1]) (by rw [hf2, xp_s g1]) (by rw [hf3, xp_s g1]) rfl hl hP hD hS
        exact loop24 _ 0 (mSh M) (mOw M) (mSz M) ls H locs (by omega) (by omega) (xp_0 _ _ _).symm (xp_0 _ _ _).symm (xp_0 _ _ _).symm rfl hl hP hD hS
      · skip
        refine lv_aload_n hx hb d_Mo_empty_9 rfl (lv_at hl 1 rfl) ?_
        refine x_get hM hK hP 0 5 7 i_Mo rfl rfl (by decide) q_fl_Mo_25 rfl d_Mo_empty_10 ?_
        refine lv_iload_n hx hb d_Mo_empty_13 rfl (lv_at hl 0 rfl) ?_
        refine lv_iconst (v := nI 0) hx hb d_Mo_empty_14 (by decide) ?_
        refine x_iast hM hK hP hD hS 6 0 rfl rfl (by omega) (by decide) d_Mo_empty_15 (fun H locs hP hD hS => ?_)
        have hP : va_P D vwCl [(a 0, .inr (5, [.int (nI cd), .int (nI (pN P)), .ref (a 1), .ref (a 2), .ref (a 3), .ref (a 4), .ref (a 5), .ref (a 6), .ref (a 7), .ref (a 8), .ref (a 9), .int (nI (mQn M)), .ref (a 10), .int (nI (rSt R)), .int (zI (rCk R)), .int (nI (rAt R)), .int (nI (rLd R)), .ref (a 11), .int (nI (rPn R)), .ref (a 12), .int (nI (rKd R)), .int (rWh R), .int (nI (rWo R))])), (a 1, .inl (cI, 40, .inl (fun zz => nI ((pO P) zz)))), (a 2, .inl (cI, 40, .inl (fun zz => nI ((pR P) zz)))), (a 3, .inl (cI, 40, .inl (fun zz => nI ((pA P) zz)))), (a 4, .inl (cI, 40, .inl (fun zz => nI ((pB P) zz)))), (a 5, .inl (cI, 40, .inl (pK P))), (a 6, .inl (cI, 512, .inl (xu f j (nI 0)))), (a 7, .inl (cI, 64, .inl (mSh M))), (a 8, .inl (cI, 64, .inl (fun zz => nI ((mOw M) zz)))), (a 9, .inl (cI, 64, .inl (fun zz => nI ((mSz M) zz)))), (a 10, .inl (cI, 32, .inl (fun zz => nI ((mQf M) zz)))), (a 11, .inl (cI, 8, .inl (rRg R))), (a 12, .inl (cI, 60, .inl (rPr R)))] H := hP
        have hD : va_D A [(a 0, .inr (5, [.int (nI cd), .int (nI (pN P)), .ref (a 1), .ref (a 2), .ref (a 3), .ref (a 4), .ref (a 5), .ref (a 6), .ref (a 7), .ref (a 8), .ref (a 9), .int (nI (mQn M)), .ref (a 10), .int (nI (rSt R)), .int (zI (rCk R)), .int (nI (rAt R)), .int (nI (rLd R)), .ref (a 11), .int (nI (rPn R)), .ref (a 12), .int (nI (rKd R)), .int (rWh R), .int (nI (rWo R))])), (a 1, .inl (cI, 40, .inl (fun zz => nI ((pO P) zz)))), (a 2, .inl (cI, 40, .inl (fun zz => nI ((pR P) zz)))), (a 3, .inl (cI, 40, .inl (fun zz => nI ((pA P) zz)))), (a 4, .inl (cI, 40, .inl (fun zz => nI ((pB P) zz)))), (a 5, .inl (cI, 40, .inl (pK P))), (a 6, .inl (cI, 512, .inl (xu f j (nI 0)))), (a 7, .inl (cI, 64, .inl (mSh M))), (a 8, .inl (cI, 64, .inl (fun zz => nI ((mOw M) zz)))), (a 9, .inl (cI, 64, .inl (fun zz => nI ((mSz M) zz)))), (a 10, .inl (cI, 32, .inl (fun zz => nI ((mQf M) zz)))), (a 11, .inl (cI, 8, .inl (rRg R))), (a 12, .inl (cI, 60, .inl (rPr R)))] := hD
        refine lv_iinc (k := 0) (v := nI (j + 1)) hx hb d_Mo_empty_16 hl rfl (by rw [show Int32.ofInt 1 = nI 1 by decide, nI_add]) (by decide) rfl (fun ls hl => ?_)
        have hl : lv_has ls 2 [(1, .int (nI (j + 1))), (0, .ref (a 0))] := hl
        refine lv_goto hx hb d_Mo_empty_19 (tgt := 2) (by decide) ?_
        exact ih2 _ (by omega) (j + 1) (xu f j (nI 0)) ls H locs (by omega) (by omega) (by rw [hf, xp_s g1]) rfl hl hP hD hS
  exact loop2 _ 0 (mHp M) ls s.heap [] (by omega) (by omega) (xp_0 _ _ _).symm rfl hl hP hD hS
abbrev rm_Mo_gap : Room := { frames := 0, cells := 0, slots := 0, locals := 0 }
set_option maxHeartbeats 4000000 in
set_option maxRecDepth 100000 in
theorem c_Mo_gap (l : Launch) (D : va_G) (cI cZ cJ : ClassId) (sz : Nat) (a : Nat → Nat) (cd : Nat) (P : xPg) (M : xMem) (R : xRn) (n : Nat) (B : Nat) (hm : mOk B M) (h1 : 1 ≤ n) (hn : n ≤ 64) : xCi l D (xT cI cZ cJ) y_Mo_gap k_Mo_gap rm_Mo_gap sz (wMo cI a cd P M R) [.ref (a 0), .int (nI n)] (oI (mGap M n)) (wMo cI a cd P M R) 0 0 := by
  refine x_ofi (cc := b_Mo_gap) (nL := 4) (ret := (some .int)) (by decide) rfl (Nat.le_of_ble_eq_true rfl) ?_
  intro p e s m args below meth c ls A Q hQ hM hsz hP hK hD hA hl
  obtain ⟨hx, hb, -, hml, hown, hts, -⟩ := id hM
  have hS : va_S A s.heap s.heap [] := va_S.rf
  have hl : lv_has ls 4 [(0, .ref (a 0)), (1, .int (nI n))] := hl
  have hP : va_P D vwCl [(a 0, .inr (5, [.int (nI cd), .int (nI (pN P)), .ref (a 1), .ref (a 2), .ref (a 3), .ref (a 4), .ref (a 5), .ref (a 6), .ref (a 7), .ref (a 8), .ref (a 9), .int (nI (mQn M)), .ref (a 10), .int (nI (rSt R)), .int (zI (rCk R)), .int (nI (rAt R)), .int (nI (rLd R)), .ref (a 11), .int (nI (rPn R)), .ref (a 12), .int (nI (rKd R)), .int (rWh R), .int (nI (rWo R))])), (a 1, .inl (cI, 40, .inl (fun zz => nI ((pO P) zz)))), (a 2, .inl (cI, 40, .inl (fun zz => nI ((pR P) zz)))), (a 3, .inl (cI, 40, .inl (fun zz => nI ((pA P) zz)))), (a 4, .inl (cI, 40, .inl (fun zz => nI ((pB P) zz)))), (a 5, .inl (cI, 40, .inl (pK P))), (a 6, .inl (cI, 512, .inl (mHp M))), (a 7, .inl (cI, 64, .inl (mSh M))), (a 8, .inl (cI, 64, .inl (fun zz => nI ((mOw M) zz)))), (a 9, .inl (cI, 64, .inl (fun zz => nI ((mSz M) zz)))), (a 10, .inl (cI, 32, .inl (fun zz => nI ((mQf M) zz)))), (a 11, .inl (cI, 8, .inl (rRg R))), (a 12, .inl (cI, 60, .inl (rPr R)))] s.heap := hP
  have hD : va_D A [(a 0, .inr (5, [.int (nI cd), .int (nI (pN P)), .ref (a 1), .ref (a 2), .ref (a 3), .ref (a 4), .ref (a 5), .ref (a 6), .ref (a 7), .ref (a 8), .ref (a 9), .int (nI (mQn M)), .ref (a 10), .int (nI (rSt R)), .int (zI (rCk R)), .int (nI (rAt R)), .int (nI (rLd R)), .ref (a 11), .int (nI (rPn R)), .ref (a 12), .int (nI (rKd R)), .int (rWh R), .int (nI (rWo R))])), (a 1, .inl (cI, 40, .inl (fun zz => nI ((pO P) zz)))), (a 2, .inl (cI, 40, .inl (fun zz => nI ((pR P) zz)))), (a 3, .inl (cI, 40, .inl (fun zz => nI ((pA P) zz)))), (a 4, .inl (cI, 40, .inl (fun zz => nI ((pB P) zz)))), (a 5, .inl (cI, 40, .inl (pK P))), (a 6, .inl (cI, 512, .inl (mHp M))), (a 7, .inl (cI, 64, .inl (mSh M))), (a 8, .inl (cI, 64, .inl (fun zz => nI ((mOw M) zz)))), (a 9, .inl (cI, 64, .inl (fun zz => nI ((mSz M) zz)))), (a 10, .inl (cI, 32, .inl (fun zz => nI ((mQf M) zz)))), (a 11, .inl (cI, 8, .inl (rRg R))), (a 12, .inl (cI, 60, .inl (rPr R)))] := hD
  refine lv_iconst (v := nI 0) hx hb d_Mo_gap_0 (by decide) ?_
  refine lv_istore_n hx hb d_Mo_gap_1 rfl hl (by decide) rfl (fun ls hl => ?_)
  have hl : lv_has ls 4 [(2, .int (nI 0)), (0, .ref (a 0)), (1, .int (nI n))] := hl
  have loop2 : ∀ (K2 : Nat) (g : Nat) (ls : Array Slot) (H : Heap) (locs : List Loc), (g ≤ 65) → (∀ t, t < g → ∃ k, k < n ∧ mOw M (t + k) ≠ 0) → 65 - g = K2 → lv_has ls 4 [(2, .int (nI g)), (0, .ref (a 0)), (1, .int (nI n))] → va_P D vwCl [(a 0, .inr (5, [.int (nI cd), .int (nI (pN P)), .ref (a 1), .ref (a 2), .ref (a 3), .ref (a 4), .ref (a 5), .ref (a 6), .ref (a 7), .ref (a 8), .ref (a 9), .int (nI (mQn M)), .ref (a 10), .int (nI (rSt R)), .int (zI (rCk R)), .int (nI (rAt R)), .int (nI (rLd R)), .ref (a 11), .int (nI (rPn R)), .ref (a 12), .int (nI (rKd R)), .int (rWh R), .int (nI (rWo R))])), (a 1, .inl (cI, 40, .inl (fun zz => nI ((pO P) zz)))), (a 2, .inl (cI, 40, .inl (fun zz => nI ((pR P) zz)))), (a 3, .inl (cI, 40, .inl (fun zz => nI ((pA P) zz)))), (a 4, .inl (cI, 40, .inl (fun zz => nI ((pB P) zz)))), (a 5, .inl (cI, 40, .inl (pK P))), (a 6, .inl (cI, 512, .inl (mHp M))), (a 7, .inl (cI, 64, .inl (mSh M))), (a 8, .inl (cI, 64, .inl (fun zz => nI ((mOw M) zz)))), (a 9, .inl (cI, 64, .inl (fun zz => nI ((mSz M) zz)))), (a 10, .inl (cI, 32, .inl (fun zz => nI ((mQf M) zz)))), (a 11, .inl (cI, 8, .inl (rRg R))), (a 12, .inl (cI, 60, .inl (rPr R)))] H → va_D A [(a 0, .inr (5, [.int (nI cd), .int (nI (pN P)), .ref (a 1), .ref (a 2), .ref (a 3), .ref (a 4), .ref (a 5), .ref (a 6), .ref (a 7), .ref (a 8), .ref (a 9), .int (nI (mQn M)), .ref (a 10), .int (nI (rSt R)), .int (zI (rCk R)), .int (nI (rAt R)), .int (nI (rLd R)), .ref (a 11), .int (nI (rPn R)), .ref (a 12), .int (nI (rKd R)), .int (rWh R), .int (nI (rWo R))])), (a 1, .inl (cI, 40, .inl (fun zz => nI ((pO P) zz)))), (a 2, .inl (cI, 40, .inl (fun zz => nI ((pR P) zz)))), (a 3, .inl (cI, 40, .inl (fun zz => nI ((pA P) zz)))), (a 4, .inl (cI, 40, .inl (fun zz => nI ((pB P) zz)))), (a 5, .inl (cI, 40, .inl (pK P))), (a 6, .inl (cI, 512, .inl (mHp M))), (a 7, .inl (cI, 64, .inl (mSh M))), (a 8, .inl (cI, 64, .inl (fun zz => nI ((mOw M) zz)))), (a 9, .inl (cI, 64, .inl (fun zz => nI ((mSz M) zz)))), (a 10, .inl (cI, 32, .inl (fun zz => nI ((mQf M) zz)))), (a 11, .inl (cI, 8, .inl (rRg R))), (a 12, .inl (cI, 60, .inl (rPr R)))] → va_S A s.heap H locs → W p l e rm_Mo_gap s m args below meth c H locs 0 0 Q (F0 m 2 ls []) := by
    intro K2
    induction K2 using Nat.strongRecOn with
    | _ K2 ih2 =>
      intro g ls H locs g1 g2 hK2 hl hP hD hS
      refine lv_iload_n hx hb d_Mo_gap_2 rfl (lv_at hl 0 rfl) ?_
      refine lv_iload_n hx hb d_Mo_gap_3 rfl (lv_at hl 2 rfl) ?_
      refine x_iadd hM d_Mo_gap_4 ?_
      refine lv_bipush (v := nI 64) hx hb d_Mo_gap_5 (by decide) ?_
      refine x_icmp_gt (tgt := 47) hM (by omega) (by omega) d_Mo_gap_7 (by decide) (fun hc7 => ?_) (fun hc7 => ?_)
      · skip
        refine lv_iconst (v := -1) hx hb d_Mo_gap_47 (by decide) ?_
        exact x_iret hM hQ (by rw [mGap_n (fun t ht => g2 t (by omega))]; rfl) rfl hP hK hD hS d_Mo_gap_48
      · skip
        refine lv_iconst (v := nI 0) hx hb d_Mo_gap_10 (by decide) ?_
        refine lv_istore_n hx hb d_Mo_gap_11 rfl hl (by decide) rfl (fun ls hl => ?_)
        have hl : lv_has ls 4 [(3, .int (nI 0)), (2, .int (nI g)), (0, .ref (a 0)), (1, .int (nI n))] := hl
        have loop12 : ∀ (K12 : Nat) (j : Nat) (ls : Array Slot) (H : Heap) (locs : List Loc), (j ≤ n) → (∀ k, k < j → mOw M (g + k) = 0) → n - j = K12 → lv_has ls 4 [(3, .int (nI j)), (2, .int (nI g)), (0, .ref (a 0)), (1, .int (nI n))] → va_P D vwCl [(a 0, .inr (5, [.int (nI cd), .int (nI (pN P)), .ref (a 1), .ref (a 2), .ref (a 3), .ref (a 4), .ref (a 5), .ref (a 6), .ref (a 7), .ref (a 8), .ref (a 9), .int (nI (mQn M)), .ref (a 10), .int (nI (rSt R)), .int (zI (rCk R)), .int (nI (rAt R)), .int (nI (rLd R)), .ref (a 11), .int (nI (rPn R)), .ref (a 12), .int (nI (rKd R)), .int (rWh R), .int (nI (rWo R))])), (a 1, .inl (cI, 40, .inl (fun zz => nI ((pO P) zz)))), (a 2, .inl (cI, 40, .inl (fun zz => nI ((pR P) zz)))), (a 3, .inl (cI, 40, .inl (fun zz => nI ((pA P) zz)))), (a 4, .inl (cI, 40, .inl (fun zz => nI ((pB P) zz)))), (a 5, .inl (cI, 40, .inl (pK P))), (a 6, .inl (cI, 512, .inl (mHp M))), (a 7, .inl (cI, 64, .inl (mSh M))), (a 8, .inl (cI, 64, .inl (fun zz => nI ((mOw M) zz)))), (a 9, .inl (cI, 64, .inl (fun zz => nI ((mSz M) zz)))), (a 10, .inl (cI, 32, .inl (fun zz => nI ((mQf M) zz)))), (a 11, .inl (cI, 8, .inl (rRg R))), (a 12, .inl (cI, 60, .inl (rPr R)))] H → va_D A [(a 0, .inr (5, [.int (nI cd), .int (nI (pN P)), .ref (a 1), .ref (a 2), .ref (a 3), .ref (a 4), .ref (a 5), .ref (a 6), .ref (a 7), .ref (a 8), .ref (a 9), .int (nI (mQn M)), .ref (a 10), .int (nI (rSt R)), .int (zI (rCk R)), .int (nI (rAt R)), .int (nI (rLd R)), .ref (a 11), .int (nI (rPn R)), .ref (a 12), .int (nI (rKd R)), .int (rWh R), .int (nI (rWo R))])), (a 1, .inl (cI, 40, .inl (fun zz => nI ((pO P) zz)))), (a 2, .inl (cI, 40, .inl (fun zz => nI ((pR P) zz)))), (a 3, .inl (cI, 40, .inl (fun zz => nI ((pA P) zz)))), (a 4, .inl (cI, 40, .inl (fun zz => nI ((pB P) zz)))), (a 5, .inl (cI, 40, .inl (pK P))), (a 6, .inl (cI, 512, .inl (mHp M))), (a 7, .inl (cI, 64, .inl (mSh M))), (a 8, .inl (cI, 64, .inl (fun zz => nI ((mOw M) zz)))), (a 9, .inl (cI, 64, .inl (fun zz => nI ((mSz M) zz)))), (a 10, .inl (cI, 32, .inl (fun zz => nI ((mQf M) zz)))), (a 11, .inl (cI, 8, .inl (rRg R))), (a 12, .inl (cI, 60, .inl (rPr R)))] → va_S A s.heap H locs → W p l e rm_Mo_gap s m args below meth c H locs 0 0 Q (F0 m 12 ls []) := by
          intro K12
          induction K12 using Nat.strongRecOn with
          | _ K12 ih12 =>
            intro j ls H locs g3 g4 hK12 hl hP hD hS
            refine lv_iload_n hx hb d_Mo_gap_12 rfl (lv_at hl 0 rfl) ?_
            refine lv_iload_n hx hb d_Mo_gap_13 rfl (lv_at hl 3 rfl) ?_
            refine x_icmp_ge (tgt := 34) hM (by omega) (by omega) d_Mo_gap_14 (by decide) (fun hc14 => ?_) (fun hc14 => ?_)
            · skip
              refine lv_iload_n hx hb d_Mo_gap_34 rfl (lv_at hl 0 rfl) ?_
              refine lv_iload_n hx hb d_Mo_gap_35 rfl (lv_at hl 3 rfl) ?_
              refine x_icmp_ne (tgt := 41) hM (by omega) (by omega) d_Mo_gap_36 (by decide) (fun hc36 => ?_) (fun hc36 => ?_)
              · skip
                omega
              · skip
                refine lv_iload_n hx hb d_Mo_gap_39 rfl (lv_at hl 1 rfl) ?_
                exact x_iret hM hQ (by rw [mGap_s (M := M) (need := n) (s := g) (by omega) (fun k hk => g4 k (by omega)) g2]; rfl) rfl hP hK hD hS d_Mo_gap_40
            · skip
              have hw0 := mOk_ow hm (k := g + j) (by omega)
              refine lv_aload_n hx hb d_Mo_gap_17 rfl (lv_at hl 2 rfl) ?_
              refine x_get hM hK hP 0 5 9 i_Mo rfl rfl (by decide) q_fl_Mo_31 rfl d_Mo_gap_18 ?_
              refine lv_iload_n hx hb d_Mo_gap_21 rfl (lv_at hl 1 rfl) ?_
              refine lv_iload_n hx hb d_Mo_gap_22 rfl (lv_at hl 0 rfl) ?_
              refine x_iadd hM d_Mo_gap_23 ?_
              refine x_iald hM hK hP 8 0 rfl rfl (by omega) (by decide) d_Mo_gap_24 ?_
              refine x_if_ne (tgt := 34) hM (by omega) d_Mo_gap_25 (by decide) (fun hc25 => ?_) (fun hc25 => ?_)
              · skip
                refine lv_iload_n hx hb d_Mo_gap_34 rfl (lv_at hl 0 rfl) ?_
                refine lv_iload_n hx hb d_Mo_gap_35 rfl (lv_at hl 3 rfl) ?_
                refine x_icmp_ne (tgt := 41) hM (by omega) (by omega) d_Mo_gap_36 (by decide) (fun hc36 => ?_) (fun hc36 => ?_)
                · skip
                  refine lv_iinc (k := 1) (v := nI (g + 1)) hx hb d_Mo_gap_41 hl rfl (by rw [show Int32.ofInt 1 = nI 1 by decide, nI_add]) (by decide) rfl (fun ls hl => ?_)
                  have hl : lv_has ls 4 [(2, .int (nI (g + 1))), (3, .int (nI j)), (0, .ref (a 0)), (1, .int (nI n))] := hl
                  refine lv_goto hx hb d_Mo_gap_44 (tgt := 2) (by decide) ?_
                  exact ih2 _ (by omega) (g + 1) ls H locs (by omega) (fun t ht => by
                      by_cases e : t = g
                      · subst e; exact ⟨j, by omega, hc25⟩
                      · exact g2 t (by omega)) rfl (lv_sub hl [0, 2, 3] rfl) hP hD hS
                · skip
                  omega
              · skip
                refine lv_iinc (k := 0) (v := nI (j + 1)) hx hb d_Mo_gap_28 hl rfl (by rw [show Int32.ofInt 1 = nI 1 by decide, nI_add]) (by decide) rfl (fun ls hl => ?_)
                have hl : lv_has ls 4 [(3, .int (nI (j + 1))), (2, .int (nI g)), (0, .ref (a 0)), (1, .int (nI n))] := hl
                refine lv_goto hx hb d_Mo_gap_31 (tgt := 12) (by decide) ?_
                exact ih12 _ (by omega) (j + 1) ls H locs (by omega) (fun k hk => by
                    by_cases e : k = j
                    · rw [e]; exact hc25
                    · exact g4 k (by omega)) rfl hl hP hD hS
        exact loop12 _ 0 ls H locs (by omega) (fun t ht => absurd ht (Nat.not_lt_zero _)) rfl hl hP hD hS
  exact loop2 _ 0 ls s.heap [] (by omega) (fun t ht => absurd ht (Nat.not_lt_zero _)) rfl hl hP hD hS
abbrev rm_Mo_release : Room := { frames := 0, cells := 0, slots := 0, locals := 0 }
set_option maxHeartbeats 4000000 in
set_option maxRecDepth 100000 in
theorem c_Mo_release (l : Launch) (D : va_G) (cI cZ cJ : ClassId) (sz : Nat) (a : Nat → Nat) (cd : Nat) (P : xPg) (M : xMem) (R : xRn) (B : Nat) (hm : mOk B M) (hB : B ≤ 90) (hq : 0 < mQn M) : xCv l D (xT cI cZ cJ) y_Mo_release k_Mo_release rm_Mo_release sz (wMo cI a cd P M R) [.ref (a 0)] (wMo cI a cd P (mRel M) R) 0 0 := by
  refine x_ofv (cc := b_Mo_release) (nL := 3) (ret := none) (by decide) rfl (Nat.le_of_ble_eq_true rfl) ?_
  intro p e s m args below meth c ls A Q hQ hM hsz hP hK hD hA hl
  obtain ⟨hx, hb, -, hml, hown, hts, -⟩ := id hM
  have hS : va_S A s.heap s.heap [] := va_S.rf
  have hl : lv_has ls 3 [(0, .ref (a 0))] := hl
  have hP : va_P D vwCl [(a 0, .inr (5, [.int (nI cd), .int (nI (pN P)), .ref (a 1), .ref (a 2), .ref (a 3), .ref (a 4), .ref (a 5), .ref (a 6), .ref (a 7), .ref (a 8), .ref (a 9), .int (nI (mQn M)), .ref (a 10), .int (nI (rSt R)), .int (zI (rCk R)), .int (nI (rAt R)), .int (nI (rLd R)), .ref (a 11), .int (nI (rPn R)), .ref (a 12), .int (nI (rKd R)), .int (rWh R), .int (nI (rWo R))])), (a 1, .inl (cI, 40, .inl (fun zz => nI ((pO P) zz)))), (a 2, .inl (cI, 40, .inl (fun zz => nI ((pR P) zz)))), (a 3, .inl (cI, 40, .inl (fun zz => nI ((pA P) zz)))), (a 4, .inl (cI, 40, .inl (fun zz => nI ((pB P) zz)))), (a 5, .inl (cI, 40, .inl (pK P))), (a 6, .inl (cI, 512, .inl (mHp M))), (a 7, .inl (cI, 64, .inl (mSh M))), (a 8, .inl (cI, 64, .inl (fun zz => nI ((mOw M) zz)))), (a 9, .inl (cI, 64, .inl (fun zz => nI ((mSz M) zz)))), (a 10, .inl (cI, 32, .inl (fun zz => nI ((mQf M) zz)))), (a 11, .inl (cI, 8, .inl (rRg R))), (a 12, .inl (cI, 60, .inl (rPr R)))] s.heap := hP
  have hD : va_D A [(a 0, .inr (5, [.int (nI cd), .int (nI (pN P)), .ref (a 1), .ref (a 2), .ref (a 3), .ref (a 4), .ref (a 5), .ref (a 6), .ref (a 7), .ref (a 8), .ref (a 9), .int (nI (mQn M)), .ref (a 10), .int (nI (rSt R)), .int (zI (rCk R)), .int (nI (rAt R)), .int (nI (rLd R)), .ref (a 11), .int (nI (rPn R)), .ref (a 12), .int (nI (rKd R)), .int (rWh R), .int (nI (rWo R))])), (a 1, .inl (cI, 40, .inl (fun zz => nI ((pO P) zz)))), (a 2, .inl (cI, 40, .inl (fun zz => nI ((pR P) zz)))), (a 3, .inl (cI, 40, .inl (fun zz => nI ((pA P) zz)))), (a 4, .inl (cI, 40, .inl (fun zz => nI ((pB P) zz)))), (a 5, .inl (cI, 40, .inl (pK P))), (a 6, .inl (cI, 512, .inl (mHp M))), (a 7, .inl (cI, 64, .inl (mSh M))), (a 8, .inl (cI, 64, .inl (fun zz => nI ((mOw M) zz)))), (a 9, .inl (cI, 64, .inl (fun zz => nI ((mSz M) zz)))), (a 10, .inl (cI, 32, .inl (fun zz => nI ((mQf M) zz)))), (a 11, .inl (cI, 8, .inl (rRg R))), (a 12, .inl (cI, 60, .inl (rPr R)))] := hD
  have hq3 := mOk_qn hm
  have hq0 := mOk_q hm hq
  refine lv_aload_n hx hb d_Mo_release_0 rfl (lv_at hl 0 rfl) ?_
  refine x_get hM hK hP 0 5 12 i_Mo rfl rfl (by decide) q_fl_Mo_37 rfl d_Mo_release_1 ?_
  refine lv_iconst (v := nI 0) hx hb d_Mo_release_4 (by decide) ?_
  refine x_iald hM hK hP 10 0 rfl rfl (by omega) (by decide) d_Mo_release_5 ?_
  refine lv_istore_n hx hb d_Mo_release_6 rfl hl (by decide) rfl (fun ls hl => ?_)
  have hl : lv_has ls 3 [(1, .int (nI ((mQf M) 0))), (0, .ref (a 0))] := hl
  refine lv_aload_n hx hb d_Mo_release_7 rfl (lv_at hl 1 rfl) ?_
  refine lv_dup hx hb d_Mo_release_8 rfl ?_
  refine x_get hM hK hP 0 5 11 i_Mo rfl rfl (by decide) q_fl_Mo_83 rfl d_Mo_release_9 ?_
  refine lv_iconst (v := nI 1) hx hb d_Mo_release_12 (by decide) ?_
  refine x_isub hM (by omega) d_Mo_release_13 ?_
  refine x_put hM hK hP hD hS 0 5 11 i_Mo t_Mo t_Mo_ok n_Mo rfl rfl (by decide) q_fl_Mo_83 rfl rfl rfl (Nat.le_of_ble_eq_true rfl) d_Mo_release_14 (fun H locs hP hD hS => ?_)
  have hP : va_P D vwCl [(a 0, .inr (5, [.int (nI cd), .int (nI (pN P)), .ref (a 1), .ref (a 2), .ref (a 3), .ref (a 4), .ref (a 5), .ref (a 6), .ref (a 7), .ref (a 8), .ref (a 9), .int (nI ((mQn M) - 1)), .ref (a 10), .int (nI (rSt R)), .int (zI (rCk R)), .int (nI (rAt R)), .int (nI (rLd R)), .ref (a 11), .int (nI (rPn R)), .ref (a 12), .int (nI (rKd R)), .int (rWh R), .int (nI (rWo R))])), (a 1, .inl (cI, 40, .inl (fun zz => nI ((pO P) zz)))), (a 2, .inl (cI, 40, .inl (fun zz => nI ((pR P) zz)))), (a 3, .inl (cI, 40, .inl (fun zz => nI ((pA P) zz)))), (a 4, .inl (cI, 40, .inl (fun zz => nI ((pB P) zz)))), (a 5, .inl (cI, 40, .inl (pK P))), (a 6, .inl (cI, 512, .inl (mHp M))), (a 7, .inl (cI, 64, .inl (mSh M))), (a 8, .inl (cI, 64, .inl (fun zz => nI ((mOw M) zz)))), (a 9, .inl (cI, 64, .inl (fun zz => nI ((mSz M) zz)))), (a 10, .inl (cI, 32, .inl (fun zz => nI ((mQf M) zz)))), (a 11, .inl (cI, 8, .inl (rRg R))), (a 12, .inl (cI, 60, .inl (rPr R)))] H := hP
  have hD : va_D A [(a 0, .inr (5, [.int (nI cd), .int (nI (pN P)), .ref (a 1), .ref (a 2), .ref (a 3), .ref (a 4), .ref (a 5), .ref (a 6), .ref (a 7), .ref (a 8), .ref (a 9), .int (nI ((mQn M) - 1)), .ref (a 10), .int (nI (rSt R)), .int (zI (rCk R)), .int (nI (rAt R)), .int (nI (rLd R)), .ref (a 11), .int (nI (rPn R)), .ref (a 12), .int (nI (rKd R)), .int (rWh R), .int (nI (rWo R))])), (a 1, .inl (cI, 40, .inl (fun zz => nI ((pO P) zz)))), (a 2, .inl (cI, 40, .inl (fun zz => nI ((pR P) zz)))), (a 3, .inl (cI, 40, .inl (fun zz => nI ((pA P) zz)))), (a 4, .inl (cI, 40, .inl (fun zz => nI ((pB P) zz)))), (a 5, .inl (cI, 40, .inl (pK P))), (a 6, .inl (cI, 512, .inl (mHp M))), (a 7, .inl (cI, 64, .inl (mSh M))), (a 8, .inl (cI, 64, .inl (fun zz => nI ((mOw M) zz)))), (a 9, .inl (cI, 64, .inl (fun zz => nI ((mSz M) zz)))), (a 10, .inl (cI, 32, .inl (fun zz => nI ((mQf M) zz)))), (a 11, .inl (cI, 8, .inl (rRg R))), (a 12, .inl (cI, 60, .inl (rPr R)))] := hD
  refine lv_iconst (v := nI 0) hx hb d_Mo_release_17 (by decide) ?_
  refine lv_istore_n hx hb d_Mo_release_18 rfl hl (by decide) rfl (fun ls hl => ?_)
  have hl : lv_has ls 3 [(2, .int (nI 0)), (1, .int (nI ((mQf M) 0))), (0, .ref (a 0))] := hl
  have loop19 : ∀ (K19 : Nat) (j : Nat) (f : Nat → Nat) (ls : Array Slot) (H : Heap) (locs : List Loc), (j ≤ mQn M - 1) → (f = fun z => if z < j then mQf M (z + 1) else mQf M z) → mQn M - 1 - j = K19 → lv_has ls 3 [(2, .int (nI j)), (1, .int (nI (mQf M 0))), (0, .ref (a 0))] → va_P D vwCl [(a 0, .inr (5, [.int (nI cd), .int (nI (pN P)), .ref (a 1), .ref (a 2), .ref (a 3), .ref (a 4), .ref (a 5), .ref (a 6), .ref (a 7), .ref (a 8), .ref (a 9), .int (nI ((mQn M) - 1)), .ref (a 10), .int (nI (rSt R)), .int (zI (rCk R)), .int (nI (rAt R)), .int (nI (rLd R)), .ref (a 11), .int (nI (rPn R)), .ref (a 12), .int (nI (rKd R)), .int (rWh R), .int (nI (rWo R))])), (a 1, .inl (cI, 40, .inl (fun zz => nI ((pO P) zz)))), (a 2, .inl (cI, 40, .inl (fun zz => nI ((pR P) zz)))), (a 3, .inl (cI, 40, .inl (fun zz => nI ((pA P) zz)))), (a 4, .inl (cI, 40, .inl (fun zz => nI ((pB P) zz)))), (a 5, .inl (cI, 40, .inl (pK P))), (a 6, .inl (cI, 512, .inl (mHp M))), (a 7, .inl (cI, 64, .inl (mSh M))), (a 8, .inl (cI, 64, .inl (fun zz => nI ((mOw M) zz)))), (a 9, .inl (cI, 64, .inl (fun zz => nI ((mSz M) zz)))), (a 10, .inl (cI, 32, .inl (fun zz => nI (f zz)))), (a 11, .inl (cI, 8, .inl (rRg R))), (a 12, .inl (cI, 60, .inl (rPr R)))] H → va_D A [(a 0, .inr (5, [.int (nI cd), .int (nI (pN P)), .ref (a 1), .ref (a 2), .ref (a 3), .ref (a 4), .ref (a 5), .ref (a 6), .ref (a 7), .ref (a 8), .ref (a 9), .int (nI ((mQn M) - 1)), .ref (a 10), .int (nI (rSt R)), .int (zI (rCk R)), .int (nI (rAt R)), .int (nI (rLd R)), .ref (a 11), .int (nI (rPn R)), .ref (a 12), .int (nI (rKd R)), .int (rWh R), .int (nI (rWo R))])), (a 1, .inl (cI, 40, .inl (fun zz => nI ((pO P) zz)))), (a 2, .inl (cI, 40, .inl (fun zz => nI ((pR P) zz)))), (a 3, .inl (cI, 40, .inl (fun zz => nI ((pA P) zz)))), (a 4, .inl (cI, 40, .inl (fun zz => nI ((pB P) zz)))), (a 5, .inl (cI, 40, .inl (pK P))), (a 6, .inl (cI, 512, .inl (mHp M))), (a 7, .inl (cI, 64, .inl (mSh M))), (a 8, .inl (cI, 64, .inl (fun zz => nI ((mOw M) zz)))), (a 9, .inl (cI, 64, .inl (fun zz => nI ((mSz M) zz)))), (a 10, .inl (cI, 32, .inl (fun zz => nI (f zz)))), (a 11, .inl (cI, 8, .inl (rRg R))), (a 12, .inl (cI, 60, .inl (rPr R)))] → va_S A s.heap H locs → W p l e rm_Mo_release s m args below meth c H locs 0 0 Q (F0 m 19 ls []) := by
    intro K19
    induction K19 using Nat.strongRecOn with
    | _ K19 ih19 =>
      intro j f ls H locs g1 hf hK19 hl hP hD hS
      refine lv_iload_n hx hb d_Mo_release_19 rfl (lv_at hl 0 rfl) ?_
      refine lv_aload_n hx hb d_Mo_release_20 rfl (lv_at hl 2 rfl) ?_
      refine x_get hM hK hP 0 5 11 i_Mo rfl rfl (by decide) q_fl_Mo_83 rfl d_Mo_release_21 ?_
      refine x_icmp_ge (tgt := 47) hM (by omega) (by omega) d_Mo_release_24 (by decide) (fun hc24 => ?_) (fun hc24 => ?_)
      · skip
        obtain rfl : j = mQn M - 1 := by omega
        subst hf
        have hP : va_P D vwCl [(a 0, .inr (5, [.int (nI cd), .int (nI (pN P)), .ref (a 1), .ref (a 2), .ref (a 3), .ref (a 4), .ref (a 5), .ref (a 6), .ref (a 7), .ref (a 8), .ref (a 9), .int (nI ((mQn M) - 1)), .ref (a 10), .int (nI (rSt R)), .int (zI (rCk R)), .int (nI (rAt R)), .int (nI (rLd R)), .ref (a 11), .int (nI (rPn R)), .ref (a 12), .int (nI (rKd R)), .int (rWh R), .int (nI (rWo R))])), (a 1, .inl (cI, 40, .inl (fun zz => nI ((pO P) zz)))), (a 2, .inl (cI, 40, .inl (fun zz => nI ((pR P) zz)))), (a 3, .inl (cI, 40, .inl (fun zz => nI ((pA P) zz)))), (a 4, .inl (cI, 40, .inl (fun zz => nI ((pB P) zz)))), (a 5, .inl (cI, 40, .inl (pK P))), (a 6, .inl (cI, 512, .inl (mHp M))), (a 7, .inl (cI, 64, .inl (mSh M))), (a 8, .inl (cI, 64, .inl (fun zz => nI ((mOw M) zz)))), (a 9, .inl (cI, 64, .inl (fun zz => nI ((mSz M) zz)))), (a 10, .inl (cI, 32, .inl (fun zz => nI ((fun z => if z < mQn M - 1 then mQf M (z + 1) else mQf M z) zz)))), (a 11, .inl (cI, 8, .inl (rRg R))), (a 12, .inl (cI, 60, .inl (rPr R)))] H := hP
        have hD : va_D A [(a 0, .inr (5, [.int (nI cd), .int (nI (pN P)), .ref (a 1), .ref (a 2), .ref (a 3), .ref (a 4), .ref (a 5), .ref (a 6), .ref (a 7), .ref (a 8), .ref (a 9), .int (nI ((mQn M) - 1)), .ref (a 10), .int (nI (rSt R)), .int (zI (rCk R)), .int (nI (rAt R)), .int (nI (rLd R)), .ref (a 11), .int (nI (rPn R)), .ref (a 12), .int (nI (rKd R)), .int (rWh R), .int (nI (rWo R))])), (a 1, .inl (cI, 40, .inl (fun zz => nI ((pO P) zz)))), (a 2, .inl (cI, 40, .inl (fun zz => nI ((pR P) zz)))), (a 3, .inl (cI, 40, .inl (fun zz => nI ((pA P) zz)))), (a 4, .inl (cI, 40, .inl (fun zz => nI ((pB P) zz)))), (a 5, .inl (cI, 40, .inl (pK P))), (a 6, .inl (cI, 512, .inl (mHp M))), (a 7, .inl (cI, 64, .inl (mSh M))), (a 8, .inl (cI, 64, .inl (fun zz => nI ((mOw M) zz)))), (a 9, .inl (cI, 64, .inl (fun zz => nI ((mSz M) zz)))), (a 10, .inl (cI, 32, .inl (fun zz => nI ((fun z => if z < mQn M - 1 then mQf M (z + 1) else mQf M z) zz)))), (a 11, .inl (cI, 8, .inl (rRg R))), (a 12, .inl (cI, 60, .inl (rPr R)))] := hD
        refine lv_iload_n hx hb d_Mo_release_47 rfl (lv_at hl 1 rfl) ?_
        refine lv_istore_n hx hb d_Mo_release_48 rfl hl (by decide) rfl (fun ls hl => ?_)
        have hl : lv_has ls 3 [(2, .int (nI (mQf M 0))), (1, .int (nI (mQf M 0))), (0, .ref (a 0))] := hl
        have loop49 : ∀ (K49 : Nat) (j : Nat) (f1 : Nat → Nat) (f2 : Nat → Int32) (ls : Array Slot) (H : Heap) (locs : List Loc), (mQf M 0 ≤ j) → (j ≤ mQf M 0 + mSz M (mQf M 0)) → (f1 = xp (mOw M) (mQf M 0) j 0) → (f2 = xp (mSh M) (mQf M 0) j (-3)) → (mQf M 0 + mSz M (mQf M 0)) - j = K49 → lv_has ls 3 [(2, .int (nI j)), (1, .int (nI (mQf M 0))), (0, .ref (a 0))] → va_P D vwCl [(a 0, .inr (5, [.int (nI cd), .int (nI (pN P)), .ref (a 1), .ref (a 2), .ref (a 3), .ref (a 4), .ref (a 5), .ref (a 6), .ref (a 7), .ref (a 8), .ref (a 9), .int (nI ((mQn M) - 1)), .ref (a 10), .int (nI (rSt R)), .int (zI (rCk R)), .int (nI (rAt R)), .int (nI (rLd R)), .ref (a 11), .int (nI (rPn R)), .ref (a 12), .int (nI (rKd R)), .int (rWh R), .int (nI (rWo R))])), (a 1, .inl (cI, 40, .inl (fun zz => nI ((pO P) zz)))), (a 2, .inl (cI, 40, .inl (fun zz => nI ((pR P) zz)))), (a 3, .inl (cI, 40, .inl (fun zz => nI ((pA P) zz)))), (a 4, .inl (cI, 40, .inl (fun zz => nI ((pB P) zz)))), (a 5, .inl (cI, 40, .inl (pK P))), (a 6, .inl (cI, 512, .inl (mHp M))), (a 7, .inl (cI, 64, .inl f2)), (a 8, .inl (cI, 64, .inl (fun zz => nI (f1 zz)))), (a 9, .inl (cI, 64, .inl (fun zz => nI ((mSz M) zz)))), (a 10, .inl (cI, 32, .inl (fun zz => nI ((fun z => if z < mQn M - 1 then mQf M (z + 1) else mQf M z) zz)))), (a 11, .inl (cI, 8, .inl (rRg R))), (a 12, .inl (cI, 60, .inl (rPr R)))] H → va_D A [(a 0, .inr (5, [.int (nI cd), .int (nI (pN P)), .ref (a 1), .ref (a 2), .ref (a 3), .ref (a 4), .ref (a 5), .ref (a 6), .ref (a 7), .ref (a 8), .ref (a 9), .int (nI ((mQn M) - 1)), .ref (a 10), .int (nI (rSt R)), .int (zI (rCk R)), .int (nI (rAt R)), .int (nI (rLd R)), .ref (a 11), .int (nI (rPn R)), .ref (a 12), .int (nI (rKd R)), .int (rWh R), .int (nI (rWo R))])), (a 1, .inl (cI, 40, .inl (fun zz => nI ((pO P) zz)))), (a 2, .inl (cI, 40, .inl (fun zz => nI ((pR P) zz)))), (a 3, .inl (cI, 40, .inl (fun zz => nI ((pA P) zz)))), (a 4, .inl (cI, 40, .inl (fun zz => nI ((pB P) zz)))), (a 5, .inl (cI, 40, .inl (pK P))), (a 6, .inl (cI, 512, .inl (mHp M))), (a 7, .inl (cI, 64, .inl f2)), (a 8, .inl (cI, 64, .inl (fun zz => nI (f1 zz)))), (a 9, .inl (cI, 64, .inl (fun zz => nI ((mSz M) zz)))), (a 10, .inl (cI, 32, .inl (fun zz => nI ((fun z => if z < mQn M - 1 then mQf M (z + 1) else mQf M z) zz)))), (a 11, .inl (cI, 8, .inl (rRg R))), (a 12, .inl (cI, 60, .inl (rPr R)))] → va_S A s.heap H locs → W p l e rm_Mo_release s m args below meth c H locs 0 0 Q (F0 m 49 ls []) := by
          intro K49
          induction K49 using Nat.strongRecOn with
          | _ K49 ih49 =>
            intro j f1 f2 ls H locs g1 g2 hf1 hf2 hK49 hl hP hD hS
            refine lv_iload_n hx hb d_Mo_release_49 rfl (lv_at hl 0 rfl) ?_
            refine lv_iload_n hx hb d_Mo_release_50 rfl (lv_at hl 1 rfl) ?_
            refine lv_aload_n hx hb d_Mo_release_51 rfl (lv_at hl 2 rfl) ?_
            refine x_get hM hK hP 0 5 10 i_Mo rfl rfl (by decide) q_fl_Mo_34 rfl d_Mo_release_52 ?_
            refine lv_iload_n hx hb d_Mo_release_55 rfl (lv_at hl 1 rfl) ?_
            refine x_iald hM hK hP 9 0 rfl rfl (by omega) (by decide) d_Mo_release_56 ?_
            refine x_iadd hM d_Mo_release_57 ?_
            refine x_icmp_ge (tgt := 82) hM (by omega) (by omega) d_Mo_release_58 (by decide) (fun hc58 => ?_) (fun hc58 => ?_)
            · skip
              obtain rfl : j = mQf M 0 + mSz M (mQf M 0) := by omega
              subst hf1 hf2
              have hP : va_P D vwCl [(a 0, .inr (5, [.int (nI cd), .int (nI (pN P)), .ref (a 1), .ref (a 2), .ref (a 3), .ref (a 4), .ref (a 5), .ref (a 6), .ref (a 7), .ref (a 8), .ref (a 9), .int (nI ((mQn M) - 1)), .ref (a 10), .int (nI (rSt R)), .int (zI (rCk R)), .int (nI (rAt R)), .int (nI (rLd R)), .ref (a 11), .int (nI (rPn R)), .ref (a 12), .int (nI (rKd R)), .int (rWh R), .int (nI (rWo R))])), (a 1, .inl (cI, 40, .inl (fun zz => nI ((pO P) zz)))), (a 2, .inl (cI, 40, .inl (fun zz => nI ((pR P) zz)))), (a 3, .inl (cI, 40, .inl (fun zz => nI ((pA P) zz)))), (a 4, .inl (cI, 40, .inl (fun zz => nI ((pB P) zz)))), (a 5, .inl (cI, 40, .inl (pK P))), (a 6, .inl (cI, 512, .inl (mHp M))), (a 7, .inl (cI, 64, .inl (xp (mSh M) (mQf M 0) (mQf M 0 + mSz M (mQf M 0)) (-3)))), (a 8, .inl (cI, 64, .inl (fun zz => nI ((xp (mOw M) (mQf M 0) (mQf M 0 + mSz M (mQf M 0)) 0) zz)))), (a 9, .inl (cI, 64, .inl (fun zz => nI ((mSz M) zz)))), (a 10, .inl (cI, 32, .inl (fun zz => nI ((fun z => if z < mQn M - 1 then mQf M (z + 1) else mQf M z) zz)))), (a 11, .inl (cI, 8, .inl (rRg R))), (a 12, .inl (cI, 60, .inl (rPr R)))] H := hP
              have hD : va_D A [(a 0, .inr (5, [.int (nI cd), .int (nI (pN P)), .ref (a 1), .ref (a 2), .ref (a 3), .ref (a 4), .ref (a 5), .ref (a 6), .ref (a 7), .ref (a 8), .ref (a 9), .int (nI ((mQn M) - 1)), .ref (a 10), .int (nI (rSt R)), .int (zI (rCk R)), .int (nI (rAt R)), .int (nI (rLd R)), .ref (a 11), .int (nI (rPn R)), .ref (a 12), .int (nI (rKd R)), .int (rWh R), .int (nI (rWo R))])), (a 1, .inl (cI, 40, .inl (fun zz => nI ((pO P) zz)))), (a 2, .inl (cI, 40, .inl (fun zz => nI ((pR P) zz)))), (a 3, .inl (cI, 40, .inl (fun zz => nI ((pA P) zz)))), (a 4, .inl (cI, 40, .inl (fun zz => nI ((pB P) zz)))), (a 5, .inl (cI, 40, .inl (pK P))), (a 6, .inl (cI, 512, .inl (mHp M))), (a 7, .inl (cI, 64, .inl (xp (mSh M) (mQf M 0) (mQf M 0 + mSz M (mQf M 0)) (-3)))), (a 8, .inl (cI, 64, .inl (fun zz => nI ((xp (mOw M) (mQf M 0) (mQf M 0 + mSz M (mQf M 0)) 0) zz)))), (a 9, .inl (cI, 64, .inl (fun zz => nI ((mSz M) zz)))), (a 10, .inl (cI, 32, .inl (fun zz => nI ((fun z => if z < mQn M - 1 then mQf M (z + 1) else mQf M z) zz)))), (a 11, .inl (cI, 8, .inl (rRg R))), (a 12, .inl (cI, 60, .inl (rPr R)))] := hD
              refine lv_aload_n hx hb d_Mo_release_82 rfl (lv_at hl 2 rfl) ?_
              refine x_get hM hK hP 0 5 10 i_Mo rfl rfl (by decide) q_fl_Mo_34 rfl d_Mo_release_83 ?_
              refine lv_iload_n hx hb d_Mo_release_86 rfl (lv_at hl 1 rfl) ?_
              refine lv_iconst (v := nI 0) hx hb d_Mo_release_87 (by decide) ?_
              refine x_iastN hM hK hP hD hS 9 0 rfl rfl (by omega) (by decide) d_Mo_release_88 (fun H locs hP hD hS => ?_)
              have hP : va_P D vwCl [(a 0, .inr (5, [.int (nI cd), .int (nI (pN P)), .ref (a 1), .ref (a 2), .ref (a 3), .ref (a 4), .ref (a 5), .ref (a 6), .ref (a 7), .ref (a 8), .ref (a 9), .int (nI ((mQn M) - 1)), .ref (a 10), .int (nI (rSt R)), .int (zI (rCk R)), .int (nI (rAt R)), .int (nI (rLd R)), .ref (a 11), .int (nI (rPn R)), .ref (a 12), .int (nI (rKd R)), .int (rWh R), .int (nI (rWo R))])), (a 1, .inl (cI, 40, .inl (fun zz => nI ((pO P) zz)))), (a 2, .inl (cI, 40, .inl (fun zz => nI ((pR P) zz)))), (a 3, .inl (cI, 40, .inl (fun zz => nI ((pA P) zz)))), (a 4, .inl (cI, 40, .inl (fun zz => nI ((pB P) zz)))), (a 5, .inl (cI, 40, .inl (pK P))), (a 6, .inl (cI, 512, .inl (mHp M))), (a 7, .inl (cI, 64, .inl (xp (mSh M) (mQf M 0) (mQf M 0 + mSz M (mQf M 0)) (-3)))), (a 8, .inl (cI, 64, .inl (fun zz => nI ((xp (mOw M) (mQf M 0) (mQf M 0 + mSz M (mQf M 0)) 0) zz)))), (a 9, .inl (cI, 64, .inl (fun zz => nI ((xu (mSz M) (mQf M 0) 0) zz)))), (a 10, .inl (cI, 32, .inl (fun zz => nI ((fun z => if z < mQn M - 1 then mQf M (z + 1) else mQf M z) zz)))), (a 11, .inl (cI, 8, .inl (rRg R))), (a 12, .inl (cI, 60, .inl (rPr R)))] H := hP
              have hD : va_D A [(a 0, .inr (5, [.int (nI cd), .int (nI (pN P)), .ref (a 1), .ref (a 2), .ref (a 3), .ref (a 4), .ref (a 5), .ref (a 6), .ref (a 7), .ref (a 8), .ref (a 9), .int (nI ((mQn M) - 1)), .ref (a 10), .int (nI (rSt R)), .int (zI (rCk R)), .int (nI (rAt R)), .int (nI (rLd R)), .ref (a 11), .int (nI (rPn R)), .ref (a 12), .int (nI (rKd R)), .int (rWh R), .int (nI (rWo R))])), (a 1, .inl (cI, 40, .inl (fun zz => nI ((pO P) zz)))), (a 2, .inl (cI, 40, .inl (fun zz => nI ((pR P) zz)))), (a 3, .inl (cI, 40, .inl (fun zz => nI ((pA P) zz)))), (a 4, .inl (cI, 40, .inl (fun zz => nI ((pB P) zz)))), (a 5, .inl (cI, 40, .inl (pK P))), (a 6, .inl (cI, 512, .inl (mHp M))), (a 7, .inl (cI, 64, .inl (xp (mSh M) (mQf M 0) (mQf M 0 + mSz M (mQf M 0)) (-3)))), (a 8, .inl (cI, 64, .inl (fun zz => nI ((xp (mOw M) (mQf M 0) (mQf M 0 + mSz M (mQf M 0)) 0) zz)))), (a 9, .inl (cI, 64, .inl (fun zz => nI ((xu (mSz M) (mQf M 0) 0) zz)))), (a 10, .inl (cI, 32, .inl (fun zz => nI ((fun z => if z < mQn M - 1 then mQf M (z + 1) else mQf M z) zz)))), (a 11, .inl (cI, 8, .inl (rRg R))), (a 12, .inl (cI, 60, .inl (rPr R)))] := hD
              exact x_vret hM hQ rfl hP hK hD hS d_Mo_release_89
            · skip
              refine lv_aload_n hx hb d_Mo_release_61 rfl (lv_at hl 2 rfl) ?_
              refine x_get hM hK hP 0 5 9 i_Mo rfl rfl (by decide) q_fl_Mo_31 rfl d_Mo_release_62 ?_
              refine lv_iload_n hx hb d_Mo_release_65 rfl (lv_at hl 0 rfl) ?_
              refine lv_iconst (v := nI 0) hx hb d_Mo_release_66 (by decide) ?_
              refine x_iastN hM hK hP hD hS 8 0 rfl rfl (by omega) (by decide) d_Mo_release_67 (fun H locs hP hD hS => ?_)
              have hP : va_P D vwCl [(a 0, .inr (5, [.int (nI cd), .int (nI (pN P)), .ref (a 1), .ref (a 2), .ref (a 3), .ref (a 4), .ref (a 5), .ref (a 6), .ref (a 7), .ref (a 8), .ref (a 9), .int (nI ((mQn M) - 1)), .ref (a 10), .int (nI (rSt R)), .int (zI (rCk R)), .int (nI (rAt R)), .int (nI (rLd R)), .ref (a 11), .int (nI (rPn R)), .ref (a 12), .int (nI (rKd R)), .int (rWh R), .int (nI (rWo R))])), (a 1, .inl (cI, 40, .inl (fun zz => nI ((pO P) zz)))), (a 2, .inl (cI, 40, .inl (fun zz => nI ((pR P) zz)))), (a 3, .inl (cI, 40, .inl (fun zz => nI ((pA P) zz)))), (a 4, .inl (cI, 40, .inl (fun zz => nI ((pB P) zz)))), (a 5, .inl (cI, 40, .inl (pK P))), (a 6, .inl (cI, 512, .inl (mHp M))), (a 7, .inl (cI, 64, .inl f2)), (a 8, .inl (cI, 64, .inl (fun zz => nI ((xu f1 j 0) zz)))), (a 9, .inl (cI, 64, .inl (fun zz => nI ((mSz M) zz)))), (a 10, .inl (cI, 32, .inl (fun zz => nI ((fun z => if z < mQn M - 1 then mQf M (z + 1) else mQf M z) zz)))), (a 11, .inl (cI, 8, .inl (rRg R))), (a 12, .inl (cI, 60, .inl (rPr R)))] H := hP
              have hD : va_D A [(a 0, .inr (5, [.int (nI cd), .int (nI (pN P)), .ref (a 1), .ref (a 2), .ref (a 3), .ref (a 4), .ref (a 5), .ref (a 6), .ref (a 7), .ref (a 8), .ref (a 9), .int (nI ((mQn M) - 1)), .ref (a 10), .int (nI (rSt R)), .int (zI (rCk R)), .int (nI (rAt R)), .int (nI (rLd R)), .ref (a 11), .int (nI (rPn R)), .ref (a 12), .int (nI (rKd R)), .int (rWh R), .int (nI (rWo R))])), (a 1, .inl (cI, 40, .inl (fun zz => nI ((pO P) zz)))), (a 2, .inl (cI, 40, .inl (fun zz => nI ((pR P) zz)))), (a 3, .inl (cI, 40, .inl (fun zz => nI ((pA P) zz)))), (a 4, .inl (cI, 40, .inl (fun zz => nI ((pB P) zz)))), (a 5, .inl (cI, 40, .inl (pK P))), (a 6, .inl (cI, 512, .inl (mHp M))), (a 7, .inl (cI, 64, .inl f2)), (a 8, .inl (cI, 64, .inl (fun zz => nI ((xu f1 j 0) zz)))), (a 9, .inl (cI, 64, .inl (fun zz => nI ((mSz M) zz)))), (a 10, .inl (cI, 32, .inl (fun zz => nI ((fun z => if z < mQn M - 1 then mQf M (z + 1) else mQf M z) zz)))), (a 11, .inl (cI, 8, .inl (rRg R))), (a 12, .inl (cI, 60, .inl (rPr R)))] := hD
              refine lv_aload_n hx hb d_Mo_release_68 rfl (lv_at hl 2 rfl) ?_
              refine x_get hM hK hP 0 5 8 i_Mo rfl rfl (by decide) q_fl_Mo_28 rfl d_Mo_release_69 ?_
              refine lv_iload_n hx hb d_Mo_release_72 rfl (lv_at hl 0 rfl) ?_
              refine lv_bipush (v := -3) hx hb d_Mo_release_73 (by decide) ?_
              refine x_iast hM hK hP hD hS 7 0 rfl rfl (by omega) (by decide) d_Mo_release_75 (fun H locs hP hD hS => ?_)
              have hP : va_P D vwCl [(a 0, .inr (5, [.int (nI cd), .int (nI (pN P)), .ref (a 1), .ref (a 2), .ref (a 3), .ref (a 4), .ref (a 5), .ref (a 6), .ref (a 7), .ref (a 8), .ref (a 9), .int (nI ((mQn M) - 1)), .ref (a 10), .int (nI (rSt R)), .int (zI (rCk R)), .int (nI (rAt R)), .int (nI (rLd R)), .ref (a 11), .int (nI (rPn R)), .ref (a 12), .int (nI (rKd R)), .int (rWh R), .int (nI (rWo R))])), (a 1, .inl (cI, 40, .inl (fun zz => nI ((pO P) zz)))), (a 2, .inl (cI, 40, .inl (fun zz => nI ((pR P) zz)))), (a 3, .inl (cI, 40, .inl (fun zz => nI ((pA P) zz)))), (a 4, .inl (cI, 40, .inl (fun zz => nI ((pB P) zz)))), (a 5, .inl (cI, 40, .inl (pK P))), (a 6, .inl (cI, 512, .inl (mHp M))), (a 7, .inl (cI, 64, .inl (xu f2 j (-3)))), (a 8, .inl (cI, 64, .inl (fun zz => nI ((xu f1 j 0) zz)))), (a 9, .inl (cI, 64, .inl (fun zz => nI ((mSz M) zz)))), (a 10, .inl (cI, 32, .inl (fun zz => nI ((fun z => if z < mQn M - 1 then mQf M (z + 1) else mQf M z) zz)))), (a 11, .inl (cI, 8, .inl (rRg R))), (a 12, .inl (cI, 60, .inl (rPr R)))] H := hP
              have hD : va_D A [(a 0, .inr (5, [.int (nI cd), .int (nI (pN P)), .ref (a 1), .ref (a 2), .ref (a 3), .ref (a 4), .ref (a 5), .ref (a 6), .ref (a 7), .ref (a 8), .ref (a 9), .int (nI ((mQn M) - 1)), .ref (a 10), .int (nI (rSt R)), .int (zI (rCk R)), .int (nI (rAt R)), .int (nI (rLd R)), .ref (a 11), .int (nI (rPn R)), .ref (a 12), .int (nI (rKd R)), .int (rWh R), .int (nI (rWo R))])), (a 1, .inl (cI, 40, .inl (fun zz => nI ((pO P) zz)))), (a 2, .inl (cI, 40, .inl (fun zz => nI ((pR P) zz)))), (a 3, .inl (cI, 40, .inl (fun zz => nI ((pA P) zz)))), (a 4, .inl (cI, 40, .inl (fun zz => nI ((pB P) zz)))), (a 5, .inl (cI, 40, .inl (pK P))), (a 6, .inl (cI, 512, .inl (mHp M))), (a 7, .inl (cI, 64, .inl (xu f2 j (-3)))), (a 8, .inl (cI, 64, .inl (fun zz => nI ((xu f1 j 0) zz)))), (a 9, .inl (cI, 64, .inl (fun zz => nI ((mSz M) zz)))), (a 10, .inl (cI, 32, .inl (fun zz => nI ((fun z => if z < mQn M - 1 then mQf M (z + 1) else mQf M z) zz)))), (a 11, .inl (cI, 8, .inl (rRg R))), (a 12, .inl (cI, 60, .inl (rPr R)))] := hD
              refine lv_iinc (k := 0) (v := nI (j + 1)) hx hb d_Mo_release_76 hl rfl (by rw [show Int32.ofInt 1 = nI 1 by decide, nI_add]) (by decide) rfl (fun ls hl => ?_)
              have hl : lv_has ls 3 [(2, .int (nI (j + 1))), (1, .int (nI (mQf M 0))), (0, .ref (a 0))] := hl
              refine lv_goto hx hb d_Mo_release_79 (tgt := 49) (by decide) ?_
              exact ih49 _ (by omega) (j + 1) (xu f1 j 0) (xu f2 j (-3)) ls H locs (by omega) (by omega) (by rw [hf1, xp_s g1]) (by rw [hf2, xp_s g1]) rfl hl hP hD hS
        exact loop49 _ (mQf M 0) (mOw M) (mSh M) ls H locs (by omega) (by omega) (xp_0 _ _ _).symm (xp_0 _ _ _).symm rfl hl hP hD hS
      · skip
        refine lv_aload_n hx hb d_Mo_release_27 rfl (lv_at hl 2 rfl) ?_
        refine x_get hM hK hP 0 5 12 i_Mo rfl rfl (by decide) q_fl_Mo_37 rfl d_Mo_release_28 ?_
        refine lv_iload_n hx hb d_Mo_release_31 rfl (lv_at hl 0 rfl) ?_
        refine lv_aload_n hx hb d_Mo_release_32 rfl (lv_at hl 2 rfl) ?_
        refine x_get hM hK hP 0 5 12 i_Mo rfl rfl (by decide) q_fl_Mo_37 rfl d_Mo_release_33 ?_
        refine lv_iload_n hx hb d_Mo_release_36 rfl (lv_at hl 0 rfl) ?_
        refine lv_iconst (v := nI 1) hx hb d_Mo_release_37 (by decide) ?_
        refine x_iadd hM d_Mo_release_38 ?_
        refine x_iald hM hK hP 10 0 rfl rfl (by omega) (by decide) d_Mo_release_39 ?_
        refine x_iastN hM hK hP hD hS 10 0 rfl rfl (by omega) (by decide) d_Mo_release_40 (fun H locs hP hD hS => ?_)
        have hP : va_P D vwCl [(a 0, .inr (5, [.int (nI cd), .int (nI (pN P)), .ref (a 1), .ref (a 2), .ref (a 3), .ref (a 4), .ref (a 5), .ref (a 6), .ref (a 7), .ref (a 8), .ref (a 9), .int (nI ((mQn M) - 1)), .ref (a 10), .int (nI (rSt R)), .int (zI (rCk R)), .int (nI (rAt R)), .int (nI (rLd R)), .ref (a 11), .int (nI (rPn R)), .ref (a 12), .int (nI (rKd R)), .int (rWh R), .int (nI (rWo R))])), (a 1, .inl (cI, 40, .inl (fun zz => nI ((pO P) zz)))), (a 2, .inl (cI, 40, .inl (fun zz => nI ((pR P) zz)))), (a 3, .inl (cI, 40, .inl (fun zz => nI ((pA P) zz)))), (a 4, .inl (cI, 40, .inl (fun zz => nI ((pB P) zz)))), (a 5, .inl (cI, 40, .inl (pK P))), (a 6, .inl (cI, 512, .inl (mHp M))), (a 7, .inl (cI, 64, .inl (mSh M))), (a 8, .inl (cI, 64, .inl (fun zz => nI ((mOw M) zz)))), (a 9, .inl (cI, 64, .inl (fun zz => nI ((mSz M) zz)))), (a 10, .inl (cI, 32, .inl (fun zz => nI ((xu f j (f (j + 1))) zz)))), (a 11, .inl (cI, 8, .inl (rRg R))), (a 12, .inl (cI, 60, .inl (rPr R)))] H := hP
        have hD : va_D A [(a 0, .inr (5, [.int (nI cd), .int (nI (pN P)), .ref (a 1), .ref (a 2), .ref (a 3), .ref (a 4), .ref (a 5), .ref (a 6), .ref (a 7), .ref (a 8), .ref (a 9), .int (nI ((mQn M) - 1)), .ref (a 10), .int (nI (rSt R)), .int (zI (rCk R)), .int (nI (rAt R)), .int (nI (rLd R)), .ref (a 11), .int (nI (rPn R)), .ref (a 12), .int (nI (rKd R)), .int (rWh R), .int (nI (rWo R))])), (a 1, .inl (cI, 40, .inl (fun zz => nI ((pO P) zz)))), (a 2, .inl (cI, 40, .inl (fun zz => nI ((pR P) zz)))), (a 3, .inl (cI, 40, .inl (fun zz => nI ((pA P) zz)))), (a 4, .inl (cI, 40, .inl (fun zz => nI ((pB P) zz)))), (a 5, .inl (cI, 40, .inl (pK P))), (a 6, .inl (cI, 512, .inl (mHp M))), (a 7, .inl (cI, 64, .inl (mSh M))), (a 8, .inl (cI, 64, .inl (fun zz => nI ((mOw M) zz)))), (a 9, .inl (cI, 64, .inl (fun zz => nI ((mSz M) zz)))), (a 10, .inl (cI, 32, .inl (fun zz => nI ((xu f j (f (j + 1))) zz)))), (a 11, .inl (cI, 8, .inl (rRg R))), (a 12, .inl (cI, 60, .inl (rPr R)))] := hD
        refine lv_iinc (k := 0) (v := nI (j + 1)) hx hb d_Mo_release_41 hl rfl (by rw [show Int32.ofInt 1 = nI 1 by decide, nI_add]) (by decide) rfl (fun ls hl => ?_)
        have hl : lv_has ls 3 [(2, .int (nI (j + 1))), (1, .int (nI (mQf M 0))), (0, .ref (a 0))] := hl
        refine lv_goto hx hb d_Mo_release_44 (tgt := 19) (by decide) ?_
        exact ih19 _ (by omega) (j + 1) (xu f j (f (j + 1))) ls H locs (by omega) (xsh_s hf) rfl hl hP hD hS
  exact loop19 _ 0 (mQf M) ls H locs (by omega) (xsh_0 _) rfl hl hP hD hS
abbrev rm_Mo_quarantined : Room := { frames := 0, cells := 0, slots := 0, locals := 0 }
set_option maxHeartbeats 4000000 in
set_option maxRecDepth 100000 in
theorem c_Mo_quarantined (l : Launch) (D : va_G) (cI cZ cJ : ClassId) (sz : Nat) (a : Nat → Nat) (cd : Nat) (P : xPg) (M : xMem) (R : xRn) (B : Nat) (hm : mOk B M) (hB : B ≤ 90) : xCi l D (xT cI cZ cJ) y_Mo_quarantined k_Mo_quarantined rm_Mo_quarantined sz (wMo cI a cd P M R) [.ref (a 0)] (nI (8 * mSum M)) (wMo cI a cd P M R) 0 0 := by
  refine x_ofi (cc := b_Mo_quarantined) (nL := 3) (ret := (some .int)) (by decide) rfl (Nat.le_of_ble_eq_true rfl) ?_
  intro p e s m args below meth c ls A Q hQ hM hsz hP hK hD hA hl
  obtain ⟨hx, hb, -, hml, hown, hts, -⟩ := id hM
  have hS : va_S A s.heap s.heap [] := va_S.rf
  have hl : lv_has ls 3 [(0, .ref (a 0))] := hl
  have hP : va_P D vwCl [(a 0, .inr (5, [.int (nI cd), .int (nI (pN P)), .ref (a 1), .ref (a 2), .ref (a 3), .ref (a 4), .ref (a 5), .ref (a 6), .ref (a 7), .ref (a 8), .ref (a 9), .int (nI (mQn M)), .ref (a 10), .int (nI (rSt R)), .int (zI (rCk R)), .int (nI (rAt R)), .int (nI (rLd R)), .ref (a 11), .int (nI (rPn R)), .ref (a 12), .int (nI (rKd R)), .int (rWh R), .int (nI (rWo R))])), (a 1, .inl (cI, 40, .inl (fun zz => nI ((pO P) zz)))), (a 2, .inl (cI, 40, .inl (fun zz => nI ((pR P) zz)))), (a 3, .inl (cI, 40, .inl (fun zz => nI ((pA P) zz)))), (a 4, .inl (cI, 40, .inl (fun zz => nI ((pB P) zz)))), (a 5, .inl (cI, 40, .inl (pK P))), (a 6, .inl (cI, 512, .inl (mHp M))), (a 7, .inl (cI, 64, .inl (mSh M))), (a 8, .inl (cI, 64, .inl (fun zz => nI ((mOw M) zz)))), (a 9, .inl (cI, 64, .inl (fun zz => nI ((mSz M) zz)))), (a 10, .inl (cI, 32, .inl (fun zz => nI ((mQf M) zz)))), (a 11, .inl (cI, 8, .inl (rRg R))), (a 12, .inl (cI, 60, .inl (rPr R)))] s.heap := hP
  have hD : va_D A [(a 0, .inr (5, [.int (nI cd), .int (nI (pN P)), .ref (a 1), .ref (a 2), .ref (a 3), .ref (a 4), .ref (a 5), .ref (a 6), .ref (a 7), .ref (a 8), .ref (a 9), .int (nI (mQn M)), .ref (a 10), .int (nI (rSt R)), .int (zI (rCk R)), .int (nI (rAt R)), .int (nI (rLd R)), .ref (a 11), .int (nI (rPn R)), .ref (a 12), .int (nI (rKd R)), .int (rWh R), .int (nI (rWo R))])), (a 1, .inl (cI, 40, .inl (fun zz => nI ((pO P) zz)))), (a 2, .inl (cI, 40, .inl (fun zz => nI ((pR P) zz)))), (a 3, .inl (cI, 40, .inl (fun zz => nI ((pA P) zz)))), (a 4, .inl (cI, 40, .inl (fun zz => nI ((pB P) zz)))), (a 5, .inl (cI, 40, .inl (pK P))), (a 6, .inl (cI, 512, .inl (mHp M))), (a 7, .inl (cI, 64, .inl (mSh M))), (a 8, .inl (cI, 64, .inl (fun zz => nI ((mOw M) zz)))), (a 9, .inl (cI, 64, .inl (fun zz => nI ((mSz M) zz)))), (a 10, .inl (cI, 32, .inl (fun zz => nI ((mQf M) zz)))), (a 11, .inl (cI, 8, .inl (rRg R))), (a 12, .inl (cI, 60, .inl (rPr R)))] := hD
  have hq3 := mOk_qn hm
  refine lv_iconst (v := nI 0) hx hb d_Mo_quarantined_0 (by decide) ?_
  refine lv_istore_n hx hb d_Mo_quarantined_1 rfl hl (by decide) rfl (fun ls hl => ?_)
  have hl : lv_has ls 3 [(1, .int (nI 0)), (0, .ref (a 0))] := hl
  refine lv_iconst (v := nI 0) hx hb d_Mo_quarantined_2 (by decide) ?_
  refine lv_istore_n hx hb d_Mo_quarantined_3 rfl hl (by decide) rfl (fun ls hl => ?_)
  have hl : lv_has ls 3 [(2, .int (nI 0)), (1, .int (nI 0)), (0, .ref (a 0))] := hl
  have loop4 : ∀ (K4 : Nat) (j : Nat) (ls : Array Slot) (H : Heap) (locs : List Loc), (j ≤ mQn M) → mQn M - j = K4 → lv_has ls 3 [(2, .int (nI j)), (1, .int (nI (xs (fun z => 8 * mSz M (mQf M z)) j))), (0, .ref (a 0))] → va_P D vwCl [(a 0, .inr (5, [.int (nI cd), .int (nI (pN P)), .ref (a 1), .ref (a 2), .ref (a 3), .ref (a 4), .ref (a 5), .ref (a 6), .ref (a 7), .ref (a 8), .ref (a 9), .int (nI (mQn M)), .ref (a 10), .int (nI (rSt R)), .int (zI (rCk R)), .int (nI (rAt R)), .int (nI (rLd R)), .ref (a 11), .int (nI (rPn R)), .ref (a 12), .int (nI (rKd R)), .int (rWh R), .int (nI (rWo R))])), (a 1, .inl (cI, 40, .inl (fun zz => nI ((pO P) zz)))), (a 2, .inl (cI, 40, .inl (fun zz => nI ((pR P) zz)))), (a 3, .inl (cI, 40, .inl (fun zz => nI ((pA P) zz)))), (a 4, .inl (cI, 40, .inl (fun zz => nI ((pB P) zz)))), (a 5, .inl (cI, 40, .inl (pK P))), (a 6, .inl (cI, 512, .inl (mHp M))), (a 7, .inl (cI, 64, .inl (mSh M))), (a 8, .inl (cI, 64, .inl (fun zz => nI ((mOw M) zz)))), (a 9, .inl (cI, 64, .inl (fun zz => nI ((mSz M) zz)))), (a 10, .inl (cI, 32, .inl (fun zz => nI ((mQf M) zz)))), (a 11, .inl (cI, 8, .inl (rRg R))), (a 12, .inl (cI, 60, .inl (rPr R)))] H → va_D A [(a 0, .inr (5, [.int (nI cd), .int (nI (pN P)), .ref (a 1), .ref (a 2), .ref (a 3), .ref (a 4), .ref (a 5), .ref (a 6), .ref (a 7), .ref (a 8), .ref (a 9), .int (nI (mQn M)), .ref (a 10), .int (nI (rSt R)), .int (zI (rCk R)), .int (nI (rAt R)), .int (nI (rLd R)), .ref (a 11), .int (nI (rPn R)), .ref (a 12), .int (nI (rKd R)), .int (rWh R), .int (nI (rWo R))])), (a 1, .inl (cI, 40, .inl (fun zz => nI ((pO P) zz)))), (a 2, .inl (cI, 40, .inl (fun zz => nI ((pR P) zz)))), (a 3, .inl (cI, 40, .inl (fun zz => nI ((pA P) zz)))), (a 4, .inl (cI, 40, .inl (fun zz => nI ((pB P) zz)))), (a 5, .inl (cI, 40, .inl (pK P))), (a 6, .inl (cI, 512, .inl (mHp M))), (a 7, .inl (cI, 64, .inl (mSh M))), (a 8, .inl (cI, 64, .inl (fun zz => nI ((mOw M) zz)))), (a 9, .inl (cI, 64, .inl (fun zz => nI ((mSz M) zz)))), (a 10, .inl (cI, 32, .inl (fun zz => nI ((mQf M) zz)))), (a 11, .inl (cI, 8, .inl (rRg R))), (a 12, .inl (cI, 60, .inl (rPr R)))] → va_S A s.heap H locs → W p l e rm_Mo_quarantined s m args below meth c H locs 0 0 Q (F0 m 4 ls []) := by
    intro K4
    induction K4 using Nat.strongRecOn with
    | _ K4 ih4 =>
      intro j ls H locs g1 hK4 hl hP hD hS
      refine lv_iload_n hx hb d_Mo_quarantined_4 rfl (lv_at hl 0 rfl) ?_
      refine lv_aload_n hx hb d_Mo_quarantined_5 rfl (lv_at hl 2 rfl) ?_
      refine x_get hM hK hP 0 5 11 i_Mo rfl rfl (by decide) q_fl_Mo_83 rfl d_Mo_quarantined_6 ?_
      refine x_icmp_ge (tgt := 35) hM (by omega) (by omega) d_Mo_quarantined_9 (by decide) (fun hc9 => ?_) (fun hc9 => ?_)
      · skip
        refine lv_iload_n hx hb d_Mo_quarantined_35 rfl (lv_at hl 1 rfl) ?_
        exact x_iret hM hQ (by rw [show j = mQn M by omega, xs_mul]) rfl hP hK hD hS d_Mo_quarantined_36
      · skip
        have hq0 := mOk_q hm (i := j) (by omega)
        refine lv_iload_n hx hb d_Mo_quarantined_12 rfl (lv_at hl 1 rfl) ?_
        refine lv_bipush (v := nI 8) hx hb d_Mo_quarantined_13 (by decide) ?_
        refine lv_aload_n hx hb d_Mo_quarantined_15 rfl (lv_at hl 2 rfl) ?_
        refine x_get hM hK hP 0 5 10 i_Mo rfl rfl (by decide) q_fl_Mo_34 rfl d_Mo_quarantined_16 ?_
        refine lv_aload_n hx hb d_Mo_quarantined_19 rfl (lv_at hl 2 rfl) ?_
        refine x_get hM hK hP 0 5 12 i_Mo rfl rfl (by decide) q_fl_Mo_37 rfl d_Mo_quarantined_20 ?_
        refine lv_iload_n hx hb d_Mo_quarantined_23 rfl (lv_at hl 0 rfl) ?_
        refine x_iald hM hK hP 10 0 rfl rfl (by omega) (by decide) d_Mo_quarantined_24 ?_
        refine x_iald hM hK hP 9 0 rfl rfl (by omega) (by decide) d_Mo_quarantined_25 ?_
        refine x_imul hM d_Mo_quarantined_26 ?_
        refine x_iadd hM d_Mo_quarantined_27 ?_
        refine lv_istore_n hx hb d_Mo_quarantined_28 rfl hl (by decide) rfl (fun ls hl => ?_)
        have hl : lv_has ls 3 [(1, .int (nI ((xs (fun z => 8 * mSz M (mQf M z)) j) + (8 * ((mSz M) ((mQf M) j)))))), (2, .int (nI j)), (0, .ref (a 0))] := hl
        have e29 : (xs (fun z => 8 * mSz M (mQf M z)) j) + (8 * ((mSz M) ((mQf M) j))) = xs (fun z => 8 * mSz M (mQf M z)) (j + 1) := rfl
        rw [e29] at hl
        refine lv_iinc (k := 1) (v := nI (j + 1)) hx hb d_Mo_quarantined_29 hl rfl (by rw [show Int32.ofInt 1 = nI 1 by decide, nI_add]) (by decide) rfl (fun ls hl => ?_)
        have hl : lv_has ls 3 [(2, .int (nI (j + 1))), (1, .int (nI (xs (fun z => 8 * mSz M (mQf M z)) (j + 1)))), (0, .ref (a 0))] := hl
        refine lv_goto hx hb d_Mo_quarantined_32 (tgt := 4) (by decide) ?_
        exact ih4 _ (by omega) (j + 1) ls H locs (by omega) rfl hl hP hD hS
  exact loop4 _ 0 ls s.heap [] (by omega) rfl hl hP hD hS
abbrev rm_Mo_isBlock : Room := { frames := 0, cells := 0, slots := 0, locals := 0 }
set_option maxHeartbeats 4000000 in
set_option maxRecDepth 100000 in
theorem c_Mo_isBlock (l : Launch) (D : va_G) (cI cZ cJ : ClassId) (sz : Nat) (a : Nat → Nat) (cd : Nat) (P : xPg) (M : xMem) (R : xRn) (x : Int32) (B : Nat) (hm : mOk B M) : xCi l D (xT cI cZ cJ) y_Mo_isBlock k_Mo_isBlock rm_Mo_isBlock sz (wMo cI a cd P M R) [.ref (a 0), .int x] (zI (mBl M x)) (wMo cI a cd P M R) 0 0 := by
  refine x_ofi (cc := b_Mo_isBlock) (nL := 3) (ret := (some .boolean)) (by decide) rfl (Nat.le_of_ble_eq_true rfl) ?_
  intro p e s m args below meth c ls A Q hQ hM hsz hP hK hD hA hl
  obtain ⟨hx, hb, -, hml, hown, hts, -⟩ := id hM
  have hS : va_S A s.heap s.heap [] := va_S.rf
  have hl : lv_has ls 3 [(0, .ref (a 0)), (1, .int x)] := hl
  have hP : va_P D vwCl [(a 0, .inr (5, [.int (nI cd), .int (nI (pN P)), .ref (a 1), .ref (a 2), .ref (a 3), .ref (a 4), .ref (a 5), .ref (a 6), .ref (a 7), .ref (a 8), .ref (a 9), .int (nI (mQn M)), .ref (a 10), .int (nI (rSt R)), .int (zI (rCk R)), .int (nI (rAt R)), .int (nI (rLd R)), .ref (a 11), .int (nI (rPn R)), .ref (a 12), .int (nI (rKd R)), .int (rWh R), .int (nI (rWo R))])), (a 1, .inl (cI, 40, .inl (fun zz => nI ((pO P) zz)))), (a 2, .inl (cI, 40, .inl (fun zz => nI ((pR P) zz)))), (a 3, .inl (cI, 40, .inl (fun zz => nI ((pA P) zz)))), (a 4, .inl (cI, 40, .inl (fun zz => nI ((pB P) zz)))), (a 5, .inl (cI, 40, .inl (pK P))), (a 6, .inl (cI, 512, .inl (mHp M))), (a 7, .inl (cI, 64, .inl (mSh M))), (a 8, .inl (cI, 64, .inl (fun zz => nI ((mOw M) zz)))), (a 9, .inl (cI, 64, .inl (fun zz => nI ((mSz M) zz)))), (a 10, .inl (cI, 32, .inl (fun zz => nI ((mQf M) zz)))), (a 11, .inl (cI, 8, .inl (rRg R))), (a 12, .inl (cI, 60, .inl (rPr R)))] s.heap := hP
  have hD : va_D A [(a 0, .inr (5, [.int (nI cd), .int (nI (pN P)), .ref (a 1), .ref (a 2), .ref (a 3), .ref (a 4), .ref (a 5), .ref (a 6), .ref (a 7), .ref (a 8), .ref (a 9), .int (nI (mQn M)), .ref (a 10), .int (nI (rSt R)), .int (zI (rCk R)), .int (nI (rAt R)), .int (nI (rLd R)), .ref (a 11), .int (nI (rPn R)), .ref (a 12), .int (nI (rKd R)), .int (rWh R), .int (nI (rWo R))])), (a 1, .inl (cI, 40, .inl (fun zz => nI ((pO P) zz)))), (a 2, .inl (cI, 40, .inl (fun zz => nI ((pR P) zz)))), (a 3, .inl (cI, 40, .inl (fun zz => nI ((pA P) zz)))), (a 4, .inl (cI, 40, .inl (fun zz => nI ((pB P) zz)))), (a 5, .inl (cI, 40, .inl (pK P))), (a 6, .inl (cI, 512, .inl (mHp M))), (a 7, .inl (cI, 64, .inl (mSh M))), (a 8, .inl (cI, 64, .inl (fun zz => nI ((mOw M) zz)))), (a 9, .inl (cI, 64, .inl (fun zz => nI ((mSz M) zz)))), (a 10, .inl (cI, 32, .inl (fun zz => nI ((mQf M) zz)))), (a 11, .inl (cI, 8, .inl (rRg R))), (a 12, .inl (cI, 60, .inl (rPr R)))] := hD
  refine lv_iload_n hx hb d_Mo_isBlock_0 rfl (lv_at hl 1 rfl) ?_
  refine lv_bipush (v := nI 8) hx hb d_Mo_isBlock_1 (by decide) ?_
  refine lv_idiv hx hb d_Mo_isBlock_3 (by decide) ?_
  refine lv_iconst (v := nI 1) hx hb d_Mo_isBlock_4 (by decide) ?_
  refine lv_isub hx hb d_Mo_isBlock_5 ?_
  refine lv_istore_n hx hb d_Mo_isBlock_6 rfl hl (by decide) rfl (fun ls hl => ?_)
  have hl : lv_has ls 3 [(2, .int ((x / (nI 8)) - (nI 1))), (0, .ref (a 0)), (1, .int x)] := hl
  refine lv_iload_n hx hb d_Mo_isBlock_7 rfl (lv_at hl 2 rfl) ?_
  refine lv_if_le (tgt := 48) hx hb d_Mo_isBlock_8 (by decide) (fun hc8 => ?_) (fun hc8 => ?_)
  · skip
    refine lv_iconst (v := nI 0) hx hb d_Mo_isBlock_48 (by decide) ?_
    exact x_zret hM hQ (by decide) (by rw [mBl_le hc8]; rfl) rfl hP hK hD hS d_Mo_isBlock_49
  · skip
    refine lv_iload_n hx hb d_Mo_isBlock_11 rfl (lv_at hl 2 rfl) ?_
    refine lv_sipush (v := nI 512) hx hb d_Mo_isBlock_12 (by decide) ?_
    refine lv_icmp_ge (tgt := 48) hx hb d_Mo_isBlock_15 (by decide) (fun hc15 => ?_) (fun hc15 => ?_)
    · skip
      refine lv_iconst (v := nI 0) hx hb d_Mo_isBlock_48 (by decide) ?_
      exact x_zret hM hQ (by decide) (by rw [mBl_o (xr_f2 hc15)]; rfl) rfl hP hK hD hS d_Mo_isBlock_49
    · skip
      obtain ⟨n, hn, rfl⟩ := xr_nat (xr_t (fun h => hc8 (Int32.le_of_lt h)) hc15) (by decide)
      have hn0 : 0 < n := Nat.pos_of_ne_zero (fun h => hc8 (by rw [h]; decide))
      refine lv_iload_n hx hb d_Mo_isBlock_18 rfl (lv_at hl 2 rfl) ?_
      refine lv_bipush (v := nI 8) hx hb d_Mo_isBlock_19 (by decide) ?_
      refine x_irem hM (by omega) (by omega) (by omega) d_Mo_isBlock_21 ?_
      refine x_if_ne (tgt := 48) hM (by omega) d_Mo_isBlock_22 (by decide) (fun hc22 => ?_) (fun hc22 => ?_)
      · skip
        refine lv_iconst (v := nI 0) hx hb d_Mo_isBlock_48 (by decide) ?_
        exact x_zret hM hQ (by decide) (by rw [mBl_n hn]; exact x_z0 (decide_eq_false (by omega))) rfl hP hK hD hS d_Mo_isBlock_49
      · skip
        have e25 : nI n / nI 8 - nI 1 = nI (n / 8 - 1) := by rw [pk_div (by omega) (by decide) (by decide), pk_sub (by omega)]
        rw [e25] at hl
        have hl : lv_has ls 3 [(2, .int (nI (n / 8 - 1))), (0, .ref (a 0)), (1, .int (nI n))] := hl
        have hz := mOk_sz hm (n / 8 - 1)
        have hw0 := mOk_ow hm (k := n / 8 - 1) (by omega)
        refine lv_aload_n hx hb d_Mo_isBlock_25 rfl (lv_at hl 1 rfl) ?_
        refine x_get hM hK hP 0 5 10 i_Mo rfl rfl (by decide) q_fl_Mo_34 rfl d_Mo_isBlock_26 ?_
        refine lv_iload_n hx hb d_Mo_isBlock_29 rfl (lv_at hl 0 rfl) ?_
        refine x_iald hM hK hP 9 0 rfl rfl (by omega) (by decide) d_Mo_isBlock_30 ?_
        refine x_if_le (tgt := 48) hM (by omega) d_Mo_isBlock_31 (by decide) (fun hc31 => ?_) (fun hc31 => ?_)
        · skip
          refine lv_iconst (v := nI 0) hx hb d_Mo_isBlock_48 (by decide) ?_
          exact x_zret hM hQ (by decide) (by rw [mBl_n hn]; exact x_z0 (decide_eq_false (by omega))) rfl hP hK hD hS d_Mo_isBlock_49
        · skip
          refine lv_aload_n hx hb d_Mo_isBlock_34 rfl (lv_at hl 1 rfl) ?_
          refine x_get hM hK hP 0 5 9 i_Mo rfl rfl (by decide) q_fl_Mo_31 rfl d_Mo_isBlock_35 ?_
          refine lv_iload_n hx hb d_Mo_isBlock_38 rfl (lv_at hl 0 rfl) ?_
          refine x_iald hM hK hP 8 0 rfl rfl (by omega) (by decide) d_Mo_isBlock_39 ?_
          refine lv_iconst (v := nI 1) hx hb d_Mo_isBlock_40 (by decide) ?_
          refine x_icmp_ne (tgt := 48) hM (by omega) (by omega) d_Mo_isBlock_41 (by decide) (fun hc41 => ?_) (fun hc41 => ?_)
          · skip
            refine lv_iconst (v := nI 0) hx hb d_Mo_isBlock_48 (by decide) ?_
            exact x_zret hM hQ (by decide) (by rw [mBl_n hn]; exact x_z0 (decide_eq_false (by omega))) rfl hP hK hD hS d_Mo_isBlock_49
          · skip
            refine lv_iconst (v := nI 1) hx hb d_Mo_isBlock_44 (by decide) ?_
            refine lv_goto hx hb d_Mo_isBlock_45 (tgt := 49) (by decide) ?_
            exact x_zret hM hQ (by decide) (by rw [mBl_n hn]; exact x_z1 (decide_eq_true ⟨hn0, hc22, hc31, hc41⟩)) rfl hP hK hD hS d_Mo_isBlock_49
abbrev rm_Mo_wrongByte : Room := { frames := 1, cells := 0, slots := 0, locals := 20 }
set_option maxHeartbeats 4000000 in
set_option maxRecDepth 100000 in
theorem c_Mo_wrongByte (l : Launch) (D : va_G) (cI cZ cJ : ClassId) (sz : Nat) (a : Nat → Nat) (cd : Nat) (P : xPg) (M : xMem) (R : xRn) (x : Int32)  : xCi l D (xT cI cZ cJ) y_Mo_wrongByte k_Mo_wrongByte rm_Mo_wrongByte sz (wMo cI a cd P M R) [.ref (a 0), .int x] (nI (mWr M x)) (wMo cI a cd P M R) 0 0 := by
  refine x_ofi (cc := b_Mo_wrongByte) (nL := 3) (ret := (some .int)) (by decide) rfl (Nat.le_of_ble_eq_true rfl) ?_
  intro p e s m args below meth c ls A Q hQ hM hsz hP hK hD hA hl
  obtain ⟨hx, hb, -, hml, hown, hts, -⟩ := id hM
  have hS : va_S A s.heap s.heap [] := va_S.rf
  have hl : lv_has ls 3 [(0, .ref (a 0)), (1, .int x)] := hl
  have hP : va_P D vwCl [(a 0, .inr (5, [.int (nI cd), .int (nI (pN P)), .ref (a 1), .ref (a 2), .ref (a 3), .ref (a 4), .ref (a 5), .ref (a 6), .ref (a 7), .ref (a 8), .ref (a 9), .int (nI (mQn M)), .ref (a 10), .int (nI (rSt R)), .int (zI (rCk R)), .int (nI (rAt R)), .int (nI (rLd R)), .ref (a 11), .int (nI (rPn R)), .ref (a 12), .int (nI (rKd R)), .int (rWh R), .int (nI (rWo R))])), (a 1, .inl (cI, 40, .inl (fun zz => nI ((pO P) zz)))), (a 2, .inl (cI, 40, .inl (fun zz => nI ((pR P) zz)))), (a 3, .inl (cI, 40, .inl (fun zz => nI ((pA P) zz)))), (a 4, .inl (cI, 40, .inl (fun zz => nI ((pB P) zz)))), (a 5, .inl (cI, 40, .inl (pK P))), (a 6, .inl (cI, 512, .inl (mHp M))), (a 7, .inl (cI, 64, .inl (mSh M))), (a 8, .inl (cI, 64, .inl (fun zz => nI ((mOw M) zz)))), (a 9, .inl (cI, 64, .inl (fun zz => nI ((mSz M) zz)))), (a 10, .inl (cI, 32, .inl (fun zz => nI ((mQf M) zz)))), (a 11, .inl (cI, 8, .inl (rRg R))), (a 12, .inl (cI, 60, .inl (rPr R)))] s.heap := hP
  have hD : va_D A [(a 0, .inr (5, [.int (nI cd), .int (nI (pN P)), .ref (a 1), .ref (a 2), .ref (a 3), .ref (a 4), .ref (a 5), .ref (a 6), .ref (a 7), .ref (a 8), .ref (a 9), .int (nI (mQn M)), .ref (a 10), .int (nI (rSt R)), .int (zI (rCk R)), .int (nI (rAt R)), .int (nI (rLd R)), .ref (a 11), .int (nI (rPn R)), .ref (a 12), .int (nI (rKd R)), .int (rWh R), .int (nI (rWo R))])), (a 1, .inl (cI, 40, .inl (fun zz => nI ((pO P) zz)))), (a 2, .inl (cI, 40, .inl (fun zz => nI ((pR P) zz)))), (a 3, .inl (cI, 40, .inl (fun zz => nI ((pA P) zz)))), (a 4, .inl (cI, 40, .inl (fun zz => nI ((pB P) zz)))), (a 5, .inl (cI, 40, .inl (pK P))), (a 6, .inl (cI, 512, .inl (mHp M))), (a 7, .inl (cI, 64, .inl (mSh M))), (a 8, .inl (cI, 64, .inl (fun zz => nI ((mOw M) zz)))), (a 9, .inl (cI, 64, .inl (fun zz => nI ((mSz M) zz)))), (a 10, .inl (cI, 32, .inl (fun zz => nI ((mQf M) zz)))), (a 11, .inl (cI, 8, .inl (rRg R))), (a 12, .inl (cI, 60, .inl (rPr R)))] := hD
  refine lv_iload_n hx hb d_Mo_wrongByte_0 rfl (lv_at hl 1 rfl) ?_
  refine x_calli (wc := []) (wr := [(a 0, .inr (5, [.int (nI cd), .int (nI (pN P)), .ref (a 1), .ref (a 2), .ref (a 3), .ref (a 4), .ref (a 5), .ref (a 6), .ref (a 7), .ref (a 8), .ref (a 9), .int (nI (mQn M)), .ref (a 10), .int (nI (rSt R)), .int (zI (rCk R)), .int (nI (rAt R)), .int (nI (rLd R)), .ref (a 11), .int (nI (rPn R)), .ref (a 12), .int (nI (rKd R)), .int (rWh R), .int (nI (rWo R))])), (a 1, .inl (cI, 40, .inl (fun zz => nI ((pO P) zz)))), (a 2, .inl (cI, 40, .inl (fun zz => nI ((pR P) zz)))), (a 3, .inl (cI, 40, .inl (fun zz => nI ((pA P) zz)))), (a 4, .inl (cI, 40, .inl (fun zz => nI ((pB P) zz)))), (a 5, .inl (cI, 40, .inl (pK P))), (a 6, .inl (cI, 512, .inl (mHp M))), (a 7, .inl (cI, 64, .inl (mSh M))), (a 8, .inl (cI, 64, .inl (fun zz => nI ((mOw M) zz)))), (a 9, .inl (cI, 64, .inl (fun zz => nI ((mSz M) zz)))), (a 10, .inl (cI, 32, .inl (fun zz => nI ((mQf M) zz)))), (a 11, .inl (cI, 8, .inl (rRg R))), (a 12, .inl (cI, 60, .inl (rPr R)))]) (va_runS (As := [.int x]) (rest := []) ⟨hx, hb, hml, hown, hts⟩ (c_Mo_isIn l D cI cZ cJ _ x) (va_cwS 1 hts (bw_S q_ml_Mo_96 q_st_Mo_isIn q_in_Mo q_cd_Mo_isIn) rfl rfl rfl ⟨by decide, by decide, by decide +kernel⟩ ⟨Nat.le_of_ble_eq_true rfl, Nat.le_of_ble_eq_true rfl⟩) (x_pre (wc := []) hP hD hK [] rfl (by decide)) rfl rfl hl.1 rfl (lv_room (Nat.le_of_ble_eq_true rfl)) d_Mo_wrongByte_1 ⟨Nat.le_of_ble_eq_true rfl, Nat.le_of_ble_eq_true rfl⟩) hP hD hS hA [] [0, 1, 2, 3, 4, 5, 6, 7, 8, 9, 10, 11, 12] rfl rfl (by decide) (by decide) (fun H locs hP hD hS => ?_)
  have hP : va_P D vwCl [(a 0, .inr (5, [.int (nI cd), .int (nI (pN P)), .ref (a 1), .ref (a 2), .ref (a 3), .ref (a 4), .ref (a 5), .ref (a 6), .ref (a 7), .ref (a 8), .ref (a 9), .int (nI (mQn M)), .ref (a 10), .int (nI (rSt R)), .int (zI (rCk R)), .int (nI (rAt R)), .int (nI (rLd R)), .ref (a 11), .int (nI (rPn R)), .ref (a 12), .int (nI (rKd R)), .int (rWh R), .int (nI (rWo R))])), (a 1, .inl (cI, 40, .inl (fun zz => nI ((pO P) zz)))), (a 2, .inl (cI, 40, .inl (fun zz => nI ((pR P) zz)))), (a 3, .inl (cI, 40, .inl (fun zz => nI ((pA P) zz)))), (a 4, .inl (cI, 40, .inl (fun zz => nI ((pB P) zz)))), (a 5, .inl (cI, 40, .inl (pK P))), (a 6, .inl (cI, 512, .inl (mHp M))), (a 7, .inl (cI, 64, .inl (mSh M))), (a 8, .inl (cI, 64, .inl (fun zz => nI ((mOw M) zz)))), (a 9, .inl (cI, 64, .inl (fun zz => nI ((mSz M) zz)))), (a 10, .inl (cI, 32, .inl (fun zz => nI ((mQf M) zz)))), (a 11, .inl (cI, 8, .inl (rRg R))), (a 12, .inl (cI, 60, .inl (rPr R)))] H := hP
  have hD : va_D A [(a 0, .inr (5, [.int (nI cd), .int (nI (pN P)), .ref (a 1), .ref (a 2), .ref (a 3), .ref (a 4), .ref (a 5), .ref (a 6), .ref (a 7), .ref (a 8), .ref (a 9), .int (nI (mQn M)), .ref (a 10), .int (nI (rSt R)), .int (zI (rCk R)), .int (nI (rAt R)), .int (nI (rLd R)), .ref (a 11), .int (nI (rPn R)), .ref (a 12), .int (nI (rKd R)), .int (rWh R), .int (nI (rWo R))])), (a 1, .inl (cI, 40, .inl (fun zz => nI ((pO P) zz)))), (a 2, .inl (cI, 40, .inl (fun zz => nI ((pR P) zz)))), (a 3, .inl (cI, 40, .inl (fun zz => nI ((pA P) zz)))), (a 4, .inl (cI, 40, .inl (fun zz => nI ((pB P) zz)))), (a 5, .inl (cI, 40, .inl (pK P))), (a 6, .inl (cI, 512, .inl (mHp M))), (a 7, .inl (cI, 64, .inl (mSh M))), (a 8, .inl (cI, 64, .inl (fun zz => nI ((mOw M) zz)))), (a 9, .inl (cI, 64, .inl (fun zz => nI ((mSz M) zz)))), (a 10, .inl (cI, 32, .inl (fun zz => nI ((mQf M) zz)))), (a 11, .inl (cI, 8, .inl (rRg R))), (a 12, .inl (cI, 60, .inl (rPr R)))] := hD
  refine x_if_neZ (b := xr x 512) (tgt := 9) hM d_Mo_wrongByte_4 (by decide) (fun hc4 => ?_) (fun hc4 => ?_)
  · skip
    obtain ⟨n, hn, rfl⟩ := xr_nat hc4 (by decide)
    refine lv_aload_n hx hb d_Mo_wrongByte_9 rfl (lv_at hl 0 rfl) ?_
    refine x_get hM hK hP 0 5 8 i_Mo rfl rfl (by decide) q_fl_Mo_28 rfl d_Mo_wrongByte_10 ?_
    refine lv_iload_n hx hb d_Mo_wrongByte_13 rfl (lv_at hl 1 rfl) ?_
    refine lv_bipush (v := nI 8) hx hb d_Mo_wrongByte_14 (by decide) ?_
    refine x_idiv hM (by omega) (by omega) (by omega) d_Mo_wrongByte_16 ?_
    refine x_iald hM hK hP 7 0 rfl rfl (by omega) (by decide) d_Mo_wrongByte_17 ?_
    refine lv_istore_n hx hb d_Mo_wrongByte_18 rfl hl (by decide) rfl (fun ls hl => ?_)
    have hl : lv_has ls 3 [(2, .int ((mSh M) (n / 8))), (0, .ref (a 0)), (1, .int (nI n))] := hl
    refine lv_iload_n hx hb d_Mo_wrongByte_19 rfl (lv_at hl 0 rfl) ?_
    refine lv_if_eq (tgt := 35) hx hb d_Mo_wrongByte_20 (by decide) (fun hc20 => ?_) (fun hc20 => ?_)
    · skip
      refine lv_iconst (v := nI 0) hx hb d_Mo_wrongByte_35 (by decide) ?_
      refine lv_goto hx hb d_Mo_wrongByte_36 (tgt := 60) (by decide) ?_
      exact x_iret hM hQ (by rw [mWr_n hn, mTc_0 hc20]) rfl hP hK hD hS d_Mo_wrongByte_60
    · skip
      refine lv_iload_n hx hb d_Mo_wrongByte_23 rfl (lv_at hl 0 rfl) ?_
      refine lv_if_le (tgt := 39) hx hb d_Mo_wrongByte_24 (by decide) (fun hc24 => ?_) (fun hc24 => ?_)
      · skip
        refine lv_iload_n hx hb d_Mo_wrongByte_39 rfl (lv_at hl 0 rfl) ?_
        refine lv_bipush (v := -2) hx hb d_Mo_wrongByte_40 (by decide) ?_
        refine lv_icmp_ne (tgt := 49) hx hb d_Mo_wrongByte_42 (by decide) (fun hc42 => ?_) (fun hc42 => ?_)
        · skip
          refine lv_iload_n hx hb d_Mo_wrongByte_49 rfl (lv_at hl 0 rfl) ?_
          refine lv_bipush (v := -3) hx hb d_Mo_wrongByte_50 (by decide) ?_
          refine lv_icmp_ne (tgt := 59) hx hb d_Mo_wrongByte_52 (by decide) (fun hc52 => ?_) (fun hc52 => ?_)
          · skip
            refine lv_iconst (v := nI 1) hx hb d_Mo_wrongByte_59 (by decide) ?_
            exact x_iret hM hQ (by rw [mWr_n hn, mTc_1 hc20 (by first | exact Or.inl hc24 | exact Or.inr hc32) hc42 hc52]) rfl hP hK hD hS d_Mo_wrongByte_60
          · skip
            refine lv_iconst (v := nI 3) hx hb d_Mo_wrongByte_55 (by decide) ?_
            refine lv_goto hx hb d_Mo_wrongByte_56 (tgt := 60) (by decide) ?_
            exact x_iret hM hQ (by rw [mWr_n hn, mTc_3 hc52]) rfl hP hK hD hS d_Mo_wrongByte_60
        · skip
          refine lv_iconst (v := nI 2) hx hb d_Mo_wrongByte_45 (by decide) ?_
          refine lv_goto hx hb d_Mo_wrongByte_46 (tgt := 60) (by decide) ?_
          exact x_iret hM hQ (by rw [mWr_n hn, mTc_2 hc42]) rfl hP hK hD hS d_Mo_wrongByte_60
      · skip
        refine lv_iload_n hx hb d_Mo_wrongByte_27 rfl (lv_at hl 2 rfl) ?_
        refine lv_bipush (v := nI 8) hx hb d_Mo_wrongByte_28 (by decide) ?_
        refine x_irem hM (by omega) (by omega) (by omega) d_Mo_wrongByte_30 ?_
        refine lv_iload_n hx hb d_Mo_wrongByte_31 rfl (lv_at hl 0 rfl) ?_
        refine lv_icmp_ge (tgt := 39) hx hb d_Mo_wrongByte_32 (by decide) (fun hc32 => ?_) (fun hc32 => ?_)
        · skip
          refine lv_iload_n hx hb d_Mo_wrongByte_39 rfl (lv_at hl 0 rfl) ?_
          refine lv_bipush (v := -2) hx hb d_Mo_wrongByte_40 (by decide) ?_
          refine lv_icmp_ne (tgt := 49) hx hb d_Mo_wrongByte_42 (by decide) (fun hc42 => ?_) (fun hc42 => ?_)
          · skip
            refine lv_iload_n hx hb d_Mo_wrongByte_49 rfl (lv_at hl 0 rfl) ?_
            refine lv_bipush (v := -3) hx hb d_Mo_wrongByte_50 (by decide) ?_
            refine lv_icmp_ne (tgt := 59) hx hb d_Mo_wrongByte_52 (by decide) (fun hc52 => ?_) (fun hc52 => ?_)
            · skip
              refine lv_iconst (v := nI 1) hx hb d_Mo_wrongByte_59 (by decide) ?_
              exact x_iret hM hQ (by rw [mWr_n hn, mTc_1 hc20 (by first | exact Or.inl hc24 | exact Or.inr hc32) hc42 hc52]) rfl hP hK hD hS d_Mo_wrongByte_60
            · skip
              refine lv_iconst (v := nI 3) hx hb d_Mo_wrongByte_55 (by decide) ?_
              refine lv_goto hx hb d_Mo_wrongByte_56 (tgt := 60) (by decide) ?_
              exact x_iret hM hQ (by rw [mWr_n hn, mTc_3 hc52]) rfl hP hK hD hS d_Mo_wrongByte_60
          · skip
            refine lv_iconst (v := nI 2) hx hb d_Mo_wrongByte_45 (by decide) ?_
            refine lv_goto hx hb d_Mo_wrongByte_46 (tgt := 60) (by decide) ?_
            exact x_iret hM hQ (by rw [mWr_n hn, mTc_2 hc42]) rfl hP hK hD hS d_Mo_wrongByte_60
        · skip
          refine lv_iconst (v := nI 0) hx hb d_Mo_wrongByte_35 (by decide) ?_
          refine lv_goto hx hb d_Mo_wrongByte_36 (tgt := 60) (by decide) ?_
          exact x_iret hM hQ (by rw [mWr_n hn, mTc_p hc24 hc32]) rfl hP hK hD hS d_Mo_wrongByte_60
  · skip
    refine lv_iconst (v := nI 5) hx hb d_Mo_wrongByte_7 (by decide) ?_
    exact x_iret hM hQ (by rw [mWr_o hc4]) rfl hP hK hD hS d_Mo_wrongByte_8
abbrev rm_Mo_load : Room := { frames := 0, cells := 0, slots := 0, locals := 0 }
set_option maxHeartbeats 4000000 in
set_option maxRecDepth 100000 in
theorem c_Mo_load (l : Launch) (D : va_G) (cI cZ cJ : ClassId) (sz : Nat) (a : Nat → Nat) (cd : Nat) (P : xPg) (M : xMem) (R : xRn) (n : Nat) (hn : n + 4 ≤ 512) : xCi l D (xT cI cZ cJ) y_Mo_load k_Mo_load rm_Mo_load sz (wMo cI a cd P M R) [.ref (a 0), .int (nI n)] (xld (mHp M) n 4 4) (wMo cI a cd P M R) 0 0 := by
  refine x_ofi (cc := b_Mo_load) (nL := 4) (ret := (some .int)) (by decide) rfl (Nat.le_of_ble_eq_true rfl) ?_
  intro p e s m args below meth c ls A Q hQ hM hsz hP hK hD hA hl
  obtain ⟨hx, hb, -, hml, hown, hts, -⟩ := id hM
  have hS : va_S A s.heap s.heap [] := va_S.rf
  have hl : lv_has ls 4 [(0, .ref (a 0)), (1, .int (nI n))] := hl
  have hP : va_P D vwCl [(a 0, .inr (5, [.int (nI cd), .int (nI (pN P)), .ref (a 1), .ref (a 2), .ref (a 3), .ref (a 4), .ref (a 5), .ref (a 6), .ref (a 7), .ref (a 8), .ref (a 9), .int (nI (mQn M)), .ref (a 10), .int (nI (rSt R)), .int (zI (rCk R)), .int (nI (rAt R)), .int (nI (rLd R)), .ref (a 11), .int (nI (rPn R)), .ref (a 12), .int (nI (rKd R)), .int (rWh R), .int (nI (rWo R))])), (a 1, .inl (cI, 40, .inl (fun zz => nI ((pO P) zz)))), (a 2, .inl (cI, 40, .inl (fun zz => nI ((pR P) zz)))), (a 3, .inl (cI, 40, .inl (fun zz => nI ((pA P) zz)))), (a 4, .inl (cI, 40, .inl (fun zz => nI ((pB P) zz)))), (a 5, .inl (cI, 40, .inl (pK P))), (a 6, .inl (cI, 512, .inl (mHp M))), (a 7, .inl (cI, 64, .inl (mSh M))), (a 8, .inl (cI, 64, .inl (fun zz => nI ((mOw M) zz)))), (a 9, .inl (cI, 64, .inl (fun zz => nI ((mSz M) zz)))), (a 10, .inl (cI, 32, .inl (fun zz => nI ((mQf M) zz)))), (a 11, .inl (cI, 8, .inl (rRg R))), (a 12, .inl (cI, 60, .inl (rPr R)))] s.heap := hP
  have hD : va_D A [(a 0, .inr (5, [.int (nI cd), .int (nI (pN P)), .ref (a 1), .ref (a 2), .ref (a 3), .ref (a 4), .ref (a 5), .ref (a 6), .ref (a 7), .ref (a 8), .ref (a 9), .int (nI (mQn M)), .ref (a 10), .int (nI (rSt R)), .int (zI (rCk R)), .int (nI (rAt R)), .int (nI (rLd R)), .ref (a 11), .int (nI (rPn R)), .ref (a 12), .int (nI (rKd R)), .int (rWh R), .int (nI (rWo R))])), (a 1, .inl (cI, 40, .inl (fun zz => nI ((pO P) zz)))), (a 2, .inl (cI, 40, .inl (fun zz => nI ((pR P) zz)))), (a 3, .inl (cI, 40, .inl (fun zz => nI ((pA P) zz)))), (a 4, .inl (cI, 40, .inl (fun zz => nI ((pB P) zz)))), (a 5, .inl (cI, 40, .inl (pK P))), (a 6, .inl (cI, 512, .inl (mHp M))), (a 7, .inl (cI, 64, .inl (mSh M))), (a 8, .inl (cI, 64, .inl (fun zz => nI ((mOw M) zz)))), (a 9, .inl (cI, 64, .inl (fun zz => nI ((mSz M) zz)))), (a 10, .inl (cI, 32, .inl (fun zz => nI ((mQf M) zz)))), (a 11, .inl (cI, 8, .inl (rRg R))), (a 12, .inl (cI, 60, .inl (rPr R)))] := hD
  refine lv_iconst (v := nI 0) hx hb d_Mo_load_0 (by decide) ?_
  refine lv_istore_n hx hb d_Mo_load_1 rfl hl (by decide) rfl (fun ls hl => ?_)
  have hl : lv_has ls 4 [(2, .int (nI 0)), (0, .ref (a 0)), (1, .int (nI n))] := hl
  refine lv_iconst (v := nI 3) hx hb d_Mo_load_2 (by decide) ?_
  refine lv_istore_n hx hb d_Mo_load_3 rfl hl (by decide) rfl (fun ls hl => ?_)
  have hl : lv_has ls 4 [(3, .int (nI 3)), (2, .int (nI 0)), (0, .ref (a 0)), (1, .int (nI n))] := hl
  have loop4 : ∀ (K4 : Nat) (t : Nat) (ls : Array Slot) (H : Heap) (locs : List Loc), (t ≤ 4) → t = K4 → lv_has ls 4 [(3, .int (xm t)), (2, .int (xld (mHp M) n 4 (4 - t))), (0, .ref (a 0)), (1, .int (nI n))] → va_P D vwCl [(a 0, .inr (5, [.int (nI cd), .int (nI (pN P)), .ref (a 1), .ref (a 2), .ref (a 3), .ref (a 4), .ref (a 5), .ref (a 6), .ref (a 7), .ref (a 8), .ref (a 9), .int (nI (mQn M)), .ref (a 10), .int (nI (rSt R)), .int (zI (rCk R)), .int (nI (rAt R)), .int (nI (rLd R)), .ref (a 11), .int (nI (rPn R)), .ref (a 12), .int (nI (rKd R)), .int (rWh R), .int (nI (rWo R))])), (a 1, .inl (cI, 40, .inl (fun zz => nI ((pO P) zz)))), (a 2, .inl (cI, 40, .inl (fun zz => nI ((pR P) zz)))), (a 3, .inl (cI, 40, .inl (fun zz => nI ((pA P) zz)))), (a 4, .inl (cI, 40, .inl (fun zz => nI ((pB P) zz)))), (a 5, .inl (cI, 40, .inl (pK P))), (a 6, .inl (cI, 512, .inl (mHp M))), (a 7, .inl (cI, 64, .inl (mSh M))), (a 8, .inl (cI, 64, .inl (fun zz => nI ((mOw M) zz)))), (a 9, .inl (cI, 64, .inl (fun zz => nI ((mSz M) zz)))), (a 10, .inl (cI, 32, .inl (fun zz => nI ((mQf M) zz)))), (a 11, .inl (cI, 8, .inl (rRg R))), (a 12, .inl (cI, 60, .inl (rPr R)))] H → va_D A [(a 0, .inr (5, [.int (nI cd), .int (nI (pN P)), .ref (a 1), .ref (a 2), .ref (a 3), .ref (a 4), .ref (a 5), .ref (a 6), .ref (a 7), .ref (a 8), .ref (a 9), .int (nI (mQn M)), .ref (a 10), .int (nI (rSt R)), .int (zI (rCk R)), .int (nI (rAt R)), .int (nI (rLd R)), .ref (a 11), .int (nI (rPn R)), .ref (a 12), .int (nI (rKd R)), .int (rWh R), .int (nI (rWo R))])), (a 1, .inl (cI, 40, .inl (fun zz => nI ((pO P) zz)))), (a 2, .inl (cI, 40, .inl (fun zz => nI ((pR P) zz)))), (a 3, .inl (cI, 40, .inl (fun zz => nI ((pA P) zz)))), (a 4, .inl (cI, 40, .inl (fun zz => nI ((pB P) zz)))), (a 5, .inl (cI, 40, .inl (pK P))), (a 6, .inl (cI, 512, .inl (mHp M))), (a 7, .inl (cI, 64, .inl (mSh M))), (a 8, .inl (cI, 64, .inl (fun zz => nI ((mOw M) zz)))), (a 9, .inl (cI, 64, .inl (fun zz => nI ((mSz M) zz)))), (a 10, .inl (cI, 32, .inl (fun zz => nI ((mQf M) zz)))), (a 11, .inl (cI, 8, .inl (rRg R))), (a 12, .inl (cI, 60, .inl (rPr R)))] → va_S A s.heap H locs → W p l e rm_Mo_load s m args below meth c H locs 0 0 Q (F0 m 4 ls []) := by
    intro K4
    induction K4 using Nat.strongRecOn with
    | _ K4 ih4 =>
      intro t ls H locs g1 hK4 hl hP hD hS
      refine lv_iload_n hx hb d_Mo_load_4 rfl (lv_at hl 0 rfl) ?_
      refine lv_if_lt (tgt := 28) hx hb d_Mo_load_5 (by decide) (fun hc5 => ?_) (fun hc5 => ?_)
      · skip
        refine lv_iload_n hx hb d_Mo_load_28 rfl (lv_at hl 1 rfl) ?_
        have ht0 : t = 0 := xm_z (by omega) hc5
        exact x_iret hM hQ (by rw [ht0]) rfl hP hK hD hS d_Mo_load_29
      · skip
        obtain ⟨j, rfl⟩ : ∃ j, t = j + 1 := ⟨t - 1, by have : t ≠ 0 := fun h => hc5 (by rw [h]; exact xm_0); omega⟩
        rw [xm_s] at hl
        have hl : lv_has ls 4 [(3, .int (nI j)), (2, .int (xld (mHp M) n 4 (4 - (j + 1)))), (0, .ref (a 0)), (1, .int (nI n))] := hl
        refine lv_iload_n hx hb d_Mo_load_8 rfl (lv_at hl 1 rfl) ?_
        refine lv_bipush (v := nI 8) hx hb d_Mo_load_9 (by decide) ?_
        refine lv_ishl hx hb d_Mo_load_11 ?_
        refine lv_aload_n hx hb d_Mo_load_12 rfl (lv_at hl 2 rfl) ?_
        refine x_get hM hK hP 0 5 7 i_Mo rfl rfl (by decide) q_fl_Mo_25 rfl d_Mo_load_13 ?_
        refine lv_iload_n hx hb d_Mo_load_16 rfl (lv_at hl 3 rfl) ?_
        refine lv_iload_n hx hb d_Mo_load_17 rfl (lv_at hl 0 rfl) ?_
        refine x_iadd hM d_Mo_load_18 ?_
        refine x_iald hM hK hP 6 0 rfl rfl (by omega) (by decide) d_Mo_load_19 ?_
        refine lv_ior hx hb d_Mo_load_20 ?_
        refine lv_istore_n hx hb d_Mo_load_21 rfl hl (by decide) rfl (fun ls hl => ?_)
        have hl : lv_has ls 4 [(2, .int (((xld (mHp M) n 4 (4 - (j + 1))) <<< ((nI 8) &&& 31)) ||| ((mHp M) (n + j)))), (3, .int (nI j)), (0, .ref (a 0)), (1, .int (nI n))] := hl
        have e22 : ((xld (mHp M) n 4 (4 - (j + 1))) <<< ((nI 8) &&& 31)) ||| ((mHp M) (n + j)) = xld (mHp M) n 4 (4 - j) := by rw [show 4 - j = (4 - (j + 1)) + 1 by omega, xld, show 4 - 1 - (4 - (j + 1)) = j by omega]
        rw [e22] at hl
        have hl : lv_has ls 4 [(2, .int (xld (mHp M) n 4 (4 - j))), (3, .int (nI j)), (0, .ref (a 0)), (1, .int (nI n))] := hl
        refine lv_iinc (k := 1) (v := xm j) hx hb d_Mo_load_22 hl rfl (xm_d _) (by decide) rfl (fun ls hl => ?_)
        have hl : lv_has ls 4 [(3, .int (xm j)), (2, .int (xld (mHp M) n 4 (4 - j))), (0, .ref (a 0)), (1, .int (nI n))] := hl
        refine lv_goto hx hb d_Mo_load_25 (tgt := 4) (by decide) ?_
        exact ih4 _ (by omega) j ls H locs (by omega) rfl hl hP hD hS
  exact loop4 _ 4 ls s.heap [] (by omega) rfl hl hP hD hS
abbrev rm_Mo_blocks : Room := { frames := 0, cells := 0, slots := 0, locals := 0 }
set_option maxHeartbeats 4000000 in
set_option maxRecDepth 100000 in
theorem c_Mo_blocks (l : Launch) (D : va_G) (cI cZ cJ : ClassId) (sz : Nat) (a : Nat → Nat) (cd : Nat) (P : xPg) (M : xMem) (R : xRn) (b : Bool) (B : Nat) (hm : mOk B M) : xCi l D (xT cI cZ cJ) y_Mo_blocks k_Mo_blocks rm_Mo_blocks sz (wMo cI a cd P M R) [.ref (a 0), .int (zI b)] (nI (xc (mQb M b) 64)) (wMo cI a cd P M R) 0 0 := by
  refine x_ofi (cc := b_Mo_blocks) (nL := 4) (ret := (some .int)) (by decide) rfl (Nat.le_of_ble_eq_true rfl) ?_
  intro p e s m args below meth c ls A Q hQ hM hsz hP hK hD hA hl
  obtain ⟨hx, hb, -, hml, hown, hts, -⟩ := id hM
  have hS : va_S A s.heap s.heap [] := va_S.rf
  have hl : lv_has ls 4 [(0, .ref (a 0)), (1, .int (zI b))] := hl
  have hP : va_P D vwCl [(a 0, .inr (5, [.int (nI cd), .int (nI (pN P)), .ref (a 1), .ref (a 2), .ref (a 3), .ref (a 4), .ref (a 5), .ref (a 6), .ref (a 7), .ref (a 8), .ref (a 9), .int (nI (mQn M)), .ref (a 10), .int (nI (rSt R)), .int (zI (rCk R)), .int (nI (rAt R)), .int (nI (rLd R)), .ref (a 11), .int (nI (rPn R)), .ref (a 12), .int (nI (rKd R)), .int (rWh R), .int (nI (rWo R))])), (a 1, .inl (cI, 40, .inl (fun zz => nI ((pO P) zz)))), (a 2, .inl (cI, 40, .inl (fun zz => nI ((pR P) zz)))), (a 3, .inl (cI, 40, .inl (fun zz => nI ((pA P) zz)))), (a 4, .inl (cI, 40, .inl (fun zz => nI ((pB P) zz)))), (a 5, .inl (cI, 40, .inl (pK P))), (a 6, .inl (cI, 512, .inl (mHp M))), (a 7, .inl (cI, 64, .inl (mSh M))), (a 8, .inl (cI, 64, .inl (fun zz => nI ((mOw M) zz)))), (a 9, .inl (cI, 64, .inl (fun zz => nI ((mSz M) zz)))), (a 10, .inl (cI, 32, .inl (fun zz => nI ((mQf M) zz)))), (a 11, .inl (cI, 8, .inl (rRg R))), (a 12, .inl (cI, 60, .inl (rPr R)))] s.heap := hP
  have hD : va_D A [(a 0, .inr (5, [.int (nI cd), .int (nI (pN P)), .ref (a 1), .ref (a 2), .ref (a 3), .ref (a 4), .ref (a 5), .ref (a 6), .ref (a 7), .ref (a 8), .ref (a 9), .int (nI (mQn M)), .ref (a 10), .int (nI (rSt R)), .int (zI (rCk R)), .int (nI (rAt R)), .int (nI (rLd R)), .ref (a 11), .int (nI (rPn R)), .ref (a 12), .int (nI (rKd R)), .int (rWh R), .int (nI (rWo R))])), (a 1, .inl (cI, 40, .inl (fun zz => nI ((pO P) zz)))), (a 2, .inl (cI, 40, .inl (fun zz => nI ((pR P) zz)))), (a 3, .inl (cI, 40, .inl (fun zz => nI ((pA P) zz)))), (a 4, .inl (cI, 40, .inl (fun zz => nI ((pB P) zz)))), (a 5, .inl (cI, 40, .inl (pK P))), (a 6, .inl (cI, 512, .inl (mHp M))), (a 7, .inl (cI, 64, .inl (mSh M))), (a 8, .inl (cI, 64, .inl (fun zz => nI ((mOw M) zz)))), (a 9, .inl (cI, 64, .inl (fun zz => nI ((mSz M) zz)))), (a 10, .inl (cI, 32, .inl (fun zz => nI ((mQf M) zz)))), (a 11, .inl (cI, 8, .inl (rRg R))), (a 12, .inl (cI, 60, .inl (rPr R)))] := hD
  refine lv_iconst (v := nI 0) hx hb d_Mo_blocks_0 (by decide) ?_
  refine lv_istore_n hx hb d_Mo_blocks_1 rfl hl (by decide) rfl (fun ls hl => ?_)
  have hl : lv_has ls 4 [(2, .int (nI 0)), (0, .ref (a 0)), (1, .int (zI b))] := hl
  refine lv_iconst (v := nI 0) hx hb d_Mo_blocks_2 (by decide) ?_
  refine lv_istore_n hx hb d_Mo_blocks_3 rfl hl (by decide) rfl (fun ls hl => ?_)
  have hl : lv_has ls 4 [(3, .int (nI 0)), (2, .int (nI 0)), (0, .ref (a 0)), (1, .int (zI b))] := hl
  have loop4 : ∀ (K4 : Nat) (j : Nat) (ls : Array Slot) (H : Heap) (locs : List Loc), (j ≤ 64) → 64 - j = K4 → lv_has ls 4 [(3, .int (nI j)), (2, .int (nI (xc (mQb M b) j))), (0, .ref (a 0)), (1, .int (zI b))] → va_P D vwCl [(a 0, .inr (5, [.int (nI cd), .int (nI (pN P)), .ref (a 1), .ref (a 2), .ref (a 3), .ref (a 4), .ref (a 5), .ref (a 6), .ref (a 7), .ref (a 8), .ref (a 9), .int (nI (mQn M)), .ref (a 10), .int (nI (rSt R)), .int (zI (rCk R)), .int (nI (rAt R)), .int (nI (rLd R)), .ref (a 11), .int (nI (rPn R)), .ref (a 12), .int (nI (rKd R)), .int (rWh R), .int (nI (rWo R))])), (a 1, .inl (cI, 40, .inl (fun zz => nI ((pO P) zz)))), (a 2, .inl (cI, 40, .inl (fun zz => nI ((pR P) zz)))), (a 3, .inl (cI, 40, .inl (fun zz => nI ((pA P) zz)))), (a 4, .inl (cI, 40, .inl (fun zz => nI ((pB P) zz)))), (a 5, .inl (cI, 40, .inl (pK P))), (a 6, .inl (cI, 512, .inl (mHp M))), (a 7, .inl (cI, 64, .inl (mSh M))), (a 8, .inl (cI, 64, .inl (fun zz => nI ((mOw M) zz)))), (a 9, .inl (cI, 64, .inl (fun zz => nI ((mSz M) zz)))), (a 10, .inl (cI, 32, .inl (fun zz => nI ((mQf M) zz)))), (a 11, .inl (cI, 8, .inl (rRg R))), (a 12, .inl (cI, 60, .inl (rPr R)))] H → va_D A [(a 0, .inr (5, [.int (nI cd), .int (nI (pN P)), .ref (a 1), .ref (a 2), .ref (a 3), .ref (a 4), .ref (a 5), .ref (a 6), .ref (a 7), .ref (a 8), .ref (a 9), .int (nI (mQn M)), .ref (a 10), .int (nI (rSt R)), .int (zI (rCk R)), .int (nI (rAt R)), .int (nI (rLd R)), .ref (a 11), .int (nI (rPn R)), .ref (a 12), .int (nI (rKd R)), .int (rWh R), .int (nI (rWo R))])), (a 1, .inl (cI, 40, .inl (fun zz => nI ((pO P) zz)))), (a 2, .inl (cI, 40, .inl (fun zz => nI ((pR P) zz)))), (a 3, .inl (cI, 40, .inl (fun zz => nI ((pA P) zz)))), (a 4, .inl (cI, 40, .inl (fun zz => nI ((pB P) zz)))), (a 5, .inl (cI, 40, .inl (pK P))), (a 6, .inl (cI, 512, .inl (mHp M))), (a 7, .inl (cI, 64, .inl (mSh M))), (a 8, .inl (cI, 64, .inl (fun zz => nI ((mOw M) zz)))), (a 9, .inl (cI, 64, .inl (fun zz => nI ((mSz M) zz)))), (a 10, .inl (cI, 32, .inl (fun zz => nI ((mQf M) zz)))), (a 11, .inl (cI, 8, .inl (rRg R))), (a 12, .inl (cI, 60, .inl (rPr R)))] → va_S A s.heap H locs → W p l e rm_Mo_blocks s m args below meth c H locs 0 0 Q (F0 m 4 ls []) := by
    intro K4
    induction K4 using Nat.strongRecOn with
    | _ K4 ih4 =>
      intro j ls H locs g1 hK4 hl hP hD hS
      refine lv_iload_n hx hb d_Mo_blocks_4 rfl (lv_at hl 0 rfl) ?_
      refine lv_bipush (v := nI 64) hx hb d_Mo_blocks_5 (by decide) ?_
      refine x_icmp_ge (tgt := 52) hM (by omega) (by omega) d_Mo_blocks_7 (by decide) (fun hc7 => ?_) (fun hc7 => ?_)
      · skip
        refine lv_iload_n hx hb d_Mo_blocks_52 rfl (lv_at hl 1 rfl) ?_
        exact x_iret hM hQ (by rw [show j = 64 by omega]) rfl hP hK hD hS d_Mo_blocks_53
      · skip
        have hz := mOk_sz hm j
        have hw0 := mOk_ow hm (k := j) (by omega)
        refine lv_iload_n hx hb d_Mo_blocks_10 rfl (lv_at hl 1 rfl) ?_
        refine lv_aload_n hx hb d_Mo_blocks_11 rfl (lv_at hl 2 rfl) ?_
        refine x_get hM hK hP 0 5 10 i_Mo rfl rfl (by decide) q_fl_Mo_34 rfl d_Mo_blocks_12 ?_
        refine lv_iload_n hx hb d_Mo_blocks_15 rfl (lv_at hl 0 rfl) ?_
        refine x_iald hM hK hP 9 0 rfl rfl (by omega) (by decide) d_Mo_blocks_16 ?_
        refine x_if_le (tgt := 43) hM (by omega) d_Mo_blocks_17 (by decide) (fun hc17 => ?_) (fun hc17 => ?_)
        · skip
          refine lv_iconst (v := nI 0) hx hb d_Mo_blocks_43 (by decide) ?_
          refine x_iadd hM d_Mo_blocks_44 ?_
          have e45 : (xc (mQb M b) j) + 0 = xc (mQb M b) (j + 1) := by rw [xc]; simp [mQb, hc17]
          refine W.eq (g2 := F0 m 45 ls [.int (nI (xc (mQb M b) (j + 1)))]) (by rw [e45]) ?_
          refine lv_istore_n hx hb d_Mo_blocks_45 rfl hl (by decide) rfl (fun ls hl => ?_)
          have hl : lv_has ls 4 [(2, .int (nI (xc (mQb M b) (j + 1)))), (3, .int (nI j)), (0, .ref (a 0)), (1, .int (zI b))] := hl
          refine lv_iinc (k := 1) (v := nI (j + 1)) hx hb d_Mo_blocks_46 hl rfl (by rw [show Int32.ofInt 1 = nI 1 by decide, nI_add]) (by decide) rfl (fun ls hl => ?_)
          have hl : lv_has ls 4 [(3, .int (nI (j + 1))), (2, .int (nI (xc (mQb M b) (j + 1)))), (0, .ref (a 0)), (1, .int (zI b))] := hl
          refine lv_goto hx hb d_Mo_blocks_49 (tgt := 4) (by decide) ?_
          exact ih4 _ (by omega) (j + 1) ls H locs (by omega) rfl hl hP hD hS
        · skip
          refine lv_aload_n hx hb d_Mo_blocks_20 rfl (lv_at hl 2 rfl) ?_
          refine x_get hM hK hP 0 5 9 i_Mo rfl rfl (by decide) q_fl_Mo_31 rfl d_Mo_blocks_21 ?_
          refine lv_iload_n hx hb d_Mo_blocks_24 rfl (lv_at hl 0 rfl) ?_
          refine x_iald hM hK hP 8 0 rfl rfl (by omega) (by decide) d_Mo_blocks_25 ?_
          refine lv_iconst (v := nI 2) hx hb d_Mo_blocks_26 (by decide) ?_
          refine x_icmp_ne (tgt := 34) hM (by omega) (by omega) d_Mo_blocks_27 (by decide) (fun hc27 => ?_) (fun hc27 => ?_)
          · skip
            refine lv_iconst (v := nI 0) hx hb d_Mo_blocks_34 (by decide) ?_
            refine lv_iload_n hx hb d_Mo_blocks_35 rfl (lv_at hl 3 rfl) ?_
            refine lv_icmp_ne (tgt := 43) hx hb d_Mo_blocks_36 (by decide) (fun hc36 => ?_) (fun hc36 => ?_)
            · skip
              refine lv_iconst (v := nI 0) hx hb d_Mo_blocks_43 (by decide) ?_
              refine x_iadd hM d_Mo_blocks_44 ?_
              have hbb : b = true := zI_0n hc36
              have e45 : (xc (mQb M b) j) + 0 = xc (mQb M b) (j + 1) := by rw [xc, hbb]; simp [mQb, hc17, hc27]
              refine W.eq (g2 := F0 m 45 ls [.int (nI (xc (mQb M b) (j + 1)))]) (by rw [e45]) ?_
              refine lv_istore_n hx hb d_Mo_blocks_45 rfl hl (by decide) rfl (fun ls hl => ?_)
              have hl : lv_has ls 4 [(2, .int (nI (xc (mQb M b) (j + 1)))), (3, .int (nI j)), (0, .ref (a 0)), (1, .int (zI b))] := hl
              refine lv_iinc (k := 1) (v := nI (j + 1)) hx hb d_Mo_blocks_46 hl rfl (by rw [show Int32.ofInt 1 = nI 1 by decide, nI_add]) (by decide) rfl (fun ls hl => ?_)
              have hl : lv_has ls 4 [(3, .int (nI (j + 1))), (2, .int (nI (xc (mQb M b) (j + 1)))), (0, .ref (a 0)), (1, .int (zI b))] := hl
              refine lv_goto hx hb d_Mo_blocks_49 (tgt := 4) (by decide) ?_
              exact ih4 _ (by omega) (j + 1) ls H locs (by omega) rfl hl hP hD hS
            · skip
              refine lv_iconst (v := nI 1) hx hb d_Mo_blocks_39 (by decide) ?_
              refine lv_goto hx hb d_Mo_blocks_40 (tgt := 44) (by decide) ?_
              refine x_iadd hM d_Mo_blocks_44 ?_
              have hbb : b = false := zI_0 hc36
              have e45 : (xc (mQb M b) j) + 1 = xc (mQb M b) (j + 1) := by rw [xc, hbb]; simp [mQb, hc17, hc27]
              refine W.eq (g2 := F0 m 45 ls [.int (nI (xc (mQb M b) (j + 1)))]) (by rw [e45]) ?_
              refine lv_istore_n hx hb d_Mo_blocks_45 rfl hl (by decide) rfl (fun ls hl => ?_)
              have hl : lv_has ls 4 [(2, .int (nI (xc (mQb M b) (j + 1)))), (3, .int (nI j)), (0, .ref (a 0)), (1, .int (zI b))] := hl
              refine lv_iinc (k := 1) (v := nI (j + 1)) hx hb d_Mo_blocks_46 hl rfl (by rw [show Int32.ofInt 1 = nI 1 by decide, nI_add]) (by decide) rfl (fun ls hl => ?_)
              have hl : lv_has ls 4 [(3, .int (nI (j + 1))), (2, .int (nI (xc (mQb M b) (j + 1)))), (0, .ref (a 0)), (1, .int (zI b))] := hl
              refine lv_goto hx hb d_Mo_blocks_49 (tgt := 4) (by decide) ?_
              exact ih4 _ (by omega) (j + 1) ls H locs (by omega) rfl hl hP hD hS
          · skip
            refine lv_iconst (v := nI 1) hx hb d_Mo_blocks_30 (by decide) ?_
            refine lv_goto hx hb d_Mo_blocks_31 (tgt := 35) (by decide) ?_
            refine lv_iload_n hx hb d_Mo_blocks_35 rfl (lv_at hl 3 rfl) ?_
            refine lv_icmp_ne (tgt := 43) hx hb d_Mo_blocks_36 (by decide) (fun hc36 => ?_) (fun hc36 => ?_)
            · skip
              refine lv_iconst (v := nI 0) hx hb d_Mo_blocks_43 (by decide) ?_
              refine x_iadd hM d_Mo_blocks_44 ?_
              have hbb : b = false := zI_1n hc36
              have e45 : (xc (mQb M b) j) + 0 = xc (mQb M b) (j + 1) := by rw [xc, hbb]; simp [mQb, hc17, hc27]
              refine W.eq (g2 := F0 m 45 ls [.int (nI (xc (mQb M b) (j + 1)))]) (by rw [e45]) ?_
              refine lv_istore_n hx hb d_Mo_blocks_45 rfl hl (by decide) rfl (fun ls hl => ?_)
              have hl : lv_has ls 4 [(2, .int (nI (xc (mQb M b) (j + 1)))), (3, .int (nI j)), (0, .ref (a 0)), (1, .int (zI b))] := hl
              refine lv_iinc (k := 1) (v := nI (j + 1)) hx hb d_Mo_blocks_46 hl rfl (by rw [show Int32.ofInt 1 = nI 1 by decide, nI_add]) (by decide) rfl (fun ls hl => ?_)
              have hl : lv_has ls 4 [(3, .int (nI (j + 1))), (2, .int (nI (xc (mQb M b) (j + 1)))), (0, .ref (a 0)), (1, .int (zI b))] := hl
              refine lv_goto hx hb d_Mo_blocks_49 (tgt := 4) (by decide) ?_
              exact ih4 _ (by omega) (j + 1) ls H locs (by omega) rfl hl hP hD hS
            · skip
              refine lv_iconst (v := nI 1) hx hb d_Mo_blocks_39 (by decide) ?_
              refine lv_goto hx hb d_Mo_blocks_40 (tgt := 44) (by decide) ?_
              refine x_iadd hM d_Mo_blocks_44 ?_
              have hbb : b = true := zI_1 hc36
              have e45 : (xc (mQb M b) j) + 1 = xc (mQb M b) (j + 1) := by rw [xc, hbb]; simp [mQb, hc17, hc27]
              refine W.eq (g2 := F0 m 45 ls [.int (nI (xc (mQb M b) (j + 1)))]) (by rw [e45]) ?_
              refine lv_istore_n hx hb d_Mo_blocks_45 rfl hl (by decide) rfl (fun ls hl => ?_)
              have hl : lv_has ls 4 [(2, .int (nI (xc (mQb M b) (j + 1)))), (3, .int (nI j)), (0, .ref (a 0)), (1, .int (zI b))] := hl
              refine lv_iinc (k := 1) (v := nI (j + 1)) hx hb d_Mo_blocks_46 hl rfl (by rw [show Int32.ofInt 1 = nI 1 by decide, nI_add]) (by decide) rfl (fun ls hl => ?_)
              have hl : lv_has ls 4 [(3, .int (nI (j + 1))), (2, .int (nI (xc (mQb M b) (j + 1)))), (0, .ref (a 0)), (1, .int (zI b))] := hl
              refine lv_goto hx hb d_Mo_blocks_49 (tgt := 4) (by decide) ?_
              exact ih4 _ (by omega) (j + 1) ls H locs (by omega) rfl hl hP hD hS
  exact loop4 _ 0 ls s.heap [] (by omega) rfl hl hP hD hS
