abbrev rm_Me_paint : Room := { frames := 0, cells := 0, slots := 0, locals := 0 }
set_option maxHeartbeats 4000000 in
set_option maxRecDepth 100000 in
theorem c_Me_paint (l : Launch) (D : va_G) (cI cZ cJ : ClassId) (sz : Nat) (am : Nat → Nat) (q1 : Nat) (q2 : Nat) (q3 : Nat) (f : Nat → Int32) (i1 : Nat) (i2 : Nat) (x : Int32) (h1 : i1 ≤ i2) (h2 : i2 ≤ 64) : xCv l D (xT cI cZ cJ) y_Me_paint k_Me_paint rm_Me_paint sz ([(am 0, .inr (1, [.ref (am 1), .ref (am 2), .ref (am 3), .ref (am 4), .ref (am 5), .int (nI q1), .int (nI q2), .int (nI q3)])), (am 2, .inl (cI, 64, .inl f))]) [.ref (am 0), .int (nI i1), .int (nI i2), .int x] ([(am 0, .inr (1, [.ref (am 1), .ref (am 2), .ref (am 3), .ref (am 4), .ref (am 5), .int (nI q1), .int (nI q2), .int (nI q3)])), (am 2, .inl (cI, 64, .inl (xp f i1 i2 x)))]) 0 0 := by
  refine x_ofv (cc := b_Me_paint) (nL := 5) (ret := none) (by decide) rfl (Nat.le_of_ble_eq_true rfl) ?_
  intro p e s m args below meth c ls A Q hQ hM hsz hP hK hD hA hl
  obtain ⟨hx, hb, -, hml, hown, hts, -⟩ := id hM
  have hS : va_S A s.heap s.heap [] := va_S.rf
  have hl : lv_has ls 5 [(0, .ref (am 0)), (1, .int (nI i1)), (2, .int (nI i2)), (3, .int x)] := hl
  have hP : va_P D vwCl [(am 0, .inr (1, [.ref (am 1), .ref (am 2), .ref (am 3), .ref (am 4), .ref (am 5), .int (nI q1), .int (nI q2), .int (nI q3)])), (am 2, .inl (cI, 64, .inl f))] s.heap := hP
  have hD : va_D A [(am 0, .inr (1, [.ref (am 1), .ref (am 2), .ref (am 3), .ref (am 4), .ref (am 5), .int (nI q1), .int (nI q2), .int (nI q3)])), (am 2, .inl (cI, 64, .inl f))] := hD
  refine lv_iload_n hx hb d_Me_paint_0 rfl (lv_at hl 1 rfl) ?_
  refine lv_istore hx hb d_Me_paint_1 hl (by decide) rfl (fun ls hl => ?_)
  have hl : lv_has ls 5 [(4, .int (nI i1)), (0, .ref (am 0)), (1, .int (nI i1)), (2, .int (nI i2)), (3, .int x)] := hl
  have loop3 : ∀ (K3 : Nat) (j : Nat) (g : Nat → Int32) (ls : Array Slot) (H : Heap) (locs : List Loc), (i1 ≤ j) → (j ≤ i2) → (g = xp f i1 j x) → i2 - j = K3 → lv_has ls 5 [(4, .int (nI j)), (0, .ref (am 0)), (1, .int (nI i1)), (2, .int (nI i2)), (3, .int x)] → va_P D vwCl [(am 0, .inr (1, [.ref (am 1), .ref (am 2), .ref (am 3), .ref (am 4), .ref (am 5), .int (nI q1), .int (nI q2), .int (nI q3)])), (am 2, .inl (cI, 64, .inl g))] H → va_D A [(am 0, .inr (1, [.ref (am 1), .ref (am 2), .ref (am 3), .ref (am 4), .ref (am 5), .int (nI q1), .int (nI q2), .int (nI q3)])), (am 2, .inl (cI, 64, .inl g))] → va_S A s.heap H locs → W p l e rm_Me_paint s m args below meth c H locs 0 0 Q (F0 m 3 ls []) := by
    intro K3
    induction K3 using Nat.strongRecOn with
    | _ K3 ih3 =>
      intro j g ls H locs g1 g2 hg hK3 hl hP hD hS
      refine lv_iload hx hb d_Me_paint_3 (lv_at hl 0 rfl) ?_
      refine lv_iload_n hx hb d_Me_paint_5 rfl (lv_at hl 3 rfl) ?_
      refine x_icmp_ge (tgt := 23) hM (by omega) (by omega) d_Me_paint_6 (by decide) (fun hc6 => ?_) (fun hc6 => ?_)
      · skip
        obtain rfl : j = i2 := by omega
        subst hg
        exact x_vret hM hQ rfl hP hK hD hS d_Me_paint_23
      · skip
        refine lv_aload_n hx hb d_Me_paint_9 rfl (lv_at hl 1 rfl) ?_
        refine x_get hM hK hP 0 1 1 i_Me rfl rfl (by decide) q_fl_Me_15 rfl d_Me_paint_10 ?_
        refine lv_iload hx hb d_Me_paint_13 (lv_at hl 0 rfl) ?_
        refine lv_iload_n hx hb d_Me_paint_15 rfl (lv_at hl 4 rfl) ?_
        refine x_iast hM hK hP hD hS 1 0 rfl rfl (by omega) (by decide) d_Me_paint_16 (fun H locs hP hD hS => ?_)
        have hP : va_P D vwCl [(am 0, .inr (1, [.ref (am 1), .ref (am 2), .ref (am 3), .ref (am 4), .ref (am 5), .int (nI q1), .int (nI q2), .int (nI q3)])), (am 2, .inl (cI, 64, .inl (xu g j x)))] H := hP
        have hD : va_D A [(am 0, .inr (1, [.ref (am 1), .ref (am 2), .ref (am 3), .ref (am 4), .ref (am 5), .int (nI q1), .int (nI q2), .int (nI q3)])), (am 2, .inl (cI, 64, .inl (xu g j x)))] := hD
        refine lv_iinc (k := 0) (v := nI (j + 1)) hx hb d_Me_paint_17 hl rfl (by rw [show Int32.ofInt 1 = nI 1 by decide, nI_add]) (by decide) rfl (fun ls hl => ?_)
        have hl : lv_has ls 5 [(4, .int (nI (j + 1))), (0, .ref (am 0)), (1, .int (nI i1)), (2, .int (nI i2)), (3, .int x)] := hl
        refine lv_goto hx hb d_Me_paint_20 (tgt := 3) (by decide) ?_
        exact ih3 _ (by omega) (j + 1) (xu g j x) ls H locs (by omega) (by omega) (by rw [hg, xp_s g1]) rfl hl hP hD hS
  exact loop3 _ i1 f ls s.heap [] (by omega) (by omega) (xp_0 _ _ _).symm rfl hl hP hD hS
abbrev rm_Me_reset : Room := { frames := 0, cells := 0, slots := 0, locals := 0 }
set_option maxHeartbeats 4000000 in
set_option maxRecDepth 100000 in
theorem c_Me_reset (l : Launch) (D : va_G) (cI cZ cJ : ClassId) (sz : Nat) (am : Nat → Nat) (M : xMem) (hz : mZ M) : xCv l D (xT cI cZ cJ) y_Me_reset k_Me_reset rm_Me_reset sz (wMe cI cZ am M) [.ref (am 0)] (wMe cI cZ am (mNew M)) 0 0 := by
  refine x_ofv (cc := b_Me_reset) (nL := 2) (ret := none) (by decide) rfl (Nat.le_of_ble_eq_true rfl) ?_
  intro p e s m args below meth c ls A Q hQ hM hsz hP hK hD hA hl
  obtain ⟨hx, hb, -, hml, hown, hts, -⟩ := id hM
  have hS : va_S A s.heap s.heap [] := va_S.rf
  have hl : lv_has ls 2 [(0, .ref (am 0))] := hl
  have hP : va_P D vwCl [(am 0, .inr (1, [.ref (am 1), .ref (am 2), .ref (am 3), .ref (am 4), .ref (am 5), .int (nI (mSum M)), .int (nI (mQn M)), .int (nI (xc (mIs M 1) 64))])), (am 1, .inl (cI, 512, .inl (mHp M))), (am 2, .inl (cI, 64, .inl (mSh M))), (am 3, .inl (cI, 64, .inl (fun zz => nI ((mSz M) zz)))), (am 4, .inl (cZ, 64, .inl (fun zz => zI ((mIs M 2) zz)))), (am 5, .inl (cI, 64, .inl (fun zz => nI ((mQf M) zz))))] s.heap := hP
  have hD : va_D A [(am 0, .inr (1, [.ref (am 1), .ref (am 2), .ref (am 3), .ref (am 4), .ref (am 5), .int (nI (mSum M)), .int (nI (mQn M)), .int (nI (xc (mIs M 1) 64))])), (am 1, .inl (cI, 512, .inl (mHp M))), (am 2, .inl (cI, 64, .inl (mSh M))), (am 3, .inl (cI, 64, .inl (fun zz => nI ((mSz M) zz)))), (am 4, .inl (cZ, 64, .inl (fun zz => zI ((mIs M 2) zz)))), (am 5, .inl (cI, 64, .inl (fun zz => nI ((mQf M) zz))))] := hD
  refine lv_iconst (v := nI 0) hx hb d_Me_reset_0 (by decide) ?_
  refine lv_istore_n hx hb d_Me_reset_1 rfl hl (by decide) rfl (fun ls hl => ?_)
  have hl : lv_has ls 2 [(1, .int (nI 0)), (0, .ref (am 0))] := hl
  have loop2 : ∀ (K2 : Nat) (j : Nat) (f : Nat → Int32) (ls : Array Slot) (H : Heap) (locs : List Loc), (0 ≤ j) → (j ≤ 512) → (f = xp (mHp M) 0 j (nI 0)) → 512 - j = K2 → lv_has ls 2 [(1, .int (nI j)), (0, .ref (am 0))] → va_P D vwCl [(am 0, .inr (1, [.ref (am 1), .ref (am 2), .ref (am 3), .ref (am 4), .ref (am 5), .int (nI (mSum M)), .int (nI (mQn M)), .int (nI (xc (mIs M 1) 64))])), (am 1, .inl (cI, 512, .inl f)), (am 2, .inl (cI, 64, .inl (mSh M))), (am 3, .inl (cI, 64, .inl (fun zz => nI ((mSz M) zz)))), (am 4, .inl (cZ, 64, .inl (fun zz => zI ((mIs M 2) zz)))), (am 5, .inl (cI, 64, .inl (fun zz => nI ((mQf M) zz))))] H → va_D A [(am 0, .inr (1, [.ref (am 1), .ref (am 2), .ref (am 3), .ref (am 4), .ref (am 5), .int (nI (mSum M)), .int (nI (mQn M)), .int (nI (xc (mIs M 1) 64))])), (am 1, .inl (cI, 512, .inl f)), (am 2, .inl (cI, 64, .inl (mSh M))), (am 3, .inl (cI, 64, .inl (fun zz => nI ((mSz M) zz)))), (am 4, .inl (cZ, 64, .inl (fun zz => zI ((mIs M 2) zz)))), (am 5, .inl (cI, 64, .inl (fun zz => nI ((mQf M) zz))))] → va_S A s.heap H locs → W p l e rm_Me_reset s m args below meth c H locs 0 0 Q (F0 m 2 ls []) := by
    intro K2
    induction K2 using Nat.strongRecOn with
    | _ K2 ih2 =>
      intro j f ls H locs g1 g2 hf hK2 hl hP hD hS
      refine lv_iload_n hx hb d_Me_reset_2 rfl (lv_at hl 0 rfl) ?_
      refine lv_sipush (v := nI 512) hx hb d_Me_reset_3 (by decide) ?_
      refine x_icmp_ge (tgt := 22) hM (by omega) (by omega) d_Me_reset_6 (by decide) (fun hc6 => ?_) (fun hc6 => ?_)
      · skip
        obtain rfl : j = 512 := by omega
        subst hf
        have hP : va_P D vwCl [(am 0, .inr (1, [.ref (am 1), .ref (am 2), .ref (am 3), .ref (am 4), .ref (am 5), .int (nI (mSum M)), .int (nI (mQn M)), .int (nI (xc (mIs M 1) 64))])), (am 1, .inl (cI, 512, .inl (xp (mHp M) 0 512 (nI 0)))), (am 2, .inl (cI, 64, .inl (mSh M))), (am 3, .inl (cI, 64, .inl (fun zz => nI ((mSz M) zz)))), (am 4, .inl (cZ, 64, .inl (fun zz => zI ((mIs M 2) zz)))), (am 5, .inl (cI, 64, .inl (fun zz => nI ((mQf M) zz))))] H := hP
        have hD : va_D A [(am 0, .inr (1, [.ref (am 1), .ref (am 2), .ref (am 3), .ref (am 4), .ref (am 5), .int (nI (mSum M)), .int (nI (mQn M)), .int (nI (xc (mIs M 1) 64))])), (am 1, .inl (cI, 512, .inl (xp (mHp M) 0 512 (nI 0)))), (am 2, .inl (cI, 64, .inl (mSh M))), (am 3, .inl (cI, 64, .inl (fun zz => nI ((mSz M) zz)))), (am 4, .inl (cZ, 64, .inl (fun zz => zI ((mIs M 2) zz)))), (am 5, .inl (cI, 64, .inl (fun zz => nI ((mQf M) zz))))] := hD
        refine lv_iconst (v := nI 0) hx hb d_Me_reset_22 (by decide) ?_
        refine lv_istore_n hx hb d_Me_reset_23 rfl hl (by decide) rfl (fun ls hl => ?_)
        have hl : lv_has ls 2 [(1, .int (nI 0)), (0, .ref (am 0))] := hl
        have loop24 : ∀ (K24 : Nat) (j : Nat) (f1 : Nat → Int32) (f2 : Nat → Nat) (f3 : Nat → Bool) (ls : Array Slot) (H : Heap) (locs : List Loc), (0 ≤ j) → (j ≤ 64) → (f1 = xp (mSh M) 0 j (-3)) → (f2 = xp (mSz M) 0 j 0) → (f3 = xp (mIs M 2) 0 j false) → 64 - j = K24 → lv_has ls 2 [(1, .int (nI j)), (0, .ref (am 0))] → va_P D vwCl [(am 0, .inr (1, [.ref (am 1), .ref (am 2), .ref (am 3), .ref (am 4), .ref (am 5), .int (nI (mSum M)), .int (nI (mQn M)), .int (nI (xc (mIs M 1) 64))])), (am 1, .inl (cI, 512, .inl (xp (mHp M) 0 512 (nI 0)))), (am 2, .inl (cI, 64, .inl f1)), (am 3, .inl (cI, 64, .inl (fun zz => nI (f2 zz)))), (am 4, .inl (cZ, 64, .inl (fun zz => zI (f3 zz)))), (am 5, .inl (cI, 64, .inl (fun zz => nI ((mQf M) zz))))] H → va_D A [(am 0, .inr (1, [.ref (am 1), .ref (am 2), .ref (am 3), .ref (am 4), .ref (am 5), .int (nI (mSum M)), .int (nI (mQn M)), .int (nI (xc (mIs M 1) 64))])), (am 1, .inl (cI, 512, .inl (xp (mHp M) 0 512 (nI 0)))), (am 2, .inl (cI, 64, .inl f1)), (am 3, .inl (cI, 64, .inl (fun zz => nI (f2 zz)))), (am 4, .inl (cZ, 64, .inl (fun zz => zI (f3 zz)))), (am 5, .inl (cI, 64, .inl (fun zz => nI ((mQf M) zz))))] → va_S A s.heap H locs → W p l e rm_Me_reset s m args below meth c H locs 0 0 Q (F0 m 24 ls []) := by
          intro K24
          induction K24 using Nat.strongRecOn with
          | _ K24 ih24 =>
            intro j f1 f2 f3 ls H locs g1 g2 hf1 hf2 hf3 hK24 hl hP hD hS
            refine lv_iload_n hx hb d_Me_reset_24 rfl (lv_at hl 0 rfl) ?_
            refine lv_bipush (v := nI 64) hx hb d_Me_reset_25 (by decide) ?_
            refine x_icmp_ge (tgt := 58) hM (by omega) (by omega) d_Me_reset_27 (by decide) (fun hc27 => ?_) (fun hc27 => ?_)
            · skip
              obtain rfl : j = 64 := by omega
              subst hf1 hf2 hf3
              rw [mNew_is hz] at hP hD
              have hP : va_P D vwCl [(am 0, .inr (1, [.ref (am 1), .ref (am 2), .ref (am 3), .ref (am 4), .ref (am 5), .int (nI (mSum M)), .int (nI (mQn M)), .int (nI (xc (mIs M 1) 64))])), (am 1, .inl (cI, 512, .inl (xp (mHp M) 0 512 (nI 0)))), (am 2, .inl (cI, 64, .inl (xp (mSh M) 0 64 (-3)))), (am 3, .inl (cI, 64, .inl (fun zz => nI ((xp (mSz M) 0 64 0) zz)))), (am 4, .inl (cZ, 64, .inl (fun zz => zI ((mIs (mNew M) 2) zz)))), (am 5, .inl (cI, 64, .inl (fun zz => nI ((mQf M) zz))))] H := hP
              have hD : va_D A [(am 0, .inr (1, [.ref (am 1), .ref (am 2), .ref (am 3), .ref (am 4), .ref (am 5), .int (nI (mSum M)), .int (nI (mQn M)), .int (nI (xc (mIs M 1) 64))])), (am 1, .inl (cI, 512, .inl (xp (mHp M) 0 512 (nI 0)))), (am 2, .inl (cI, 64, .inl (xp (mSh M) 0 64 (-3)))), (am 3, .inl (cI, 64, .inl (fun zz => nI ((xp (mSz M) 0 64 0) zz)))), (am 4, .inl (cZ, 64, .inl (fun zz => zI ((mIs (mNew M) 2) zz)))), (am 5, .inl (cI, 64, .inl (fun zz => nI ((mQf M) zz))))] := hD
              refine lv_aload_n hx hb d_Me_reset_58 rfl (lv_at hl 1 rfl) ?_
              refine lv_iconst (v := nI 0) hx hb d_Me_reset_59 (by decide) ?_
              refine x_put hM hK hP hD hS 0 1 5 i_Me t_Me t_Me_ok n_Me rfl rfl (by decide) q_fl_Me_31 rfl rfl rfl (Nat.le_of_ble_eq_true rfl) d_Me_reset_60 (fun H locs hP hD hS => ?_)
              have hP : va_P D vwCl [(am 0, .inr (1, [.ref (am 1), .ref (am 2), .ref (am 3), .ref (am 4), .ref (am 5), .int (nI 0), .int (nI (mQn M)), .int (nI (xc (mIs M 1) 64))])), (am 1, .inl (cI, 512, .inl (xp (mHp M) 0 512 (nI 0)))), (am 2, .inl (cI, 64, .inl (xp (mSh M) 0 64 (-3)))), (am 3, .inl (cI, 64, .inl (fun zz => nI ((xp (mSz M) 0 64 0) zz)))), (am 4, .inl (cZ, 64, .inl (fun zz => zI ((mIs (mNew M) 2) zz)))), (am 5, .inl (cI, 64, .inl (fun zz => nI ((mQf M) zz))))] H := hP
              have hD : va_D A [(am 0, .inr (1, [.ref (am 1), .ref (am 2), .ref (am 3), .ref (am 4), .ref (am 5), .int (nI 0), .int (nI (mQn M)), .int (nI (xc (mIs M 1) 64))])), (am 1, .inl (cI, 512, .inl (xp (mHp M) 0 512 (nI 0)))), (am 2, .inl (cI, 64, .inl (xp (mSh M) 0 64 (-3)))), (am 3, .inl (cI, 64, .inl (fun zz => nI ((xp (mSz M) 0 64 0) zz)))), (am 4, .inl (cZ, 64, .inl (fun zz => zI ((mIs (mNew M) 2) zz)))), (am 5, .inl (cI, 64, .inl (fun zz => nI ((mQf M) zz))))] := hD
              refine lv_aload_n hx hb d_Me_reset_63 rfl (lv_at hl 1 rfl) ?_
              refine lv_iconst (v := nI 0) hx hb d_Me_reset_64 (by decide) ?_
              refine x_put hM hK hP hD hS 0 1 6 i_Me t_Me t_Me_ok n_Me rfl rfl (by decide) q_fl_Me_35 rfl rfl rfl (Nat.le_of_ble_eq_true rfl) d_Me_reset_65 (fun H locs hP hD hS => ?_)
              have hP : va_P D vwCl [(am 0, .inr (1, [.ref (am 1), .ref (am 2), .ref (am 3), .ref (am 4), .ref (am 5), .int (nI 0), .int (nI 0), .int (nI (xc (mIs M 1) 64))])), (am 1, .inl (cI, 512, .inl (xp (mHp M) 0 512 (nI 0)))), (am 2, .inl (cI, 64, .inl (xp (mSh M) 0 64 (-3)))), (am 3, .inl (cI, 64, .inl (fun zz => nI ((xp (mSz M) 0 64 0) zz)))), (am 4, .inl (cZ, 64, .inl (fun zz => zI ((mIs (mNew M) 2) zz)))), (am 5, .inl (cI, 64, .inl (fun zz => nI ((mQf M) zz))))] H := hP
              have hD : va_D A [(am 0, .inr (1, [.ref (am 1), .ref (am 2), .ref (am 3), .ref (am 4), .ref (am 5), .int (nI 0), .int (nI 0), .int (nI (xc (mIs M 1) 64))])), (am 1, .inl (cI, 512, .inl (xp (mHp M) 0 512 (nI 0)))), (am 2, .inl (cI, 64, .inl (xp (mSh M) 0 64 (-3)))), (am 3, .inl (cI, 64, .inl (fun zz => nI ((xp (mSz M) 0 64 0) zz)))), (am 4, .inl (cZ, 64, .inl (fun zz => zI ((mIs (mNew M) 2) zz)))), (am 5, .inl (cI, 64, .inl (fun zz => nI ((mQf M) zz))))] := hD
              refine lv_aload_n hx hb d_Me_reset_68 rfl (lv_at hl 1 rfl) ?_
              refine lv_iconst (v := nI 0) hx hb d_Me_reset_69 (by decide) ?_
              refine W.eq (g2 := F0 m 70 ls [.int (nI (xc (mIs (mNew M) 1) 64)), .ref (am 0)]) (by rw [mNew_live hz]) ?_
              refine x_put hM hK hP hD hS 0 1 7 i_Me t_Me t_Me_ok n_Me rfl rfl (by decide) q_fl_Me_38 rfl rfl rfl (Nat.le_of_ble_eq_true rfl) d_Me_reset_70 (fun H locs hP hD hS => ?_)
              have hP : va_P D vwCl [(am 0, .inr (1, [.ref (am 1), .ref (am 2), .ref (am 3), .ref (am 4), .ref (am 5), .int (nI 0), .int (nI 0), .int (nI (xc (mIs (mNew M) 1) 64))])), (am 1, .inl (cI, 512, .inl (xp (mHp M) 0 512 (nI 0)))), (am 2, .inl (cI, 64, .inl (xp (mSh M) 0 64 (-3)))), (am 3, .inl (cI, 64, .inl (fun zz => nI ((xp (mSz M) 0 64 0) zz)))), (am 4, .inl (cZ, 64, .inl (fun zz => zI ((mIs (mNew M) 2) zz)))), (am 5, .inl (cI, 64, .inl (fun zz => nI ((mQf M) zz))))] H := hP
              have hD : va_D A [(am 0, .inr (1, [.ref (am 1), .ref (am 2), .ref (am 3), .ref (am 4), .ref (am 5), .int (nI 0), .int (nI 0), .int (nI (xc (mIs (mNew M) 1) 64))])), (am 1, .inl (cI, 512, .inl (xp (mHp M) 0 512 (nI 0)))), (am 2, .inl (cI, 64, .inl (xp (mSh M) 0 64 (-3)))), (am 3, .inl (cI, 64, .inl (fun zz => nI ((xp (mSz M) 0 64 0) zz)))), (am 4, .inl (cZ, 64, .inl (fun zz => zI ((mIs (mNew M) 2) zz)))), (am 5, .inl (cI, 64, .inl (fun zz => nI ((mQf M) zz))))] := hD
              exact x_vret hM hQ rfl hP hK hD hS d_Me_reset_73
            · skip
              refine lv_aload_n hx hb d_Me_reset_30 rfl (lv_at hl 1 rfl) ?_
              refine x_get hM hK hP 0 1 1 i_Me rfl rfl (by decide) q_fl_Me_15 rfl d_Me_reset_31 ?_
              refine lv_iload_n hx hb d_Me_reset_34 rfl (lv_at hl 0 rfl) ?_
              refine lv_bipush (v := -3) hx hb d_Me_reset_35 (by decide) ?_
              refine x_iast hM hK hP hD hS 2 0 rfl rfl (by omega) (by decide) d_Me_reset_37 (fun H locs hP hD hS => ?_)
              have hP : va_P D vwCl [(am 0, .inr (1, [.ref (am 1), .ref (am 2), .ref (am 3), .ref (am 4), .ref (am 5), .int (nI (mSum M)), .int (nI (mQn M)), .int (nI (xc (mIs M 1) 64))])), (am 1, .inl (cI, 512, .inl (xp (mHp M) 0 512 (nI 0)))), (am 2, .inl (cI, 64, .inl (xu f1 j (-3)))), (am 3, .inl (cI, 64, .inl (fun zz => nI (f2 zz)))), (am 4, .inl (cZ, 64, .inl (fun zz => zI (f3 zz)))), (am 5, .inl (cI, 64, .inl (fun zz => nI ((mQf M) zz))))] H := hP
              have hD : va_D A [(am 0, .inr (1, [.ref (am 1), .ref (am 2), .ref (am 3), .ref (am 4), .ref (am 5), .int (nI (mSum M)), .int (nI (mQn M)), .int (nI (xc (mIs M 1) 64))])), (am 1, .inl (cI, 512, .inl (xp (mHp M) 0 512 (nI 0)))), (am 2, .inl (cI, 64, .inl (xu f1 j (-3)))), (am 3, .inl (cI, 64, .inl (fun zz => nI (f2 zz)))), (am 4, .inl (cZ, 64, .inl (fun zz => zI (f3 zz)))), (am 5, .inl (cI, 64, .inl (fun zz => nI ((mQf M) zz))))] := hD
              refine lv_aload_n hx hb d_Me_reset_38 rfl (lv_at hl 1 rfl) ?_
              refine x_get hM hK hP 0 1 2 i_Me rfl rfl (by decide) q_fl_Me_18 rfl d_Me_reset_39 ?_
              refine lv_iload_n hx hb d_Me_reset_42 rfl (lv_at hl 0 rfl) ?_
              refine lv_iconst (v := nI 0) hx hb d_Me_reset_43 (by decide) ?_
              refine x_iastN hM hK hP hD hS 3 0 rfl rfl (by omega) (by decide) d_Me_reset_44 (fun H locs hP hD hS => ?_)
              have hP : va_P D vwCl [(am 0, .inr (1, [.ref (am 1), .ref (am 2), .ref (am 3), .ref (am 4), .ref (am 5), .int (nI (mSum M)), .int (nI (mQn M)), .int (nI (xc (mIs M 1) 64))])), (am 1, .inl (cI, 512, .inl (xp (mHp M) 0 512 (nI 0)))), (am 2, .inl (cI, 64, .inl (xu f1 j (-3)))), (am 3, .inl (cI, 64, .inl (fun zz => nI ((xu f2 j 0) zz)))), (am 4, .inl (cZ, 64, .inl (fun zz => zI (f3 zz)))), (am 5, .inl (cI, 64, .inl (fun zz => nI ((mQf M) zz))))] H := hP
              have hD : va_D A [(am 0, .inr (1, [.ref (am 1), .ref (am 2), .ref (am 3), .ref (am 4), .ref (am 5), .int (nI (mSum M)), .int (nI (mQn M)), .int (nI (xc (mIs M 1) 64))])), (am 1, .inl (cI, 512, .inl (xp (mHp M) 0 512 (nI 0)))), (am 2, .inl (cI, 64, .inl (xu f1 j (-3)))), (am 3, .inl (cI, 64, .inl (fun zz => nI ((xu f2 j 0) zz)))), (am 4, .inl (cZ, 64, .inl (fun zz => zI (f3 zz)))), (am 5, .inl (cI, 64, .inl (fun zz => nI ((mQf M) zz))))] := hD
              refine lv_aload_n hx hb d_Me_reset_45 rfl (lv_at hl 1 rfl) ?_
              refine x_get hM hK hP 0 1 3 i_Me rfl rfl (by decide) q_fl_Me_21 rfl d_Me_reset_46 ?_
              refine lv_iload_n hx hb d_Me_reset_49 rfl (lv_at hl 0 rfl) ?_
              refine lv_iconst (v := nI 0) hx hb d_Me_reset_50 (by decide) ?_
              refine x_zastB (b := false) (by decide) hM hK hP hD hS 4 1 rfl rfl (by omega) (by decide) d_Me_reset_51 (fun H locs hP hD hS => ?_)
              have hP : va_P D vwCl [(am 0, .inr (1, [.ref (am 1), .ref (am 2), .ref (am 3), .ref (am 4), .ref (am 5), .int (nI (mSum M)), .int (nI (mQn M)), .int (nI (xc (mIs M 1) 64))])), (am 1, .inl (cI, 512, .inl (xp (mHp M) 0 512 (nI 0)))), (am 2, .inl (cI, 64, .inl (xu f1 j (-3)))), (am 3, .inl (cI, 64, .inl (fun zz => nI ((xu f2 j 0) zz)))), (am 4, .inl (cZ, 64, .inl (fun zz => zI ((xu f3 j false) zz)))), (am 5, .inl (cI, 64, .inl (fun zz => nI ((mQf M) zz))))] H := hP
              have hD : va_D A [(am 0, .inr (1, [.ref (am 1), .ref (am 2), .ref (am 3), .ref (am 4), .ref (am 5), .int (nI (mSum M)), .int (nI (mQn M)), .int (nI (xc (mIs M 1) 64))])), (am 1, .inl (cI, 512, .inl (xp (mHp M) 0 512 (nI 0)))), (am 2, .inl (cI, 64, .inl (xu f1 j (-3)))), (am 3, .inl (cI, 64, .inl (fun zz => nI ((xu f2 j 0) zz)))), (am 4, .inl (cZ, 64, .inl (fun zz => zI ((xu f3 j false) zz)))), (am 5, .inl (cI, 64, .inl (fun zz => nI ((mQf M) zz))))] := hD
              refine lv_iinc (k := 0) (v := nI (j + 1)) hx hb d_Me_reset_52 hl rfl (by rw [show Int32.ofInt 1 = nI 1 by decide, nI_add]) (by decide) rfl (fun ls hl => ?_)
              have hl : lv_has ls 2 [(1, .int (nI (j + 1))), (0, .ref (am 0))] := hl
              refine lv_goto hx hb d_Me_reset_55 (tgt := 24) (by decide) ?_
              exact ih24 _ (by omega) (j + 1) (xu f1 j (-3)) (xu f2 j 0) (xu f3 j false) ls H locs (by omega) (by omega) (by rw [hf1, xp_s g1]) (by rw [hf2, xp_s g1]) (by rw [hf3, xp_s g1]) rfl hl hP hD hS
        exact loop24 _ 0 (mSh M) (mSz M) (mIs M 2) ls H locs (by omega) (by omega) (xp_0 _ _ _).symm (xp_0 _ _ _).symm (xp_0 _ _ _).symm rfl hl hP hD hS
      · skip
        refine lv_aload_n hx hb d_Me_reset_9 rfl (lv_at hl 1 rfl) ?_
        refine x_get hM hK hP 0 1 0 i_Me rfl rfl (by decide) q_fl_Me_11 rfl d_Me_reset_10 ?_
        refine lv_iload_n hx hb d_Me_reset_13 rfl (lv_at hl 0 rfl) ?_
        refine lv_iconst (v := nI 0) hx hb d_Me_reset_14 (by decide) ?_
        refine x_iast hM hK hP hD hS 1 0 rfl rfl (by omega) (by decide) d_Me_reset_15 (fun H locs hP hD hS => ?_)
        have hP : va_P D vwCl [(am 0, .inr (1, [.ref (am 1), .ref (am 2), .ref (am 3), .ref (am 4), .ref (am 5), .int (nI (mSum M)), .int (nI (mQn M)), .int (nI (xc (mIs M 1) 64))])), (am 1, .inl (cI, 512, .inl (xu f j (nI 0)))), (am 2, .inl (cI, 64, .inl (mSh M))), (am 3, .inl (cI, 64, .inl (fun zz => nI ((mSz M) zz)))), (am 4, .inl (cZ, 64, .inl (fun zz => zI ((mIs M 2) zz)))), (am 5, .inl (cI, 64, .inl (fun zz => nI ((mQf M) zz))))] H := hP
        have hD : va_D A [(am 0, .inr (1, [.ref (am 1), .ref (am 2), .ref (am 3), .ref (am 4), .ref (am 5), .int (nI (mSum M)), .int (nI (mQn M)), .int (nI (xc (mIs M 1) 64))])), (am 1, .inl (cI, 512, .inl (xu f j (nI 0)))), (am 2, .inl (cI, 64, .inl (mSh M))), (am 3, .inl (cI, 64, .inl (fun zz => nI ((mSz M) zz)))), (am 4, .inl (cZ, 64, .inl (fun zz => zI ((mIs M 2) zz)))), (am 5, .inl (cI, 64, .inl (fun zz => nI ((mQf M) zz))))] := hD
        refine lv_iinc (k := 0) (v := nI (j + 1)) hx hb d_Me_reset_16 hl rfl (by rw [show Int32.ofInt 1 = nI 1 by decide, nI_add]) (by decide) rfl (fun ls hl => ?_)
        have hl : lv_has ls 2 [(1, .int (nI (j + 1))), (0, .ref (am 0))] := hl
        refine lv_goto hx hb d_Me_reset_19 (tgt := 2) (by decide) ?_
        exact ih2 _ (by omega) (j + 1) (xu f j (nI 0)) ls H locs (by omega) (by omega) (by rw [hf, xp_s g1]) rfl hl hP hD hS
  exact loop2 _ 0 (mHp M) ls s.heap [] (by omega) (by omega) (xp_0 _ _ _).symm rfl hl hP hD hS
abbrev rm_Me_holds : Room := { frames := 0, cells := 0, slots := 0, locals := 0 }
set_option maxHeartbeats 4000000 in
set_option maxRecDepth 100000 in
theorem c_Me_holds (l : Launch) (D : va_G) (cI cZ cJ : ClassId) (sz : Nat) (x : Int32) (w : Nat) (hw : w ≤ 512) : xCi l D (xT cI cZ cJ) y_Me_holds k_Me_holds rm_Me_holds sz ([]) [.int x, .int (nI w)] (zI (xr x (512 - w + 1))) ([]) 0 0 := by
  refine x_ofi (cc := b_Me_holds) (nL := 2) (ret := (some .boolean)) (by decide) rfl (Nat.le_of_ble_eq_true rfl) ?_
  intro p e s m args below meth c ls A Q hQ hM hsz hP hK hD hA hl
  obtain ⟨hx, hb, -, hml, hown, hts, -⟩ := id hM
  have hS : va_S A s.heap s.heap [] := va_S.rf
  have hl : lv_has ls 2 [(0, .int x), (1, .int (nI w))] := hl
  have hP : va_P D vwCl [] s.heap := hP
  have hD : va_D A [] := hD
  refine lv_iload_n hx hb d_Me_holds_0 rfl (lv_at hl 0 rfl) ?_
  refine lv_if_lt (tgt := 17) hx hb d_Me_holds_1 (by decide) (fun hc1 => ?_) (fun hc1 => ?_)
  · skip
    refine lv_iconst (v := nI 0) hx hb d_Me_holds_17 (by decide) ?_
    exact x_zret hM hQ (by decide) (by exact x_z0 (xr_f1 hc1)) rfl hP hK hD hS d_Me_holds_18
  · skip
    refine lv_iload_n hx hb d_Me_holds_4 rfl (lv_at hl 0 rfl) ?_
    refine lv_sipush (v := nI 512) hx hb d_Me_holds_5 (by decide) ?_
    refine lv_iload_n hx hb d_Me_holds_8 rfl (lv_at hl 1 rfl) ?_
    refine x_isub hM (by omega) d_Me_holds_9 ?_
    refine lv_icmp_gt (tgt := 17) hx hb d_Me_holds_10 (by decide) (fun hc10 => ?_) (fun hc10 => ?_)
    · skip
      refine lv_iconst (v := nI 0) hx hb d_Me_holds_17 (by decide) ?_
      exact x_zret hM hQ (by decide) (by exact x_z0 (xr_g (Int32.not_le.mpr hc10) (by omega))) rfl hP hK hD hS d_Me_holds_18
    · skip
      refine lv_iconst (v := nI 1) hx hb d_Me_holds_13 (by decide) ?_
      refine lv_goto hx hb d_Me_holds_14 (tgt := 18) (by decide) ?_
      exact x_zret hM hQ (by decide) (by exact x_z1 (xr_t hc1 (fun h => hc10 (Int32.lt_of_lt_of_le (x_lts (by omega)) h)))) rfl hP hK hD hS d_Me_holds_18
abbrev rm_Me_load : Room := { frames := 0, cells := 0, slots := 0, locals := 0 }
set_option maxHeartbeats 4000000 in
set_option maxRecDepth 100000 in
theorem c_Me_load (l : Launch) (D : va_G) (cI cZ cJ : ClassId) (sz : Nat) (am : Nat → Nat) (M : xMem) (n : Nat) (w : Nat) (hn : n + w ≤ 512) (hw : 1 ≤ w) : xCi l D (xT cI cZ cJ) y_Me_load k_Me_load rm_Me_load sz (wMe cI cZ am M) [.ref (am 0), .int (nI n), .int (nI w)] (xld (mHp M) n w w) (wMe cI cZ am M) 0 0 := by
  refine x_ofi (cc := b_Me_load) (nL := 5) (ret := (some .int)) (by decide) rfl (Nat.le_of_ble_eq_true rfl) ?_
  intro p e s m args below meth c ls A Q hQ hM hsz hP hK hD hA hl
  obtain ⟨hx, hb, -, hml, hown, hts, -⟩ := id hM
  have hS : va_S A s.heap s.heap [] := va_S.rf
  have hl : lv_has ls 5 [(0, .ref (am 0)), (1, .int (nI n)), (2, .int (nI w))] := hl
  have hP : va_P D vwCl [(am 0, .inr (1, [.ref (am 1), .ref (am 2), .ref (am 3), .ref (am 4), .ref (am 5), .int (nI (mSum M)), .int (nI (mQn M)), .int (nI (xc (mIs M 1) 64))])), (am 1, .inl (cI, 512, .inl (mHp M))), (am 2, .inl (cI, 64, .inl (mSh M))), (am 3, .inl (cI, 64, .inl (fun zz => nI ((mSz M) zz)))), (am 4, .inl (cZ, 64, .inl (fun zz => zI ((mIs M 2) zz)))), (am 5, .inl (cI, 64, .inl (fun zz => nI ((mQf M) zz))))] s.heap := hP
  have hD : va_D A [(am 0, .inr (1, [.ref (am 1), .ref (am 2), .ref (am 3), .ref (am 4), .ref (am 5), .int (nI (mSum M)), .int (nI (mQn M)), .int (nI (xc (mIs M 1) 64))])), (am 1, .inl (cI, 512, .inl (mHp M))), (am 2, .inl (cI, 64, .inl (mSh M))), (am 3, .inl (cI, 64, .inl (fun zz => nI ((mSz M) zz)))), (am 4, .inl (cZ, 64, .inl (fun zz => zI ((mIs M 2) zz)))), (am 5, .inl (cI, 64, .inl (fun zz => nI ((mQf M) zz))))] := hD
  refine lv_iconst (v := nI 0) hx hb d_Me_load_0 (by decide) ?_
  refine lv_istore_n hx hb d_Me_load_1 rfl hl (by decide) rfl (fun ls hl => ?_)
  have hl : lv_has ls 5 [(3, .int (nI 0)), (0, .ref (am 0)), (1, .int (nI n)), (2, .int (nI w))] := hl
  refine lv_iload_n hx hb d_Me_load_2 rfl (lv_at hl 3 rfl) ?_
  refine lv_iconst (v := nI 1) hx hb d_Me_load_3 (by decide) ?_
  refine x_isub hM (by omega) d_Me_load_4 ?_
  refine lv_istore hx hb d_Me_load_5 hl (by decide) rfl (fun ls hl => ?_)
  have hl : lv_has ls 5 [(4, .int (nI (w - 1))), (3, .int (nI 0)), (0, .ref (am 0)), (1, .int (nI n)), (2, .int (nI w))] := hl
  rw [show nI (w - 1) = xm w by rw [show w = (w - 1) + 1 by omega, xm_s]; simp] at hl
  have hl : lv_has ls 5 [(4, .int (xm w)), (3, .int (nI 0)), (0, .ref (am 0)), (1, .int (nI n)), (2, .int (nI w))] := hl
  have loop7 : ∀ (K7 : Nat) (t : Nat) (ls : Array Slot) (H : Heap) (locs : List Loc), (t ≤ w) → t = K7 → lv_has ls 5 [(4, .int (xm t)), (3, .int (xld (mHp M) n w (w - t))), (0, .ref (am 0)), (1, .int (nI n)), (2, .int (nI w))] → va_P D vwCl [(am 0, .inr (1, [.ref (am 1), .ref (am 2), .ref (am 3), .ref (am 4), .ref (am 5), .int (nI (mSum M)), .int (nI (mQn M)), .int (nI (xc (mIs M 1) 64))])), (am 1, .inl (cI, 512, .inl (mHp M))), (am 2, .inl (cI, 64, .inl (mSh M))), (am 3, .inl (cI, 64, .inl (fun zz => nI ((mSz M) zz)))), (am 4, .inl (cZ, 64, .inl (fun zz => zI ((mIs M 2) zz)))), (am 5, .inl (cI, 64, .inl (fun zz => nI ((mQf M) zz))))] H → va_D A [(am 0, .inr (1, [.ref (am 1), .ref (am 2), .ref (am 3), .ref (am 4), .ref (am 5), .int (nI (mSum M)), .int (nI (mQn M)), .int (nI (xc (mIs M 1) 64))])), (am 1, .inl (cI, 512, .inl (mHp M))), (am 2, .inl (cI, 64, .inl (mSh M))), (am 3, .inl (cI, 64, .inl (fun zz => nI ((mSz M) zz)))), (am 4, .inl (cZ, 64, .inl (fun zz => zI ((mIs M 2) zz)))), (am 5, .inl (cI, 64, .inl (fun zz => nI ((mQf M) zz))))] → va_S A s.heap H locs → W p l e rm_Me_load s m args below meth c H locs 0 0 Q (F0 m 7 ls []) := by
    intro K7
    induction K7 using Nat.strongRecOn with
    | _ K7 ih7 =>
      intro t ls H locs g1 hK7 hl hP hD hS
      refine lv_iload hx hb d_Me_load_7 (lv_at hl 0 rfl) ?_
      refine lv_if_lt (tgt := 33) hx hb d_Me_load_9 (by decide) (fun hc9 => ?_) (fun hc9 => ?_)
      · skip
        refine lv_iload_n hx hb d_Me_load_33 rfl (lv_at hl 1 rfl) ?_
        have ht0 : t = 0 := xm_z (by omega) hc9
        exact x_iret hM hQ (by rw [ht0, Nat.sub_zero]) rfl hP hK hD hS d_Me_load_34
      · skip
        obtain ⟨j, rfl⟩ : ∃ j, t = j + 1 := ⟨t - 1, by have : t ≠ 0 := fun h => hc9 (by rw [h]; exact xm_0); omega⟩
        rw [xm_s] at hl
        have hl : lv_has ls 5 [(4, .int (nI j)), (3, .int (xld (mHp M) n w (w - (j + 1)))), (0, .ref (am 0)), (1, .int (nI n)), (2, .int (nI w))] := hl
        refine lv_iload_n hx hb d_Me_load_12 rfl (lv_at hl 1 rfl) ?_
        refine lv_bipush (v := nI 8) hx hb d_Me_load_13 (by decide) ?_
        refine lv_ishl hx hb d_Me_load_15 ?_
        refine lv_aload_n hx hb d_Me_load_16 rfl (lv_at hl 2 rfl) ?_
        refine x_get hM hK hP 0 1 0 i_Me rfl rfl (by decide) q_fl_Me_11 rfl d_Me_load_17 ?_
        refine lv_iload_n hx hb d_Me_load_20 rfl (lv_at hl 3 rfl) ?_
        refine lv_iload hx hb d_Me_load_21 (lv_at hl 0 rfl) ?_
        refine x_iadd hM d_Me_load_23 ?_
        refine x_iald hM hK hP 1 0 rfl rfl (by omega) (by decide) d_Me_load_24 ?_
        refine lv_ior hx hb d_Me_load_25 ?_
        refine lv_istore_n hx hb d_Me_load_26 rfl hl (by decide) rfl (fun ls hl => ?_)
        have hl : lv_has ls 5 [(3, .int (((xld (mHp M) n w (w - (j + 1))) <<< ((nI 8) &&& 31)) ||| ((mHp M) (n + j)))), (4, .int (nI j)), (0, .ref (am 0)), (1, .int (nI n)), (2, .int (nI w))] := hl
        have e27 : ((xld (mHp M) n w (w - (j + 1))) <<< ((nI 8) &&& 31)) ||| ((mHp M) (n + j)) = xld (mHp M) n w (w - j) := by rw [show w - j = (w - (j + 1)) + 1 by omega, xld, show w - 1 - (w - (j + 1)) = j by omega]
        rw [e27] at hl
        have hl : lv_has ls 5 [(3, .int (xld (mHp M) n w (w - j))), (4, .int (nI j)), (0, .ref (am 0)), (1, .int (nI n)), (2, .int (nI w))] := hl
        refine lv_iinc (k := 1) (v := xm j) hx hb d_Me_load_27 hl rfl (xm_d _) (by decide) rfl (fun ls hl => ?_)
        have hl : lv_has ls 5 [(4, .int (xm j)), (3, .int (xld (mHp M) n w (w - j))), (0, .ref (am 0)), (1, .int (nI n)), (2, .int (nI w))] := hl
        refine lv_goto hx hb d_Me_load_30 (tgt := 7) (by decide) ?_
        exact ih7 _ (by omega) j ls H locs (by omega) rfl hl hP hD hS
  have hl : lv_has ls 5 [(4, .int (xm w)), (3, .int (xld (mHp M) n w (w - w))), (0, .ref (am 0)), (1, .int (nI n)), (2, .int (nI w))] := by rw [Nat.sub_self]; exact hl
  exact loop7 _ w ls s.heap [] (by omega) rfl hl hP hD hS
abbrev rm_Me_store : Room := { frames := 0, cells := 0, slots := 0, locals := 0 }
set_option maxHeartbeats 4000000 in
set_option maxRecDepth 100000 in
theorem c_Me_store (l : Launch) (D : va_G) (cI cZ cJ : ClassId) (sz : Nat) (am : Nat → Nat) (M : xMem) (n : Nat) (w : Nat) (v : Int32) (hn : n + w ≤ 512) (hw : w ≤ 4) : xCv l D (xT cI cZ cJ) y_Me_store k_Me_store rm_Me_store sz (wMe cI cZ am M) [.ref (am 0), .int (nI n), .int (nI w), .int v] (wMe cI cZ am (xst (mHp M) n v w, mSh M, mOw M, mSz M, mQn M, mQf M)) 0 0 := by
  refine x_ofv (cc := b_Me_store) (nL := 5) (ret := none) (by decide) rfl (Nat.le_of_ble_eq_true rfl) ?_
  intro p e s m args below meth c ls A Q hQ hM hsz hP hK hD hA hl
  obtain ⟨hx, hb, -, hml, hown, hts, -⟩ := id hM
  have hS : va_S A s.heap s.heap [] := va_S.rf
  have hl : lv_has ls 5 [(0, .ref (am 0)), (1, .int (nI n)), (2, .int (nI w)), (3, .int v)] := hl
  have hP : va_P D vwCl [(am 0, .inr (1, [.ref (am 1), .ref (am 2), .ref (am 3), .ref (am 4), .ref (am 5), .int (nI (mSum M)), .int (nI (mQn M)), .int (nI (xc (mIs M 1) 64))])), (am 1, .inl (cI, 512, .inl (mHp M))), (am 2, .inl (cI, 64, .inl (mSh M))), (am 3, .inl (cI, 64, .inl (fun zz => nI ((mSz M) zz)))), (am 4, .inl (cZ, 64, .inl (fun zz => zI ((mIs M 2) zz)))), (am 5, .inl (cI, 64, .inl (fun zz => nI ((mQf M) zz))))] s.heap := hP
  have hD : va_D A [(am 0, .inr (1, [.ref (am 1), .ref (am 2), .ref (am 3), .ref (am 4), .ref (am 5), .int (nI (mSum M)), .int (nI (mQn M)), .int (nI (xc (mIs M 1) 64))])), (am 1, .inl (cI, 512, .inl (mHp M))), (am 2, .inl (cI, 64, .inl (mSh M))), (am 3, .inl (cI, 64, .inl (fun zz => nI ((mSz M) zz)))), (am 4, .inl (cZ, 64, .inl (fun zz => zI ((mIs M 2) zz)))), (am 5, .inl (cI, 64, .inl (fun zz => nI ((mQf M) zz))))] := hD
  refine lv_iconst (v := nI 0) hx hb d_Me_store_0 (by decide) ?_
  refine lv_istore hx hb d_Me_store_1 hl (by decide) rfl (fun ls hl => ?_)
  have hl : lv_has ls 5 [(4, .int (nI 0)), (0, .ref (am 0)), (1, .int (nI n)), (2, .int (nI w)), (3, .int v)] := hl
  have loop3 : ∀ (K3 : Nat) (j : Nat) (f : Nat → Int32) (ls : Array Slot) (H : Heap) (locs : List Loc), (j ≤ w) → (f = xst (mHp M) n v j) → w - j = K3 → lv_has ls 5 [(4, .int (nI j)), (0, .ref (am 0)), (1, .int (nI n)), (2, .int (nI w)), (3, .int v)] → va_P D vwCl [(am 0, .inr (1, [.ref (am 1), .ref (am 2), .ref (am 3), .ref (am 4), .ref (am 5), .int (nI (mSum M)), .int (nI (mQn M)), .int (nI (xc (mIs M 1) 64))])), (am 1, .inl (cI, 512, .inl f)), (am 2, .inl (cI, 64, .inl (mSh M))), (am 3, .inl (cI, 64, .inl (fun zz => nI ((mSz M) zz)))), (am 4, .inl (cZ, 64, .inl (fun zz => zI ((mIs M 2) zz)))), (am 5, .inl (cI, 64, .inl (fun zz => nI ((mQf M) zz))))] H → va_D A [(am 0, .inr (1, [.ref (am 1), .ref (am 2), .ref (am 3), .ref (am 4), .ref (am 5), .int (nI (mSum M)), .int (nI (mQn M)), .int (nI (xc (mIs M 1) 64))])), (am 1, .inl (cI, 512, .inl f)), (am 2, .inl (cI, 64, .inl (mSh M))), (am 3, .inl (cI, 64, .inl (fun zz => nI ((mSz M) zz)))), (am 4, .inl (cZ, 64, .inl (fun zz => zI ((mIs M 2) zz)))), (am 5, .inl (cI, 64, .inl (fun zz => nI ((mQf M) zz))))] → va_S A s.heap H locs → W p l e rm_Me_store s m args below meth c H locs 0 0 Q (F0 m 3 ls []) := by
    intro K3
    induction K3 using Nat.strongRecOn with
    | _ K3 ih3 =>
      intro j f ls H locs g1 hf hK3 hl hP hD hS
      refine lv_iload hx hb d_Me_store_3 (lv_at hl 0 rfl) ?_
      refine lv_iload_n hx hb d_Me_store_5 rfl (lv_at hl 3 rfl) ?_
      refine x_icmp_ge (tgt := 35) hM (by omega) (by omega) d_Me_store_6 (by decide) (fun hc6 => ?_) (fun hc6 => ?_)
      · skip
        obtain rfl : j = w := by omega
        subst hf
        exact x_vret hM hQ rfl hP hK hD hS d_Me_store_35
      · skip
        refine lv_aload_n hx hb d_Me_store_9 rfl (lv_at hl 1 rfl) ?_
        refine x_get hM hK hP 0 1 0 i_Me rfl rfl (by decide) q_fl_Me_11 rfl d_Me_store_10 ?_
        refine lv_iload_n hx hb d_Me_store_13 rfl (lv_at hl 2 rfl) ?_
        refine lv_iload hx hb d_Me_store_14 (lv_at hl 0 rfl) ?_
        refine x_iadd hM d_Me_store_16 ?_
        refine lv_iload_n hx hb d_Me_store_17 rfl (lv_at hl 4 rfl) ?_
        refine lv_bipush (v := nI 8) hx hb d_Me_store_18 (by decide) ?_
        refine lv_iload hx hb d_Me_store_20 (lv_at hl 0 rfl) ?_
        refine x_imul hM d_Me_store_22 ?_
        refine lv_iushr hx hb d_Me_store_23 rfl ?_
        refine lv_sipush (v := nI 255) hx hb d_Me_store_24 (by decide) ?_
        refine lv_iand hx hb d_Me_store_27 ?_
        refine x_iast hM hK hP hD hS 1 0 rfl rfl (by omega) (by decide) d_Me_store_28 (fun H locs hP hD hS => ?_)
        have hP : va_P D vwCl [(am 0, .inr (1, [.ref (am 1), .ref (am 2), .ref (am 3), .ref (am 4), .ref (am 5), .int (nI (mSum M)), .int (nI (mQn M)), .int (nI (xc (mIs M 1) 64))])), (am 1, .inl (cI, 512, .inl (xu f (n + j) (((v.toUInt32 >>> ((nI (8 * j)).toUInt32 &&& Int32.toUInt32 31)).toInt32) &&& (nI 255))))), (am 2, .inl (cI, 64, .inl (mSh M))), (am 3, .inl (cI, 64, .inl (fun zz => nI ((mSz M) zz)))), (am 4, .inl (cZ, 64, .inl (fun zz => zI ((mIs M 2) zz)))), (am 5, .inl (cI, 64, .inl (fun zz => nI ((mQf M) zz))))] H := hP
        have hD : va_D A [(am 0, .inr (1, [.ref (am 1), .ref (am 2), .ref (am 3), .ref (am 4), .ref (am 5), .int (nI (mSum M)), .int (nI (mQn M)), .int (nI (xc (mIs M 1) 64))])), (am 1, .inl (cI, 512, .inl (xu f (n + j) (((v.toUInt32 >>> ((nI (8 * j)).toUInt32 &&& Int32.toUInt32 31)).toInt32) &&& (nI 255))))), (am 2, .inl (cI, 64, .inl (mSh M))), (am 3, .inl (cI, 64, .inl (fun zz => nI ((mSz M) zz)))), (am 4, .inl (cZ, 64, .inl (fun zz => zI ((mIs M 2) zz)))), (am 5, .inl (cI, 64, .inl (fun zz => nI ((mQf M) zz))))] := hD
        refine lv_iinc (k := 0) (v := nI (j + 1)) hx hb d_Me_store_29 hl rfl (by rw [show Int32.ofInt 1 = nI 1 by decide, nI_add]) (by decide) rfl (fun ls hl => ?_)
        have hl : lv_has ls 5 [(4, .int (nI (j + 1))), (0, .ref (am 0)), (1, .int (nI n)), (2, .int (nI w)), (3, .int v)] := hl
        refine lv_goto hx hb d_Me_store_32 (tgt := 3) (by decide) ?_
        exact ih3 _ (by omega) (j + 1) (xu f (n + j) (((v.toUInt32 >>> ((nI (8 * j)).toUInt32 &&& Int32.toUInt32 31)).toInt32) &&& (nI 255))) ls H locs (by omega) (by rw [hf, xbt_eq v (show j < 4 by omega)]; rfl) rfl hl hP hD hS
  exact loop3 _ 0 (mHp M) ls s.heap [] (by omega) rfl rfl hl hP hD hS
abbrev rm_Me_kindOfTouch : Room := { frames := 1, cells := 0, slots := 0, locals := 21 }
set_option maxHeartbeats 4000000 in
set_option maxRecDepth 100000 in
theorem c_Me_kindOfTouch (l : Launch) (D : va_G) (cI cZ cJ : ClassId) (sz : Nat) (am : Nat → Nat) (M : xMem) (x : Int32)  : xCi l D (xT cI cZ cJ) y_Me_kindOfTouch k_Me_kindOfTouch rm_Me_kindOfTouch sz (wMe cI cZ am M) [.ref (am 0), .int x] (nI (mWr M x)) (wMe cI cZ am M) 0 0 := by
  refine x_ofi (cc := b_Me_kindOfTouch) (nL := 2) (ret := (some .int)) (by decide) rfl (Nat.le_of_ble_eq_true rfl) ?_
  intro p e s m args below meth c ls A Q hQ hM hsz hP hK hD hA hl
  obtain ⟨hx, hb, -, hml, hown, hts, -⟩ := id hM
  have hS : va_S A s.heap s.heap [] := va_S.rf
  have hl : lv_has ls 2 [(0, .ref (am 0)), (1, .int x)] := hl
  have hP : va_P D vwCl [(am 0, .inr (1, [.ref (am 1), .ref (am 2), .ref (am 3), .ref (am 4), .ref (am 5), .int (nI (mSum M)), .int (nI (mQn M)), .int (nI (xc (mIs M 1) 64))])), (am 1, .inl (cI, 512, .inl (mHp M))), (am 2, .inl (cI, 64, .inl (mSh M))), (am 3, .inl (cI, 64, .inl (fun zz => nI ((mSz M) zz)))), (am 4, .inl (cZ, 64, .inl (fun zz => zI ((mIs M 2) zz)))), (am 5, .inl (cI, 64, .inl (fun zz => nI ((mQf M) zz))))] s.heap := hP
  have hD : va_D A [(am 0, .inr (1, [.ref (am 1), .ref (am 2), .ref (am 3), .ref (am 4), .ref (am 5), .int (nI (mSum M)), .int (nI (mQn M)), .int (nI (xc (mIs M 1) 64))])), (am 1, .inl (cI, 512, .inl (mHp M))), (am 2, .inl (cI, 64, .inl (mSh M))), (am 3, .inl (cI, 64, .inl (fun zz => nI ((mSz M) zz)))), (am 4, .inl (cZ, 64, .inl (fun zz => zI ((mIs M 2) zz)))), (am 5, .inl (cI, 64, .inl (fun zz => nI ((mQf M) zz))))] := hD
  refine lv_iload_n hx hb d_Me_kindOfTouch_0 rfl (lv_at hl 1 rfl) ?_
  refine lv_iconst (v := nI 1) hx hb d_Me_kindOfTouch_1 (by decide) ?_
  refine x_calli (wc := []) (wr := [(am 0, .inr (1, [.ref (am 1), .ref (am 2), .ref (am 3), .ref (am 4), .ref (am 5), .int (nI (mSum M)), .int (nI (mQn M)), .int (nI (xc (mIs M 1) 64))])), (am 1, .inl (cI, 512, .inl (mHp M))), (am 2, .inl (cI, 64, .inl (mSh M))), (am 3, .inl (cI, 64, .inl (fun zz => nI ((mSz M) zz)))), (am 4, .inl (cZ, 64, .inl (fun zz => zI ((mIs M 2) zz)))), (am 5, .inl (cI, 64, .inl (fun zz => nI ((mQf M) zz))))]) (va_runS (As := [.int x, .int (nI 1)]) (rest := []) ⟨hx, hb, hml, hown, hts⟩ (c_Me_holds l D cI cZ cJ _ x 1 (by omega)) (va_cwS 2 hts (bw_S q_ml_Me_41 q_st_Me_holds q_in_Me q_cd_Me_holds) rfl rfl rfl ⟨by decide, by decide, by decide +kernel⟩ ⟨Nat.le_of_ble_eq_true rfl, Nat.le_of_ble_eq_true rfl⟩) (x_pre (wc := []) hP hD hK [] rfl (by decide)) rfl rfl hl.1 rfl (lv_room (Nat.le_of_ble_eq_true rfl)) d_Me_kindOfTouch_2 ⟨Nat.le_of_ble_eq_true rfl, Nat.le_of_ble_eq_true rfl⟩) hP hD hS hA [] [0, 1, 2, 3, 4, 5] rfl rfl (by decide) (by decide) (fun H locs hP hD hS => ?_)
  have hP : va_P D vwCl [(am 0, .inr (1, [.ref (am 1), .ref (am 2), .ref (am 3), .ref (am 4), .ref (am 5), .int (nI (mSum M)), .int (nI (mQn M)), .int (nI (xc (mIs M 1) 64))])), (am 1, .inl (cI, 512, .inl (mHp M))), (am 2, .inl (cI, 64, .inl (mSh M))), (am 3, .inl (cI, 64, .inl (fun zz => nI ((mSz M) zz)))), (am 4, .inl (cZ, 64, .inl (fun zz => zI ((mIs M 2) zz)))), (am 5, .inl (cI, 64, .inl (fun zz => nI ((mQf M) zz))))] H := hP
  have hD : va_D A [(am 0, .inr (1, [.ref (am 1), .ref (am 2), .ref (am 3), .ref (am 4), .ref (am 5), .int (nI (mSum M)), .int (nI (mQn M)), .int (nI (xc (mIs M 1) 64))])), (am 1, .inl (cI, 512, .inl (mHp M))), (am 2, .inl (cI, 64, .inl (mSh M))), (am 3, .inl (cI, 64, .inl (fun zz => nI ((mSz M) zz)))), (am 4, .inl (cZ, 64, .inl (fun zz => zI ((mIs M 2) zz)))), (am 5, .inl (cI, 64, .inl (fun zz => nI ((mQf M) zz))))] := hD
  refine x_if_neZ (b := xr x (512 - 1 + 1)) (tgt := 10) hM d_Me_kindOfTouch_5 (by decide) (fun hc5 => ?_) (fun hc5 => ?_)
  · skip
    obtain ⟨n, hn, rfl⟩ := xr_nat (n := 512) hc5 (by decide)
    refine lv_aload_n hx hb d_Me_kindOfTouch_10 rfl (lv_at hl 0 rfl) ?_
    refine x_get hM hK hP 0 1 1 i_Me rfl rfl (by decide) q_fl_Me_15 rfl d_Me_kindOfTouch_11 ?_
    refine lv_iload_n hx hb d_Me_kindOfTouch_14 rfl (lv_at hl 1 rfl) ?_
    refine lv_bipush (v := nI 8) hx hb d_Me_kindOfTouch_15 (by decide) ?_
    refine x_idiv hM (by omega) (by omega) (by omega) d_Me_kindOfTouch_17 ?_
    refine x_iald hM hK hP 2 0 rfl rfl (by omega) (by decide) d_Me_kindOfTouch_18 ?_
    by_cases hc19 : (mSh M) (n / 8) = (-3)
    · skip
      refine lv_tableIn (off := 35) (tgt := 54) hx hb d_Me_kindOfTouch_19 (by rw [hc19]; decide) (by rw [hc19]; decide) (by rw [hc19]; decide) (by decide) ?_
      refine lv_iconst (v := nI 3) hx hb d_Me_kindOfTouch_54 (by decide) ?_
      exact x_iret hM hQ (by rw [mWr_n hn, mTc_3 hc19]) rfl hP hK hD hS d_Me_kindOfTouch_55
    by_cases hc19' : (mSh M) (n / 8) = (-2)
    · skip
      refine lv_tableIn (off := 33) (tgt := 52) hx hb d_Me_kindOfTouch_19 (by rw [hc19']; decide) (by rw [hc19']; decide) (by rw [hc19']; decide) (by decide) ?_
      refine lv_iconst (v := nI 2) hx hb d_Me_kindOfTouch_52 (by decide) ?_
      exact x_iret hM hQ (by rw [mWr_n hn, mTc_2 hc19']) rfl hP hK hD hS d_Me_kindOfTouch_53
    by_cases hc19'' : (mSh M) (n / 8) = (-1)
    · skip
      refine lv_tableIn (off := 31) (tgt := 50) hx hb d_Me_kindOfTouch_19 (by rw [hc19'']; decide) (by rw [hc19'']; decide) (by rw [hc19'']; decide) (by decide) ?_
      refine lv_iconst (v := nI 1) hx hb d_Me_kindOfTouch_50 (by decide) ?_
      exact x_iret hM hQ (by rw [mWr_n hn, mTc_m1 hc19'']) rfl hP hK hD hS d_Me_kindOfTouch_51
    by_cases hc19''' : (mSh M) (n / 8) = 0
    · skip
      refine lv_tableIn (off := 29) (tgt := 48) hx hb d_Me_kindOfTouch_19 (by rw [hc19''']; decide) (by rw [hc19''']; decide) (by rw [hc19''']; decide) (by decide) ?_
      refine lv_iconst (v := nI 0) hx hb d_Me_kindOfTouch_48 (by decide) ?_
      exact x_iret hM hQ (by rw [mWr_n hn, mTc_0 hc19''']) rfl hP hK hD hS d_Me_kindOfTouch_49
    refine lv_tableOut (tgt := 56) hx hb d_Me_kindOfTouch_19 (x_t30 hc19 hc19' hc19'' hc19''') (by decide) ?_
    refine lv_iload_n hx hb d_Me_kindOfTouch_56 rfl (lv_at hl 1 rfl) ?_
    refine lv_bipush (v := nI 8) hx hb d_Me_kindOfTouch_57 (by decide) ?_
    refine x_irem hM (by omega) (by omega) (by omega) d_Me_kindOfTouch_59 ?_
    refine lv_aload_n hx hb d_Me_kindOfTouch_60 rfl (lv_at hl 0 rfl) ?_
    refine x_get hM hK hP 0 1 1 i_Me rfl rfl (by decide) q_fl_Me_15 rfl d_Me_kindOfTouch_61 ?_
    refine lv_iload_n hx hb d_Me_kindOfTouch_64 rfl (lv_at hl 1 rfl) ?_
    refine lv_bipush (v := nI 8) hx hb d_Me_kindOfTouch_65 (by decide) ?_
    refine x_idiv hM (by omega) (by omega) (by omega) d_Me_kindOfTouch_67 ?_
    refine x_iald hM hK hP 2 0 rfl rfl (by omega) (by decide) d_Me_kindOfTouch_68 ?_
    refine lv_icmp_ge (tgt := 76) hx hb d_Me_kindOfTouch_69 (by decide) (fun hc69 => ?_) (fun hc69 => ?_)
    · skip
      refine lv_iconst (v := nI 1) hx hb d_Me_kindOfTouch_76 (by decide) ?_
      exact x_iret hM hQ (by rw [mWr_n hn, mTc_1 hc19''' (Or.inr hc69) hc19' hc19]) rfl hP hK hD hS d_Me_kindOfTouch_77
    · skip
      refine lv_iconst (v := nI 0) hx hb d_Me_kindOfTouch_72 (by decide) ?_
      refine lv_goto hx hb d_Me_kindOfTouch_73 (tgt := 77) (by decide) ?_
      exact x_iret hM hQ (by rw [mWr_n hn, mTc_q (by omega) hc69]) rfl hP hK hD hS d_Me_kindOfTouch_77
  · skip
    refine lv_iconst (v := nI 5) hx hb d_Me_kindOfTouch_8 (by decide) ?_
    exact x_iret hM hQ (by rw [mWr_o (x := x) hc5]) rfl hP hK hD hS d_Me_kindOfTouch_9
abbrev rm_Me_mayFree : Room := { frames := 1, cells := 0, slots := 0, locals := 21 }
set_option maxHeartbeats 4000000 in
set_option maxRecDepth 100000 in
theorem c_Me_mayFree (l : Launch) (D : va_G) (cI cZ cJ : ClassId) (sz : Nat) (am : Nat → Nat) (M : xMem) (x : Int32) (B : Nat) (hm : mOk B M) : xCi l D (xT cI cZ cJ) y_Me_mayFree k_Me_mayFree rm_Me_mayFree sz (wMe cI cZ am M) [.ref (am 0), .int x] (zI (mMf M x)) (wMe cI cZ am M) 0 0 := by
  refine x_ofi (cc := b_Me_mayFree) (nL := 3) (ret := (some .boolean)) (by decide) rfl (Nat.le_of_ble_eq_true rfl) ?_
  intro p e s m args below meth c ls A Q hQ hM hsz hP hK hD hA hl
  obtain ⟨hx, hb, -, hml, hown, hts, -⟩ := id hM
  have hS : va_S A s.heap s.heap [] := va_S.rf
  have hl : lv_has ls 3 [(0, .ref (am 0)), (1, .int x)] := hl
  have hP : va_P D vwCl [(am 0, .inr (1, [.ref (am 1), .ref (am 2), .ref (am 3), .ref (am 4), .ref (am 5), .int (nI (mSum M)), .int (nI (mQn M)), .int (nI (xc (mIs M 1) 64))])), (am 1, .inl (cI, 512, .inl (mHp M))), (am 2, .inl (cI, 64, .inl (mSh M))), (am 3, .inl (cI, 64, .inl (fun zz => nI ((mSz M) zz)))), (am 4, .inl (cZ, 64, .inl (fun zz => zI ((mIs M 2) zz)))), (am 5, .inl (cI, 64, .inl (fun zz => nI ((mQf M) zz))))] s.heap := hP
  have hD : va_D A [(am 0, .inr (1, [.ref (am 1), .ref (am 2), .ref (am 3), .ref (am 4), .ref (am 5), .int (nI (mSum M)), .int (nI (mQn M)), .int (nI (xc (mIs M 1) 64))])), (am 1, .inl (cI, 512, .inl (mHp M))), (am 2, .inl (cI, 64, .inl (mSh M))), (am 3, .inl (cI, 64, .inl (fun zz => nI ((mSz M) zz)))), (am 4, .inl (cZ, 64, .inl (fun zz => zI ((mIs M 2) zz)))), (am 5, .inl (cI, 64, .inl (fun zz => nI ((mQf M) zz))))] := hD
  refine lv_iload_n hx hb d_Me_mayFree_0 rfl (lv_at hl 1 rfl) ?_
  refine lv_if_ne (tgt := 6) hx hb d_Me_mayFree_1 (by decide) (fun hc1 => ?_) (fun hc1 => ?_)
  · skip
    refine lv_iload_n hx hb d_Me_mayFree_6 rfl (lv_at hl 1 rfl) ?_
    refine lv_iconst (v := nI 1) hx hb d_Me_mayFree_7 (by decide) ?_
    refine x_calli (wc := []) (wr := [(am 0, .inr (1, [.ref (am 1), .ref (am 2), .ref (am 3), .ref (am 4), .ref (am 5), .int (nI (mSum M)), .int (nI (mQn M)), .int (nI (xc (mIs M 1) 64))])), (am 1, .inl (cI, 512, .inl (mHp M))), (am 2, .inl (cI, 64, .inl (mSh M))), (am 3, .inl (cI, 64, .inl (fun zz => nI ((mSz M) zz)))), (am 4, .inl (cZ, 64, .inl (fun zz => zI ((mIs M 2) zz)))), (am 5, .inl (cI, 64, .inl (fun zz => nI ((mQf M) zz))))]) (va_runS (As := [.int x, .int (nI 1)]) (rest := []) ⟨hx, hb, hml, hown, hts⟩ (c_Me_holds l D cI cZ cJ _ x 1 (by omega)) (va_cwS 2 hts (bw_S q_ml_Me_41 q_st_Me_holds q_in_Me q_cd_Me_holds) rfl rfl rfl ⟨by decide, by decide, by decide +kernel⟩ ⟨Nat.le_of_ble_eq_true rfl, Nat.le_of_ble_eq_true rfl⟩) (x_pre (wc := []) hP hD hK [] rfl (by decide)) rfl rfl hl.1 rfl (lv_room (Nat.le_of_ble_eq_true rfl)) d_Me_mayFree_8 ⟨Nat.le_of_ble_eq_true rfl, Nat.le_of_ble_eq_true rfl⟩) hP hD hS hA [] [0, 1, 2, 3, 4, 5] rfl rfl (by decide) (by decide) (fun H locs hP hD hS => ?_)
    have hP : va_P D vwCl [(am 0, .inr (1, [.ref (am 1), .ref (am 2), .ref (am 3), .ref (am 4), .ref (am 5), .int (nI (mSum M)), .int (nI (mQn M)), .int (nI (xc (mIs M 1) 64))])), (am 1, .inl (cI, 512, .inl (mHp M))), (am 2, .inl (cI, 64, .inl (mSh M))), (am 3, .inl (cI, 64, .inl (fun zz => nI ((mSz M) zz)))), (am 4, .inl (cZ, 64, .inl (fun zz => zI ((mIs M 2) zz)))), (am 5, .inl (cI, 64, .inl (fun zz => nI ((mQf M) zz))))] H := hP
    have hD : va_D A [(am 0, .inr (1, [.ref (am 1), .ref (am 2), .ref (am 3), .ref (am 4), .ref (am 5), .int (nI (mSum M)), .int (nI (mQn M)), .int (nI (xc (mIs M 1) 64))])), (am 1, .inl (cI, 512, .inl (mHp M))), (am 2, .inl (cI, 64, .inl (mSh M))), (am 3, .inl (cI, 64, .inl (fun zz => nI ((mSz M) zz)))), (am 4, .inl (cZ, 64, .inl (fun zz => zI ((mIs M 2) zz)))), (am 5, .inl (cI, 64, .inl (fun zz => nI ((mQf M) zz))))] := hD
    refine x_if_eqZ (b := xr x (512 - 1 + 1)) (tgt := 21) hM d_Me_mayFree_11 (by decide) (fun hc11 => ?_) (fun hc11 => ?_)
    · skip
      refine lv_iconst (v := nI 0) hx hb d_Me_mayFree_21 (by decide) ?_
      exact x_zret hM hQ (by decide) (by exact x_z0 (by unfold mMf; rw [decide_eq_false hc1, mBl_o hc11]; rfl)) rfl hP hK hD hS d_Me_mayFree_22
    · skip
      obtain ⟨n, hn, rfl⟩ := xr_nat (n := 512) hc11 (by decide)
      have hn0 : n ≠ 0 := fun h => hc1 (by rw [h]; rfl)
      refine lv_iload_n hx hb d_Me_mayFree_14 rfl (lv_at hl 1 rfl) ?_
      refine lv_bipush (v := nI 8) hx hb d_Me_mayFree_15 (by decide) ?_
      refine x_irem hM (by omega) (by omega) (by omega) d_Me_mayFree_17 ?_
      refine x_if_eq (tgt := 23) hM (by omega) d_Me_mayFree_18 (by decide) (fun hc18 => ?_) (fun hc18 => ?_)
      · skip
        refine lv_iload_n hx hb d_Me_mayFree_23 rfl (lv_at hl 1 rfl) ?_
        refine lv_bipush (v := nI 8) hx hb d_Me_mayFree_24 (by decide) ?_
        refine x_idiv hM (by omega) (by omega) (by omega) d_Me_mayFree_26 ?_
        refine lv_iconst (v := nI 1) hx hb d_Me_mayFree_27 (by decide) ?_
        refine x_isub hM (by omega) d_Me_mayFree_28 ?_
        refine lv_istore_n hx hb d_Me_mayFree_29 rfl hl (by decide) rfl (fun ls hl => ?_)
        have hl : lv_has ls 3 [(2, .int (nI ((n / 8) - 1))), (0, .ref (am 0)), (1, .int (nI n))] := hl
        have hz := mOk_sz hm (n / 8 - 1)
        refine lv_aload_n hx hb d_Me_mayFree_30 rfl (lv_at hl 1 rfl) ?_
        refine x_get hM hK hP 0 1 2 i_Me rfl rfl (by decide) q_fl_Me_18 rfl d_Me_mayFree_31 ?_
        refine lv_iload_n hx hb d_Me_mayFree_34 rfl (lv_at hl 0 rfl) ?_
        refine x_iald hM hK hP 3 0 rfl rfl (by omega) (by decide) d_Me_mayFree_35 ?_
        refine x_if_le (tgt := 52) hM (by omega) d_Me_mayFree_36 (by decide) (fun hc36 => ?_) (fun hc36 => ?_)
        · skip
          refine lv_iconst (v := nI 0) hx hb d_Me_mayFree_52 (by decide) ?_
          exact x_zret hM hQ (by decide) (by exact x_z0 (by unfold mMf; rw [decide_eq_false hc1, mBl_n hn, Bool.false_or]; exact decide_eq_false (by omega))) rfl hP hK hD hS d_Me_mayFree_53
        · skip
          refine lv_aload_n hx hb d_Me_mayFree_39 rfl (lv_at hl 1 rfl) ?_
          refine x_get hM hK hP 0 1 3 i_Me rfl rfl (by decide) q_fl_Me_21 rfl d_Me_mayFree_40 ?_
          refine lv_iload_n hx hb d_Me_mayFree_43 rfl (lv_at hl 0 rfl) ?_
          refine x_zald hM hK hP 4 1 rfl rfl (by omega) (by decide) d_Me_mayFree_44 ?_
          refine x_if_neZ (b := (mIs M 2) ((n / 8) - 1)) (tgt := 52) hM d_Me_mayFree_45 (by decide) (fun hc45 => ?_) (fun hc45 => ?_)
          · skip
            refine lv_iconst (v := nI 0) hx hb d_Me_mayFree_52 (by decide) ?_
            exact x_zret hM hQ (by decide) (by exact x_z0 (by unfold mMf; rw [decide_eq_false hc1, mBl_n hn, Bool.false_or]; exact decide_eq_false (fun h => by have := of_decide_eq_true hc45; omega))) rfl hP hK hD hS d_Me_mayFree_53
          · skip
            refine lv_iconst (v := nI 1) hx hb d_Me_mayFree_48 (by decide) ?_
            refine lv_goto hx hb d_Me_mayFree_49 (tgt := 53) (by decide) ?_
            have hne : ¬ mOw M (n / 8 - 1) = 2 := fun h => by
              rw [show mIs M 2 (n / 8 - 1) = true from decide_eq_true ⟨hc36, h⟩] at hc45; cases hc45
            have hw1 := (hm.1 _ hc36).2.2.1
            exact x_zret hM hQ (by decide) (by exact x_z1 (by unfold mMf; rw [decide_eq_false hc1, mBl_n hn, Bool.false_or]; exact decide_eq_true ⟨by omega, hc18, hc36, by omega⟩)) rfl hP hK hD hS d_Me_mayFree_53
      · skip
        refine lv_iconst (v := nI 0) hx hb d_Me_mayFree_21 (by decide) ?_
        exact x_zret hM hQ (by decide) (by exact x_z0 (by unfold mMf; rw [decide_eq_false hc1, mBl_n hn]; exact decide_eq_false (by omega))) rfl hP hK hD hS d_Me_mayFree_22
  · skip
    refine lv_iconst (v := nI 1) hx hb d_Me_mayFree_4 (by decide) ?_
    exact x_zret hM hQ (by decide) (by exact x_z1 (by unfold mMf; rw [hc1]; rfl)) rfl hP hK hD hS d_Me_mayFree_5
abbrev rm_Me_lowestGap : Room := { frames := 0, cells := 0, slots := 0, locals := 0 }
set_option maxHeartbeats 4000000 in
set_option maxRecDepth 100000 in
theorem c_Me_lowestGap (l : Launch) (D : va_G) (cI cZ cJ : ClassId) (sz : Nat) (am : Nat → Nat) (M : xMem) (n : Nat) (B : Nat) (hm : mOk B M) (h1 : 1 ≤ n) (hn : n ≤ 64) : xCi l D (xT cI cZ cJ) y_Me_lowestGap k_Me_lowestGap rm_Me_lowestGap sz (wMe cI cZ am M) [.ref (am 0), .int (nI n)] (oI (mGap M n)) (wMe cI cZ am M) 0 0 := by
  refine x_ofi (cc := b_Me_lowestGap) (nL := 4) (ret := (some .int)) (by decide) rfl (Nat.le_of_ble_eq_true rfl) ?_
  intro p e s m args below meth c ls A Q hQ hM hsz hP hK hD hA hl
  obtain ⟨hx, hb, -, hml, hown, hts, -⟩ := id hM
  have hS : va_S A s.heap s.heap [] := va_S.rf
  have hl : lv_has ls 4 [(0, .ref (am 0)), (1, .int (nI n))] := hl
  have hP : va_P D vwCl [(am 0, .inr (1, [.ref (am 1), .ref (am 2), .ref (am 3), .ref (am 4), .ref (am 5), .int (nI (mSum M)), .int (nI (mQn M)), .int (nI (xc (mIs M 1) 64))])), (am 1, .inl (cI, 512, .inl (mHp M))), (am 2, .inl (cI, 64, .inl (mSh M))), (am 3, .inl (cI, 64, .inl (fun zz => nI ((mSz M) zz)))), (am 4, .inl (cZ, 64, .inl (fun zz => zI ((mIs M 2) zz)))), (am 5, .inl (cI, 64, .inl (fun zz => nI ((mQf M) zz))))] s.heap := hP
  have hD : va_D A [(am 0, .inr (1, [.ref (am 1), .ref (am 2), .ref (am 3), .ref (am 4), .ref (am 5), .int (nI (mSum M)), .int (nI (mQn M)), .int (nI (xc (mIs M 1) 64))])), (am 1, .inl (cI, 512, .inl (mHp M))), (am 2, .inl (cI, 64, .inl (mSh M))), (am 3, .inl (cI, 64, .inl (fun zz => nI ((mSz M) zz)))), (am 4, .inl (cZ, 64, .inl (fun zz => zI ((mIs M 2) zz)))), (am 5, .inl (cI, 64, .inl (fun zz => nI ((mQf M) zz))))] := hD
  refine lv_iconst (v := nI 0) hx hb d_Me_lowestGap_0 (by decide) ?_
  refine lv_istore_n hx hb d_Me_lowestGap_1 rfl hl (by decide) rfl (fun ls hl => ?_)
  have hl : lv_has ls 4 [(2, .int (nI 0)), (0, .ref (am 0)), (1, .int (nI n))] := hl
  refine lv_iconst (v := nI 0) hx hb d_Me_lowestGap_2 (by decide) ?_
  refine lv_istore_n hx hb d_Me_lowestGap_3 rfl hl (by decide) rfl (fun ls hl => ?_)
  have hl : lv_has ls 4 [(3, .int (nI 0)), (2, .int (nI 0)), (0, .ref (am 0)), (1, .int (nI n))] := hl
  have loop4 : ∀ (K4 : Nat) (z : Nat) (g : Nat) (ls : Array Slot) (H : Heap) (locs : List Loc), (mGw M n z g) → 64 - z = K4 → lv_has ls 4 [(3, .int (nI z)), (2, .int (nI g)), (0, .ref (am 0)), (1, .int (nI n))] → va_P D vwCl [(am 0, .inr (1, [.ref (am 1), .ref (am 2), .ref (am 3), .ref (am 4), .ref (am 5), .int (nI (mSum M)), .int (nI (mQn M)), .int (nI (xc (mIs M 1) 64))])), (am 1, .inl (cI, 512, .inl (mHp M))), (am 2, .inl (cI, 64, .inl (mSh M))), (am 3, .inl (cI, 64, .inl (fun zz => nI ((mSz M) zz)))), (am 4, .inl (cZ, 64, .inl (fun zz => zI ((mIs M 2) zz)))), (am 5, .inl (cI, 64, .inl (fun zz => nI ((mQf M) zz))))] H → va_D A [(am 0, .inr (1, [.ref (am 1), .ref (am 2), .ref (am 3), .ref (am 4), .ref (am 5), .int (nI (mSum M)), .int (nI (mQn M)), .int (nI (xc (mIs M 1) 64))])), (am 1, .inl (cI, 512, .inl (mHp M))), (am 2, .inl (cI, 64, .inl (mSh M))), (am 3, .inl (cI, 64, .inl (fun zz => nI ((mSz M) zz)))), (am 4, .inl (cZ, 64, .inl (fun zz => zI ((mIs M 2) zz)))), (am 5, .inl (cI, 64, .inl (fun zz => nI ((mQf M) zz))))] → va_S A s.heap H locs → W p l e rm_Me_lowestGap s m args below meth c H locs 0 0 Q (F0 m 4 ls []) := by
    intro K4
    induction K4 using Nat.strongRecOn with
    | _ K4 ih4 =>
      intro z g ls H locs gw hK4 hl hP hD hS
      have gz := mOk_sz hm z
      have g1 := gw.1
      have g2 := gw.2.1
      refine lv_iload_n hx hb d_Me_lowestGap_4 rfl (lv_at hl 0 rfl) ?_
      refine lv_bipush (v := nI 64) hx hb d_Me_lowestGap_5 (by decide) ?_
      refine x_icmp_ge (tgt := 45) hM (by omega) (by omega) d_Me_lowestGap_7 (by decide) (fun hc7 => ?_) (fun hc7 => ?_)
      · skip
        refine lv_iconst (v := -1) hx hb d_Me_lowestGap_45 (by decide) ?_
        exact x_iret hM hQ (by rw [mGw_n gw hc7]; rfl) rfl hP hK hD hS d_Me_lowestGap_46
      · skip
        refine lv_aload_n hx hb d_Me_lowestGap_10 rfl (lv_at hl 2 rfl) ?_
        refine x_get hM hK hP 0 1 2 i_Me rfl rfl (by decide) q_fl_Me_18 rfl d_Me_lowestGap_11 ?_
        refine lv_iload_n hx hb d_Me_lowestGap_14 rfl (lv_at hl 0 rfl) ?_
        refine x_iald hM hK hP 3 0 rfl rfl (by omega) (by decide) d_Me_lowestGap_15 ?_
        refine x_if_le (tgt := 33) hM (by omega) d_Me_lowestGap_16 (by decide) (fun hc16 => ?_) (fun hc16 => ?_)
        · skip
          refine lv_iinc (k := 0) (v := nI (z + 1)) hx hb d_Me_lowestGap_33 hl rfl (by rw [show Int32.ofInt 1 = nI 1 by decide, nI_add]) (by decide) rfl (fun ls hl => ?_)
          have hl : lv_has ls 4 [(3, .int (nI (z + 1))), (2, .int (nI g)), (0, .ref (am 0)), (1, .int (nI n))] := hl
          refine lv_iload_n hx hb d_Me_lowestGap_36 rfl (lv_at hl 0 rfl) ?_
          refine lv_iload_n hx hb d_Me_lowestGap_37 rfl (lv_at hl 1 rfl) ?_
          refine x_isub hM (by omega) d_Me_lowestGap_38 ?_
          refine lv_iload_n hx hb d_Me_lowestGap_39 rfl (lv_at hl 3 rfl) ?_
          refine x_icmp_lt (tgt := 4) hM (by omega) (by omega) d_Me_lowestGap_40 (by decide) (fun hc40 => ?_) (fun hc40 => ?_)
          · skip
            exact ih4 _ (by omega) (z + 1) g ls H locs (mGw_s hm gw hc16 hc7 hc40) rfl hl hP hD hS
          · skip
            refine lv_iload_n hx hb d_Me_lowestGap_43 rfl (lv_at hl 1 rfl) ?_
            exact x_iret hM hQ (by rw [mGw_r hm gw hc16 hc7 hc40]; rfl) rfl hP hK hD hS d_Me_lowestGap_44
        · skip
          refine lv_iload_n hx hb d_Me_lowestGap_19 rfl (lv_at hl 0 rfl) ?_
          refine lv_aload_n hx hb d_Me_lowestGap_20 rfl (lv_at hl 2 rfl) ?_
          refine x_get hM hK hP 0 1 2 i_Me rfl rfl (by decide) q_fl_Me_18 rfl d_Me_lowestGap_21 ?_
          refine lv_iload_n hx hb d_Me_lowestGap_24 rfl (lv_at hl 0 rfl) ?_
          refine x_iald hM hK hP 3 0 rfl rfl (by omega) (by decide) d_Me_lowestGap_25 ?_
          refine x_iadd hM d_Me_lowestGap_26 ?_
          refine lv_istore_n hx hb d_Me_lowestGap_27 rfl hl (by decide) rfl (fun ls hl => ?_)
          have hl : lv_has ls 4 [(3, .int (nI (z + ((mSz M) z)))), (2, .int (nI g)), (0, .ref (am 0)), (1, .int (nI n))] := hl
          refine lv_iload_n hx hb d_Me_lowestGap_28 rfl (lv_at hl 0 rfl) ?_
          refine lv_istore_n hx hb d_Me_lowestGap_29 rfl hl (by decide) rfl (fun ls hl => ?_)
          have hl : lv_has ls 4 [(2, .int (nI (z + ((mSz M) z)))), (3, .int (nI (z + ((mSz M) z)))), (0, .ref (am 0)), (1, .int (nI n))] := hl
          refine lv_goto hx hb d_Me_lowestGap_30 (tgt := 4) (by decide) ?_
          exact ih4 _ (by omega) (z + mSz M z) (z + mSz M z) ls H locs (mGw_b hm gw hc16) rfl (lv_sub hl [1, 0, 2, 3] rfl) hP hD hS
  exact loop4 _ 0 0 ls s.heap [] (mGw_0 h1) rfl hl hP hD hS
