abbrev rm_Me_releaseOldest : Room := { frames := 1, cells := 0, slots := 0, locals := 24 }
set_option maxHeartbeats 4000000 in
set_option maxRecDepth 100000 in
theorem c_Me_releaseOldest (l : Launch) (D : va_G) (cI cZ cJ : ClassId) (sz : Nat) (am : Nat → Nat) (M : xMem) (B : Nat) (hm : mOk B M) (hB : B ≤ 90) (hq : 0 < mQn M) : xCv l D (xT cI cZ cJ) y_Me_releaseOldest k_Me_releaseOldest rm_Me_releaseOldest sz (wMe cI cZ am M) [.ref (am 0)] (wMe cI cZ am (mRel M)) 0 0 := by
  refine x_ofv (cc := b_Me_releaseOldest) (nL := 4) (ret := none) (by decide) rfl (Nat.le_of_ble_eq_true rfl) ?_
  intro p e s m args below meth c ls A Q hQ hM hsz hP hK hD hA hl
  obtain ⟨hx, hb, -, hml, hown, hts, -⟩ := id hM
  have hS : va_S A s.heap s.heap [] := va_S.rf
  have hl : lv_has ls 4 [(0, .ref (am 0))] := hl
  have hP : va_P D vwCl [(am 0, .inr (1, [.ref (am 1), .ref (am 2), .ref (am 3), .ref (am 4), .ref (am 5), .int (nI (mSum M)), .int (nI (mQn M)), .int (nI (xc (mIs M 1) 64))])), (am 1, .inl (cI, 512, .inl (mHp M))), (am 2, .inl (cI, 64, .inl (mSh M))), (am 3, .inl (cI, 64, .inl (fun zz => nI ((mSz M) zz)))), (am 4, .inl (cZ, 64, .inl (fun zz => zI ((mIs M 2) zz)))), (am 5, .inl (cI, 64, .inl (fun zz => nI ((mQf M) zz))))] s.heap := hP
  have hD : va_D A [(am 0, .inr (1, [.ref (am 1), .ref (am 2), .ref (am 3), .ref (am 4), .ref (am 5), .int (nI (mSum M)), .int (nI (mQn M)), .int (nI (xc (mIs M 1) 64))])), (am 1, .inl (cI, 512, .inl (mHp M))), (am 2, .inl (cI, 64, .inl (mSh M))), (am 3, .inl (cI, 64, .inl (fun zz => nI ((mSz M) zz)))), (am 4, .inl (cZ, 64, .inl (fun zz => zI ((mIs M 2) zz)))), (am 5, .inl (cI, 64, .inl (fun zz => nI ((mQf M) zz))))] := hD
  have hq3 := mOk_qn hm
  have hq0 := mOk_q hm hq
  have hsu := mRel_sum hm hq
  refine lv_aload_n hx hb d_Me_releaseOldest_0 rfl (lv_at hl 0 rfl) ?_
  refine x_get hM hK hP 0 1 4 i_Me rfl rfl (by decide) q_fl_Me_25 rfl d_Me_releaseOldest_1 ?_
  refine lv_iconst (v := nI 0) hx hb d_Me_releaseOldest_4 (by decide) ?_
  refine x_iald hM hK hP 5 0 rfl rfl (by omega) (by decide) d_Me_releaseOldest_5 ?_
  refine lv_istore_n hx hb d_Me_releaseOldest_6 rfl hl (by decide) rfl (fun ls hl => ?_)
  have hl : lv_has ls 4 [(1, .int (nI ((mQf M) 0))), (0, .ref (am 0))] := hl
  refine lv_aload_n hx hb d_Me_releaseOldest_7 rfl (lv_at hl 1 rfl) ?_
  refine x_get hM hK hP 0 1 2 i_Me rfl rfl (by decide) q_fl_Me_18 rfl d_Me_releaseOldest_8 ?_
  refine lv_iload_n hx hb d_Me_releaseOldest_11 rfl (lv_at hl 0 rfl) ?_
  refine x_iald hM hK hP 3 0 rfl rfl (by omega) (by decide) d_Me_releaseOldest_12 ?_
  refine lv_istore_n hx hb d_Me_releaseOldest_13 rfl hl (by decide) rfl (fun ls hl => ?_)
  have hl : lv_has ls 4 [(2, .int (nI ((mSz M) ((mQf M) 0)))), (1, .int (nI ((mQf M) 0))), (0, .ref (am 0))] := hl
  refine lv_aload_n hx hb d_Me_releaseOldest_14 rfl (lv_at hl 2 rfl) ?_
  refine lv_iload_n hx hb d_Me_releaseOldest_15 rfl (lv_at hl 1 rfl) ?_
  refine lv_iload_n hx hb d_Me_releaseOldest_16 rfl (lv_at hl 1 rfl) ?_
  refine lv_iload_n hx hb d_Me_releaseOldest_17 rfl (lv_at hl 0 rfl) ?_
  refine x_iadd hM d_Me_releaseOldest_18 ?_
  refine lv_bipush (v := -3) hx hb d_Me_releaseOldest_19 (by decide) ?_
  refine x_callv (wc := [(am 0, .inr (1, [.ref (am 1), .ref (am 2), .ref (am 3), .ref (am 4), .ref (am 5), .int (nI (mSum M)), .int (nI (mQn M)), .int (nI (xc (mIs M 1) 64))])), (am 2, .inl (cI, 64, .inl (mSh M)))]) (wr := [(am 1, .inl (cI, 512, .inl (mHp M))), (am 3, .inl (cI, 64, .inl (fun zz => nI ((mSz M) zz)))), (am 4, .inl (cZ, 64, .inl (fun zz => zI ((mIs M 2) zz)))), (am 5, .inl (cI, 64, .inl (fun zz => nI ((mQf M) zz))))]) (va_runV (As := [.int (nI ((mQf M) 0)), .int (nI (((mQf M) 0) + ((mSz M) ((mQf M) 0)))), .int (-3)]) (rest := []) ⟨hx, hb, hml, hown, hts⟩ (c_Me_paint l D cI cZ cJ _ am (mSum M) (mQn M) (xc (mIs M 1) 64) (mSh M) ((mQf M) 0) (((mQf M) 0) + ((mSz M) ((mQf M) 0))) (-3) (by omega) (by omega)) (cwV 3 hts (bw_V q_ml_Me_56 q_im_Me_paint q_se_Me_paint q_in_Me q_cd_Me_paint) rfl rfl rfl ⟨rfl, by decide, by decide, by decide +kernel⟩ ⟨Nat.le_of_ble_eq_true rfl, Nat.le_of_ble_eq_true rfl⟩) ⟨(x_pre (wc := [(am 0, .inr (1, [.ref (am 1), .ref (am 2), .ref (am 3), .ref (am 4), .ref (am 5), .int (nI (mSum M)), .int (nI (mQn M)), .int (nI (xc (mIs M 1) 64))])), (am 2, .inl (cI, 64, .inl (mSh M)))]) hP hD hK [0, 2] rfl (by decide)).1, va_recv hK hP (ci := 1) (q0 := 0) rfl rfl, (x_pre (wc := [(am 0, .inr (1, [.ref (am 1), .ref (am 2), .ref (am 3), .ref (am 4), .ref (am 5), .int (nI (mSum M)), .int (nI (mQn M)), .int (nI (xc (mIs M 1) 64))])), (am 2, .inl (cI, 64, .inl (mSh M)))]) hP hD hK [0, 2] rfl (by decide)).2⟩ rfl rfl hl.1 rfl (lv_room (Nat.le_of_ble_eq_true rfl)) d_Me_releaseOldest_21 ⟨Nat.le_of_ble_eq_true rfl, Nat.le_of_ble_eq_true rfl⟩) hP hD hS hA [0, 2] [1, 3, 4, 5] rfl rfl (by decide) (by decide) (fun H locs hP hD hS => ?_)
  have hP := hP.sub (ws' := [(am 0, .inr (1, [.ref (am 1), .ref (am 2), .ref (am 3), .ref (am 4), .ref (am 5), .int (nI (mSum M)), .int (nI (mQn M)), .int (nI (xc (mIs M 1) 64))])), (am 1, .inl (cI, 512, .inl (mHp M))), (am 2, .inl (cI, 64, .inl (xp (mSh M) ((mQf M) 0) (((mQf M) 0) + ((mSz M) ((mQf M) 0))) (-3)))), (am 3, .inl (cI, 64, .inl (fun zz => nI ((mSz M) zz)))), (am 4, .inl (cZ, 64, .inl (fun zz => zI ((mIs M 2) zz)))), (am 5, .inl (cI, 64, .inl (fun zz => nI ((mQf M) zz))))]) [4, 0, 5, 1, 2, 3] rfl
  have hD := hD.sub (ws' := [(am 0, .inr (1, [.ref (am 1), .ref (am 2), .ref (am 3), .ref (am 4), .ref (am 5), .int (nI (mSum M)), .int (nI (mQn M)), .int (nI (xc (mIs M 1) 64))])), (am 1, .inl (cI, 512, .inl (mHp M))), (am 2, .inl (cI, 64, .inl (xp (mSh M) ((mQf M) 0) (((mQf M) 0) + ((mSz M) ((mQf M) 0))) (-3)))), (am 3, .inl (cI, 64, .inl (fun zz => nI ((mSz M) zz)))), (am 4, .inl (cZ, 64, .inl (fun zz => zI ((mIs M 2) zz)))), (am 5, .inl (cI, 64, .inl (fun zz => nI ((mQf M) zz))))]) [4, 0, 5, 1, 2, 3] (by decide) rfl
  refine lv_aload_n hx hb d_Me_releaseOldest_24 rfl (lv_at hl 2 rfl) ?_
  refine x_get hM hK hP 0 1 2 i_Me rfl rfl (by decide) q_fl_Me_18 rfl d_Me_releaseOldest_25 ?_
  refine lv_iload_n hx hb d_Me_releaseOldest_28 rfl (lv_at hl 1 rfl) ?_
  refine lv_iconst (v := nI 0) hx hb d_Me_releaseOldest_29 (by decide) ?_
  refine x_iastN hM hK hP hD hS 3 0 rfl rfl (by omega) (by decide) d_Me_releaseOldest_30 (fun H locs hP hD hS => ?_)
  have hP : va_P D vwCl [(am 0, .inr (1, [.ref (am 1), .ref (am 2), .ref (am 3), .ref (am 4), .ref (am 5), .int (nI (mSum M)), .int (nI (mQn M)), .int (nI (xc (mIs M 1) 64))])), (am 1, .inl (cI, 512, .inl (mHp M))), (am 2, .inl (cI, 64, .inl (xp (mSh M) ((mQf M) 0) (((mQf M) 0) + ((mSz M) ((mQf M) 0))) (-3)))), (am 3, .inl (cI, 64, .inl (fun zz => nI ((xu (mSz M) ((mQf M) 0) 0) zz)))), (am 4, .inl (cZ, 64, .inl (fun zz => zI ((mIs M 2) zz)))), (am 5, .inl (cI, 64, .inl (fun zz => nI ((mQf M) zz))))] H := hP
  have hD : va_D A [(am 0, .inr (1, [.ref (am 1), .ref (am 2), .ref (am 3), .ref (am 4), .ref (am 5), .int (nI (mSum M)), .int (nI (mQn M)), .int (nI (xc (mIs M 1) 64))])), (am 1, .inl (cI, 512, .inl (mHp M))), (am 2, .inl (cI, 64, .inl (xp (mSh M) ((mQf M) 0) (((mQf M) 0) + ((mSz M) ((mQf M) 0))) (-3)))), (am 3, .inl (cI, 64, .inl (fun zz => nI ((xu (mSz M) ((mQf M) 0) 0) zz)))), (am 4, .inl (cZ, 64, .inl (fun zz => zI ((mIs M 2) zz)))), (am 5, .inl (cI, 64, .inl (fun zz => nI ((mQf M) zz))))] := hD
  refine lv_aload_n hx hb d_Me_releaseOldest_31 rfl (lv_at hl 2 rfl) ?_
  refine x_get hM hK hP 0 1 3 i_Me rfl rfl (by decide) q_fl_Me_21 rfl d_Me_releaseOldest_32 ?_
  refine lv_iload_n hx hb d_Me_releaseOldest_35 rfl (lv_at hl 1 rfl) ?_
  refine lv_iconst (v := nI 0) hx hb d_Me_releaseOldest_36 (by decide) ?_
  refine x_zastB (b := false) (by decide) hM hK hP hD hS 4 1 rfl rfl (by omega) (by decide) d_Me_releaseOldest_37 (fun H locs hP hD hS => ?_)
  have hP : va_P D vwCl [(am 0, .inr (1, [.ref (am 1), .ref (am 2), .ref (am 3), .ref (am 4), .ref (am 5), .int (nI (mSum M)), .int (nI (mQn M)), .int (nI (xc (mIs M 1) 64))])), (am 1, .inl (cI, 512, .inl (mHp M))), (am 2, .inl (cI, 64, .inl (xp (mSh M) ((mQf M) 0) (((mQf M) 0) + ((mSz M) ((mQf M) 0))) (-3)))), (am 3, .inl (cI, 64, .inl (fun zz => nI ((xu (mSz M) ((mQf M) 0) 0) zz)))), (am 4, .inl (cZ, 64, .inl (fun zz => zI ((xu (mIs M 2) ((mQf M) 0) false) zz)))), (am 5, .inl (cI, 64, .inl (fun zz => nI ((mQf M) zz))))] H := hP
  have hD : va_D A [(am 0, .inr (1, [.ref (am 1), .ref (am 2), .ref (am 3), .ref (am 4), .ref (am 5), .int (nI (mSum M)), .int (nI (mQn M)), .int (nI (xc (mIs M 1) 64))])), (am 1, .inl (cI, 512, .inl (mHp M))), (am 2, .inl (cI, 64, .inl (xp (mSh M) ((mQf M) 0) (((mQf M) 0) + ((mSz M) ((mQf M) 0))) (-3)))), (am 3, .inl (cI, 64, .inl (fun zz => nI ((xu (mSz M) ((mQf M) 0) 0) zz)))), (am 4, .inl (cZ, 64, .inl (fun zz => zI ((xu (mIs M 2) ((mQf M) 0) false) zz)))), (am 5, .inl (cI, 64, .inl (fun zz => nI ((mQf M) zz))))] := hD
  refine lv_aload_n hx hb d_Me_releaseOldest_38 rfl (lv_at hl 2 rfl) ?_
  refine lv_dup hx hb d_Me_releaseOldest_39 rfl ?_
  refine x_get hM hK hP 0 1 6 i_Me rfl rfl (by decide) q_fl_Me_35 rfl d_Me_releaseOldest_40 ?_
  refine lv_iconst (v := nI 1) hx hb d_Me_releaseOldest_43 (by decide) ?_
  refine x_isub hM (by omega) d_Me_releaseOldest_44 ?_
  refine x_put hM hK hP hD hS 0 1 6 i_Me t_Me t_Me_ok n_Me rfl rfl (by decide) q_fl_Me_35 rfl rfl rfl (Nat.le_of_ble_eq_true rfl) d_Me_releaseOldest_45 (fun H locs hP hD hS => ?_)
  have hP : va_P D vwCl [(am 0, .inr (1, [.ref (am 1), .ref (am 2), .ref (am 3), .ref (am 4), .ref (am 5), .int (nI (mSum M)), .int (nI ((mQn M) - 1)), .int (nI (xc (mIs M 1) 64))])), (am 1, .inl (cI, 512, .inl (mHp M))), (am 2, .inl (cI, 64, .inl (xp (mSh M) ((mQf M) 0) (((mQf M) 0) + ((mSz M) ((mQf M) 0))) (-3)))), (am 3, .inl (cI, 64, .inl (fun zz => nI ((xu (mSz M) ((mQf M) 0) 0) zz)))), (am 4, .inl (cZ, 64, .inl (fun zz => zI ((xu (mIs M 2) ((mQf M) 0) false) zz)))), (am 5, .inl (cI, 64, .inl (fun zz => nI ((mQf M) zz))))] H := hP
  have hD : va_D A [(am 0, .inr (1, [.ref (am 1), .ref (am 2), .ref (am 3), .ref (am 4), .ref (am 5), .int (nI (mSum M)), .int (nI ((mQn M) - 1)), .int (nI (xc (mIs M 1) 64))])), (am 1, .inl (cI, 512, .inl (mHp M))), (am 2, .inl (cI, 64, .inl (xp (mSh M) ((mQf M) 0) (((mQf M) 0) + ((mSz M) ((mQf M) 0))) (-3)))), (am 3, .inl (cI, 64, .inl (fun zz => nI ((xu (mSz M) ((mQf M) 0) 0) zz)))), (am 4, .inl (cZ, 64, .inl (fun zz => zI ((xu (mIs M 2) ((mQf M) 0) false) zz)))), (am 5, .inl (cI, 64, .inl (fun zz => nI ((mQf M) zz))))] := hD
  refine lv_aload_n hx hb d_Me_releaseOldest_48 rfl (lv_at hl 2 rfl) ?_
  refine lv_dup hx hb d_Me_releaseOldest_49 rfl ?_
  refine x_get hM hK hP 0 1 5 i_Me rfl rfl (by decide) q_fl_Me_31 rfl d_Me_releaseOldest_50 ?_
  refine lv_iload_n hx hb d_Me_releaseOldest_53 rfl (lv_at hl 0 rfl) ?_
  refine x_isub hM (by omega) d_Me_releaseOldest_54 ?_
  refine x_put hM hK hP hD hS 0 1 5 i_Me t_Me t_Me_ok n_Me rfl rfl (by decide) q_fl_Me_31 rfl rfl rfl (Nat.le_of_ble_eq_true rfl) d_Me_releaseOldest_55 (fun H locs hP hD hS => ?_)
  have hP : va_P D vwCl [(am 0, .inr (1, [.ref (am 1), .ref (am 2), .ref (am 3), .ref (am 4), .ref (am 5), .int (nI ((mSum M) - ((mSz M) ((mQf M) 0)))), .int (nI ((mQn M) - 1)), .int (nI (xc (mIs M 1) 64))])), (am 1, .inl (cI, 512, .inl (mHp M))), (am 2, .inl (cI, 64, .inl (xp (mSh M) ((mQf M) 0) (((mQf M) 0) + ((mSz M) ((mQf M) 0))) (-3)))), (am 3, .inl (cI, 64, .inl (fun zz => nI ((xu (mSz M) ((mQf M) 0) 0) zz)))), (am 4, .inl (cZ, 64, .inl (fun zz => zI ((xu (mIs M 2) ((mQf M) 0) false) zz)))), (am 5, .inl (cI, 64, .inl (fun zz => nI ((mQf M) zz))))] H := hP
  have hD : va_D A [(am 0, .inr (1, [.ref (am 1), .ref (am 2), .ref (am 3), .ref (am 4), .ref (am 5), .int (nI ((mSum M) - ((mSz M) ((mQf M) 0)))), .int (nI ((mQn M) - 1)), .int (nI (xc (mIs M 1) 64))])), (am 1, .inl (cI, 512, .inl (mHp M))), (am 2, .inl (cI, 64, .inl (xp (mSh M) ((mQf M) 0) (((mQf M) 0) + ((mSz M) ((mQf M) 0))) (-3)))), (am 3, .inl (cI, 64, .inl (fun zz => nI ((xu (mSz M) ((mQf M) 0) 0) zz)))), (am 4, .inl (cZ, 64, .inl (fun zz => zI ((xu (mIs M 2) ((mQf M) 0) false) zz)))), (am 5, .inl (cI, 64, .inl (fun zz => nI ((mQf M) zz))))] := hD
  refine lv_iconst (v := nI 0) hx hb d_Me_releaseOldest_58 (by decide) ?_
  refine lv_istore_n hx hb d_Me_releaseOldest_59 rfl hl (by decide) rfl (fun ls hl => ?_)
  have hl : lv_has ls 4 [(3, .int (nI 0)), (2, .int (nI ((mSz M) ((mQf M) 0)))), (1, .int (nI ((mQf M) 0))), (0, .ref (am 0))] := hl
  have loop60 : ∀ (K60 : Nat) (j : Nat) (f : Nat → Nat) (ls : Array Slot) (H : Heap) (locs : List Loc), (j ≤ mQn M - 1) → (f = fun z => if z < j then mQf M (z + 1) else mQf M z) → mQn M - 1 - j = K60 → lv_has ls 4 [(3, .int (nI j)), (1, .int (nI (mQf M 0))), (0, .ref (am 0)), (2, .int (nI (mSz M (mQf M 0))))] → va_P D vwCl [(am 0, .inr (1, [.ref (am 1), .ref (am 2), .ref (am 3), .ref (am 4), .ref (am 5), .int (nI ((mSum M) - ((mSz M) ((mQf M) 0)))), .int (nI ((mQn M) - 1)), .int (nI (xc (mIs M 1) 64))])), (am 1, .inl (cI, 512, .inl (mHp M))), (am 2, .inl (cI, 64, .inl (xp (mSh M) ((mQf M) 0) (((mQf M) 0) + ((mSz M) ((mQf M) 0))) (-3)))), (am 3, .inl (cI, 64, .inl (fun zz => nI ((xu (mSz M) ((mQf M) 0) 0) zz)))), (am 4, .inl (cZ, 64, .inl (fun zz => zI ((xu (mIs M 2) ((mQf M) 0) false) zz)))), (am 5, .inl (cI, 64, .inl (fun zz => nI (f zz))))] H → va_D A [(am 0, .inr (1, [.ref (am 1), .ref (am 2), .ref (am 3), .ref (am 4), .ref (am 5), .int (nI ((mSum M) - ((mSz M) ((mQf M) 0)))), .int (nI ((mQn M) - 1)), .int (nI (xc (mIs M 1) 64))])), (am 1, .inl (cI, 512, .inl (mHp M))), (am 2, .inl (cI, 64, .inl (xp (mSh M) ((mQf M) 0) (((mQf M) 0) + ((mSz M) ((mQf M) 0))) (-3)))), (am 3, .inl (cI, 64, .inl (fun zz => nI ((xu (mSz M) ((mQf M) 0) 0) zz)))), (am 4, .inl (cZ, 64, .inl (fun zz => zI ((xu (mIs M 2) ((mQf M) 0) false) zz)))), (am 5, .inl (cI, 64, .inl (fun zz => nI (f zz))))] → va_S A s.heap H locs → W p l e rm_Me_releaseOldest s m args below meth c H locs 0 0 Q (F0 m 60 ls []) := by
    intro K60
    induction K60 using Nat.strongRecOn with
    | _ K60 ih60 =>
      intro j f ls H locs g1 hf hK60 hl hP hD hS
      refine lv_iload_n hx hb d_Me_releaseOldest_60 rfl (lv_at hl 0 rfl) ?_
      refine lv_aload_n hx hb d_Me_releaseOldest_61 rfl (lv_at hl 2 rfl) ?_
      refine x_get hM hK hP 0 1 6 i_Me rfl rfl (by decide) q_fl_Me_35 rfl d_Me_releaseOldest_62 ?_
      refine x_icmp_ge (tgt := 88) hM (by omega) (by omega) d_Me_releaseOldest_65 (by decide) (fun hc65 => ?_) (fun hc65 => ?_)
      · skip
        obtain rfl : j = mQn M - 1 := by omega
        subst hf
        rw [mRel_su hm hq, mRel_isf hm hq, ← mRel_live hm hq] at hP hD
        have hP : va_P D vwCl [(am 0, .inr (1, [.ref (am 1), .ref (am 2), .ref (am 3), .ref (am 4), .ref (am 5), .int (nI (mSum (mRel M))), .int (nI ((mQn M) - 1)), .int (nI (xc (mIs (mRel M) 1) 64))])), (am 1, .inl (cI, 512, .inl (mHp M))), (am 2, .inl (cI, 64, .inl (xp (mSh M) ((mQf M) 0) (((mQf M) 0) + ((mSz M) ((mQf M) 0))) (-3)))), (am 3, .inl (cI, 64, .inl (fun zz => nI ((xu (mSz M) ((mQf M) 0) 0) zz)))), (am 4, .inl (cZ, 64, .inl (fun zz => zI ((mIs (mRel M) 2) zz)))), (am 5, .inl (cI, 64, .inl (fun zz => nI ((fun z => if z < mQn M - 1 then mQf M (z + 1) else mQf M z) zz))))] H := hP
        have hD : va_D A [(am 0, .inr (1, [.ref (am 1), .ref (am 2), .ref (am 3), .ref (am 4), .ref (am 5), .int (nI (mSum (mRel M))), .int (nI ((mQn M) - 1)), .int (nI (xc (mIs (mRel M) 1) 64))])), (am 1, .inl (cI, 512, .inl (mHp M))), (am 2, .inl (cI, 64, .inl (xp (mSh M) ((mQf M) 0) (((mQf M) 0) + ((mSz M) ((mQf M) 0))) (-3)))), (am 3, .inl (cI, 64, .inl (fun zz => nI ((xu (mSz M) ((mQf M) 0) 0) zz)))), (am 4, .inl (cZ, 64, .inl (fun zz => zI ((mIs (mRel M) 2) zz)))), (am 5, .inl (cI, 64, .inl (fun zz => nI ((fun z => if z < mQn M - 1 then mQf M (z + 1) else mQf M z) zz))))] := hD
        exact x_vret hM hQ rfl hP hK hD hS d_Me_releaseOldest_88
      · skip
        refine lv_aload_n hx hb d_Me_releaseOldest_68 rfl (lv_at hl 2 rfl) ?_
        refine x_get hM hK hP 0 1 4 i_Me rfl rfl (by decide) q_fl_Me_25 rfl d_Me_releaseOldest_69 ?_
        refine lv_iload_n hx hb d_Me_releaseOldest_72 rfl (lv_at hl 0 rfl) ?_
        refine lv_aload_n hx hb d_Me_releaseOldest_73 rfl (lv_at hl 2 rfl) ?_
        refine x_get hM hK hP 0 1 4 i_Me rfl rfl (by decide) q_fl_Me_25 rfl d_Me_releaseOldest_74 ?_
        refine lv_iload_n hx hb d_Me_releaseOldest_77 rfl (lv_at hl 0 rfl) ?_
        refine lv_iconst (v := nI 1) hx hb d_Me_releaseOldest_78 (by decide) ?_
        refine x_iadd hM d_Me_releaseOldest_79 ?_
        refine x_iald hM hK hP 5 0 rfl rfl (by omega) (by decide) d_Me_releaseOldest_80 ?_
        refine x_iastN hM hK hP hD hS 5 0 rfl rfl (by omega) (by decide) d_Me_releaseOldest_81 (fun H locs hP hD hS => ?_)
        have hP : va_P D vwCl [(am 0, .inr (1, [.ref (am 1), .ref (am 2), .ref (am 3), .ref (am 4), .ref (am 5), .int (nI ((mSum M) - ((mSz M) ((mQf M) 0)))), .int (nI ((mQn M) - 1)), .int (nI (xc (mIs M 1) 64))])), (am 1, .inl (cI, 512, .inl (mHp M))), (am 2, .inl (cI, 64, .inl (xp (mSh M) ((mQf M) 0) (((mQf M) 0) + ((mSz M) ((mQf M) 0))) (-3)))), (am 3, .inl (cI, 64, .inl (fun zz => nI ((xu (mSz M) ((mQf M) 0) 0) zz)))), (am 4, .inl (cZ, 64, .inl (fun zz => zI ((xu (mIs M 2) ((mQf M) 0) false) zz)))), (am 5, .inl (cI, 64, .inl (fun zz => nI ((xu f j (f (j + 1))) zz))))] H := hP
        have hD : va_D A [(am 0, .inr (1, [.ref (am 1), .ref (am 2), .ref (am 3), .ref (am 4), .ref (am 5), .int (nI ((mSum M) - ((mSz M) ((mQf M) 0)))), .int (nI ((mQn M) - 1)), .int (nI (xc (mIs M 1) 64))])), (am 1, .inl (cI, 512, .inl (mHp M))), (am 2, .inl (cI, 64, .inl (xp (mSh M) ((mQf M) 0) (((mQf M) 0) + ((mSz M) ((mQf M) 0))) (-3)))), (am 3, .inl (cI, 64, .inl (fun zz => nI ((xu (mSz M) ((mQf M) 0) 0) zz)))), (am 4, .inl (cZ, 64, .inl (fun zz => zI ((xu (mIs M 2) ((mQf M) 0) false) zz)))), (am 5, .inl (cI, 64, .inl (fun zz => nI ((xu f j (f (j + 1))) zz))))] := hD
        refine lv_iinc (k := 0) (v := nI (j + 1)) hx hb d_Me_releaseOldest_82 hl rfl (by rw [show Int32.ofInt 1 = nI 1 by decide, nI_add]) (by decide) rfl (fun ls hl => ?_)
        have hl : lv_has ls 4 [(3, .int (nI (j + 1))), (1, .int (nI (mQf M 0))), (0, .ref (am 0)), (2, .int (nI (mSz M (mQf M 0))))] := hl
        refine lv_goto hx hb d_Me_releaseOldest_85 (tgt := 60) (by decide) ?_
        exact ih60 _ (by omega) (j + 1) (xu f j (f (j + 1))) ls H locs (by omega) (xsh_s hf) rfl hl hP hD hS
  exact loop60 _ 0 (mQf M) ls H locs (by omega) (xsh_0 _) rfl (lv_sub hl [0, 2, 3, 1] rfl) hP hD hS
abbrev rm_Me_placeBlock : Room := { frames := 1, cells := 0, slots := 0, locals := 24 }
set_option maxHeartbeats 4000000 in
set_option maxRecDepth 100000 in
theorem c_Me_placeBlock (l : Launch) (D : va_G) (cI cZ cJ : ClassId) (sz : Nat) (am : Nat → Nat) (M : xMem) (g : Nat) (b : Nat) (n : Nat) (B : Nat) (hm : mOk B M) (hb1 : 1 ≤ b) (hg : g + b + 2 ≤ 64) (hn : n < 2 ^ 31) (hf0 : ∀ k, g ≤ k → k < g + b + 2 → mOw M k = 0) : xCv l D (xT cI cZ cJ) y_Me_placeBlock k_Me_placeBlock rm_Me_placeBlock sz (wMe cI cZ am M) [.ref (am 0), .int (nI g), .int (nI (b + 2)), .int (nI n)] (wMe cI cZ am (mPut M g b n)) 0 0 := by
  refine x_ofv (cc := b_Me_placeBlock) (nL := 6) (ret := none) (by decide) rfl (Nat.le_of_ble_eq_true rfl) ?_
  intro p e s m args below meth c ls A Q hQ hM hsz hP hK hD hA hl
  obtain ⟨hx, hb, -, hml, hown, hts, -⟩ := id hM
  have hS : va_S A s.heap s.heap [] := va_S.rf
  have hl : lv_has ls 6 [(0, .ref (am 0)), (1, .int (nI g)), (2, .int (nI (b + 2))), (3, .int (nI n))] := hl
  have hP : va_P D vwCl [(am 0, .inr (1, [.ref (am 1), .ref (am 2), .ref (am 3), .ref (am 4), .ref (am 5), .int (nI (mSum M)), .int (nI (mQn M)), .int (nI (xc (mIs M 1) 64))])), (am 1, .inl (cI, 512, .inl (mHp M))), (am 2, .inl (cI, 64, .inl (mSh M))), (am 3, .inl (cI, 64, .inl (fun zz => nI ((mSz M) zz)))), (am 4, .inl (cZ, 64, .inl (fun zz => zI ((mIs M 2) zz)))), (am 5, .inl (cI, 64, .inl (fun zz => nI ((mQf M) zz))))] s.heap := hP
  have hD : va_D A [(am 0, .inr (1, [.ref (am 1), .ref (am 2), .ref (am 3), .ref (am 4), .ref (am 5), .int (nI (mSum M)), .int (nI (mQn M)), .int (nI (xc (mIs M 1) 64))])), (am 1, .inl (cI, 512, .inl (mHp M))), (am 2, .inl (cI, 64, .inl (mSh M))), (am 3, .inl (cI, 64, .inl (fun zz => nI ((mSz M) zz)))), (am 4, .inl (cZ, 64, .inl (fun zz => zI ((mIs M 2) zz)))), (am 5, .inl (cI, 64, .inl (fun zz => nI ((mQf M) zz))))] := hD
  refine lv_iload_n hx hb d_Me_placeBlock_0 rfl (lv_at hl 1 rfl) ?_
  refine lv_iload_n hx hb d_Me_placeBlock_1 rfl (lv_at hl 2 rfl) ?_
  refine x_iadd hM d_Me_placeBlock_2 ?_
  refine lv_iconst (v := nI 1) hx hb d_Me_placeBlock_3 (by decide) ?_
  refine x_isub hM (by omega) d_Me_placeBlock_4 ?_
  refine lv_istore hx hb d_Me_placeBlock_5 hl (by decide) rfl (fun ls hl => ?_)
  have hl : lv_has ls 6 [(4, .int (nI ((g + (b + 2)) - 1))), (0, .ref (am 0)), (1, .int (nI g)), (2, .int (nI (b + 2))), (3, .int (nI n))] := hl
  rw [show g + (b + 2) - 1 = g + b + 1 by omega] at hl
  have hl : lv_has ls 6 [(4, .int (nI (g + b + 1))), (0, .ref (am 0)), (1, .int (nI g)), (2, .int (nI (b + 2))), (3, .int (nI n))] := hl
  refine lv_aload_n hx hb d_Me_placeBlock_7 rfl (lv_at hl 1 rfl) ?_
  refine x_get hM hK hP 0 1 2 i_Me rfl rfl (by decide) q_fl_Me_18 rfl d_Me_placeBlock_8 ?_
  refine lv_iload_n hx hb d_Me_placeBlock_11 rfl (lv_at hl 2 rfl) ?_
  refine lv_iload_n hx hb d_Me_placeBlock_12 rfl (lv_at hl 3 rfl) ?_
  refine x_iastN hM hK hP hD hS 3 0 rfl rfl (by omega) (by decide) d_Me_placeBlock_13 (fun H locs hP hD hS => ?_)
  have hP : va_P D vwCl [(am 0, .inr (1, [.ref (am 1), .ref (am 2), .ref (am 3), .ref (am 4), .ref (am 5), .int (nI (mSum M)), .int (nI (mQn M)), .int (nI (xc (mIs M 1) 64))])), (am 1, .inl (cI, 512, .inl (mHp M))), (am 2, .inl (cI, 64, .inl (mSh M))), (am 3, .inl (cI, 64, .inl (fun zz => nI ((xu (mSz M) g (b + 2)) zz)))), (am 4, .inl (cZ, 64, .inl (fun zz => zI ((mIs M 2) zz)))), (am 5, .inl (cI, 64, .inl (fun zz => nI ((mQf M) zz))))] H := hP
  have hD : va_D A [(am 0, .inr (1, [.ref (am 1), .ref (am 2), .ref (am 3), .ref (am 4), .ref (am 5), .int (nI (mSum M)), .int (nI (mQn M)), .int (nI (xc (mIs M 1) 64))])), (am 1, .inl (cI, 512, .inl (mHp M))), (am 2, .inl (cI, 64, .inl (mSh M))), (am 3, .inl (cI, 64, .inl (fun zz => nI ((xu (mSz M) g (b + 2)) zz)))), (am 4, .inl (cZ, 64, .inl (fun zz => zI ((mIs M 2) zz)))), (am 5, .inl (cI, 64, .inl (fun zz => nI ((mQf M) zz))))] := hD
  refine lv_aload_n hx hb d_Me_placeBlock_14 rfl (lv_at hl 1 rfl) ?_
  refine lv_dup hx hb d_Me_placeBlock_15 rfl ?_
  refine x_get hM hK hP 0 1 7 i_Me rfl rfl (by decide) q_fl_Me_38 rfl d_Me_placeBlock_16 ?_
  refine lv_iconst (v := nI 1) hx hb d_Me_placeBlock_19 (by decide) ?_
  refine x_iadd hM d_Me_placeBlock_20 ?_
  refine x_put hM hK hP hD hS 0 1 7 i_Me t_Me t_Me_ok n_Me rfl rfl (by decide) q_fl_Me_38 rfl rfl rfl (Nat.le_of_ble_eq_true rfl) d_Me_placeBlock_21 (fun H locs hP hD hS => ?_)
  have hP : va_P D vwCl [(am 0, .inr (1, [.ref (am 1), .ref (am 2), .ref (am 3), .ref (am 4), .ref (am 5), .int (nI (mSum M)), .int (nI (mQn M)), .int (nI ((xc (mIs M 1) 64) + 1))])), (am 1, .inl (cI, 512, .inl (mHp M))), (am 2, .inl (cI, 64, .inl (mSh M))), (am 3, .inl (cI, 64, .inl (fun zz => nI ((xu (mSz M) g (b + 2)) zz)))), (am 4, .inl (cZ, 64, .inl (fun zz => zI ((mIs M 2) zz)))), (am 5, .inl (cI, 64, .inl (fun zz => nI ((mQf M) zz))))] H := hP
  have hD : va_D A [(am 0, .inr (1, [.ref (am 1), .ref (am 2), .ref (am 3), .ref (am 4), .ref (am 5), .int (nI (mSum M)), .int (nI (mQn M)), .int (nI ((xc (mIs M 1) 64) + 1))])), (am 1, .inl (cI, 512, .inl (mHp M))), (am 2, .inl (cI, 64, .inl (mSh M))), (am 3, .inl (cI, 64, .inl (fun zz => nI ((xu (mSz M) g (b + 2)) zz)))), (am 4, .inl (cZ, 64, .inl (fun zz => zI ((mIs M 2) zz)))), (am 5, .inl (cI, 64, .inl (fun zz => nI ((mQf M) zz))))] := hD
  refine lv_aload_n hx hb d_Me_placeBlock_24 rfl (lv_at hl 1 rfl) ?_
  refine x_get hM hK hP 0 1 1 i_Me rfl rfl (by decide) q_fl_Me_15 rfl d_Me_placeBlock_25 ?_
  refine lv_iload_n hx hb d_Me_placeBlock_28 rfl (lv_at hl 2 rfl) ?_
  refine lv_iconst (v := -1) hx hb d_Me_placeBlock_29 (by decide) ?_
  refine x_iast hM hK hP hD hS 2 0 rfl rfl (by omega) (by decide) d_Me_placeBlock_30 (fun H locs hP hD hS => ?_)
  have hP : va_P D vwCl [(am 0, .inr (1, [.ref (am 1), .ref (am 2), .ref (am 3), .ref (am 4), .ref (am 5), .int (nI (mSum M)), .int (nI (mQn M)), .int (nI ((xc (mIs M 1) 64) + 1))])), (am 1, .inl (cI, 512, .inl (mHp M))), (am 2, .inl (cI, 64, .inl (xu (mSh M) g (-1)))), (am 3, .inl (cI, 64, .inl (fun zz => nI ((xu (mSz M) g (b + 2)) zz)))), (am 4, .inl (cZ, 64, .inl (fun zz => zI ((mIs M 2) zz)))), (am 5, .inl (cI, 64, .inl (fun zz => nI ((mQf M) zz))))] H := hP
  have hD : va_D A [(am 0, .inr (1, [.ref (am 1), .ref (am 2), .ref (am 3), .ref (am 4), .ref (am 5), .int (nI (mSum M)), .int (nI (mQn M)), .int (nI ((xc (mIs M 1) 64) + 1))])), (am 1, .inl (cI, 512, .inl (mHp M))), (am 2, .inl (cI, 64, .inl (xu (mSh M) g (-1)))), (am 3, .inl (cI, 64, .inl (fun zz => nI ((xu (mSz M) g (b + 2)) zz)))), (am 4, .inl (cZ, 64, .inl (fun zz => zI ((mIs M 2) zz)))), (am 5, .inl (cI, 64, .inl (fun zz => nI ((mQf M) zz))))] := hD
  refine lv_aload_n hx hb d_Me_placeBlock_31 rfl (lv_at hl 1 rfl) ?_
  refine lv_iload_n hx hb d_Me_placeBlock_32 rfl (lv_at hl 2 rfl) ?_
  refine lv_iconst (v := nI 1) hx hb d_Me_placeBlock_33 (by decide) ?_
  refine x_iadd hM d_Me_placeBlock_34 ?_
  refine lv_iload hx hb d_Me_placeBlock_35 (lv_at hl 0 rfl) ?_
  refine lv_iconst (v := nI 0) hx hb d_Me_placeBlock_37 (by decide) ?_
  refine x_callv (wc := [(am 0, .inr (1, [.ref (am 1), .ref (am 2), .ref (am 3), .ref (am 4), .ref (am 5), .int (nI (mSum M)), .int (nI (mQn M)), .int (nI ((xc (mIs M 1) 64) + 1))])), (am 2, .inl (cI, 64, .inl (xu (mSh M) g (-1))))]) (wr := [(am 1, .inl (cI, 512, .inl (mHp M))), (am 3, .inl (cI, 64, .inl (fun zz => nI ((xu (mSz M) g (b + 2)) zz)))), (am 4, .inl (cZ, 64, .inl (fun zz => zI ((mIs M 2) zz)))), (am 5, .inl (cI, 64, .inl (fun zz => nI ((mQf M) zz))))]) (va_runV (As := [.int (nI (g + 1)), .int (nI (g + b + 1)), .int (nI 0)]) (rest := []) ⟨hx, hb, hml, hown, hts⟩ (c_Me_paint l D cI cZ cJ _ am (mSum M) (mQn M) ((xc (mIs M 1) 64) + 1) (xu (mSh M) g (-1)) (g + 1) (g + b + 1) (nI 0) (by omega) (by omega)) (cwV 3 hts (bw_V q_ml_Me_56 q_im_Me_paint q_se_Me_paint q_in_Me q_cd_Me_paint) rfl rfl rfl ⟨rfl, by decide, by decide, by decide +kernel⟩ ⟨Nat.le_of_ble_eq_true rfl, Nat.le_of_ble_eq_true rfl⟩) ⟨(x_pre (wc := [(am 0, .inr (1, [.ref (am 1), .ref (am 2), .ref (am 3), .ref (am 4), .ref (am 5), .int (nI (mSum M)), .int (nI (mQn M)), .int (nI ((xc (mIs M 1) 64) + 1))])), (am 2, .inl (cI, 64, .inl (xu (mSh M) g (-1))))]) hP hD hK [0, 2] rfl (by decide)).1, va_recv hK hP (ci := 1) (q0 := 0) rfl rfl, (x_pre (wc := [(am 0, .inr (1, [.ref (am 1), .ref (am 2), .ref (am 3), .ref (am 4), .ref (am 5), .int (nI (mSum M)), .int (nI (mQn M)), .int (nI ((xc (mIs M 1) 64) + 1))])), (am 2, .inl (cI, 64, .inl (xu (mSh M) g (-1))))]) hP hD hK [0, 2] rfl (by decide)).2⟩ rfl rfl hl.1 rfl (lv_room (Nat.le_of_ble_eq_true rfl)) d_Me_placeBlock_38 ⟨Nat.le_of_ble_eq_true rfl, Nat.le_of_ble_eq_true rfl⟩) hP hD hS hA [0, 2] [1, 3, 4, 5] rfl rfl (by decide) (by decide) (fun H locs hP hD hS => ?_)
  have hP := hP.sub (ws' := [(am 0, .inr (1, [.ref (am 1), .ref (am 2), .ref (am 3), .ref (am 4), .ref (am 5), .int (nI (mSum M)), .int (nI (mQn M)), .int (nI ((xc (mIs M 1) 64) + 1))])), (am 1, .inl (cI, 512, .inl (mHp M))), (am 2, .inl (cI, 64, .inl (xp (xu (mSh M) g (-1)) (g + 1) (g + b + 1) (nI 0)))), (am 3, .inl (cI, 64, .inl (fun zz => nI ((xu (mSz M) g (b + 2)) zz)))), (am 4, .inl (cZ, 64, .inl (fun zz => zI ((mIs M 2) zz)))), (am 5, .inl (cI, 64, .inl (fun zz => nI ((mQf M) zz))))]) [4, 0, 5, 1, 2, 3] rfl
  have hD := hD.sub (ws' := [(am 0, .inr (1, [.ref (am 1), .ref (am 2), .ref (am 3), .ref (am 4), .ref (am 5), .int (nI (mSum M)), .int (nI (mQn M)), .int (nI ((xc (mIs M 1) 64) + 1))])), (am 1, .inl (cI, 512, .inl (mHp M))), (am 2, .inl (cI, 64, .inl (xp (xu (mSh M) g (-1)) (g + 1) (g + b + 1) (nI 0)))), (am 3, .inl (cI, 64, .inl (fun zz => nI ((xu (mSz M) g (b + 2)) zz)))), (am 4, .inl (cZ, 64, .inl (fun zz => zI ((mIs M 2) zz)))), (am 5, .inl (cI, 64, .inl (fun zz => nI ((mQf M) zz))))]) [4, 0, 5, 1, 2, 3] (by decide) rfl
  refine lv_aload_n hx hb d_Me_placeBlock_41 rfl (lv_at hl 1 rfl) ?_
  refine x_get hM hK hP 0 1 1 i_Me rfl rfl (by decide) q_fl_Me_15 rfl d_Me_placeBlock_42 ?_
  refine lv_iload hx hb d_Me_placeBlock_45 (lv_at hl 0 rfl) ?_
  refine lv_iconst (v := nI 1) hx hb d_Me_placeBlock_47 (by decide) ?_
  refine x_isub hM (by omega) d_Me_placeBlock_48 ?_
  refine W.eq (g2 := F0 m 49 ls [.int (nI (g + b)), .ref (am 2)]) (by rw [show g + b + 1 - 1 = g + b by omega]) ?_
  refine lv_iload_n hx hb d_Me_placeBlock_49 rfl (lv_at hl 4 rfl) ?_
  refine lv_bipush (v := nI 8) hx hb d_Me_placeBlock_50 (by decide) ?_
  refine x_irem hM (by omega) (by omega) (by omega) d_Me_placeBlock_52 ?_
  refine x_iast hM hK hP hD hS 2 0 rfl rfl (by omega) (by decide) d_Me_placeBlock_53 (fun H locs hP hD hS => ?_)
  have hP : va_P D vwCl [(am 0, .inr (1, [.ref (am 1), .ref (am 2), .ref (am 3), .ref (am 4), .ref (am 5), .int (nI (mSum M)), .int (nI (mQn M)), .int (nI ((xc (mIs M 1) 64) + 1))])), (am 1, .inl (cI, 512, .inl (mHp M))), (am 2, .inl (cI, 64, .inl (xu (xp (xu (mSh M) g (-1)) (g + 1) (g + b + 1) (nI 0)) (g + b) (nI (n % 8))))), (am 3, .inl (cI, 64, .inl (fun zz => nI ((xu (mSz M) g (b + 2)) zz)))), (am 4, .inl (cZ, 64, .inl (fun zz => zI ((mIs M 2) zz)))), (am 5, .inl (cI, 64, .inl (fun zz => nI ((mQf M) zz))))] H := hP
  have hD : va_D A [(am 0, .inr (1, [.ref (am 1), .ref (am 2), .ref (am 3), .ref (am 4), .ref (am 5), .int (nI (mSum M)), .int (nI (mQn M)), .int (nI ((xc (mIs M 1) 64) + 1))])), (am 1, .inl (cI, 512, .inl (mHp M))), (am 2, .inl (cI, 64, .inl (xu (xp (xu (mSh M) g (-1)) (g + 1) (g + b + 1) (nI 0)) (g + b) (nI (n % 8))))), (am 3, .inl (cI, 64, .inl (fun zz => nI ((xu (mSz M) g (b + 2)) zz)))), (am 4, .inl (cZ, 64, .inl (fun zz => zI ((mIs M 2) zz)))), (am 5, .inl (cI, 64, .inl (fun zz => nI ((mQf M) zz))))] := hD
  refine lv_aload_n hx hb d_Me_placeBlock_54 rfl (lv_at hl 1 rfl) ?_
  refine x_get hM hK hP 0 1 1 i_Me rfl rfl (by decide) q_fl_Me_15 rfl d_Me_placeBlock_55 ?_
  refine lv_iload hx hb d_Me_placeBlock_58 (lv_at hl 0 rfl) ?_
  refine lv_iconst (v := -1) hx hb d_Me_placeBlock_60 (by decide) ?_
  refine x_iast hM hK hP hD hS 2 0 rfl rfl (by omega) (by decide) d_Me_placeBlock_61 (fun H locs hP hD hS => ?_)
  have hP : va_P D vwCl [(am 0, .inr (1, [.ref (am 1), .ref (am 2), .ref (am 3), .ref (am 4), .ref (am 5), .int (nI (mSum M)), .int (nI (mQn M)), .int (nI ((xc (mIs M 1) 64) + 1))])), (am 1, .inl (cI, 512, .inl (mHp M))), (am 2, .inl (cI, 64, .inl (xu (xu (xp (xu (mSh M) g (-1)) (g + 1) (g + b + 1) (nI 0)) (g + b) (nI (n % 8))) (g + b + 1) (-1)))), (am 3, .inl (cI, 64, .inl (fun zz => nI ((xu (mSz M) g (b + 2)) zz)))), (am 4, .inl (cZ, 64, .inl (fun zz => zI ((mIs M 2) zz)))), (am 5, .inl (cI, 64, .inl (fun zz => nI ((mQf M) zz))))] H := hP
  have hD : va_D A [(am 0, .inr (1, [.ref (am 1), .ref (am 2), .ref (am 3), .ref (am 4), .ref (am 5), .int (nI (mSum M)), .int (nI (mQn M)), .int (nI ((xc (mIs M 1) 64) + 1))])), (am 1, .inl (cI, 512, .inl (mHp M))), (am 2, .inl (cI, 64, .inl (xu (xu (xp (xu (mSh M) g (-1)) (g + 1) (g + b + 1) (nI 0)) (g + b) (nI (n % 8))) (g + b + 1) (-1)))), (am 3, .inl (cI, 64, .inl (fun zz => nI ((xu (mSz M) g (b + 2)) zz)))), (am 4, .inl (cZ, 64, .inl (fun zz => zI ((mIs M 2) zz)))), (am 5, .inl (cI, 64, .inl (fun zz => nI ((mQf M) zz))))] := hD
  refine lv_iload_n hx hb d_Me_placeBlock_62 rfl (lv_at hl 2 rfl) ?_
  refine lv_iconst (v := nI 1) hx hb d_Me_placeBlock_63 (by decide) ?_
  refine x_iadd hM d_Me_placeBlock_64 ?_
  refine lv_bipush (v := nI 8) hx hb d_Me_placeBlock_65 (by decide) ?_
  refine x_imul hM d_Me_placeBlock_67 ?_
  refine lv_istore hx hb d_Me_placeBlock_68 hl (by decide) rfl (fun ls hl => ?_)
  have hl : lv_has ls 6 [(5, .int (nI ((g + 1) * 8))), (4, .int (nI (g + b + 1))), (0, .ref (am 0)), (1, .int (nI g)), (2, .int (nI (b + 2))), (3, .int (nI n))] := hl
  rw [show (g + 1) * 8 = 8 * g + 8 by omega] at hl
  have hl : lv_has ls 6 [(5, .int (nI (8 * g + 8))), (4, .int (nI (g + b + 1))), (0, .ref (am 0)), (1, .int (nI g)), (2, .int (nI (b + 2))), (3, .int (nI n))] := hl
  have loop70 : ∀ (K70 : Nat) (j : Nat) (f : Nat → Int32) (ls : Array Slot) (H : Heap) (locs : List Loc), (8 * g + 8 ≤ j) → (j ≤ 8 * g + 8 + 8 * b) → (f = xp (mHp M) (8 * g + 8) j (nI 0)) → (8 * g + 8 + 8 * b) - j = K70 → lv_has ls 6 [(5, .int (nI j)), (4, .int (nI (g + b + 1))), (0, .ref (am 0)), (1, .int (nI g)), (2, .int (nI (b + 2))), (3, .int (nI n))] → va_P D vwCl [(am 0, .inr (1, [.ref (am 1), .ref (am 2), .ref (am 3), .ref (am 4), .ref (am 5), .int (nI (mSum M)), .int (nI (mQn M)), .int (nI ((xc (mIs M 1) 64) + 1))])), (am 1, .inl (cI, 512, .inl f)), (am 2, .inl (cI, 64, .inl (xu (xu (xp (xu (mSh M) g (-1)) (g + 1) (g + b + 1) (nI 0)) (g + b) (nI (n % 8))) (g + b + 1) (-1)))), (am 3, .inl (cI, 64, .inl (fun zz => nI ((xu (mSz M) g (b + 2)) zz)))), (am 4, .inl (cZ, 64, .inl (fun zz => zI ((mIs M 2) zz)))), (am 5, .inl (cI, 64, .inl (fun zz => nI ((mQf M) zz))))] H → va_D A [(am 0, .inr (1, [.ref (am 1), .ref (am 2), .ref (am 3), .ref (am 4), .ref (am 5), .int (nI (mSum M)), .int (nI (mQn M)), .int (nI ((xc (mIs M 1) 64) + 1))])), (am 1, .inl (cI, 512, .inl f)), (am 2, .inl (cI, 64, .inl (xu (xu (xp (xu (mSh M) g (-1)) (g + 1) (g + b + 1) (nI 0)) (g + b) (nI (n % 8))) (g + b + 1) (-1)))), (am 3, .inl (cI, 64, .inl (fun zz => nI ((xu (mSz M) g (b + 2)) zz)))), (am 4, .inl (cZ, 64, .inl (fun zz => zI ((mIs M 2) zz)))), (am 5, .inl (cI, 64, .inl (fun zz => nI ((mQf M) zz))))] → va_S A s.heap H locs → W p l e rm_Me_placeBlock s m args below meth c H locs 0 0 Q (F0 m 70 ls []) := by
    intro K70
    induction K70 using Nat.strongRecOn with
    | _ K70 ih70 =>
      intro j f ls H locs g1 g2 hf hK70 hl hP hD hS
      refine lv_iload hx hb d_Me_placeBlock_70 (lv_at hl 0 rfl) ?_
      refine lv_iload hx hb d_Me_placeBlock_72 (lv_at hl 1 rfl) ?_
      refine lv_bipush (v := nI 8) hx hb d_Me_placeBlock_74 (by decide) ?_
      refine x_imul hM d_Me_placeBlock_76 ?_
      refine x_icmp_ge (tgt := 94) hM (by omega) (by omega) d_Me_placeBlock_77 (by decide) (fun hc77 => ?_) (fun hc77 => ?_)
      · skip
        obtain rfl : j = 8 * g + 8 + 8 * b := by omega
        subst hf
        have e94 := mPut_sh (f := mSh M) (s := g) (b := b) (x := nI (n % 8)) hb1
        rw [show xu (xu (xp (xu (mSh M) g (-1)) (g + 1) (g + b + 1) (nI 0)) (g + b) (nI (n % 8))) (g + b + 1) (-1) = _ from e94, mPut_su (n := n) hm hf0, mPut_isf (n := n) hm hb1 hf0, ← mPut_live (n := n) hm hb1 hg hf0] at hP hD
        have hP : va_P D vwCl [(am 0, .inr (1, [.ref (am 1), .ref (am 2), .ref (am 3), .ref (am 4), .ref (am 5), .int (nI (mSum (mPut M g b n))), .int (nI (mQn M)), .int (nI (xc (mIs (mPut M g b n) 1) 64))])), (am 1, .inl (cI, 512, .inl (xp (mHp M) (8 * g + 8) (8 * g + 8 + 8 * b) (nI 0)))), (am 2, .inl (cI, 64, .inl (xu (xu (xu (xp (mSh M) g (g + b + 2) 0) g (-1)) (g + b) (nI (n % 8))) (g + b + 1) (-1)))), (am 3, .inl (cI, 64, .inl (fun zz => nI ((xu (mSz M) g (b + 2)) zz)))), (am 4, .inl (cZ, 64, .inl (fun zz => zI ((mIs (mPut M g b n) 2) zz)))), (am 5, .inl (cI, 64, .inl (fun zz => nI ((mQf M) zz))))] H := hP
        have hD : va_D A [(am 0, .inr (1, [.ref (am 1), .ref (am 2), .ref (am 3), .ref (am 4), .ref (am 5), .int (nI (mSum (mPut M g b n))), .int (nI (mQn M)), .int (nI (xc (mIs (mPut M g b n) 1) 64))])), (am 1, .inl (cI, 512, .inl (xp (mHp M) (8 * g + 8) (8 * g + 8 + 8 * b) (nI 0)))), (am 2, .inl (cI, 64, .inl (xu (xu (xu (xp (mSh M) g (g + b + 2) 0) g (-1)) (g + b) (nI (n % 8))) (g + b + 1) (-1)))), (am 3, .inl (cI, 64, .inl (fun zz => nI ((xu (mSz M) g (b + 2)) zz)))), (am 4, .inl (cZ, 64, .inl (fun zz => zI ((mIs (mPut M g b n) 2) zz)))), (am 5, .inl (cI, 64, .inl (fun zz => nI ((mQf M) zz))))] := hD
        exact x_vret hM hQ rfl hP hK hD hS d_Me_placeBlock_94
      · skip
        refine lv_aload_n hx hb d_Me_placeBlock_80 rfl (lv_at hl 2 rfl) ?_
        refine x_get hM hK hP 0 1 0 i_Me rfl rfl (by decide) q_fl_Me_11 rfl d_Me_placeBlock_81 ?_
        refine lv_iload hx hb d_Me_placeBlock_84 (lv_at hl 0 rfl) ?_
        refine lv_iconst (v := nI 0) hx hb d_Me_placeBlock_86 (by decide) ?_
        refine x_iast hM hK hP hD hS 1 0 rfl rfl (by omega) (by decide) d_Me_placeBlock_87 (fun H locs hP hD hS => ?_)
        have hP : va_P D vwCl [(am 0, .inr (1, [.ref (am 1), .ref (am 2), .ref (am 3), .ref (am 4), .ref (am 5), .int (nI (mSum M)), .int (nI (mQn M)), .int (nI ((xc (mIs M 1) 64) + 1))])), (am 1, .inl (cI, 512, .inl (xu f j (nI 0)))), (am 2, .inl (cI, 64, .inl (xu (xu (xp (xu (mSh M) g (-1)) (g + 1) (g + b + 1) (nI 0)) (g + b) (nI (n % 8))) (g + b + 1) (-1)))), (am 3, .inl (cI, 64, .inl (fun zz => nI ((xu (mSz M) g (b + 2)) zz)))), (am 4, .inl (cZ, 64, .inl (fun zz => zI ((mIs M 2) zz)))), (am 5, .inl (cI, 64, .inl (fun zz => nI ((mQf M) zz))))] H := hP
        have hD : va_D A [(am 0, .inr (1, [.ref (am 1), .ref (am 2), .ref (am 3), .ref (am 4), .ref (am 5), .int (nI (mSum M)), .int (nI (mQn M)), .int (nI ((xc (mIs M 1) 64) + 1))])), (am 1, .inl (cI, 512, .inl (xu f j (nI 0)))), (am 2, .inl (cI, 64, .inl (xu (xu (xp (xu (mSh M) g (-1)) (g + 1) (g + b + 1) (nI 0)) (g + b) (nI (n % 8))) (g + b + 1) (-1)))), (am 3, .inl (cI, 64, .inl (fun zz => nI ((xu (mSz M) g (b + 2)) zz)))), (am 4, .inl (cZ, 64, .inl (fun zz => zI ((mIs M 2) zz)))), (am 5, .inl (cI, 64, .inl (fun zz => nI ((mQf M) zz))))] := hD
        refine lv_iinc (k := 0) (v := nI (j + 1)) hx hb d_Me_placeBlock_88 hl rfl (by rw [show Int32.ofInt 1 = nI 1 by decide, nI_add]) (by decide) rfl (fun ls hl => ?_)
        have hl : lv_has ls 6 [(5, .int (nI (j + 1))), (4, .int (nI (g + b + 1))), (0, .ref (am 0)), (1, .int (nI g)), (2, .int (nI (b + 2))), (3, .int (nI n))] := hl
        refine lv_goto hx hb d_Me_placeBlock_91 (tgt := 70) (by decide) ?_
        exact ih70 _ (by omega) (j + 1) (xu f j (nI 0)) ls H locs (by omega) (by omega) (by rw [hf, xp_s g1]) rfl hl hP hD hS
  exact loop70 _ (8 * g + 8) (mHp M) ls H locs (by omega) (by omega) (xp_0 _ _ _).symm rfl hl hP hD hS
abbrev rm_Me_allocate : Room := { frames := 2, cells := 0, slots := 0, locals := 49 }
set_option maxHeartbeats 4000000 in
set_option maxRecDepth 100000 in
theorem c_Me_allocate (l : Launch) (D : va_G) (cI cZ cJ : ClassId) (sz : Nat) (am : Nat → Nat) (M : xMem) (x : Int32) (hm : mOk 20 M) : xCi l D (xT cI cZ cJ) y_Me_allocate k_Me_allocate rm_Me_allocate sz (wMe cI cZ am M) [.ref (am 0), .int x] ((mAl M x).2) (wMe cI cZ am ((mAl M x).1)) 0 0 := by
  refine x_ofi (cc := b_Me_allocate) (nL := 5) (ret := (some .int)) (by decide) rfl (Nat.le_of_ble_eq_true rfl) ?_
  intro p e s m args below meth c ls A Q hQ hM hsz hP hK hD hA hl
  obtain ⟨hx, hb, -, hml, hown, hts, -⟩ := id hM
  have hS : va_S A s.heap s.heap [] := va_S.rf
  have hl : lv_has ls 5 [(0, .ref (am 0)), (1, .int x)] := hl
  have hP : va_P D vwCl [(am 0, .inr (1, [.ref (am 1), .ref (am 2), .ref (am 3), .ref (am 4), .ref (am 5), .int (nI (mSum M)), .int (nI (mQn M)), .int (nI (xc (mIs M 1) 64))])), (am 1, .inl (cI, 512, .inl (mHp M))), (am 2, .inl (cI, 64, .inl (mSh M))), (am 3, .inl (cI, 64, .inl (fun zz => nI ((mSz M) zz)))), (am 4, .inl (cZ, 64, .inl (fun zz => zI ((mIs M 2) zz)))), (am 5, .inl (cI, 64, .inl (fun zz => nI ((mQf M) zz))))] s.heap := hP
  have hD : va_D A [(am 0, .inr (1, [.ref (am 1), .ref (am 2), .ref (am 3), .ref (am 4), .ref (am 5), .int (nI (mSum M)), .int (nI (mQn M)), .int (nI (xc (mIs M 1) 64))])), (am 1, .inl (cI, 512, .inl (mHp M))), (am 2, .inl (cI, 64, .inl (mSh M))), (am 3, .inl (cI, 64, .inl (fun zz => nI ((mSz M) zz)))), (am 4, .inl (cZ, 64, .inl (fun zz => zI ((mIs M 2) zz)))), (am 5, .inl (cI, 64, .inl (fun zz => nI ((mQf M) zz))))] := hD
  refine lv_iload_n hx hb d_Me_allocate_0 rfl (lv_at hl 1 rfl) ?_
  refine lv_iconst (v := nI 1) hx hb d_Me_allocate_1 (by decide) ?_
  refine lv_icmp_lt (tgt := 11) hx hb d_Me_allocate_2 (by decide) (fun hc2 => ?_) (fun hc2 => ?_)
  · skip
    refine lv_iconst (v := nI 0) hx hb d_Me_allocate_11 (by decide) ?_
    have eA := mAl_0 (M := M) (Or.inl hc2)
    exact x_iret hM hQ (by rw [eA]; rfl) (by rw [eA]) hP hK hD hS d_Me_allocate_12
  · skip
    refine lv_iload_n hx hb d_Me_allocate_5 rfl (lv_at hl 1 rfl) ?_
    refine lv_bipush (v := nI 100) hx hb d_Me_allocate_6 (by decide) ?_
    refine lv_icmp_le (tgt := 13) hx hb d_Me_allocate_8 (by decide) (fun hc8 => ?_) (fun hc8 => ?_)
    · skip
      obtain ⟨n, hn1, hn2, rfl⟩ := x_nat2 hc2 hc8
      refine lv_iload_n hx hb d_Me_allocate_13 rfl (lv_at hl 1 rfl) ?_
      refine lv_bipush (v := nI 8) hx hb d_Me_allocate_14 (by decide) ?_
      refine x_iadd hM d_Me_allocate_16 ?_
      refine lv_iconst (v := nI 1) hx hb d_Me_allocate_17 (by decide) ?_
      refine x_isub hM (by omega) d_Me_allocate_18 ?_
      refine lv_bipush (v := nI 8) hx hb d_Me_allocate_19 (by decide) ?_
      refine x_idiv hM (by omega) (by omega) (by omega) d_Me_allocate_21 ?_
      refine lv_iconst (v := nI 2) hx hb d_Me_allocate_22 (by decide) ?_
      refine x_iadd hM d_Me_allocate_23 ?_
      refine W.eq (g2 := F0 m 24 ls [.int (nI ((n + 7) / 8 + 2))]) (by rw [show n + 8 - 1 = n + 7 by omega]) ?_
      refine lv_istore_n hx hb d_Me_allocate_24 rfl hl (by decide) rfl (fun ls hl => ?_)
      have hl : lv_has ls 5 [(2, .int (nI ((n + 7) / 8 + 2))), (0, .ref (am 0)), (1, .int (nI n))] := hl
      refine lv_aload_n hx hb d_Me_allocate_25 rfl (lv_at hl 1 rfl) ?_
      refine lv_iload_n hx hb d_Me_allocate_26 rfl (lv_at hl 0 rfl) ?_
      refine x_calli (wc := (wMe cI cZ am M)) (wr := []) (va_runV (As := [.int (nI ((n + 7) / 8 + 2))]) (rest := []) ⟨hx, hb, hml, hown, hts⟩ (c_Me_lowestGap l D cI cZ cJ _ am M ((n + 7) / 8 + 2) 20 hm (by omega) (by omega)) (cwV 1 hts (bw_V q_ml_Me_45 q_im_Me_lowestGap q_se_Me_lowestGap q_in_Me q_cd_Me_lowestGap) rfl rfl rfl ⟨rfl, by decide, by decide, by decide +kernel⟩ ⟨Nat.le_of_ble_eq_true rfl, Nat.le_of_ble_eq_true rfl⟩) ⟨(x_pre (wc := (wMe cI cZ am M)) hP hD hK [0, 1, 2, 3, 4, 5] rfl (by decide)).1, va_recv hK hP (ci := 1) (q0 := 0) rfl rfl, (x_pre (wc := (wMe cI cZ am M)) hP hD hK [0, 1, 2, 3, 4, 5] rfl (by decide)).2⟩ rfl rfl hl.1 rfl (lv_room (Nat.le_of_ble_eq_true rfl)) d_Me_allocate_27 ⟨Nat.le_of_ble_eq_true rfl, Nat.le_of_ble_eq_true rfl⟩) hP hD hS hA [0, 1, 2, 3, 4, 5] [] rfl rfl (by decide) (by decide) (fun H locs hP hD hS => ?_)
      have hP : va_P D vwCl [(am 0, .inr (1, [.ref (am 1), .ref (am 2), .ref (am 3), .ref (am 4), .ref (am 5), .int (nI (mSum M)), .int (nI (mQn M)), .int (nI (xc (mIs M 1) 64))])), (am 1, .inl (cI, 512, .inl (mHp M))), (am 2, .inl (cI, 64, .inl (mSh M))), (am 3, .inl (cI, 64, .inl (fun zz => nI ((mSz M) zz)))), (am 4, .inl (cZ, 64, .inl (fun zz => zI ((mIs M 2) zz)))), (am 5, .inl (cI, 64, .inl (fun zz => nI ((mQf M) zz))))] H := hP
      have hD : va_D A [(am 0, .inr (1, [.ref (am 1), .ref (am 2), .ref (am 3), .ref (am 4), .ref (am 5), .int (nI (mSum M)), .int (nI (mQn M)), .int (nI (xc (mIs M 1) 64))])), (am 1, .inl (cI, 512, .inl (mHp M))), (am 2, .inl (cI, 64, .inl (mSh M))), (am 3, .inl (cI, 64, .inl (fun zz => nI ((mSz M) zz)))), (am 4, .inl (cZ, 64, .inl (fun zz => zI ((mIs M 2) zz)))), (am 5, .inl (cI, 64, .inl (fun zz => nI ((mQf M) zz))))] := hD
      refine lv_istore_n hx hb d_Me_allocate_30 rfl hl (by decide) rfl (fun ls hl => ?_)
      have hl : lv_has ls 5 [(3, .int (oI (mGap M ((n + 7) / 8 + 2)))), (2, .int (nI ((n + 7) / 8 + 2))), (0, .ref (am 0)), (1, .int (nI n))] := hl
      refine lv_aload_n hx hb d_Me_allocate_31 rfl (lv_at hl 2 rfl) ?_
      refine x_get hM hK hP 0 1 6 i_Me rfl rfl (by decide) q_fl_Me_35 rfl d_Me_allocate_32 ?_
      refine lv_istore hx hb d_Me_allocate_35 hl (by decide) rfl (fun ls hl => ?_)
      have hl : lv_has ls 5 [(4, .int (nI (mQn M))), (3, .int (oI (mGap M ((n + 7) / 8 + 2)))), (2, .int (nI ((n + 7) / 8 + 2))), (0, .ref (am 0)), (1, .int (nI n))] := hl
      have loop37 : ∀ (K37 : Nat) (V : xMem) (t : Nat) (ls : Array Slot) (H : Heap) (locs : List Loc), (mOk 20 V) → (mMk ((n + 7) / 8 + 2) M = mMk ((n + 7) / 8 + 2) V) → (t = mQn V) → t = K37 → lv_has ls 5 [(4, .int (nI t)), (3, .int (oI (mGap V ((n + 7) / 8 + 2)))), (2, .int (nI ((n + 7) / 8 + 2))), (0, .ref (am 0)), (1, .int (nI n))] → va_P D vwCl [(am 0, .inr (1, [.ref (am 1), .ref (am 2), .ref (am 3), .ref (am 4), .ref (am 5), .int (nI (mSum V)), .int (nI (mQn V)), .int (nI (xc (mIs V 1) 64))])), (am 1, .inl (cI, 512, .inl (mHp V))), (am 2, .inl (cI, 64, .inl (mSh V))), (am 3, .inl (cI, 64, .inl (fun zz => nI ((mSz V) zz)))), (am 4, .inl (cZ, 64, .inl (fun zz => zI ((mIs V 2) zz)))), (am 5, .inl (cI, 64, .inl (fun zz => nI ((mQf V) zz))))] H → va_D A [(am 0, .inr (1, [.ref (am 1), .ref (am 2), .ref (am 3), .ref (am 4), .ref (am 5), .int (nI (mSum V)), .int (nI (mQn V)), .int (nI (xc (mIs V 1) 64))])), (am 1, .inl (cI, 512, .inl (mHp V))), (am 2, .inl (cI, 64, .inl (mSh V))), (am 3, .inl (cI, 64, .inl (fun zz => nI ((mSz V) zz)))), (am 4, .inl (cZ, 64, .inl (fun zz => zI ((mIs V 2) zz)))), (am 5, .inl (cI, 64, .inl (fun zz => nI ((mQf V) zz))))] → va_S A s.heap H locs → W p l e rm_Me_allocate s m args below meth c H locs 0 0 Q (F0 m 37 ls []) := by
        intro K37
        induction K37 using Nat.strongRecOn with
        | _ K37 ih37 =>
          intro V t ls H locs gV hV ht hK37 hl hP hD hS
          have hq3 := mOk_qn gV
          refine lv_iload hx hb d_Me_allocate_37 (lv_at hl 0 rfl) ?_
          refine x_if_le (tgt := 63) hM (by omega) d_Me_allocate_39 (by decide) (fun hc39 => ?_) (fun hc39 => ?_)
          · skip
            refine lv_iload_n hx hb d_Me_allocate_63 rfl (lv_at hl 1 rfl) ?_
            refine lv_iconst (v := -1) hx hb d_Me_allocate_64 (by decide) ?_
            refine lv_icmp_ne (tgt := 70) hx hb d_Me_allocate_65 (by decide) (fun hc65 => ?_) (fun hc65 => ?_)
            · skip
              obtain ⟨g, hg⟩ := oI_ne hc65
              have hg1 := mGap_inv hg
              have eV : mMk ((n + 7) / 8 + 2) M = V := by rw [hV, mMk_0 (by omega)]
              rw [show oI (mGap V ((n + 7) / 8 + 2)) = nI g by rw [hg]; rfl] at hl
              have hl : lv_has ls 5 [(4, .int (nI t)), (3, .int (nI g)), (2, .int (nI ((n + 7) / 8 + 2))), (0, .ref (am 0)), (1, .int (nI n))] := hl
              refine lv_aload_n hx hb d_Me_allocate_70 rfl (lv_at hl 3 rfl) ?_
              refine lv_iload_n hx hb d_Me_allocate_71 rfl (lv_at hl 1 rfl) ?_
              refine lv_iload_n hx hb d_Me_allocate_72 rfl (lv_at hl 2 rfl) ?_
              refine lv_iload_n hx hb d_Me_allocate_73 rfl (lv_at hl 4 rfl) ?_
              refine x_callv (wc := (wMe cI cZ am V)) (wr := []) (va_runV (As := [.int (nI g), .int (nI ((n + 7) / 8 + 2)), .int (nI n)]) (rest := []) ⟨hx, hb, hml, hown, hts⟩ (c_Me_placeBlock l D cI cZ cJ _ am V g ((n + 7) / 8) n 20 gV (by omega) (by omega) (by omega) (fun k h1 h2 => hg1.2 k h1 (by omega))) (cwV 3 hts (bw_V q_ml_Me_52 q_im_Me_placeBlock q_se_Me_placeBlock q_in_Me q_cd_Me_placeBlock) rfl rfl rfl ⟨rfl, by decide, by decide, by decide +kernel⟩ ⟨Nat.le_of_ble_eq_true rfl, Nat.le_of_ble_eq_true rfl⟩) ⟨(x_pre (wc := (wMe cI cZ am V)) hP hD hK [0, 1, 2, 3, 4, 5] rfl (by decide)).1, va_recv hK hP (ci := 1) (q0 := 0) rfl rfl, (x_pre (wc := (wMe cI cZ am V)) hP hD hK [0, 1, 2, 3, 4, 5] rfl (by decide)).2⟩ rfl rfl hl.1 rfl (lv_room (Nat.le_of_ble_eq_true rfl)) d_Me_allocate_74 ⟨Nat.le_of_ble_eq_true rfl, Nat.le_of_ble_eq_true rfl⟩) hP hD hS hA [0, 1, 2, 3, 4, 5] [] rfl rfl (by decide) (by decide) (fun H locs hP hD hS => ?_)
              have hP : va_P D vwCl [(am 0, .inr (1, [.ref (am 1), .ref (am 2), .ref (am 3), .ref (am 4), .ref (am 5), .int (nI (mSum (mPut V g ((n + 7) / 8) n))), .int (nI (mQn (mPut V g ((n + 7) / 8) n))), .int (nI (xc (mIs (mPut V g ((n + 7) / 8) n) 1) 64))])), (am 1, .inl (cI, 512, .inl (mHp (mPut V g ((n + 7) / 8) n)))), (am 2, .inl (cI, 64, .inl (mSh (mPut V g ((n + 7) / 8) n)))), (am 3, .inl (cI, 64, .inl (fun zz => nI ((mSz (mPut V g ((n + 7) / 8) n)) zz)))), (am 4, .inl (cZ, 64, .inl (fun zz => zI ((mIs (mPut V g ((n + 7) / 8) n) 2) zz)))), (am 5, .inl (cI, 64, .inl (fun zz => nI ((mQf (mPut V g ((n + 7) / 8) n)) zz))))] H := hP
              have hD : va_D A [(am 0, .inr (1, [.ref (am 1), .ref (am 2), .ref (am 3), .ref (am 4), .ref (am 5), .int (nI (mSum (mPut V g ((n + 7) / 8) n))), .int (nI (mQn (mPut V g ((n + 7) / 8) n))), .int (nI (xc (mIs (mPut V g ((n + 7) / 8) n) 1) 64))])), (am 1, .inl (cI, 512, .inl (mHp (mPut V g ((n + 7) / 8) n)))), (am 2, .inl (cI, 64, .inl (mSh (mPut V g ((n + 7) / 8) n)))), (am 3, .inl (cI, 64, .inl (fun zz => nI ((mSz (mPut V g ((n + 7) / 8) n)) zz)))), (am 4, .inl (cZ, 64, .inl (fun zz => zI ((mIs (mPut V g ((n + 7) / 8) n) 2) zz)))), (am 5, .inl (cI, 64, .inl (fun zz => nI ((mQf (mPut V g ((n + 7) / 8) n)) zz))))] := hD
              refine lv_iload_n hx hb d_Me_allocate_77 rfl (lv_at hl 1 rfl) ?_
              refine lv_iconst (v := nI 1) hx hb d_Me_allocate_78 (by decide) ?_
              refine x_iadd hM d_Me_allocate_79 ?_
              refine lv_bipush (v := nI 8) hx hb d_Me_allocate_80 (by decide) ?_
              refine x_imul hM d_Me_allocate_82 ?_
              have eA := mAl_s hn1 hn2 eV hg
              exact x_iret hM hQ (by rw [eA, show (g + 1) * 8 = 8 * g + 8 by omega]) (by rw [eA]) hP hK hD hS d_Me_allocate_83
            · skip
              refine lv_iconst (v := nI 0) hx hb d_Me_allocate_68 (by decide) ?_
              have eA := mAl_f hn1 hn2 (show mMk ((n + 7) / 8 + 2) M = V by rw [hV, mMk_0 (by omega)]) (oI_m1 hc65 (fun g hg => by have := (mGap_inv hg).1; omega))
              exact x_iret hM hQ (by rw [eA]; rfl) (by rw [eA]) hP hK hD hS d_Me_allocate_69
          · skip
            refine lv_iload_n hx hb d_Me_allocate_42 rfl (lv_at hl 1 rfl) ?_
            refine lv_iconst (v := -1) hx hb d_Me_allocate_43 (by decide) ?_
            refine lv_icmp_ne (tgt := 63) hx hb d_Me_allocate_44 (by decide) (fun hc44 => ?_) (fun hc44 => ?_)
            · skip
              refine lv_iload_n hx hb d_Me_allocate_63 rfl (lv_at hl 1 rfl) ?_
              refine lv_iconst (v := -1) hx hb d_Me_allocate_64 (by decide) ?_
              refine lv_icmp_ne (tgt := 70) hx hb d_Me_allocate_65 (by decide) (fun hc65 => ?_) (fun hc65 => ?_)
              · skip
                obtain ⟨g, hg⟩ := oI_ne hc65
                have hg1 := mGap_inv hg
                have eV : mMk ((n + 7) / 8 + 2) M = V := by rw [hV, mMk_s hg]
                rw [show oI (mGap V ((n + 7) / 8 + 2)) = nI g by rw [hg]; rfl] at hl
                have hl : lv_has ls 5 [(4, .int (nI t)), (3, .int (nI g)), (2, .int (nI ((n + 7) / 8 + 2))), (0, .ref (am 0)), (1, .int (nI n))] := hl
                refine lv_aload_n hx hb d_Me_allocate_70 rfl (lv_at hl 3 rfl) ?_
                refine lv_iload_n hx hb d_Me_allocate_71 rfl (lv_at hl 1 rfl) ?_
                refine lv_iload_n hx hb d_Me_allocate_72 rfl (lv_at hl 2 rfl) ?_
                refine lv_iload_n hx hb d_Me_allocate_73 rfl (lv_at hl 4 rfl) ?_
                refine x_callv (wc := (wMe cI cZ am V)) (wr := []) (va_runV (As := [.int (nI g), .int (nI ((n + 7) / 8 + 2)), .int (nI n)]) (rest := []) ⟨hx, hb, hml, hown, hts⟩ (c_Me_placeBlock l D cI cZ cJ _ am V g ((n + 7) / 8) n 20 gV (by omega) (by omega) (by omega) (fun k h1 h2 => hg1.2 k h1 (by omega))) (cwV 3 hts (bw_V q_ml_Me_52 q_im_Me_placeBlock q_se_Me_placeBlock q_in_Me q_cd_Me_placeBlock) rfl rfl rfl ⟨rfl, by decide, by decide, by decide +kernel⟩ ⟨Nat.le_of_ble_eq_true rfl, Nat.le_of_ble_eq_true rfl⟩) ⟨(x_pre (wc := (wMe cI cZ am V)) hP hD hK [0, 1, 2, 3, 4, 5] rfl (by decide)).1, va_recv hK hP (ci := 1) (q0 := 0) rfl rfl, (x_pre (wc := (wMe cI cZ am V)) hP hD hK [0, 1, 2, 3, 4, 5] rfl (by decide)).2⟩ rfl rfl hl.1 rfl (lv_room (Nat.le_of_ble_eq_true rfl)) d_Me_allocate_74 ⟨Nat.le_of_ble_eq_true rfl, Nat.le_of_ble_eq_true rfl⟩) hP hD hS hA [0, 1, 2, 3, 4, 5] [] rfl rfl (by decide) (by decide) (fun H locs hP hD hS => ?_)
                have hP : va_P D vwCl [(am 0, .inr (1, [.ref (am 1), .ref (am 2), .ref (am 3), .ref (am 4), .ref (am 5), .int (nI (mSum (mPut V g ((n + 7) / 8) n))), .int (nI (mQn (mPut V g ((n + 7) / 8) n))), .int (nI (xc (mIs (mPut V g ((n + 7) / 8) n) 1) 64))])), (am 1, .inl (cI, 512, .inl (mHp (mPut V g ((n + 7) / 8) n)))), (am 2, .inl (cI, 64, .inl (mSh (mPut V g ((n + 7) / 8) n)))), (am 3, .inl (cI, 64, .inl (fun zz => nI ((mSz (mPut V g ((n + 7) / 8) n)) zz)))), (am 4, .inl (cZ, 64, .inl (fun zz => zI ((mIs (mPut V g ((n + 7) / 8) n) 2) zz)))), (am 5, .inl (cI, 64, .inl (fun zz => nI ((mQf (mPut V g ((n + 7) / 8) n)) zz))))] H := hP
                have hD : va_D A [(am 0, .inr (1, [.ref (am 1), .ref (am 2), .ref (am 3), .ref (am 4), .ref (am 5), .int (nI (mSum (mPut V g ((n + 7) / 8) n))), .int (nI (mQn (mPut V g ((n + 7) / 8) n))), .int (nI (xc (mIs (mPut V g ((n + 7) / 8) n) 1) 64))])), (am 1, .inl (cI, 512, .inl (mHp (mPut V g ((n + 7) / 8) n)))), (am 2, .inl (cI, 64, .inl (mSh (mPut V g ((n + 7) / 8) n)))), (am 3, .inl (cI, 64, .inl (fun zz => nI ((mSz (mPut V g ((n + 7) / 8) n)) zz)))), (am 4, .inl (cZ, 64, .inl (fun zz => zI ((mIs (mPut V g ((n + 7) / 8) n) 2) zz)))), (am 5, .inl (cI, 64, .inl (fun zz => nI ((mQf (mPut V g ((n + 7) / 8) n)) zz))))] := hD
                refine lv_iload_n hx hb d_Me_allocate_77 rfl (lv_at hl 1 rfl) ?_
                refine lv_iconst (v := nI 1) hx hb d_Me_allocate_78 (by decide) ?_
                refine x_iadd hM d_Me_allocate_79 ?_
                refine lv_bipush (v := nI 8) hx hb d_Me_allocate_80 (by decide) ?_
                refine x_imul hM d_Me_allocate_82 ?_
                have eA := mAl_s hn1 hn2 eV hg
                exact x_iret hM hQ (by rw [eA, show (g + 1) * 8 = 8 * g + 8 by omega]) (by rw [eA]) hP hK hD hS d_Me_allocate_83
              · skip
                first | exact absurd hc65 hc44 | exact absurd hc44 hc65 | (rw [hc65] at hc44; cases hc44) | omega
            · skip
              replace hc44 := oI_m1 hc44 (fun g hg => by have := (mGap_inv hg).1; omega)
              refine lv_aload_n hx hb d_Me_allocate_47 rfl (lv_at hl 3 rfl) ?_
              refine x_callv (wc := (wMe cI cZ am V)) (wr := []) (va_runV (As := []) (rest := []) ⟨hx, hb, hml, hown, hts⟩ (c_Me_releaseOldest l D cI cZ cJ _ am V 20 gV (by omega) (by omega)) (cwV 0 hts (bw_V q_ml_Me_49 q_im_Me_releaseOldest q_se_Me_releaseOldest q_in_Me q_cd_Me_releaseOldest) rfl rfl rfl ⟨rfl, by decide, by decide, by decide +kernel⟩ ⟨Nat.le_of_ble_eq_true rfl, Nat.le_of_ble_eq_true rfl⟩) ⟨(x_pre (wc := (wMe cI cZ am V)) hP hD hK [0, 1, 2, 3, 4, 5] rfl (by decide)).1, va_recv hK hP (ci := 1) (q0 := 0) rfl rfl, (x_pre (wc := (wMe cI cZ am V)) hP hD hK [0, 1, 2, 3, 4, 5] rfl (by decide)).2⟩ rfl rfl hl.1 rfl (lv_room (Nat.le_of_ble_eq_true rfl)) d_Me_allocate_48 ⟨Nat.le_of_ble_eq_true rfl, Nat.le_of_ble_eq_true rfl⟩) hP hD hS hA [0, 1, 2, 3, 4, 5] [] rfl rfl (by decide) (by decide) (fun H locs hP hD hS => ?_)
              have hP : va_P D vwCl [(am 0, .inr (1, [.ref (am 1), .ref (am 2), .ref (am 3), .ref (am 4), .ref (am 5), .int (nI (mSum (mRel V))), .int (nI (mQn (mRel V))), .int (nI (xc (mIs (mRel V) 1) 64))])), (am 1, .inl (cI, 512, .inl (mHp (mRel V)))), (am 2, .inl (cI, 64, .inl (mSh (mRel V)))), (am 3, .inl (cI, 64, .inl (fun zz => nI ((mSz (mRel V)) zz)))), (am 4, .inl (cZ, 64, .inl (fun zz => zI ((mIs (mRel V) 2) zz)))), (am 5, .inl (cI, 64, .inl (fun zz => nI ((mQf (mRel V)) zz))))] H := hP
              have hD : va_D A [(am 0, .inr (1, [.ref (am 1), .ref (am 2), .ref (am 3), .ref (am 4), .ref (am 5), .int (nI (mSum (mRel V))), .int (nI (mQn (mRel V))), .int (nI (xc (mIs (mRel V) 1) 64))])), (am 1, .inl (cI, 512, .inl (mHp (mRel V)))), (am 2, .inl (cI, 64, .inl (mSh (mRel V)))), (am 3, .inl (cI, 64, .inl (fun zz => nI ((mSz (mRel V)) zz)))), (am 4, .inl (cZ, 64, .inl (fun zz => zI ((mIs (mRel V) 2) zz)))), (am 5, .inl (cI, 64, .inl (fun zz => nI ((mQf (mRel V)) zz))))] := hD
              refine lv_aload_n hx hb d_Me_allocate_51 rfl (lv_at hl 3 rfl) ?_
              refine lv_iload_n hx hb d_Me_allocate_52 rfl (lv_at hl 2 rfl) ?_
              refine x_calli (wc := (wMe cI cZ am (mRel V))) (wr := []) (va_runV (As := [.int (nI ((n + 7) / 8 + 2))]) (rest := []) ⟨hx, hb, hml, hown, hts⟩ (c_Me_lowestGap l D cI cZ cJ _ am (mRel V) ((n + 7) / 8 + 2) 20 (mRel_ok gV (by omega)) (by omega) (by omega)) (cwV 1 hts (bw_V q_ml_Me_45 q_im_Me_lowestGap q_se_Me_lowestGap q_in_Me q_cd_Me_lowestGap) rfl rfl rfl ⟨rfl, by decide, by decide, by decide +kernel⟩ ⟨Nat.le_of_ble_eq_true rfl, Nat.le_of_ble_eq_true rfl⟩) ⟨(x_pre (wc := (wMe cI cZ am (mRel V))) hP hD hK [0, 1, 2, 3, 4, 5] rfl (by decide)).1, va_recv hK hP (ci := 1) (q0 := 0) rfl rfl, (x_pre (wc := (wMe cI cZ am (mRel V))) hP hD hK [0, 1, 2, 3, 4, 5] rfl (by decide)).2⟩ rfl rfl hl.1 rfl (lv_room (Nat.le_of_ble_eq_true rfl)) d_Me_allocate_53 ⟨Nat.le_of_ble_eq_true rfl, Nat.le_of_ble_eq_true rfl⟩) hP hD hS hA [0, 1, 2, 3, 4, 5] [] rfl rfl (by decide) (by decide) (fun H locs hP hD hS => ?_)
              have hP : va_P D vwCl [(am 0, .inr (1, [.ref (am 1), .ref (am 2), .ref (am 3), .ref (am 4), .ref (am 5), .int (nI (mSum (mRel V))), .int (nI (mQn (mRel V))), .int (nI (xc (mIs (mRel V) 1) 64))])), (am 1, .inl (cI, 512, .inl (mHp (mRel V)))), (am 2, .inl (cI, 64, .inl (mSh (mRel V)))), (am 3, .inl (cI, 64, .inl (fun zz => nI ((mSz (mRel V)) zz)))), (am 4, .inl (cZ, 64, .inl (fun zz => zI ((mIs (mRel V) 2) zz)))), (am 5, .inl (cI, 64, .inl (fun zz => nI ((mQf (mRel V)) zz))))] H := hP
              have hD : va_D A [(am 0, .inr (1, [.ref (am 1), .ref (am 2), .ref (am 3), .ref (am 4), .ref (am 5), .int (nI (mSum (mRel V))), .int (nI (mQn (mRel V))), .int (nI (xc (mIs (mRel V) 1) 64))])), (am 1, .inl (cI, 512, .inl (mHp (mRel V)))), (am 2, .inl (cI, 64, .inl (mSh (mRel V)))), (am 3, .inl (cI, 64, .inl (fun zz => nI ((mSz (mRel V)) zz)))), (am 4, .inl (cZ, 64, .inl (fun zz => zI ((mIs (mRel V) 2) zz)))), (am 5, .inl (cI, 64, .inl (fun zz => nI ((mQf (mRel V)) zz))))] := hD
              refine lv_istore_n hx hb d_Me_allocate_56 rfl hl (by decide) rfl (fun ls hl => ?_)
              have hl : lv_has ls 5 [(3, .int (oI (mGap (mRel V) ((n + 7) / 8 + 2)))), (4, .int (nI t)), (2, .int (nI ((n + 7) / 8 + 2))), (0, .ref (am 0)), (1, .int (nI n))] := hl
              refine lv_iinc (k := 1) (v := nI (t - 1)) hx hb d_Me_allocate_57 hl rfl (x_dec (by omega)) (by decide) rfl (fun ls hl => ?_)
              have hl : lv_has ls 5 [(4, .int (nI (t - 1))), (3, .int (oI (mGap (mRel V) ((n + 7) / 8 + 2)))), (2, .int (nI ((n + 7) / 8 + 2))), (0, .ref (am 0)), (1, .int (nI n))] := hl
              refine lv_goto hx hb d_Me_allocate_60 (tgt := 37) (by decide) ?_
              exact ih37 _ (by omega) (mRel V) (t - 1) ls H locs (mRel_ok gV (by omega)) (by rw [hV, mMk_n hc44 (by omega)]) (by show t - 1 = mQn V - 1; omega) rfl hl hP hD hS
      exact loop37 _ M (mQn M) ls H locs hm rfl rfl rfl hl hP hD hS
    · skip
      refine lv_iconst (v := nI 0) hx hb d_Me_allocate_11 (by decide) ?_
      have eA := mAl_0 (M := M) (Or.inr (Int32.not_le.mp hc8))
      exact x_iret hM hQ (by rw [eA]; rfl) (by rw [eA]) hP hK hD hS d_Me_allocate_12
abbrev rm_Me_free : Room := { frames := 2, cells := 0, slots := 0, locals := 47 }
set_option maxHeartbeats 4000000 in
set_option maxRecDepth 100000 in
theorem c_Me_free (l : Launch) (D : va_G) (cI cZ cJ : ClassId) (sz : Nat) (am : Nat → Nat) (M : xMem) (n : Nat) (hm : mOk 20 M) (hn : n < 512) (hh : n ≠ 0 → 8 ≤ n ∧ 0 < mSz M (n / 8 - 1) ∧ mOw M (n / 8 - 1) = 1) : xCv l D (xT cI cZ cJ) y_Me_free k_Me_free rm_Me_free sz (wMe cI cZ am M) [.ref (am 0), .int (nI n)] (wMe cI cZ am (mFx M n)) 0 0 := by
  refine x_ofv (cc := b_Me_free) (nL := 5) (ret := none) (by decide) rfl (Nat.le_of_ble_eq_true rfl) ?_
  intro p e s m args below meth c ls A Q hQ hM hsz hP hK hD hA hl
  obtain ⟨hx, hb, -, hml, hown, hts, -⟩ := id hM
  have hS : va_S A s.heap s.heap [] := va_S.rf
  have hl : lv_has ls 5 [(0, .ref (am 0)), (1, .int (nI n))] := hl
  have hP : va_P D vwCl [(am 0, .inr (1, [.ref (am 1), .ref (am 2), .ref (am 3), .ref (am 4), .ref (am 5), .int (nI (mSum M)), .int (nI (mQn M)), .int (nI (xc (mIs M 1) 64))])), (am 1, .inl (cI, 512, .inl (mHp M))), (am 2, .inl (cI, 64, .inl (mSh M))), (am 3, .inl (cI, 64, .inl (fun zz => nI ((mSz M) zz)))), (am 4, .inl (cZ, 64, .inl (fun zz => zI ((mIs M 2) zz)))), (am 5, .inl (cI, 64, .inl (fun zz => nI ((mQf M) zz))))] s.heap := hP
  have hD : va_D A [(am 0, .inr (1, [.ref (am 1), .ref (am 2), .ref (am 3), .ref (am 4), .ref (am 5), .int (nI (mSum M)), .int (nI (mQn M)), .int (nI (xc (mIs M 1) 64))])), (am 1, .inl (cI, 512, .inl (mHp M))), (am 2, .inl (cI, 64, .inl (mSh M))), (am 3, .inl (cI, 64, .inl (fun zz => nI ((mSz M) zz)))), (am 4, .inl (cZ, 64, .inl (fun zz => zI ((mIs M 2) zz)))), (am 5, .inl (cI, 64, .inl (fun zz => nI ((mQf M) zz))))] := hD
  have hq3 := mOk_qn hm
  refine lv_iload_n hx hb d_Me_free_0 rfl (lv_at hl 1 rfl) ?_
  refine x_if_ne (tgt := 5) hM (by omega) d_Me_free_1 (by decide) (fun hc1 => ?_) (fun hc1 => ?_)
  · skip
    obtain ⟨h8, hz, hw⟩ := hh hc1
    have hs1 := hm.1 _ hz
    have hlv := mFre_live hm hz hw
    refine lv_iload_n hx hb d_Me_free_5 rfl (lv_at hl 1 rfl) ?_
    refine lv_bipush (v := nI 8) hx hb d_Me_free_6 (by decide) ?_
    refine x_idiv hM (by omega) (by omega) (by omega) d_Me_free_8 ?_
    refine lv_iconst (v := nI 1) hx hb d_Me_free_9 (by decide) ?_
    refine x_isub hM (by omega) d_Me_free_10 ?_
    refine lv_istore_n hx hb d_Me_free_11 rfl hl (by decide) rfl (fun ls hl => ?_)
    have hl : lv_has ls 5 [(2, .int (nI ((n / 8) - 1))), (0, .ref (am 0)), (1, .int (nI n))] := hl
    refine lv_aload_n hx hb d_Me_free_12 rfl (lv_at hl 1 rfl) ?_
    refine x_get hM hK hP 0 1 2 i_Me rfl rfl (by decide) q_fl_Me_18 rfl d_Me_free_13 ?_
    refine lv_iload_n hx hb d_Me_free_16 rfl (lv_at hl 0 rfl) ?_
    refine x_iald hM hK hP 3 0 rfl rfl (by omega) (by decide) d_Me_free_17 ?_
    refine lv_istore_n hx hb d_Me_free_18 rfl hl (by decide) rfl (fun ls hl => ?_)
    have hl : lv_has ls 5 [(3, .int (nI ((mSz M) ((n / 8) - 1)))), (2, .int (nI ((n / 8) - 1))), (0, .ref (am 0)), (1, .int (nI n))] := hl
    refine lv_aload_n hx hb d_Me_free_19 rfl (lv_at hl 2 rfl) ?_
    refine lv_iload_n hx hb d_Me_free_20 rfl (lv_at hl 1 rfl) ?_
    refine lv_iconst (v := nI 1) hx hb d_Me_free_21 (by decide) ?_
    refine x_iadd hM d_Me_free_22 ?_
    refine lv_iload_n hx hb d_Me_free_23 rfl (lv_at hl 1 rfl) ?_
    refine lv_iload_n hx hb d_Me_free_24 rfl (lv_at hl 0 rfl) ?_
    refine x_iadd hM d_Me_free_25 ?_
    refine lv_iconst (v := nI 1) hx hb d_Me_free_26 (by decide) ?_
    refine x_isub hM (by omega) d_Me_free_27 ?_
    refine lv_bipush (v := -2) hx hb d_Me_free_28 (by decide) ?_
    refine x_callv (wc := [(am 0, .inr (1, [.ref (am 1), .ref (am 2), .ref (am 3), .ref (am 4), .ref (am 5), .int (nI (mSum M)), .int (nI (mQn M)), .int (nI (xc (mIs M 1) 64))])), (am 2, .inl (cI, 64, .inl (mSh M)))]) (wr := [(am 1, .inl (cI, 512, .inl (mHp M))), (am 3, .inl (cI, 64, .inl (fun zz => nI ((mSz M) zz)))), (am 4, .inl (cZ, 64, .inl (fun zz => zI ((mIs M 2) zz)))), (am 5, .inl (cI, 64, .inl (fun zz => nI ((mQf M) zz))))]) (va_runV (As := [.int (nI (((n / 8) - 1) + 1)), .int (nI ((((n / 8) - 1) + ((mSz M) ((n / 8) - 1))) - 1)), .int (-2)]) (rest := []) ⟨hx, hb, hml, hown, hts⟩ (c_Me_paint l D cI cZ cJ _ am (mSum M) (mQn M) (xc (mIs M 1) 64) (mSh M) (((n / 8) - 1) + 1) ((((n / 8) - 1) + ((mSz M) ((n / 8) - 1))) - 1) (-2) (by omega) (by omega)) (cwV 3 hts (bw_V q_ml_Me_56 q_im_Me_paint q_se_Me_paint q_in_Me q_cd_Me_paint) rfl rfl rfl ⟨rfl, by decide, by decide, by decide +kernel⟩ ⟨Nat.le_of_ble_eq_true rfl, Nat.le_of_ble_eq_true rfl⟩) ⟨(x_pre (wc := [(am 0, .inr (1, [.ref (am 1), .ref (am 2), .ref (am 3), .ref (am 4), .ref (am 5), .int (nI (mSum M)), .int (nI (mQn M)), .int (nI (xc (mIs M 1) 64))])), (am 2, .inl (cI, 64, .inl (mSh M)))]) hP hD hK [0, 2] rfl (by decide)).1, va_recv hK hP (ci := 1) (q0 := 0) rfl rfl, (x_pre (wc := [(am 0, .inr (1, [.ref (am 1), .ref (am 2), .ref (am 3), .ref (am 4), .ref (am 5), .int (nI (mSum M)), .int (nI (mQn M)), .int (nI (xc (mIs M 1) 64))])), (am 2, .inl (cI, 64, .inl (mSh M)))]) hP hD hK [0, 2] rfl (by decide)).2⟩ rfl rfl hl.1 rfl (lv_room (Nat.le_of_ble_eq_true rfl)) d_Me_free_30 ⟨Nat.le_of_ble_eq_true rfl, Nat.le_of_ble_eq_true rfl⟩) hP hD hS hA [0, 2] [1, 3, 4, 5] rfl rfl (by decide) (by decide) (fun H locs hP hD hS => ?_)
    have hP := hP.sub (ws' := [(am 0, .inr (1, [.ref (am 1), .ref (am 2), .ref (am 3), .ref (am 4), .ref (am 5), .int (nI (mSum M)), .int (nI (mQn M)), .int (nI (xc (mIs M 1) 64))])), (am 1, .inl (cI, 512, .inl (mHp M))), (am 2, .inl (cI, 64, .inl (xp (mSh M) (((n / 8) - 1) + 1) ((((n / 8) - 1) + ((mSz M) ((n / 8) - 1))) - 1) (-2)))), (am 3, .inl (cI, 64, .inl (fun zz => nI ((mSz M) zz)))), (am 4, .inl (cZ, 64, .inl (fun zz => zI ((mIs M 2) zz)))), (am 5, .inl (cI, 64, .inl (fun zz => nI ((mQf M) zz))))]) [4, 0, 5, 1, 2, 3] rfl
    have hD := hD.sub (ws' := [(am 0, .inr (1, [.ref (am 1), .ref (am 2), .ref (am 3), .ref (am 4), .ref (am 5), .int (nI (mSum M)), .int (nI (mQn M)), .int (nI (xc (mIs M 1) 64))])), (am 1, .inl (cI, 512, .inl (mHp M))), (am 2, .inl (cI, 64, .inl (xp (mSh M) (((n / 8) - 1) + 1) ((((n / 8) - 1) + ((mSz M) ((n / 8) - 1))) - 1) (-2)))), (am 3, .inl (cI, 64, .inl (fun zz => nI ((mSz M) zz)))), (am 4, .inl (cZ, 64, .inl (fun zz => zI ((mIs M 2) zz)))), (am 5, .inl (cI, 64, .inl (fun zz => nI ((mQf M) zz))))]) [4, 0, 5, 1, 2, 3] (by decide) rfl
    refine lv_aload_n hx hb d_Me_free_33 rfl (lv_at hl 2 rfl) ?_
    refine x_get hM hK hP 0 1 3 i_Me rfl rfl (by decide) q_fl_Me_21 rfl d_Me_free_34 ?_
    refine lv_iload_n hx hb d_Me_free_37 rfl (lv_at hl 1 rfl) ?_
    refine lv_iconst (v := nI 1) hx hb d_Me_free_38 (by decide) ?_
    refine x_zastB (b := true) (by decide) hM hK hP hD hS 4 1 rfl rfl (by omega) (by decide) d_Me_free_39 (fun H locs hP hD hS => ?_)
    have hP : va_P D vwCl [(am 0, .inr (1, [.ref (am 1), .ref (am 2), .ref (am 3), .ref (am 4), .ref (am 5), .int (nI (mSum M)), .int (nI (mQn M)), .int (nI (xc (mIs M 1) 64))])), (am 1, .inl (cI, 512, .inl (mHp M))), (am 2, .inl (cI, 64, .inl (xp (mSh M) (((n / 8) - 1) + 1) ((((n / 8) - 1) + ((mSz M) ((n / 8) - 1))) - 1) (-2)))), (am 3, .inl (cI, 64, .inl (fun zz => nI ((mSz M) zz)))), (am 4, .inl (cZ, 64, .inl (fun zz => zI ((xu (mIs M 2) ((n / 8) - 1) true) zz)))), (am 5, .inl (cI, 64, .inl (fun zz => nI ((mQf M) zz))))] H := hP
    have hD : va_D A [(am 0, .inr (1, [.ref (am 1), .ref (am 2), .ref (am 3), .ref (am 4), .ref (am 5), .int (nI (mSum M)), .int (nI (mQn M)), .int (nI (xc (mIs M 1) 64))])), (am 1, .inl (cI, 512, .inl (mHp M))), (am 2, .inl (cI, 64, .inl (xp (mSh M) (((n / 8) - 1) + 1) ((((n / 8) - 1) + ((mSz M) ((n / 8) - 1))) - 1) (-2)))), (am 3, .inl (cI, 64, .inl (fun zz => nI ((mSz M) zz)))), (am 4, .inl (cZ, 64, .inl (fun zz => zI ((xu (mIs M 2) ((n / 8) - 1) true) zz)))), (am 5, .inl (cI, 64, .inl (fun zz => nI ((mQf M) zz))))] := hD
    refine lv_aload_n hx hb d_Me_free_40 rfl (lv_at hl 2 rfl) ?_
    refine x_get hM hK hP 0 1 4 i_Me rfl rfl (by decide) q_fl_Me_25 rfl d_Me_free_41 ?_
    refine lv_aload_n hx hb d_Me_free_44 rfl (lv_at hl 2 rfl) ?_
    refine x_get hM hK hP 0 1 6 i_Me rfl rfl (by decide) q_fl_Me_35 rfl d_Me_free_45 ?_
    refine lv_iload_n hx hb d_Me_free_48 rfl (lv_at hl 1 rfl) ?_
    refine x_iastN hM hK hP hD hS 5 0 rfl rfl (by omega) (by decide) d_Me_free_49 (fun H locs hP hD hS => ?_)
    have hP : va_P D vwCl [(am 0, .inr (1, [.ref (am 1), .ref (am 2), .ref (am 3), .ref (am 4), .ref (am 5), .int (nI (mSum M)), .int (nI (mQn M)), .int (nI (xc (mIs M 1) 64))])), (am 1, .inl (cI, 512, .inl (mHp M))), (am 2, .inl (cI, 64, .inl (xp (mSh M) (((n / 8) - 1) + 1) ((((n / 8) - 1) + ((mSz M) ((n / 8) - 1))) - 1) (-2)))), (am 3, .inl (cI, 64, .inl (fun zz => nI ((mSz M) zz)))), (am 4, .inl (cZ, 64, .inl (fun zz => zI ((xu (mIs M 2) ((n / 8) - 1) true) zz)))), (am 5, .inl (cI, 64, .inl (fun zz => nI ((xu (mQf M) (mQn M) ((n / 8) - 1)) zz))))] H := hP
    have hD : va_D A [(am 0, .inr (1, [.ref (am 1), .ref (am 2), .ref (am 3), .ref (am 4), .ref (am 5), .int (nI (mSum M)), .int (nI (mQn M)), .int (nI (xc (mIs M 1) 64))])), (am 1, .inl (cI, 512, .inl (mHp M))), (am 2, .inl (cI, 64, .inl (xp (mSh M) (((n / 8) - 1) + 1) ((((n / 8) - 1) + ((mSz M) ((n / 8) - 1))) - 1) (-2)))), (am 3, .inl (cI, 64, .inl (fun zz => nI ((mSz M) zz)))), (am 4, .inl (cZ, 64, .inl (fun zz => zI ((xu (mIs M 2) ((n / 8) - 1) true) zz)))), (am 5, .inl (cI, 64, .inl (fun zz => nI ((xu (mQf M) (mQn M) ((n / 8) - 1)) zz))))] := hD
    refine lv_aload_n hx hb d_Me_free_50 rfl (lv_at hl 2 rfl) ?_
    refine lv_dup hx hb d_Me_free_51 rfl ?_
    refine x_get hM hK hP 0 1 6 i_Me rfl rfl (by decide) q_fl_Me_35 rfl d_Me_free_52 ?_
    refine lv_iconst (v := nI 1) hx hb d_Me_free_55 (by decide) ?_
    refine x_iadd hM d_Me_free_56 ?_
    refine x_put hM hK hP hD hS 0 1 6 i_Me t_Me t_Me_ok n_Me rfl rfl (by decide) q_fl_Me_35 rfl rfl rfl (Nat.le_of_ble_eq_true rfl) d_Me_free_57 (fun H locs hP hD hS => ?_)
    have hP : va_P D vwCl [(am 0, .inr (1, [.ref (am 1), .ref (am 2), .ref (am 3), .ref (am 4), .ref (am 5), .int (nI (mSum M)), .int (nI ((mQn M) + 1)), .int (nI (xc (mIs M 1) 64))])), (am 1, .inl (cI, 512, .inl (mHp M))), (am 2, .inl (cI, 64, .inl (xp (mSh M) (((n / 8) - 1) + 1) ((((n / 8) - 1) + ((mSz M) ((n / 8) - 1))) - 1) (-2)))), (am 3, .inl (cI, 64, .inl (fun zz => nI ((mSz M) zz)))), (am 4, .inl (cZ, 64, .inl (fun zz => zI ((xu (mIs M 2) ((n / 8) - 1) true) zz)))), (am 5, .inl (cI, 64, .inl (fun zz => nI ((xu (mQf M) (mQn M) ((n / 8) - 1)) zz))))] H := hP
    have hD : va_D A [(am 0, .inr (1, [.ref (am 1), .ref (am 2), .ref (am 3), .ref (am 4), .ref (am 5), .int (nI (mSum M)), .int (nI ((mQn M) + 1)), .int (nI (xc (mIs M 1) 64))])), (am 1, .inl (cI, 512, .inl (mHp M))), (am 2, .inl (cI, 64, .inl (xp (mSh M) (((n / 8) - 1) + 1) ((((n / 8) - 1) + ((mSz M) ((n / 8) - 1))) - 1) (-2)))), (am 3, .inl (cI, 64, .inl (fun zz => nI ((mSz M) zz)))), (am 4, .inl (cZ, 64, .inl (fun zz => zI ((xu (mIs M 2) ((n / 8) - 1) true) zz)))), (am 5, .inl (cI, 64, .inl (fun zz => nI ((xu (mQf M) (mQn M) ((n / 8) - 1)) zz))))] := hD
    refine lv_aload_n hx hb d_Me_free_60 rfl (lv_at hl 2 rfl) ?_
    refine lv_dup hx hb d_Me_free_61 rfl ?_
    refine x_get hM hK hP 0 1 5 i_Me rfl rfl (by decide) q_fl_Me_31 rfl d_Me_free_62 ?_
    refine lv_iload_n hx hb d_Me_free_65 rfl (lv_at hl 0 rfl) ?_
    refine x_iadd hM d_Me_free_66 ?_
    refine x_put hM hK hP hD hS 0 1 5 i_Me t_Me t_Me_ok n_Me rfl rfl (by decide) q_fl_Me_31 rfl rfl rfl (Nat.le_of_ble_eq_true rfl) d_Me_free_67 (fun H locs hP hD hS => ?_)
    have hP : va_P D vwCl [(am 0, .inr (1, [.ref (am 1), .ref (am 2), .ref (am 3), .ref (am 4), .ref (am 5), .int (nI ((mSum M) + ((mSz M) ((n / 8) - 1)))), .int (nI ((mQn M) + 1)), .int (nI (xc (mIs M 1) 64))])), (am 1, .inl (cI, 512, .inl (mHp M))), (am 2, .inl (cI, 64, .inl (xp (mSh M) (((n / 8) - 1) + 1) ((((n / 8) - 1) + ((mSz M) ((n / 8) - 1))) - 1) (-2)))), (am 3, .inl (cI, 64, .inl (fun zz => nI ((mSz M) zz)))), (am 4, .inl (cZ, 64, .inl (fun zz => zI ((xu (mIs M 2) ((n / 8) - 1) true) zz)))), (am 5, .inl (cI, 64, .inl (fun zz => nI ((xu (mQf M) (mQn M) ((n / 8) - 1)) zz))))] H := hP
    have hD : va_D A [(am 0, .inr (1, [.ref (am 1), .ref (am 2), .ref (am 3), .ref (am 4), .ref (am 5), .int (nI ((mSum M) + ((mSz M) ((n / 8) - 1)))), .int (nI ((mQn M) + 1)), .int (nI (xc (mIs M 1) 64))])), (am 1, .inl (cI, 512, .inl (mHp M))), (am 2, .inl (cI, 64, .inl (xp (mSh M) (((n / 8) - 1) + 1) ((((n / 8) - 1) + ((mSz M) ((n / 8) - 1))) - 1) (-2)))), (am 3, .inl (cI, 64, .inl (fun zz => nI ((mSz M) zz)))), (am 4, .inl (cZ, 64, .inl (fun zz => zI ((xu (mIs M 2) ((n / 8) - 1) true) zz)))), (am 5, .inl (cI, 64, .inl (fun zz => nI ((xu (mQf M) (mQn M) ((n / 8) - 1)) zz))))] := hD
    refine lv_aload_n hx hb d_Me_free_70 rfl (lv_at hl 2 rfl) ?_
    refine lv_dup hx hb d_Me_free_71 rfl ?_
    refine x_get hM hK hP 0 1 7 i_Me rfl rfl (by decide) q_fl_Me_38 rfl d_Me_free_72 ?_
    refine lv_iconst (v := nI 1) hx hb d_Me_free_75 (by decide) ?_
    refine x_isub hM (by omega) d_Me_free_76 ?_
    refine x_put hM hK hP hD hS 0 1 7 i_Me t_Me t_Me_ok n_Me rfl rfl (by decide) q_fl_Me_38 rfl rfl rfl (Nat.le_of_ble_eq_true rfl) d_Me_free_77 (fun H locs hP hD hS => ?_)
    have hP : va_P D vwCl [(am 0, .inr (1, [.ref (am 1), .ref (am 2), .ref (am 3), .ref (am 4), .ref (am 5), .int (nI ((mSum M) + ((mSz M) ((n / 8) - 1)))), .int (nI ((mQn M) + 1)), .int (nI ((xc (mIs M 1) 64) - 1))])), (am 1, .inl (cI, 512, .inl (mHp M))), (am 2, .inl (cI, 64, .inl (xp (mSh M) (((n / 8) - 1) + 1) ((((n / 8) - 1) + ((mSz M) ((n / 8) - 1))) - 1) (-2)))), (am 3, .inl (cI, 64, .inl (fun zz => nI ((mSz M) zz)))), (am 4, .inl (cZ, 64, .inl (fun zz => zI ((xu (mIs M 2) ((n / 8) - 1) true) zz)))), (am 5, .inl (cI, 64, .inl (fun zz => nI ((xu (mQf M) (mQn M) ((n / 8) - 1)) zz))))] H := hP
    have hD : va_D A [(am 0, .inr (1, [.ref (am 1), .ref (am 2), .ref (am 3), .ref (am 4), .ref (am 5), .int (nI ((mSum M) + ((mSz M) ((n / 8) - 1)))), .int (nI ((mQn M) + 1)), .int (nI ((xc (mIs M 1) 64) - 1))])), (am 1, .inl (cI, 512, .inl (mHp M))), (am 2, .inl (cI, 64, .inl (xp (mSh M) (((n / 8) - 1) + 1) ((((n / 8) - 1) + ((mSz M) ((n / 8) - 1))) - 1) (-2)))), (am 3, .inl (cI, 64, .inl (fun zz => nI ((mSz M) zz)))), (am 4, .inl (cZ, 64, .inl (fun zz => zI ((xu (mIs M 2) ((n / 8) - 1) true) zz)))), (am 5, .inl (cI, 64, .inl (fun zz => nI ((xu (mQf M) (mQn M) ((n / 8) - 1)) zz))))] := hD
    rw [mFre_isf hm hz, mFre_lv hm hz hw, show mSum M + mSz M (n / 8 - 1) = mSum (mFre M (n / 8 - 1)) from mFre_sum.symm] at hP hD
    have hP : va_P D vwCl [(am 0, .inr (1, [.ref (am 1), .ref (am 2), .ref (am 3), .ref (am 4), .ref (am 5), .int (nI (mSum (mFre M (n / 8 - 1)))), .int (nI ((mQn M) + 1)), .int (nI (xc (mIs (mFre M (n / 8 - 1)) 1) 64))])), (am 1, .inl (cI, 512, .inl (mHp M))), (am 2, .inl (cI, 64, .inl (xp (mSh M) (((n / 8) - 1) + 1) ((((n / 8) - 1) + ((mSz M) ((n / 8) - 1))) - 1) (-2)))), (am 3, .inl (cI, 64, .inl (fun zz => nI ((mSz M) zz)))), (am 4, .inl (cZ, 64, .inl (fun zz => zI ((mIs (mFre M (n / 8 - 1)) 2) zz)))), (am 5, .inl (cI, 64, .inl (fun zz => nI ((xu (mQf M) (mQn M) ((n / 8) - 1)) zz))))] H := hP
    have hD : va_D A [(am 0, .inr (1, [.ref (am 1), .ref (am 2), .ref (am 3), .ref (am 4), .ref (am 5), .int (nI (mSum (mFre M (n / 8 - 1)))), .int (nI ((mQn M) + 1)), .int (nI (xc (mIs (mFre M (n / 8 - 1)) 1) 64))])), (am 1, .inl (cI, 512, .inl (mHp M))), (am 2, .inl (cI, 64, .inl (xp (mSh M) (((n / 8) - 1) + 1) ((((n / 8) - 1) + ((mSz M) ((n / 8) - 1))) - 1) (-2)))), (am 3, .inl (cI, 64, .inl (fun zz => nI ((mSz M) zz)))), (am 4, .inl (cZ, 64, .inl (fun zz => zI ((mIs (mFre M (n / 8 - 1)) 2) zz)))), (am 5, .inl (cI, 64, .inl (fun zz => nI ((xu (mQf M) (mQn M) ((n / 8) - 1)) zz))))] := hD
    refine lv_aload_n hx hb d_Me_free_80 rfl (lv_at hl 2 rfl) ?_
    refine x_get hM hK hP 0 1 6 i_Me rfl rfl (by decide) q_fl_Me_35 rfl d_Me_free_81 ?_
    refine lv_istore hx hb d_Me_free_84 hl (by decide) rfl (fun ls hl => ?_)
    have hl : lv_has ls 5 [(4, .int (nI ((mQn M) + 1))), (3, .int (nI ((mSz M) ((n / 8) - 1)))), (2, .int (nI ((n / 8) - 1))), (0, .ref (am 0)), (1, .int (nI n))] := hl
    have loop86 : ∀ (K86 : Nat) (V : xMem) (t : Nat) (ls : Array Slot) (H : Heap) (locs : List Loc), (mOk 84 V) → (mTr (mFre M (n / 8 - 1)) = mTr V) → (t = mQn V) → t = K86 → lv_has ls 5 [(4, .int (nI t)), (0, .ref (am 0))] → va_P D vwCl [(am 0, .inr (1, [.ref (am 1), .ref (am 2), .ref (am 3), .ref (am 4), .ref (am 5), .int (nI (mSum V)), .int (nI (mQn V)), .int (nI (xc (mIs V 1) 64))])), (am 1, .inl (cI, 512, .inl (mHp V))), (am 2, .inl (cI, 64, .inl (mSh V))), (am 3, .inl (cI, 64, .inl (fun zz => nI ((mSz V) zz)))), (am 4, .inl (cZ, 64, .inl (fun zz => zI ((mIs V 2) zz)))), (am 5, .inl (cI, 64, .inl (fun zz => nI ((mQf V) zz))))] H → va_D A [(am 0, .inr (1, [.ref (am 1), .ref (am 2), .ref (am 3), .ref (am 4), .ref (am 5), .int (nI (mSum V)), .int (nI (mQn V)), .int (nI (xc (mIs V 1) 64))])), (am 1, .inl (cI, 512, .inl (mHp V))), (am 2, .inl (cI, 64, .inl (mSh V))), (am 3, .inl (cI, 64, .inl (fun zz => nI ((mSz V) zz)))), (am 4, .inl (cZ, 64, .inl (fun zz => zI ((mIs V 2) zz)))), (am 5, .inl (cI, 64, .inl (fun zz => nI ((mQf V) zz))))] → va_S A s.heap H locs → W p l e rm_Me_free s m args below meth c H locs 0 0 Q (F0 m 86 ls []) := by
      intro K86
      induction K86 using Nat.strongRecOn with
      | _ K86 ih86 =>
        intro V t ls H locs gV hV ht hK86 hl hP hD hS
        have hq4 := mOk_qn gV
        have hB := gV.2.2.2.2.2.2
        refine lv_iload hx hb d_Me_free_86 (lv_at hl 0 rfl) ?_
        refine x_if_le (tgt := 110) hM (by omega) d_Me_free_88 (by decide) (fun hc88 => ?_) (fun hc88 => ?_)
        · skip
          have hsV : mSum V ≤ 20 := by
            have h0 : mSum V = 0 := by
              unfold mSum; rw [← ht, hc88]; rfl
            omega
          exact x_vret hM hQ (by rw [show mFx M n = V from (by unfold mFx mFr; rw [if_neg hc1, hV, mTr_le hsV])]) hP hK hD hS d_Me_free_110
        · skip
          refine lv_aload_n hx hb d_Me_free_91 rfl (lv_at hl 1 rfl) ?_
          refine x_get hM hK hP 0 1 5 i_Me rfl rfl (by decide) q_fl_Me_31 rfl d_Me_free_92 ?_
          refine lv_bipush (v := nI 20) hx hb d_Me_free_95 (by decide) ?_
          refine x_icmp_le (tgt := 110) hM (by omega) (by omega) d_Me_free_97 (by decide) (fun hc97 => ?_) (fun hc97 => ?_)
          · skip
            have hsV : mSum V ≤ 20 := hc97
            exact x_vret hM hQ (by rw [show mFx M n = V from (by unfold mFx mFr; rw [if_neg hc1, hV, mTr_le hsV])]) hP hK hD hS d_Me_free_110
          · skip
            refine lv_aload_n hx hb d_Me_free_100 rfl (lv_at hl 1 rfl) ?_
            refine x_callv (wc := (wMe cI cZ am V)) (wr := []) (va_runV (As := []) (rest := []) ⟨hx, hb, hml, hown, hts⟩ (c_Me_releaseOldest l D cI cZ cJ _ am V 84 gV (by omega) (by omega)) (cwV 0 hts (bw_V q_ml_Me_49 q_im_Me_releaseOldest q_se_Me_releaseOldest q_in_Me q_cd_Me_releaseOldest) rfl rfl rfl ⟨rfl, by decide, by decide, by decide +kernel⟩ ⟨Nat.le_of_ble_eq_true rfl, Nat.le_of_ble_eq_true rfl⟩) ⟨(x_pre (wc := (wMe cI cZ am V)) hP hD hK [0, 1, 2, 3, 4, 5] rfl (by decide)).1, va_recv hK hP (ci := 1) (q0 := 0) rfl rfl, (x_pre (wc := (wMe cI cZ am V)) hP hD hK [0, 1, 2, 3, 4, 5] rfl (by decide)).2⟩ rfl rfl hl.1 rfl (lv_room (Nat.le_of_ble_eq_true rfl)) d_Me_free_101 ⟨Nat.le_of_ble_eq_true rfl, Nat.le_of_ble_eq_true rfl⟩) hP hD hS hA [0, 1, 2, 3, 4, 5] [] rfl rfl (by decide) (by decide) (fun H locs hP hD hS => ?_)
            have hP : va_P D vwCl [(am 0, .inr (1, [.ref (am 1), .ref (am 2), .ref (am 3), .ref (am 4), .ref (am 5), .int (nI (mSum (mRel V))), .int (nI (mQn (mRel V))), .int (nI (xc (mIs (mRel V) 1) 64))])), (am 1, .inl (cI, 512, .inl (mHp (mRel V)))), (am 2, .inl (cI, 64, .inl (mSh (mRel V)))), (am 3, .inl (cI, 64, .inl (fun zz => nI ((mSz (mRel V)) zz)))), (am 4, .inl (cZ, 64, .inl (fun zz => zI ((mIs (mRel V) 2) zz)))), (am 5, .inl (cI, 64, .inl (fun zz => nI ((mQf (mRel V)) zz))))] H := hP
            have hD : va_D A [(am 0, .inr (1, [.ref (am 1), .ref (am 2), .ref (am 3), .ref (am 4), .ref (am 5), .int (nI (mSum (mRel V))), .int (nI (mQn (mRel V))), .int (nI (xc (mIs (mRel V) 1) 64))])), (am 1, .inl (cI, 512, .inl (mHp (mRel V)))), (am 2, .inl (cI, 64, .inl (mSh (mRel V)))), (am 3, .inl (cI, 64, .inl (fun zz => nI ((mSz (mRel V)) zz)))), (am 4, .inl (cZ, 64, .inl (fun zz => zI ((mIs (mRel V) 2) zz)))), (am 5, .inl (cI, 64, .inl (fun zz => nI ((mQf (mRel V)) zz))))] := hD
            refine lv_iinc (k := 0) (v := nI (t - 1)) hx hb d_Me_free_104 hl rfl (x_dec (by omega)) (by decide) rfl (fun ls hl => ?_)
            have hl : lv_has ls 5 [(4, .int (nI (t - 1))), (0, .ref (am 0))] := hl
            refine lv_goto hx hb d_Me_free_107 (tgt := 86) (by decide) ?_
            exact ih86 _ (by omega) (mRel V) (t - 1) ls H locs (mRel_ok gV (by omega)) (by rw [hV, mTr_gt hc97]) (by show t - 1 = mQn V - 1; omega) rfl hl hP hD hS
    exact loop86 _ (mFre M (n / 8 - 1)) (mQn M + 1) ls H locs (mFre_ok hm hz hw) rfl rfl rfl (lv_sub hl [0, 3] rfl) hP hD hS
  · skip
    exact x_vret hM hQ (by rw [show mFx M n = M from if_pos hc1]) hP hK hD hS d_Me_free_4
