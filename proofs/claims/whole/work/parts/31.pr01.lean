abbrev rm_Li_begin40 : Room := { frames := 0, cells := 0, slots := 0, locals := 0 }
set_option maxHeartbeats 4000000 in
set_option maxRecDepth 100000 in
theorem c_Li_begin40 (l : Launch) (D : va_G) (cI cZ cJ : ClassId) (sz : Nat) (l0 : Nat) (l1 : Nat) (l2 : Nat) (l3 : Nat) (n : Nat) (f1 : Nat → Nat) (f2 : Nat → Nat) (f3 : Nat → Nat) (i : Nat) (hi : i < 40) : xCv l D (xT cI cZ cJ) y_Li_beginInstruction k_Li_beginInstruction rm_Li_begin40 sz ([(l0, .inr (0, [.ref l1, .ref l2, .ref l3, .int (nI n)])), (l1, .inl (cI, 40, .inl (fun zz => nI (f1 zz)))), (l2, .inl (cI, 40, .inl (fun zz => nI (f2 zz)))), (l3, .inl (cI, 40, .inl (fun zz => nI (f3 zz))))]) [.ref l0, .int (nI i)] ([(l0, .inr (0, [.ref l1, .ref l2, .ref l3, .int (nI n)])), (l1, .inl (cI, 40, .inl (fun zz => nI (f1 zz)))), (l2, .inl (cI, 40, .inl (fun zz => nI (f2 zz)))), (l3, .inl (cI, 40, .inl (fun zz => nI ((xu f3 i n) zz))))]) 0 0 := by
  refine x_ofv (cc := b_Li_beginInstruction) (nL := 2) (ret := none) (by decide) rfl (Nat.le_of_ble_eq_true rfl) ?_
  intro p e s m args below meth c ls A Q hQ hM hsz hP hK hD hA hl
  obtain ⟨hx, hb, -, hml, hown, hts, -⟩ := id hM
  have hS : va_S A s.heap s.heap [] := va_S.rf
  have hl : lv_has ls 2 [(0, .ref l0), (1, .int (nI i))] := hl
  have hP : va_P D vwCl [(l0, .inr (0, [.ref l1, .ref l2, .ref l3, .int (nI n)])), (l1, .inl (cI, 40, .inl (fun zz => nI (f1 zz)))), (l2, .inl (cI, 40, .inl (fun zz => nI (f2 zz)))), (l3, .inl (cI, 40, .inl (fun zz => nI (f3 zz))))] s.heap := hP
  have hD : va_D A [(l0, .inr (0, [.ref l1, .ref l2, .ref l3, .int (nI n)])), (l1, .inl (cI, 40, .inl (fun zz => nI (f1 zz)))), (l2, .inl (cI, 40, .inl (fun zz => nI (f2 zz)))), (l3, .inl (cI, 40, .inl (fun zz => nI (f3 zz))))] := hD
  refine lv_aload_n hx hb d_Li_beginInstruction_0 rfl (lv_at hl 0 rfl) ?_
  refine x_get hM hK hP 0 0 2 i_Li rfl rfl (by decide) q_fl_Li_18 rfl d_Li_beginInstruction_1 ?_
  refine lv_iload_n hx hb d_Li_beginInstruction_4 rfl (lv_at hl 1 rfl) ?_
  refine lv_aload_n hx hb d_Li_beginInstruction_5 rfl (lv_at hl 0 rfl) ?_
  refine x_get hM hK hP 0 0 3 i_Li rfl rfl (by decide) q_fl_Li_21 rfl d_Li_beginInstruction_6 ?_
  refine x_iastN hM hK hP hD hS 3 0 rfl rfl (by omega) (by decide) d_Li_beginInstruction_9 (fun H locs hP hD hS => ?_)
  have hP : va_P D vwCl [(l0, .inr (0, [.ref l1, .ref l2, .ref l3, .int (nI n)])), (l1, .inl (cI, 40, .inl (fun zz => nI (f1 zz)))), (l2, .inl (cI, 40, .inl (fun zz => nI (f2 zz)))), (l3, .inl (cI, 40, .inl (fun zz => nI ((xu f3 i n) zz))))] H := hP
  have hD : va_D A [(l0, .inr (0, [.ref l1, .ref l2, .ref l3, .int (nI n)])), (l1, .inl (cI, 40, .inl (fun zz => nI (f1 zz)))), (l2, .inl (cI, 40, .inl (fun zz => nI (f2 zz)))), (l3, .inl (cI, 40, .inl (fun zz => nI ((xu f3 i n) zz))))] := hD
  exact x_vret hM hQ rfl hP hK hD hS d_Li_beginInstruction_10
abbrev rm_Li_append40 : Room := { frames := 0, cells := 0, slots := 0, locals := 0 }
set_option maxHeartbeats 4000000 in
set_option maxRecDepth 100000 in
theorem c_Li_append40 (l : Launch) (D : va_G) (cI cZ cJ : ClassId) (sz : Nat) (l0 : Nat) (l1 : Nat) (l2 : Nat) (l3 : Nat) (n : Nat) (f1 : Nat → Nat) (f2 : Nat → Nat) (f3 : Nat → Nat) (o : Nat) (i : Nat) (hn : n < 40) : xCv l D (xT cI cZ cJ) y_Li_append k_Li_append rm_Li_append40 sz ([(l0, .inr (0, [.ref l1, .ref l2, .ref l3, .int (nI n)])), (l1, .inl (cI, 40, .inl (fun zz => nI (f1 zz)))), (l2, .inl (cI, 40, .inl (fun zz => nI (f2 zz)))), (l3, .inl (cI, 40, .inl (fun zz => nI (f3 zz))))]) [.ref l0, .int (nI o), .int (nI i)] ([(l0, .inr (0, [.ref l1, .ref l2, .ref l3, .int (nI (n + 1))])), (l1, .inl (cI, 40, .inl (fun zz => nI ((xu f1 n o) zz)))), (l2, .inl (cI, 40, .inl (fun zz => nI ((xu f2 n i) zz)))), (l3, .inl (cI, 40, .inl (fun zz => nI (f3 zz))))]) 0 0 := by
  refine x_ofv (cc := b_Li_append) (nL := 3) (ret := none) (by decide) rfl (Nat.le_of_ble_eq_true rfl) ?_
  intro p e s m args below meth c ls A Q hQ hM hsz hP hK hD hA hl
  obtain ⟨hx, hb, -, hml, hown, hts, -⟩ := id hM
  have hS : va_S A s.heap s.heap [] := va_S.rf
  have hl : lv_has ls 3 [(0, .ref l0), (1, .int (nI o)), (2, .int (nI i))] := hl
  have hP : va_P D vwCl [(l0, .inr (0, [.ref l1, .ref l2, .ref l3, .int (nI n)])), (l1, .inl (cI, 40, .inl (fun zz => nI (f1 zz)))), (l2, .inl (cI, 40, .inl (fun zz => nI (f2 zz)))), (l3, .inl (cI, 40, .inl (fun zz => nI (f3 zz))))] s.heap := hP
  have hD : va_D A [(l0, .inr (0, [.ref l1, .ref l2, .ref l3, .int (nI n)])), (l1, .inl (cI, 40, .inl (fun zz => nI (f1 zz)))), (l2, .inl (cI, 40, .inl (fun zz => nI (f2 zz)))), (l3, .inl (cI, 40, .inl (fun zz => nI (f3 zz))))] := hD
  refine lv_aload_n hx hb d_Li_append_0 rfl (lv_at hl 0 rfl) ?_
  refine x_get hM hK hP 0 0 0 i_Li rfl rfl (by decide) q_fl_Li_9 rfl d_Li_append_1 ?_
  refine lv_aload_n hx hb d_Li_append_4 rfl (lv_at hl 0 rfl) ?_
  refine x_get hM hK hP 0 0 3 i_Li rfl rfl (by decide) q_fl_Li_21 rfl d_Li_append_5 ?_
  refine lv_iload_n hx hb d_Li_append_8 rfl (lv_at hl 1 rfl) ?_
  refine x_iastN hM hK hP hD hS 1 0 rfl rfl (by omega) (by decide) d_Li_append_9 (fun H locs hP hD hS => ?_)
  have hP : va_P D vwCl [(l0, .inr (0, [.ref l1, .ref l2, .ref l3, .int (nI n)])), (l1, .inl (cI, 40, .inl (fun zz => nI ((xu f1 n o) zz)))), (l2, .inl (cI, 40, .inl (fun zz => nI (f2 zz)))), (l3, .inl (cI, 40, .inl (fun zz => nI (f3 zz))))] H := hP
  have hD : va_D A [(l0, .inr (0, [.ref l1, .ref l2, .ref l3, .int (nI n)])), (l1, .inl (cI, 40, .inl (fun zz => nI ((xu f1 n o) zz)))), (l2, .inl (cI, 40, .inl (fun zz => nI (f2 zz)))), (l3, .inl (cI, 40, .inl (fun zz => nI (f3 zz))))] := hD
  refine lv_aload_n hx hb d_Li_append_10 rfl (lv_at hl 0 rfl) ?_
  refine x_get hM hK hP 0 0 1 i_Li rfl rfl (by decide) q_fl_Li_15 rfl d_Li_append_11 ?_
  refine lv_aload_n hx hb d_Li_append_14 rfl (lv_at hl 0 rfl) ?_
  refine x_get hM hK hP 0 0 3 i_Li rfl rfl (by decide) q_fl_Li_21 rfl d_Li_append_15 ?_
  refine lv_iload_n hx hb d_Li_append_18 rfl (lv_at hl 2 rfl) ?_
  refine x_iastN hM hK hP hD hS 2 0 rfl rfl (by omega) (by decide) d_Li_append_19 (fun H locs hP hD hS => ?_)
  have hP : va_P D vwCl [(l0, .inr (0, [.ref l1, .ref l2, .ref l3, .int (nI n)])), (l1, .inl (cI, 40, .inl (fun zz => nI ((xu f1 n o) zz)))), (l2, .inl (cI, 40, .inl (fun zz => nI ((xu f2 n i) zz)))), (l3, .inl (cI, 40, .inl (fun zz => nI (f3 zz))))] H := hP
  have hD : va_D A [(l0, .inr (0, [.ref l1, .ref l2, .ref l3, .int (nI n)])), (l1, .inl (cI, 40, .inl (fun zz => nI ((xu f1 n o) zz)))), (l2, .inl (cI, 40, .inl (fun zz => nI ((xu f2 n i) zz)))), (l3, .inl (cI, 40, .inl (fun zz => nI (f3 zz))))] := hD
  refine lv_aload_n hx hb d_Li_append_20 rfl (lv_at hl 0 rfl) ?_
  refine lv_dup hx hb d_Li_append_21 rfl ?_
  refine x_get hM hK hP 0 0 3 i_Li rfl rfl (by decide) q_fl_Li_21 rfl d_Li_append_22 ?_
  refine lv_iconst (v := nI 1) hx hb d_Li_append_25 (by decide) ?_
  refine x_iadd hM d_Li_append_26 ?_
  refine x_put hM hK hP hD hS 0 0 3 i_Li t_Li t_Li_ok n_Li rfl rfl (by decide) q_fl_Li_21 rfl rfl rfl (Nat.le_of_ble_eq_true rfl) d_Li_append_27 (fun H locs hP hD hS => ?_)
  have hP : va_P D vwCl [(l0, .inr (0, [.ref l1, .ref l2, .ref l3, .int (nI (n + 1))])), (l1, .inl (cI, 40, .inl (fun zz => nI ((xu f1 n o) zz)))), (l2, .inl (cI, 40, .inl (fun zz => nI ((xu f2 n i) zz)))), (l3, .inl (cI, 40, .inl (fun zz => nI (f3 zz))))] H := hP
  have hD : va_D A [(l0, .inr (0, [.ref l1, .ref l2, .ref l3, .int (nI (n + 1))])), (l1, .inl (cI, 40, .inl (fun zz => nI ((xu f1 n o) zz)))), (l2, .inl (cI, 40, .inl (fun zz => nI ((xu f2 n i) zz)))), (l3, .inl (cI, 40, .inl (fun zz => nI (f3 zz))))] := hD
  exact x_vret hM hQ rfl hP hK hD hS d_Li_append_30
abbrev rm_Li_begin80 : Room := { frames := 0, cells := 0, slots := 0, locals := 0 }
set_option maxHeartbeats 4000000 in
set_option maxRecDepth 100000 in
theorem c_Li_begin80 (l : Launch) (D : va_G) (cI cZ cJ : ClassId) (sz : Nat) (l0 : Nat) (l1 : Nat) (l2 : Nat) (l3 : Nat) (n : Nat) (f1 : Nat → Nat) (f2 : Nat → Nat) (f3 : Nat → Nat) (i : Nat) (hi : i < 40) : xCv l D (xT cI cZ cJ) y_Li_beginInstruction k_Li_beginInstruction rm_Li_begin80 sz ([(l0, .inr (0, [.ref l1, .ref l2, .ref l3, .int (nI n)])), (l1, .inl (cI, 80, .inl (fun zz => nI (f1 zz)))), (l2, .inl (cI, 80, .inl (fun zz => nI (f2 zz)))), (l3, .inl (cI, 40, .inl (fun zz => nI (f3 zz))))]) [.ref l0, .int (nI i)] ([(l0, .inr (0, [.ref l1, .ref l2, .ref l3, .int (nI n)])), (l1, .inl (cI, 80, .inl (fun zz => nI (f1 zz)))), (l2, .inl (cI, 80, .inl (fun zz => nI (f2 zz)))), (l3, .inl (cI, 40, .inl (fun zz => nI ((xu f3 i n) zz))))]) 0 0 := by
  refine x_ofv (cc := b_Li_beginInstruction) (nL := 2) (ret := none) (by decide) rfl (Nat.le_of_ble_eq_true rfl) ?_
  intro p e s m args below meth c ls A Q hQ hM hsz hP hK hD hA hl
  obtain ⟨hx, hb, -, hml, hown, hts, -⟩ := id hM
  have hS : va_S A s.heap s.heap [] := va_S.rf
  have hl : lv_has ls 2 [(0, .ref l0), (1, .int (nI i))] := hl
  have hP : va_P D vwCl [(l0, .inr (0, [.ref l1, .ref l2, .ref l3, .int (nI n)])), (l1, .inl (cI, 80, .inl (fun zz => nI (f1 zz)))), (l2, .inl (cI, 80, .inl (fun zz => nI (f2 zz)))), (l3, .inl (cI, 40, .inl (fun zz => nI (f3 zz))))] s.heap := hP
  have hD : va_D A [(l0, .inr (0, [.ref l1, .ref l2, .ref l3, .int (nI n)])), (l1, .inl (cI, 80, .inl (fun zz => nI (f1 zz)))), (l2, .inl (cI, 80, .inl (fun zz => nI (f2 zz)))), (l3, .inl (cI, 40, .inl (fun zz => nI (f3 zz))))] := hD
  refine lv_aload_n hx hb d_Li_beginInstruction_0 rfl (lv_at hl 0 rfl) ?_
  refine x_get hM hK hP 0 0 2 i_Li rfl rfl (by decide) q_fl_Li_18 rfl d_Li_beginInstruction_1 ?_
  refine lv_iload_n hx hb d_Li_beginInstruction_4 rfl (lv_at hl 1 rfl) ?_
  refine lv_aload_n hx hb d_Li_beginInstruction_5 rfl (lv_at hl 0 rfl) ?_
  refine x_get hM hK hP 0 0 3 i_Li rfl rfl (by decide) q_fl_Li_21 rfl d_Li_beginInstruction_6 ?_
  refine x_iastN hM hK hP hD hS 3 0 rfl rfl (by omega) (by decide) d_Li_beginInstruction_9 (fun H locs hP hD hS => ?_)
  have hP : va_P D vwCl [(l0, .inr (0, [.ref l1, .ref l2, .ref l3, .int (nI n)])), (l1, .inl (cI, 80, .inl (fun zz => nI (f1 zz)))), (l2, .inl (cI, 80, .inl (fun zz => nI (f2 zz)))), (l3, .inl (cI, 40, .inl (fun zz => nI ((xu f3 i n) zz))))] H := hP
  have hD : va_D A [(l0, .inr (0, [.ref l1, .ref l2, .ref l3, .int (nI n)])), (l1, .inl (cI, 80, .inl (fun zz => nI (f1 zz)))), (l2, .inl (cI, 80, .inl (fun zz => nI (f2 zz)))), (l3, .inl (cI, 40, .inl (fun zz => nI ((xu f3 i n) zz))))] := hD
  exact x_vret hM hQ rfl hP hK hD hS d_Li_beginInstruction_10
abbrev rm_Li_append80 : Room := { frames := 0, cells := 0, slots := 0, locals := 0 }
set_option maxHeartbeats 4000000 in
set_option maxRecDepth 100000 in
theorem c_Li_append80 (l : Launch) (D : va_G) (cI cZ cJ : ClassId) (sz : Nat) (l0 : Nat) (l1 : Nat) (l2 : Nat) (l3 : Nat) (n : Nat) (f1 : Nat → Nat) (f2 : Nat → Nat) (f3 : Nat → Nat) (o : Nat) (i : Nat) (hn : n < 80) : xCv l D (xT cI cZ cJ) y_Li_append k_Li_append rm_Li_append80 sz ([(l0, .inr (0, [.ref l1, .ref l2, .ref l3, .int (nI n)])), (l1, .inl (cI, 80, .inl (fun zz => nI (f1 zz)))), (l2, .inl (cI, 80, .inl (fun zz => nI (f2 zz)))), (l3, .inl (cI, 40, .inl (fun zz => nI (f3 zz))))]) [.ref l0, .int (nI o), .int (nI i)] ([(l0, .inr (0, [.ref l1, .ref l2, .ref l3, .int (nI (n + 1))])), (l1, .inl (cI, 80, .inl (fun zz => nI ((xu f1 n o) zz)))), (l2, .inl (cI, 80, .inl (fun zz => nI ((xu f2 n i) zz)))), (l3, .inl (cI, 40, .inl (fun zz => nI (f3 zz))))]) 0 0 := by
  refine x_ofv (cc := b_Li_append) (nL := 3) (ret := none) (by decide) rfl (Nat.le_of_ble_eq_true rfl) ?_
  intro p e s m args below meth c ls A Q hQ hM hsz hP hK hD hA hl
  obtain ⟨hx, hb, -, hml, hown, hts, -⟩ := id hM
  have hS : va_S A s.heap s.heap [] := va_S.rf
  have hl : lv_has ls 3 [(0, .ref l0), (1, .int (nI o)), (2, .int (nI i))] := hl
  have hP : va_P D vwCl [(l0, .inr (0, [.ref l1, .ref l2, .ref l3, .int (nI n)])), (l1, .inl (cI, 80, .inl (fun zz => nI (f1 zz)))), (l2, .inl (cI, 80, .inl (fun zz => nI (f2 zz)))), (l3, .inl (cI, 40, .inl (fun zz => nI (f3 zz))))] s.heap := hP
  have hD : va_D A [(l0, .inr (0, [.ref l1, .ref l2, .ref l3, .int (nI n)])), (l1, .inl (cI, 80, .inl (fun zz => nI (f1 zz)))), (l2, .inl (cI, 80, .inl (fun zz => nI (f2 zz)))), (l3, .inl (cI, 40, .inl (fun zz => nI (f3 zz))))] := hD
  refine lv_aload_n hx hb d_Li_append_0 rfl (lv_at hl 0 rfl) ?_
  refine x_get hM hK hP 0 0 0 i_Li rfl rfl (by decide) q_fl_Li_9 rfl d_Li_append_1 ?_
  refine lv_aload_n hx hb d_Li_append_4 rfl (lv_at hl 0 rfl) ?_
  refine x_get hM hK hP 0 0 3 i_Li rfl rfl (by decide) q_fl_Li_21 rfl d_Li_append_5 ?_
  refine lv_iload_n hx hb d_Li_append_8 rfl (lv_at hl 1 rfl) ?_
  refine x_iastN hM hK hP hD hS 1 0 rfl rfl (by omega) (by decide) d_Li_append_9 (fun H locs hP hD hS => ?_)
  have hP : va_P D vwCl [(l0, .inr (0, [.ref l1, .ref l2, .ref l3, .int (nI n)])), (l1, .inl (cI, 80, .inl (fun zz => nI ((xu f1 n o) zz)))), (l2, .inl (cI, 80, .inl (fun zz => nI (f2 zz)))), (l3, .inl (cI, 40, .inl (fun zz => nI (f3 zz))))] H := hP
  have hD : va_D A [(l0, .inr (0, [.ref l1, .ref l2, .ref l3, .int (nI n)])), (l1, .inl (cI, 80, .inl (fun zz => nI ((xu f1 n o) zz)))), (l2, .inl (cI, 80, .inl (fun zz => nI (f2 zz)))), (l3, .inl (cI, 40, .inl (fun zz => nI (f3 zz))))] := hD
  refine lv_aload_n hx hb d_Li_append_10 rfl (lv_at hl 0 rfl) ?_
  refine x_get hM hK hP 0 0 1 i_Li rfl rfl (by decide) q_fl_Li_15 rfl d_Li_append_11 ?_
  refine lv_aload_n hx hb d_Li_append_14 rfl (lv_at hl 0 rfl) ?_
  refine x_get hM hK hP 0 0 3 i_Li rfl rfl (by decide) q_fl_Li_21 rfl d_Li_append_15 ?_
  refine lv_iload_n hx hb d_Li_append_18 rfl (lv_at hl 2 rfl) ?_
  refine x_iastN hM hK hP hD hS 2 0 rfl rfl (by omega) (by decide) d_Li_append_19 (fun H locs hP hD hS => ?_)
  have hP : va_P D vwCl [(l0, .inr (0, [.ref l1, .ref l2, .ref l3, .int (nI n)])), (l1, .inl (cI, 80, .inl (fun zz => nI ((xu f1 n o) zz)))), (l2, .inl (cI, 80, .inl (fun zz => nI ((xu f2 n i) zz)))), (l3, .inl (cI, 40, .inl (fun zz => nI (f3 zz))))] H := hP
  have hD : va_D A [(l0, .inr (0, [.ref l1, .ref l2, .ref l3, .int (nI n)])), (l1, .inl (cI, 80, .inl (fun zz => nI ((xu f1 n o) zz)))), (l2, .inl (cI, 80, .inl (fun zz => nI ((xu f2 n i) zz)))), (l3, .inl (cI, 40, .inl (fun zz => nI (f3 zz))))] := hD
  refine lv_aload_n hx hb d_Li_append_20 rfl (lv_at hl 0 rfl) ?_
  refine lv_dup hx hb d_Li_append_21 rfl ?_
  refine x_get hM hK hP 0 0 3 i_Li rfl rfl (by decide) q_fl_Li_21 rfl d_Li_append_22 ?_
  refine lv_iconst (v := nI 1) hx hb d_Li_append_25 (by decide) ?_
  refine x_iadd hM d_Li_append_26 ?_
  refine x_put hM hK hP hD hS 0 0 3 i_Li t_Li t_Li_ok n_Li rfl rfl (by decide) q_fl_Li_21 rfl rfl rfl (Nat.le_of_ble_eq_true rfl) d_Li_append_27 (fun H locs hP hD hS => ?_)
  have hP : va_P D vwCl [(l0, .inr (0, [.ref l1, .ref l2, .ref l3, .int (nI (n + 1))])), (l1, .inl (cI, 80, .inl (fun zz => nI ((xu f1 n o) zz)))), (l2, .inl (cI, 80, .inl (fun zz => nI ((xu f2 n i) zz)))), (l3, .inl (cI, 40, .inl (fun zz => nI (f3 zz))))] H := hP
  have hD : va_D A [(l0, .inr (0, [.ref l1, .ref l2, .ref l3, .int (nI (n + 1))])), (l1, .inl (cI, 80, .inl (fun zz => nI ((xu f1 n o) zz)))), (l2, .inl (cI, 80, .inl (fun zz => nI ((xu f2 n i) zz)))), (l3, .inl (cI, 40, .inl (fun zz => nI (f3 zz))))] := hD
  exact x_vret hM hQ rfl hP hK hD hS d_Li_append_30
abbrev rm_Pr_size : Room := { frames := 0, cells := 0, slots := 0, locals := 0 }
set_option maxHeartbeats 4000000 in
set_option maxRecDepth 100000 in
theorem c_Pr_size (l : Launch) (D : va_G) (cI cZ cJ : ClassId) (sz : Nat) (ap : Nat → Nat) (P : xPg) (L : xLs)  : xCi l D (xT cI cZ cJ) y_Pr_size k_Pr_size rm_Pr_size sz (wPr cI ap P L) [.ref (ap 0)] (nI (pN P)) (wPr cI ap P L) 0 0 := by
  refine x_ofi (cc := b_Pr_size) (nL := 1) (ret := (some .int)) (by decide) rfl (Nat.le_of_ble_eq_true rfl) ?_
  intro p e s m args below meth c ls A Q hQ hM hsz hP hK hD hA hl
  obtain ⟨hx, hb, -, hml, hown, hts, -⟩ := id hM
  have hS : va_S A s.heap s.heap [] := va_S.rf
  have hl : lv_has ls 1 [(0, .ref (ap 0))] := hl
  have hP : va_P D vwCl [(ap 0, .inr (2, [.ref (ap 1), .ref (ap 2), .ref (ap 3), .ref (ap 4), .ref (ap 5), .ref (ap 9)])), (ap 1, .inl (cI, 40, .inl (fun zz => nI ((pR P) zz)))), (ap 2, .inl (cI, 40, .inl (fun zz => nI ((pA P) zz)))), (ap 3, .inl (cI, 40, .inl (fun zz => nI ((pB P) zz)))), (ap 4, .inl (cI, 40, .inl (pK P))), (ap 5, .inr (0, [.ref (ap 6), .ref (ap 7), .ref (ap 8), .int (nI (pN P))])), (ap 6, .inl (cI, 40, .inl (fun zz => nI ((pO P) zz)))), (ap 7, .inl (cI, 40, .inl (fun zz => nI (((L).1) zz)))), (ap 8, .inl (cI, 40, .inl (fun zz => nI (((L).2.1) zz)))), (ap 9, .inr (0, [.ref (ap 10), .ref (ap 11), .ref (ap 12), .int (nI (pl P (pN P)))])), (ap 10, .inl (cI, 80, .inl (fun zz => nI (((L).2.2.1) zz)))), (ap 11, .inl (cI, 80, .inl (fun zz => nI (((L).2.2.2.1) zz)))), (ap 12, .inl (cI, 40, .inl (fun zz => nI (((L).2.2.2.2) zz))))] s.heap := hP
  have hD : va_D A [(ap 0, .inr (2, [.ref (ap 1), .ref (ap 2), .ref (ap 3), .ref (ap 4), .ref (ap 5), .ref (ap 9)])), (ap 1, .inl (cI, 40, .inl (fun zz => nI ((pR P) zz)))), (ap 2, .inl (cI, 40, .inl (fun zz => nI ((pA P) zz)))), (ap 3, .inl (cI, 40, .inl (fun zz => nI ((pB P) zz)))), (ap 4, .inl (cI, 40, .inl (pK P))), (ap 5, .inr (0, [.ref (ap 6), .ref (ap 7), .ref (ap 8), .int (nI (pN P))])), (ap 6, .inl (cI, 40, .inl (fun zz => nI ((pO P) zz)))), (ap 7, .inl (cI, 40, .inl (fun zz => nI (((L).1) zz)))), (ap 8, .inl (cI, 40, .inl (fun zz => nI (((L).2.1) zz)))), (ap 9, .inr (0, [.ref (ap 10), .ref (ap 11), .ref (ap 12), .int (nI (pl P (pN P)))])), (ap 10, .inl (cI, 80, .inl (fun zz => nI (((L).2.2.1) zz)))), (ap 11, .inl (cI, 80, .inl (fun zz => nI (((L).2.2.2.1) zz)))), (ap 12, .inl (cI, 40, .inl (fun zz => nI (((L).2.2.2.2) zz))))] := hD
  refine lv_aload_n hx hb d_Pr_size_0 rfl (lv_at hl 0 rfl) ?_
  refine x_get hM hK hP 0 2 4 i_Pr rfl rfl (by decide) q_fl_Pr_29 rfl d_Pr_size_1 ?_
  refine x_get hM hK hP 5 0 3 i_Li rfl rfl (by decide) q_fl_Pr_36 rfl d_Pr_size_4 ?_
  exact x_iret hM hQ rfl rfl hP hK hD hS d_Pr_size_7
abbrev rm_Pr_removeAll : Room := { frames := 0, cells := 0, slots := 0, locals := 0 }
set_option maxHeartbeats 4000000 in
set_option maxRecDepth 100000 in
theorem c_Pr_removeAll (l : Launch) (D : va_G) (cI cZ cJ : ClassId) (sz : Nat) (ap : Nat → Nat) (P : xPg) (L : xLs)  : xCv l D (xT cI cZ cJ) y_Pr_removeAll k_Pr_removeAll rm_Pr_removeAll sz (wPr cI ap P L) [.ref (ap 0)] (wPr cI ap (0, pO P, pR P, pA P, pB P, pK P) L) 0 0 := by
  refine x_ofv (cc := b_Pr_removeAll) (nL := 1) (ret := none) (by decide) rfl (Nat.le_of_ble_eq_true rfl) ?_
  intro p e s m args below meth c ls A Q hQ hM hsz hP hK hD hA hl
  obtain ⟨hx, hb, -, hml, hown, hts, -⟩ := id hM
  have hS : va_S A s.heap s.heap [] := va_S.rf
  have hl : lv_has ls 1 [(0, .ref (ap 0))] := hl
  have hP : va_P D vwCl [(ap 0, .inr (2, [.ref (ap 1), .ref (ap 2), .ref (ap 3), .ref (ap 4), .ref (ap 5), .ref (ap 9)])), (ap 1, .inl (cI, 40, .inl (fun zz => nI ((pR P) zz)))), (ap 2, .inl (cI, 40, .inl (fun zz => nI ((pA P) zz)))), (ap 3, .inl (cI, 40, .inl (fun zz => nI ((pB P) zz)))), (ap 4, .inl (cI, 40, .inl (pK P))), (ap 5, .inr (0, [.ref (ap 6), .ref (ap 7), .ref (ap 8), .int (nI (pN P))])), (ap 6, .inl (cI, 40, .inl (fun zz => nI ((pO P) zz)))), (ap 7, .inl (cI, 40, .inl (fun zz => nI (((L).1) zz)))), (ap 8, .inl (cI, 40, .inl (fun zz => nI (((L).2.1) zz)))), (ap 9, .inr (0, [.ref (ap 10), .ref (ap 11), .ref (ap 12), .int (nI (pl P (pN P)))])), (ap 10, .inl (cI, 80, .inl (fun zz => nI (((L).2.2.1) zz)))), (ap 11, .inl (cI, 80, .inl (fun zz => nI (((L).2.2.2.1) zz)))), (ap 12, .inl (cI, 40, .inl (fun zz => nI (((L).2.2.2.2) zz))))] s.heap := hP
  have hD : va_D A [(ap 0, .inr (2, [.ref (ap 1), .ref (ap 2), .ref (ap 3), .ref (ap 4), .ref (ap 5), .ref (ap 9)])), (ap 1, .inl (cI, 40, .inl (fun zz => nI ((pR P) zz)))), (ap 2, .inl (cI, 40, .inl (fun zz => nI ((pA P) zz)))), (ap 3, .inl (cI, 40, .inl (fun zz => nI ((pB P) zz)))), (ap 4, .inl (cI, 40, .inl (pK P))), (ap 5, .inr (0, [.ref (ap 6), .ref (ap 7), .ref (ap 8), .int (nI (pN P))])), (ap 6, .inl (cI, 40, .inl (fun zz => nI ((pO P) zz)))), (ap 7, .inl (cI, 40, .inl (fun zz => nI (((L).1) zz)))), (ap 8, .inl (cI, 40, .inl (fun zz => nI (((L).2.1) zz)))), (ap 9, .inr (0, [.ref (ap 10), .ref (ap 11), .ref (ap 12), .int (nI (pl P (pN P)))])), (ap 10, .inl (cI, 80, .inl (fun zz => nI (((L).2.2.1) zz)))), (ap 11, .inl (cI, 80, .inl (fun zz => nI (((L).2.2.2.1) zz)))), (ap 12, .inl (cI, 40, .inl (fun zz => nI (((L).2.2.2.2) zz))))] := hD
  refine lv_aload_n hx hb d_Pr_removeAll_0 rfl (lv_at hl 0 rfl) ?_
  refine x_get hM hK hP 0 2 4 i_Pr rfl rfl (by decide) q_fl_Pr_29 rfl d_Pr_removeAll_1 ?_
  refine lv_iconst (v := nI 0) hx hb d_Pr_removeAll_4 (by decide) ?_
  refine x_put hM hK hP hD hS 5 0 3 i_Li t_Li t_Li_ok n_Li rfl rfl (by decide) q_fl_Pr_36 rfl rfl rfl (Nat.le_of_ble_eq_true rfl) d_Pr_removeAll_5 (fun H locs hP hD hS => ?_)
  have hP : va_P D vwCl [(ap 0, .inr (2, [.ref (ap 1), .ref (ap 2), .ref (ap 3), .ref (ap 4), .ref (ap 5), .ref (ap 9)])), (ap 1, .inl (cI, 40, .inl (fun zz => nI ((pR P) zz)))), (ap 2, .inl (cI, 40, .inl (fun zz => nI ((pA P) zz)))), (ap 3, .inl (cI, 40, .inl (fun zz => nI ((pB P) zz)))), (ap 4, .inl (cI, 40, .inl (pK P))), (ap 5, .inr (0, [.ref (ap 6), .ref (ap 7), .ref (ap 8), .int (nI 0)])), (ap 6, .inl (cI, 40, .inl (fun zz => nI ((pO P) zz)))), (ap 7, .inl (cI, 40, .inl (fun zz => nI (((L).1) zz)))), (ap 8, .inl (cI, 40, .inl (fun zz => nI (((L).2.1) zz)))), (ap 9, .inr (0, [.ref (ap 10), .ref (ap 11), .ref (ap 12), .int (nI (pl P (pN P)))])), (ap 10, .inl (cI, 80, .inl (fun zz => nI (((L).2.2.1) zz)))), (ap 11, .inl (cI, 80, .inl (fun zz => nI (((L).2.2.2.1) zz)))), (ap 12, .inl (cI, 40, .inl (fun zz => nI (((L).2.2.2.2) zz))))] H := hP
  have hD : va_D A [(ap 0, .inr (2, [.ref (ap 1), .ref (ap 2), .ref (ap 3), .ref (ap 4), .ref (ap 5), .ref (ap 9)])), (ap 1, .inl (cI, 40, .inl (fun zz => nI ((pR P) zz)))), (ap 2, .inl (cI, 40, .inl (fun zz => nI ((pA P) zz)))), (ap 3, .inl (cI, 40, .inl (fun zz => nI ((pB P) zz)))), (ap 4, .inl (cI, 40, .inl (pK P))), (ap 5, .inr (0, [.ref (ap 6), .ref (ap 7), .ref (ap 8), .int (nI 0)])), (ap 6, .inl (cI, 40, .inl (fun zz => nI ((pO P) zz)))), (ap 7, .inl (cI, 40, .inl (fun zz => nI (((L).1) zz)))), (ap 8, .inl (cI, 40, .inl (fun zz => nI (((L).2.1) zz)))), (ap 9, .inr (0, [.ref (ap 10), .ref (ap 11), .ref (ap 12), .int (nI (pl P (pN P)))])), (ap 10, .inl (cI, 80, .inl (fun zz => nI (((L).2.2.1) zz)))), (ap 11, .inl (cI, 80, .inl (fun zz => nI (((L).2.2.2.1) zz)))), (ap 12, .inl (cI, 40, .inl (fun zz => nI (((L).2.2.2.2) zz))))] := hD
  refine lv_aload_n hx hb d_Pr_removeAll_8 rfl (lv_at hl 0 rfl) ?_
  refine x_get hM hK hP 0 2 5 i_Pr rfl rfl (by decide) q_fl_Pr_33 rfl d_Pr_removeAll_9 ?_
  refine lv_iconst (v := nI 0) hx hb d_Pr_removeAll_12 (by decide) ?_
  refine x_put hM hK hP hD hS 9 0 3 i_Li t_Li t_Li_ok n_Li rfl rfl (by decide) q_fl_Pr_36 rfl rfl rfl (Nat.le_of_ble_eq_true rfl) d_Pr_removeAll_13 (fun H locs hP hD hS => ?_)
  have hP : va_P D vwCl [(ap 0, .inr (2, [.ref (ap 1), .ref (ap 2), .ref (ap 3), .ref (ap 4), .ref (ap 5), .ref (ap 9)])), (ap 1, .inl (cI, 40, .inl (fun zz => nI ((pR P) zz)))), (ap 2, .inl (cI, 40, .inl (fun zz => nI ((pA P) zz)))), (ap 3, .inl (cI, 40, .inl (fun zz => nI ((pB P) zz)))), (ap 4, .inl (cI, 40, .inl (pK P))), (ap 5, .inr (0, [.ref (ap 6), .ref (ap 7), .ref (ap 8), .int (nI 0)])), (ap 6, .inl (cI, 40, .inl (fun zz => nI ((pO P) zz)))), (ap 7, .inl (cI, 40, .inl (fun zz => nI (((L).1) zz)))), (ap 8, .inl (cI, 40, .inl (fun zz => nI (((L).2.1) zz)))), (ap 9, .inr (0, [.ref (ap 10), .ref (ap 11), .ref (ap 12), .int (nI 0)])), (ap 10, .inl (cI, 80, .inl (fun zz => nI (((L).2.2.1) zz)))), (ap 11, .inl (cI, 80, .inl (fun zz => nI (((L).2.2.2.1) zz)))), (ap 12, .inl (cI, 40, .inl (fun zz => nI (((L).2.2.2.2) zz))))] H := hP
  have hD : va_D A [(ap 0, .inr (2, [.ref (ap 1), .ref (ap 2), .ref (ap 3), .ref (ap 4), .ref (ap 5), .ref (ap 9)])), (ap 1, .inl (cI, 40, .inl (fun zz => nI ((pR P) zz)))), (ap 2, .inl (cI, 40, .inl (fun zz => nI ((pA P) zz)))), (ap 3, .inl (cI, 40, .inl (fun zz => nI ((pB P) zz)))), (ap 4, .inl (cI, 40, .inl (pK P))), (ap 5, .inr (0, [.ref (ap 6), .ref (ap 7), .ref (ap 8), .int (nI 0)])), (ap 6, .inl (cI, 40, .inl (fun zz => nI ((pO P) zz)))), (ap 7, .inl (cI, 40, .inl (fun zz => nI (((L).1) zz)))), (ap 8, .inl (cI, 40, .inl (fun zz => nI (((L).2.1) zz)))), (ap 9, .inr (0, [.ref (ap 10), .ref (ap 11), .ref (ap 12), .int (nI 0)])), (ap 10, .inl (cI, 80, .inl (fun zz => nI (((L).2.2.1) zz)))), (ap 11, .inl (cI, 80, .inl (fun zz => nI (((L).2.2.2.1) zz)))), (ap 12, .inl (cI, 40, .inl (fun zz => nI (((L).2.2.2.2) zz))))] := hD
  exact x_vret hM hQ rfl hP hK hD hS d_Pr_removeAll_16
abbrev rm_Pr_goesOnElsewhere : Room := { frames := 0, cells := 0, slots := 0, locals := 0 }
set_option maxHeartbeats 4000000 in
set_option maxRecDepth 100000 in
theorem c_Pr_goesOnElsewhere (l : Launch) (D : va_G) (cI cZ cJ : ClassId) (sz : Nat) (o : Nat) (ho : o < 2 ^ 31) : xCi l D (xT cI cZ cJ) y_Pr_goesOnElsewhere k_Pr_goesOnElsewhere rm_Pr_goesOnElsewhere sz ([]) [.int (nI o)] (zI (decide (o = 10 ∨ o = 11))) ([]) 0 0 := by
  refine x_ofi (cc := b_Pr_goesOnElsewhere) (nL := 1) (ret := (some .boolean)) (by decide) rfl (Nat.le_of_ble_eq_true rfl) ?_
  intro p e s m args below meth c ls A Q hQ hM hsz hP hK hD hA hl
  obtain ⟨hx, hb, -, hml, hown, hts, -⟩ := id hM
  have hS : va_S A s.heap s.heap [] := va_S.rf
  have hl : lv_has ls 1 [(0, .int (nI o))] := hl
  have hP : va_P D vwCl [] s.heap := hP
  have hD : va_D A [] := hD
  refine lv_iload_n hx hb d_Pr_goesOnElsewhere_0 rfl (lv_at hl 0 rfl) ?_
  refine lv_bipush (v := nI 10) hx hb d_Pr_goesOnElsewhere_1 (by decide) ?_
  refine x_icmp_eq (tgt := 12) hM (by omega) (by omega) d_Pr_goesOnElsewhere_3 (by decide) (fun hc3 => ?_) (fun hc3 => ?_)
  · skip
    refine lv_iconst (v := nI 1) hx hb d_Pr_goesOnElsewhere_12 (by decide) ?_
    refine lv_goto hx hb d_Pr_goesOnElsewhere_13 (tgt := 17) (by decide) ?_
    exact x_zret hM hQ (by decide) (by exact x_z1 (decide_eq_true (by omega))) rfl hP hK hD hS d_Pr_goesOnElsewhere_17
  · skip
    refine lv_iload_n hx hb d_Pr_goesOnElsewhere_6 rfl (lv_at hl 0 rfl) ?_
    refine lv_bipush (v := nI 11) hx hb d_Pr_goesOnElsewhere_7 (by decide) ?_
    refine x_icmp_ne (tgt := 16) hM (by omega) (by omega) d_Pr_goesOnElsewhere_9 (by decide) (fun hc9 => ?_) (fun hc9 => ?_)
    · skip
      refine lv_iconst (v := nI 0) hx hb d_Pr_goesOnElsewhere_16 (by decide) ?_
      exact x_zret hM hQ (by decide) (by exact x_z0 (decide_eq_false (by omega))) rfl hP hK hD hS d_Pr_goesOnElsewhere_17
    · skip
      refine lv_iconst (v := nI 1) hx hb d_Pr_goesOnElsewhere_12 (by decide) ?_
      refine lv_goto hx hb d_Pr_goesOnElsewhere_13 (tgt := 17) (by decide) ?_
      exact x_zret hM hQ (by decide) (by exact x_z1 (decide_eq_true (by omega))) rfl hP hK hD hS d_Pr_goesOnElsewhere_17
abbrev rm_Pr_goesOnWithin : Room := { frames := 1, cells := 0, slots := 0, locals := 20 }
set_option maxHeartbeats 4000000 in
set_option maxRecDepth 100000 in
theorem c_Pr_goesOnWithin (l : Launch) (D : va_G) (cI cZ cJ : ClassId) (sz : Nat) (ap : Nat → Nat) (P : xPg) (L : xLs) (hp : pOk P) : xCi l D (xT cI cZ cJ) y_Pr_goesOnWithin k_Pr_goesOnWithin rm_Pr_goesOnWithin sz (wPr cI ap P L) [.ref (ap 0)] (zI (pSB P (pN P))) (wPr cI ap P L) 0 0 := by
  refine x_ofi (cc := b_Pr_goesOnWithin) (nL := 2) (ret := (some .boolean)) (by decide) rfl (Nat.le_of_ble_eq_true rfl) ?_
  intro p e s m args below meth c ls A Q hQ hM hsz hP hK hD hA hl
  obtain ⟨hx, hb, -, hml, hown, hts, -⟩ := id hM
  have hS : va_S A s.heap s.heap [] := va_S.rf
  have hl : lv_has ls 2 [(0, .ref (ap 0))] := hl
  have hP : va_P D vwCl [(ap 0, .inr (2, [.ref (ap 1), .ref (ap 2), .ref (ap 3), .ref (ap 4), .ref (ap 5), .ref (ap 9)])), (ap 1, .inl (cI, 40, .inl (fun zz => nI ((pR P) zz)))), (ap 2, .inl (cI, 40, .inl (fun zz => nI ((pA P) zz)))), (ap 3, .inl (cI, 40, .inl (fun zz => nI ((pB P) zz)))), (ap 4, .inl (cI, 40, .inl (pK P))), (ap 5, .inr (0, [.ref (ap 6), .ref (ap 7), .ref (ap 8), .int (nI (pN P))])), (ap 6, .inl (cI, 40, .inl (fun zz => nI ((pO P) zz)))), (ap 7, .inl (cI, 40, .inl (fun zz => nI (((L).1) zz)))), (ap 8, .inl (cI, 40, .inl (fun zz => nI (((L).2.1) zz)))), (ap 9, .inr (0, [.ref (ap 10), .ref (ap 11), .ref (ap 12), .int (nI (pl P (pN P)))])), (ap 10, .inl (cI, 80, .inl (fun zz => nI (((L).2.2.1) zz)))), (ap 11, .inl (cI, 80, .inl (fun zz => nI (((L).2.2.2.1) zz)))), (ap 12, .inl (cI, 40, .inl (fun zz => nI (((L).2.2.2.2) zz))))] s.heap := hP
  have hD : va_D A [(ap 0, .inr (2, [.ref (ap 1), .ref (ap 2), .ref (ap 3), .ref (ap 4), .ref (ap 5), .ref (ap 9)])), (ap 1, .inl (cI, 40, .inl (fun zz => nI ((pR P) zz)))), (ap 2, .inl (cI, 40, .inl (fun zz => nI ((pA P) zz)))), (ap 3, .inl (cI, 40, .inl (fun zz => nI ((pB P) zz)))), (ap 4, .inl (cI, 40, .inl (pK P))), (ap 5, .inr (0, [.ref (ap 6), .ref (ap 7), .ref (ap 8), .int (nI (pN P))])), (ap 6, .inl (cI, 40, .inl (fun zz => nI ((pO P) zz)))), (ap 7, .inl (cI, 40, .inl (fun zz => nI (((L).1) zz)))), (ap 8, .inl (cI, 40, .inl (fun zz => nI (((L).2.1) zz)))), (ap 9, .inr (0, [.ref (ap 10), .ref (ap 11), .ref (ap 12), .int (nI (pl P (pN P)))])), (ap 10, .inl (cI, 80, .inl (fun zz => nI (((L).2.2.1) zz)))), (ap 11, .inl (cI, 80, .inl (fun zz => nI (((L).2.2.2.1) zz)))), (ap 12, .inl (cI, 40, .inl (fun zz => nI (((L).2.2.2.2) zz))))] := hD
  have hnn := hp.1
  refine lv_iconst (v := nI 0) hx hb d_Pr_goesOnWithin_0 (by decide) ?_
  refine lv_istore_n hx hb d_Pr_goesOnWithin_1 rfl hl (by decide) rfl (fun ls hl => ?_)
  have hl : lv_has ls 2 [(1, .int (nI 0)), (0, .ref (ap 0))] := hl
  have loop2 : ∀ (K2 : Nat) (j : Nat) (ls : Array Slot) (H : Heap) (locs : List Loc), (j ≤ pN P) → (pSB P j = true) → pN P - j = K2 → lv_has ls 2 [(1, .int (nI j)), (0, .ref (ap 0))] → va_P D vwCl [(ap 0, .inr (2, [.ref (ap 1), .ref (ap 2), .ref (ap 3), .ref (ap 4), .ref (ap 5), .ref (ap 9)])), (ap 1, .inl (cI, 40, .inl (fun zz => nI ((pR P) zz)))), (ap 2, .inl (cI, 40, .inl (fun zz => nI ((pA P) zz)))), (ap 3, .inl (cI, 40, .inl (fun zz => nI ((pB P) zz)))), (ap 4, .inl (cI, 40, .inl (pK P))), (ap 5, .inr (0, [.ref (ap 6), .ref (ap 7), .ref (ap 8), .int (nI (pN P))])), (ap 6, .inl (cI, 40, .inl (fun zz => nI ((pO P) zz)))), (ap 7, .inl (cI, 40, .inl (fun zz => nI (((L).1) zz)))), (ap 8, .inl (cI, 40, .inl (fun zz => nI (((L).2.1) zz)))), (ap 9, .inr (0, [.ref (ap 10), .ref (ap 11), .ref (ap 12), .int (nI (pl P (pN P)))])), (ap 10, .inl (cI, 80, .inl (fun zz => nI (((L).2.2.1) zz)))), (ap 11, .inl (cI, 80, .inl (fun zz => nI (((L).2.2.2.1) zz)))), (ap 12, .inl (cI, 40, .inl (fun zz => nI (((L).2.2.2.2) zz))))] H → va_D A [(ap 0, .inr (2, [.ref (ap 1), .ref (ap 2), .ref (ap 3), .ref (ap 4), .ref (ap 5), .ref (ap 9)])), (ap 1, .inl (cI, 40, .inl (fun zz => nI ((pR P) zz)))), (ap 2, .inl (cI, 40, .inl (fun zz => nI ((pA P) zz)))), (ap 3, .inl (cI, 40, .inl (fun zz => nI ((pB P) zz)))), (ap 4, .inl (cI, 40, .inl (pK P))), (ap 5, .inr (0, [.ref (ap 6), .ref (ap 7), .ref (ap 8), .int (nI (pN P))])), (ap 6, .inl (cI, 40, .inl (fun zz => nI ((pO P) zz)))), (ap 7, .inl (cI, 40, .inl (fun zz => nI (((L).1) zz)))), (ap 8, .inl (cI, 40, .inl (fun zz => nI (((L).2.1) zz)))), (ap 9, .inr (0, [.ref (ap 10), .ref (ap 11), .ref (ap 12), .int (nI (pl P (pN P)))])), (ap 10, .inl (cI, 80, .inl (fun zz => nI (((L).2.2.1) zz)))), (ap 11, .inl (cI, 80, .inl (fun zz => nI (((L).2.2.2.1) zz)))), (ap 12, .inl (cI, 40, .inl (fun zz => nI (((L).2.2.2.2) zz))))] → va_S A s.heap H locs → W p l e rm_Pr_goesOnWithin s m args below meth c H locs 0 0 Q (F0 m 2 ls []) := by
    intro K2
    induction K2 using Nat.strongRecOn with
    | _ K2 ih2 =>
      intro j ls H locs g1 gb hK2 hl hP hD hS
      refine lv_iload_n hx hb d_Pr_goesOnWithin_2 rfl (lv_at hl 0 rfl) ?_
      refine lv_aload_n hx hb d_Pr_goesOnWithin_3 rfl (lv_at hl 1 rfl) ?_
      refine x_calli (wc := (wPr cI ap P L)) (wr := []) (va_runV (As := []) (rest := [.int (nI j)]) ⟨hx, hb, hml, hown, hts⟩ (c_Pr_size l D cI cZ cJ _ ap P L) (cwV 0 hts (bw_V q_ml_Pr_40 q_im_Pr_size q_se_Pr_size q_in_Pr q_cd_Pr_size) rfl rfl rfl ⟨rfl, by decide, by decide, by decide +kernel⟩ ⟨Nat.le_of_ble_eq_true rfl, Nat.le_of_ble_eq_true rfl⟩) ⟨(x_pre (wc := (wPr cI ap P L)) hP hD hK [0, 1, 2, 3, 4, 5, 6, 7, 8, 9, 10, 11, 12] rfl (by decide)).1, va_recv hK hP (ci := 2) (q0 := 0) rfl rfl, (x_pre (wc := (wPr cI ap P L)) hP hD hK [0, 1, 2, 3, 4, 5, 6, 7, 8, 9, 10, 11, 12] rfl (by decide)).2⟩ rfl rfl hl.1 rfl (lv_room (Nat.le_of_ble_eq_true rfl)) d_Pr_goesOnWithin_4 ⟨Nat.le_of_ble_eq_true rfl, Nat.le_of_ble_eq_true rfl⟩) hP hD hS hA [0, 1, 2, 3, 4, 5, 6, 7, 8, 9, 10, 11, 12] [] rfl rfl (by decide) (by decide) (fun H locs hP hD hS => ?_)
      have hP : va_P D vwCl [(ap 0, .inr (2, [.ref (ap 1), .ref (ap 2), .ref (ap 3), .ref (ap 4), .ref (ap 5), .ref (ap 9)])), (ap 1, .inl (cI, 40, .inl (fun zz => nI ((pR P) zz)))), (ap 2, .inl (cI, 40, .inl (fun zz => nI ((pA P) zz)))), (ap 3, .inl (cI, 40, .inl (fun zz => nI ((pB P) zz)))), (ap 4, .inl (cI, 40, .inl (pK P))), (ap 5, .inr (0, [.ref (ap 6), .ref (ap 7), .ref (ap 8), .int (nI (pN P))])), (ap 6, .inl (cI, 40, .inl (fun zz => nI ((pO P) zz)))), (ap 7, .inl (cI, 40, .inl (fun zz => nI (((L).1) zz)))), (ap 8, .inl (cI, 40, .inl (fun zz => nI (((L).2.1) zz)))), (ap 9, .inr (0, [.ref (ap 10), .ref (ap 11), .ref (ap 12), .int (nI (pl P (pN P)))])), (ap 10, .inl (cI, 80, .inl (fun zz => nI (((L).2.2.1) zz)))), (ap 11, .inl (cI, 80, .inl (fun zz => nI (((L).2.2.2.1) zz)))), (ap 12, .inl (cI, 40, .inl (fun zz => nI (((L).2.2.2.2) zz))))] H := hP
      have hD : va_D A [(ap 0, .inr (2, [.ref (ap 1), .ref (ap 2), .ref (ap 3), .ref (ap 4), .ref (ap 5), .ref (ap 9)])), (ap 1, .inl (cI, 40, .inl (fun zz => nI ((pR P) zz)))), (ap 2, .inl (cI, 40, .inl (fun zz => nI ((pA P) zz)))), (ap 3, .inl (cI, 40, .inl (fun zz => nI ((pB P) zz)))), (ap 4, .inl (cI, 40, .inl (pK P))), (ap 5, .inr (0, [.ref (ap 6), .ref (ap 7), .ref (ap 8), .int (nI (pN P))])), (ap 6, .inl (cI, 40, .inl (fun zz => nI ((pO P) zz)))), (ap 7, .inl (cI, 40, .inl (fun zz => nI (((L).1) zz)))), (ap 8, .inl (cI, 40, .inl (fun zz => nI (((L).2.1) zz)))), (ap 9, .inr (0, [.ref (ap 10), .ref (ap 11), .ref (ap 12), .int (nI (pl P (pN P)))])), (ap 10, .inl (cI, 80, .inl (fun zz => nI (((L).2.2.1) zz)))), (ap 11, .inl (cI, 80, .inl (fun zz => nI (((L).2.2.2.1) zz)))), (ap 12, .inl (cI, 40, .inl (fun zz => nI (((L).2.2.2.2) zz))))] := hD
      refine x_icmp_ge (tgt := 55) hM (by omega) (by omega) d_Pr_goesOnWithin_7 (by decide) (fun hc7 => ?_) (fun hc7 => ?_)
      · skip
        refine lv_iconst (v := nI 1) hx hb d_Pr_goesOnWithin_55 (by decide) ?_
        exact x_zret hM hQ (by decide) (by exact x_z1 (by rw [show pN P = j by omega]; exact gb)) rfl hP hK hD hS d_Pr_goesOnWithin_56
      · skip
        have o1 := (hp.2 j (by omega)).1
        refine lv_aload_n hx hb d_Pr_goesOnWithin_10 rfl (lv_at hl 1 rfl) ?_
        refine x_get hM hK hP 0 2 4 i_Pr rfl rfl (by decide) q_fl_Pr_29 rfl d_Pr_goesOnWithin_11 ?_
        refine x_get hM hK hP 5 0 0 i_Li rfl rfl (by decide) q_fl_Pr_50 rfl d_Pr_goesOnWithin_14 ?_
        refine lv_iload_n hx hb d_Pr_goesOnWithin_17 rfl (lv_at hl 0 rfl) ?_
        refine x_iald hM hK hP 6 0 rfl rfl (by omega) (by decide) d_Pr_goesOnWithin_18 ?_
        refine x_calli (wc := []) (wr := [(ap 0, .inr (2, [.ref (ap 1), .ref (ap 2), .ref (ap 3), .ref (ap 4), .ref (ap 5), .ref (ap 9)])), (ap 1, .inl (cI, 40, .inl (fun zz => nI ((pR P) zz)))), (ap 2, .inl (cI, 40, .inl (fun zz => nI ((pA P) zz)))), (ap 3, .inl (cI, 40, .inl (fun zz => nI ((pB P) zz)))), (ap 4, .inl (cI, 40, .inl (pK P))), (ap 5, .inr (0, [.ref (ap 6), .ref (ap 7), .ref (ap 8), .int (nI (pN P))])), (ap 6, .inl (cI, 40, .inl (fun zz => nI ((pO P) zz)))), (ap 7, .inl (cI, 40, .inl (fun zz => nI (((L).1) zz)))), (ap 8, .inl (cI, 40, .inl (fun zz => nI (((L).2.1) zz)))), (ap 9, .inr (0, [.ref (ap 10), .ref (ap 11), .ref (ap 12), .int (nI (pl P (pN P)))])), (ap 10, .inl (cI, 80, .inl (fun zz => nI (((L).2.2.1) zz)))), (ap 11, .inl (cI, 80, .inl (fun zz => nI (((L).2.2.2.1) zz)))), (ap 12, .inl (cI, 40, .inl (fun zz => nI (((L).2.2.2.2) zz))))]) (va_runS (As := [.int (nI ((pO P) j))]) (rest := []) ⟨hx, hb, hml, hown, hts⟩ (c_Pr_goesOnElsewhere l D cI cZ cJ _ (pO P j) (by omega)) (va_cwS 1 hts (bw_S q_ml_Pr_53 q_st_Pr_goesOnElsewhere q_in_Pr q_cd_Pr_goesOnElsewhere) rfl rfl rfl ⟨by decide, by decide, by decide +kernel⟩ ⟨Nat.le_of_ble_eq_true rfl, Nat.le_of_ble_eq_true rfl⟩) (x_pre (wc := []) hP hD hK [] rfl (by decide)) rfl rfl hl.1 rfl (lv_room (Nat.le_of_ble_eq_true rfl)) d_Pr_goesOnWithin_19 ⟨Nat.le_of_ble_eq_true rfl, Nat.le_of_ble_eq_true rfl⟩) hP hD hS hA [] [0, 1, 2, 3, 4, 5, 6, 7, 8, 9, 10, 11, 12] rfl rfl (by decide) (by decide) (fun H locs hP hD hS => ?_)
        have hP : va_P D vwCl [(ap 0, .inr (2, [.ref (ap 1), .ref (ap 2), .ref (ap 3), .ref (ap 4), .ref (ap 5), .ref (ap 9)])), (ap 1, .inl (cI, 40, .inl (fun zz => nI ((pR P) zz)))), (ap 2, .inl (cI, 40, .inl (fun zz => nI ((pA P) zz)))), (ap 3, .inl (cI, 40, .inl (fun zz => nI ((pB P) zz)))), (ap 4, .inl (cI, 40, .inl (pK P))), (ap 5, .inr (0, [.ref (ap 6), .ref (ap 7), .ref (ap 8), .int (nI (pN P))])), (ap 6, .inl (cI, 40, .inl (fun zz => nI ((pO P) zz)))), (ap 7, .inl (cI, 40, .inl (fun zz => nI (((L).1) zz)))), (ap 8, .inl (cI, 40, .inl (fun zz => nI (((L).2.1) zz)))), (ap 9, .inr (0, [.ref (ap 10), .ref (ap 11), .ref (ap 12), .int (nI (pl P (pN P)))])), (ap 10, .inl (cI, 80, .inl (fun zz => nI (((L).2.2.1) zz)))), (ap 11, .inl (cI, 80, .inl (fun zz => nI (((L).2.2.2.1) zz)))), (ap 12, .inl (cI, 40, .inl (fun zz => nI (((L).2.2.2.2) zz))))] H := hP
        have hD : va_D A [(ap 0, .inr (2, [.ref (ap 1), .ref (ap 2), .ref (ap 3), .ref (ap 4), .ref (ap 5), .ref (ap 9)])), (ap 1, .inl (cI, 40, .inl (fun zz => nI ((pR P) zz)))), (ap 2, .inl (cI, 40, .inl (fun zz => nI ((pA P) zz)))), (ap 3, .inl (cI, 40, .inl (fun zz => nI ((pB P) zz)))), (ap 4, .inl (cI, 40, .inl (pK P))), (ap 5, .inr (0, [.ref (ap 6), .ref (ap 7), .ref (ap 8), .int (nI (pN P))])), (ap 6, .inl (cI, 40, .inl (fun zz => nI ((pO P) zz)))), (ap 7, .inl (cI, 40, .inl (fun zz => nI (((L).1) zz)))), (ap 8, .inl (cI, 40, .inl (fun zz => nI (((L).2.1) zz)))), (ap 9, .inr (0, [.ref (ap 10), .ref (ap 11), .ref (ap 12), .int (nI (pl P (pN P)))])), (ap 10, .inl (cI, 80, .inl (fun zz => nI (((L).2.2.1) zz)))), (ap 11, .inl (cI, 80, .inl (fun zz => nI (((L).2.2.2.1) zz)))), (ap 12, .inl (cI, 40, .inl (fun zz => nI (((L).2.2.2.2) zz))))] := hD
        refine x_if_eqZ (b := decide ((pO P j) = 10 ∨ (pO P j) = 11)) (tgt := 49) hM d_Pr_goesOnWithin_22 (by decide) (fun hc22 => ?_) (fun hc22 => ?_)
        · skip
          refine lv_iinc (k := 0) (v := nI (j + 1)) hx hb d_Pr_goesOnWithin_49 hl rfl (by rw [show Int32.ofInt 1 = nI 1 by decide, nI_add]) (by decide) rfl (fun ls hl => ?_)
          have hl : lv_has ls 2 [(1, .int (nI (j + 1))), (0, .ref (ap 0))] := hl
          refine lv_goto hx hb d_Pr_goesOnWithin_52 (tgt := 2) (by decide) ?_
          exact ih2 _ (by omega) (j + 1) ls H locs (by omega) (by rw [pSB, gb, pS1_a (fun h => of_decide_eq_false hc22 (Or.inl h)) (fun h => of_decide_eq_false hc22 (Or.inr h))]; rfl) rfl hl hP hD hS
        · skip
          refine lv_aload_n hx hb d_Pr_goesOnWithin_25 rfl (lv_at hl 1 rfl) ?_
          refine x_get hM hK hP 0 2 3 i_Pr rfl rfl (by decide) q_fl_Pr_21 rfl d_Pr_goesOnWithin_26 ?_
          refine lv_iload_n hx hb d_Pr_goesOnWithin_29 rfl (lv_at hl 0 rfl) ?_
          refine x_iald hM hK hP 4 0 rfl rfl (by omega) (by decide) d_Pr_goesOnWithin_30 ?_
          refine lv_if_lt (tgt := 47) hx hb d_Pr_goesOnWithin_31 (by decide) (fun hc31 => ?_) (fun hc31 => ?_)
          · skip
            refine lv_iconst (v := nI 0) hx hb d_Pr_goesOnWithin_47 (by decide) ?_
            exact x_zret hM hQ (by decide) (by exact x_z0 (pSB_f (i := j) (by omega) (pS1_l (of_decide_eq_true hc22) hc31))) rfl hP hK hD hS d_Pr_goesOnWithin_48
          · skip
            refine lv_aload_n hx hb d_Pr_goesOnWithin_34 rfl (lv_at hl 1 rfl) ?_
            refine x_get hM hK hP 0 2 3 i_Pr rfl rfl (by decide) q_fl_Pr_21 rfl d_Pr_goesOnWithin_35 ?_
            refine lv_iload_n hx hb d_Pr_goesOnWithin_38 rfl (lv_at hl 0 rfl) ?_
            refine x_iald hM hK hP 4 0 rfl rfl (by omega) (by decide) d_Pr_goesOnWithin_39 ?_
            refine lv_aload_n hx hb d_Pr_goesOnWithin_40 rfl (lv_at hl 1 rfl) ?_
            refine x_calli (wc := (wPr cI ap P L)) (wr := []) (va_runV (As := []) (rest := [.int ((pK P) j)]) ⟨hx, hb, hml, hown, hts⟩ (c_Pr_size l D cI cZ cJ _ ap P L) (cwV 0 hts (bw_V q_ml_Pr_40 q_im_Pr_size q_se_Pr_size q_in_Pr q_cd_Pr_size) rfl rfl rfl ⟨rfl, by decide, by decide, by decide +kernel⟩ ⟨Nat.le_of_ble_eq_true rfl, Nat.le_of_ble_eq_true rfl⟩) ⟨(x_pre (wc := (wPr cI ap P L)) hP hD hK [0, 1, 2, 3, 4, 5, 6, 7, 8, 9, 10, 11, 12] rfl (by decide)).1, va_recv hK hP (ci := 2) (q0 := 0) rfl rfl, (x_pre (wc := (wPr cI ap P L)) hP hD hK [0, 1, 2, 3, 4, 5, 6, 7, 8, 9, 10, 11, 12] rfl (by decide)).2⟩ rfl rfl hl.1 rfl (lv_room (Nat.le_of_ble_eq_true rfl)) d_Pr_goesOnWithin_41 ⟨Nat.le_of_ble_eq_true rfl, Nat.le_of_ble_eq_true rfl⟩) hP hD hS hA [0, 1, 2, 3, 4, 5, 6, 7, 8, 9, 10, 11, 12] [] rfl rfl (by decide) (by decide) (fun H locs hP hD hS => ?_)
            have hP : va_P D vwCl [(ap 0, .inr (2, [.ref (ap 1), .ref (ap 2), .ref (ap 3), .ref (ap 4), .ref (ap 5), .ref (ap 9)])), (ap 1, .inl (cI, 40, .inl (fun zz => nI ((pR P) zz)))), (ap 2, .inl (cI, 40, .inl (fun zz => nI ((pA P) zz)))), (ap 3, .inl (cI, 40, .inl (fun zz => nI ((pB P) zz)))), (ap 4, .inl (cI, 40, .inl (pK P))), (ap 5, .inr (0, [.ref (ap 6), .ref (ap 7), .ref (ap 8), .int (nI (pN P))])), (ap 6, .inl (cI, 40, .inl (fun zz => nI ((pO P) zz)))), (ap 7, .inl (cI, 40, .inl (fun zz => nI (((L).1) zz)))), (ap 8, .inl (cI, 40, .inl (fun zz => nI (((L).2.1) zz)))), (ap 9, .inr (0, [.ref (ap 10), .ref (ap 11), .ref (ap 12), .int (nI (pl P (pN P)))])), (ap 10, .inl (cI, 80, .inl (fun zz => nI (((L).2.2.1) zz)))), (ap 11, .inl (cI, 80, .inl (fun zz => nI (((L).2.2.2.1) zz)))), (ap 12, .inl (cI, 40, .inl (fun zz => nI (((L).2.2.2.2) zz))))] H := hP
            have hD : va_D A [(ap 0, .inr (2, [.ref (ap 1), .ref (ap 2), .ref (ap 3), .ref (ap 4), .ref (ap 5), .ref (ap 9)])), (ap 1, .inl (cI, 40, .inl (fun zz => nI ((pR P) zz)))), (ap 2, .inl (cI, 40, .inl (fun zz => nI ((pA P) zz)))), (ap 3, .inl (cI, 40, .inl (fun zz => nI ((pB P) zz)))), (ap 4, .inl (cI, 40, .inl (pK P))), (ap 5, .inr (0, [.ref (ap 6), .ref (ap 7), .ref (ap 8), .int (nI (pN P))])), (ap 6, .inl (cI, 40, .inl (fun zz => nI ((pO P) zz)))), (ap 7, .inl (cI, 40, .inl (fun zz => nI (((L).1) zz)))), (ap 8, .inl (cI, 40, .inl (fun zz => nI (((L).2.1) zz)))), (ap 9, .inr (0, [.ref (ap 10), .ref (ap 11), .ref (ap 12), .int (nI (pl P (pN P)))])), (ap 10, .inl (cI, 80, .inl (fun zz => nI (((L).2.2.1) zz)))), (ap 11, .inl (cI, 80, .inl (fun zz => nI (((L).2.2.2.1) zz)))), (ap 12, .inl (cI, 40, .inl (fun zz => nI (((L).2.2.2.2) zz))))] := hD
            refine lv_icmp_lt (tgt := 49) hx hb d_Pr_goesOnWithin_44 (by decide) (fun hc44 => ?_) (fun hc44 => ?_)
            · skip
              refine lv_iinc (k := 0) (v := nI (j + 1)) hx hb d_Pr_goesOnWithin_49 hl rfl (by rw [show Int32.ofInt 1 = nI 1 by decide, nI_add]) (by decide) rfl (fun ls hl => ?_)
              have hl : lv_has ls 2 [(1, .int (nI (j + 1))), (0, .ref (ap 0))] := hl
              refine lv_goto hx hb d_Pr_goesOnWithin_52 (tgt := 2) (by decide) ?_
              exact ih2 _ (by omega) (j + 1) ls H locs (by omega) (by rw [pSB, gb, pS1_i hc31 (Int32.not_le.mpr hc44)]; rfl) rfl hl hP hD hS
            · skip
              refine lv_iconst (v := nI 0) hx hb d_Pr_goesOnWithin_47 (by decide) ?_
              exact x_zret hM hQ (by decide) (by exact x_z0 (pSB_f (i := j) (by omega) (pS1_g (of_decide_eq_true hc22) (Int32.not_lt.mp hc44)))) rfl hP hK hD hS d_Pr_goesOnWithin_48
  exact loop2 _ 0 ls s.heap [] (by omega) rfl rfl hl hP hD hS
abbrev rm_Pr_numberAtT : Room := { frames := 1, cells := 0, slots := 0, locals := 20 }
set_option maxHeartbeats 4000000 in
set_option maxRecDepth 100000 in
theorem c_Pr_numberAtT (l : Launch) (D : va_G) (cI cZ cJ : ClassId) (sz : Nat) (ap : Nat → Nat) (P : xPg) (L : xLs) (x : Nat) (hp : pOk P) (hs : pSd P) (hl0 : lOk P L) (hx0 : x < pl P (pN P)) : xCi l D (xT cI cZ cJ) y_Pr_numberAt k_Pr_numberAt rm_Pr_numberAtT sz (wPr cI ap P L) [.ref (ap 0), .ref (ap 9), .int (nI x)] (aNum P x) (wPr cI ap P L) 0 0 := by
  refine x_ofi (cc := b_Pr_numberAt) (nL := 4) (ret := (some .int)) (by decide) rfl (Nat.le_of_ble_eq_true rfl) ?_
  intro p e s m args below meth c ls A Q hQ hM hsz hP hK hD hA hl
  obtain ⟨hx, hb, -, hml, hown, hts, -⟩ := id hM
  have hS : va_S A s.heap s.heap [] := va_S.rf
  have hl : lv_has ls 4 [(0, .ref (ap 0)), (1, .ref (ap 9)), (2, .int (nI x))] := hl
  have hP : va_P D vwCl [(ap 0, .inr (2, [.ref (ap 1), .ref (ap 2), .ref (ap 3), .ref (ap 4), .ref (ap 5), .ref (ap 9)])), (ap 1, .inl (cI, 40, .inl (fun zz => nI ((pR P) zz)))), (ap 2, .inl (cI, 40, .inl (fun zz => nI ((pA P) zz)))), (ap 3, .inl (cI, 40, .inl (fun zz => nI ((pB P) zz)))), (ap 4, .inl (cI, 40, .inl (pK P))), (ap 5, .inr (0, [.ref (ap 6), .ref (ap 7), .ref (ap 8), .int (nI (pN P))])), (ap 6, .inl (cI, 40, .inl (fun zz => nI ((pO P) zz)))), (ap 7, .inl (cI, 40, .inl (fun zz => nI (((L).1) zz)))), (ap 8, .inl (cI, 40, .inl (fun zz => nI (((L).2.1) zz)))), (ap 9, .inr (0, [.ref (ap 10), .ref (ap 11), .ref (ap 12), .int (nI (pl P (pN P)))])), (ap 10, .inl (cI, 80, .inl (fun zz => nI (((L).2.2.1) zz)))), (ap 11, .inl (cI, 80, .inl (fun zz => nI (((L).2.2.2.1) zz)))), (ap 12, .inl (cI, 40, .inl (fun zz => nI (((L).2.2.2.2) zz))))] s.heap := hP
  have hD : va_D A [(ap 0, .inr (2, [.ref (ap 1), .ref (ap 2), .ref (ap 3), .ref (ap 4), .ref (ap 5), .ref (ap 9)])), (ap 1, .inl (cI, 40, .inl (fun zz => nI ((pR P) zz)))), (ap 2, .inl (cI, 40, .inl (fun zz => nI ((pA P) zz)))), (ap 3, .inl (cI, 40, .inl (fun zz => nI ((pB P) zz)))), (ap 4, .inl (cI, 40, .inl (pK P))), (ap 5, .inr (0, [.ref (ap 6), .ref (ap 7), .ref (ap 8), .int (nI (pN P))])), (ap 6, .inl (cI, 40, .inl (fun zz => nI ((pO P) zz)))), (ap 7, .inl (cI, 40, .inl (fun zz => nI (((L).1) zz)))), (ap 8, .inl (cI, 40, .inl (fun zz => nI (((L).2.1) zz)))), (ap 9, .inr (0, [.ref (ap 10), .ref (ap 11), .ref (ap 12), .int (nI (pl P (pN P)))])), (ap 10, .inl (cI, 80, .inl (fun zz => nI (((L).2.2.1) zz)))), (ap 11, .inl (cI, 80, .inl (fun zz => nI (((L).2.2.2.1) zz)))), (ap 12, .inl (cI, 40, .inl (fun zz => nI (((L).2.2.2.2) zz))))] := hD
  have hnn := hp.1
  have hn2 := pl_le P (pN P)
  obtain ⟨s1, s2, s3⟩ := pI_sp hx0
  have o1 := pOp_le hp hx0
  refine lv_aload_n hx hb d_Pr_numberAt_0 rfl (lv_at hl 0 rfl) ?_
  refine x_get hM hK hP 0 2 3 i_Pr rfl rfl (by decide) q_fl_Pr_21 rfl d_Pr_numberAt_1 ?_
  refine lv_aload_n hx hb d_Pr_numberAt_4 rfl (lv_at hl 1 rfl) ?_
  refine x_get hM hK hP 9 0 1 i_Li rfl rfl (by decide) q_fl_Pr_57 rfl d_Pr_numberAt_5 ?_
  refine lv_iload_n hx hb d_Pr_numberAt_8 rfl (lv_at hl 2 rfl) ?_
  refine x_iald hM hK hP 11 0 rfl rfl (by omega) (by decide) d_Pr_numberAt_9 ?_
  refine W.eq (g2 := F0 m 10 ls [.int (nI (pI P x)), .ref (ap 4)]) (by rw [(hl0.2 x hx0).2]) ?_
  refine x_iald hM hK hP 4 0 rfl rfl (by omega) (by decide) d_Pr_numberAt_10 ?_
  refine lv_istore_n hx hb d_Pr_numberAt_11 rfl hl (by decide) rfl (fun ls hl => ?_)
  have hl : lv_has ls 4 [(3, .int ((pK P) (pI P x))), (0, .ref (ap 0)), (1, .ref (ap 9)), (2, .int (nI x))] := hl
  refine lv_aload_n hx hb d_Pr_numberAt_12 rfl (lv_at hl 2 rfl) ?_
  refine x_get hM hK hP 9 0 0 i_Li rfl rfl (by decide) q_fl_Pr_50 rfl d_Pr_numberAt_13 ?_
  refine lv_iload_n hx hb d_Pr_numberAt_16 rfl (lv_at hl 3 rfl) ?_
  refine x_iald hM hK hP 10 0 rfl rfl (by omega) (by decide) d_Pr_numberAt_17 ?_
  refine W.eq (g2 := F0 m 18 ls [.int (nI (pOp P x))]) (by rw [(hl0.2 x hx0).1]) ?_
  refine x_calli (wc := []) (wr := [(ap 0, .inr (2, [.ref (ap 1), .ref (ap 2), .ref (ap 3), .ref (ap 4), .ref (ap 5), .ref (ap 9)])), (ap 1, .inl (cI, 40, .inl (fun zz => nI ((pR P) zz)))), (ap 2, .inl (cI, 40, .inl (fun zz => nI ((pA P) zz)))), (ap 3, .inl (cI, 40, .inl (fun zz => nI ((pB P) zz)))), (ap 4, .inl (cI, 40, .inl (pK P))), (ap 5, .inr (0, [.ref (ap 6), .ref (ap 7), .ref (ap 8), .int (nI (pN P))])), (ap 6, .inl (cI, 40, .inl (fun zz => nI ((pO P) zz)))), (ap 7, .inl (cI, 40, .inl (fun zz => nI (((L).1) zz)))), (ap 8, .inl (cI, 40, .inl (fun zz => nI (((L).2.1) zz)))), (ap 9, .inr (0, [.ref (ap 10), .ref (ap 11), .ref (ap 12), .int (nI (pl P (pN P)))])), (ap 10, .inl (cI, 80, .inl (fun zz => nI (((L).2.2.1) zz)))), (ap 11, .inl (cI, 80, .inl (fun zz => nI (((L).2.2.2.1) zz)))), (ap 12, .inl (cI, 40, .inl (fun zz => nI (((L).2.2.2.2) zz))))]) (va_runS (As := [.int (nI (pOp P x))]) (rest := []) ⟨hx, hb, hml, hown, hts⟩ (c_Pr_goesOnElsewhere l D cI cZ cJ _ (pOp P x) (by omega)) (va_cwS 1 hts (bw_S q_ml_Pr_53 q_st_Pr_goesOnElsewhere q_in_Pr q_cd_Pr_goesOnElsewhere) rfl rfl rfl ⟨by decide, by decide, by decide +kernel⟩ ⟨Nat.le_of_ble_eq_true rfl, Nat.le_of_ble_eq_true rfl⟩) (x_pre (wc := []) hP hD hK [] rfl (by decide)) rfl rfl hl.1 rfl (lv_room (Nat.le_of_ble_eq_true rfl)) d_Pr_numberAt_18 ⟨Nat.le_of_ble_eq_true rfl, Nat.le_of_ble_eq_true rfl⟩) hP hD hS hA [] [0, 1, 2, 3, 4, 5, 6, 7, 8, 9, 10, 11, 12] rfl rfl (by decide) (by decide) (fun H locs hP hD hS => ?_)
  have hP : va_P D vwCl [(ap 0, .inr (2, [.ref (ap 1), .ref (ap 2), .ref (ap 3), .ref (ap 4), .ref (ap 5), .ref (ap 9)])), (ap 1, .inl (cI, 40, .inl (fun zz => nI ((pR P) zz)))), (ap 2, .inl (cI, 40, .inl (fun zz => nI ((pA P) zz)))), (ap 3, .inl (cI, 40, .inl (fun zz => nI ((pB P) zz)))), (ap 4, .inl (cI, 40, .inl (pK P))), (ap 5, .inr (0, [.ref (ap 6), .ref (ap 7), .ref (ap 8), .int (nI (pN P))])), (ap 6, .inl (cI, 40, .inl (fun zz => nI ((pO P) zz)))), (ap 7, .inl (cI, 40, .inl (fun zz => nI (((L).1) zz)))), (ap 8, .inl (cI, 40, .inl (fun zz => nI (((L).2.1) zz)))), (ap 9, .inr (0, [.ref (ap 10), .ref (ap 11), .ref (ap 12), .int (nI (pl P (pN P)))])), (ap 10, .inl (cI, 80, .inl (fun zz => nI (((L).2.2.1) zz)))), (ap 11, .inl (cI, 80, .inl (fun zz => nI (((L).2.2.2.1) zz)))), (ap 12, .inl (cI, 40, .inl (fun zz => nI (((L).2.2.2.2) zz))))] H := hP
  have hD : va_D A [(ap 0, .inr (2, [.ref (ap 1), .ref (ap 2), .ref (ap 3), .ref (ap 4), .ref (ap 5), .ref (ap 9)])), (ap 1, .inl (cI, 40, .inl (fun zz => nI ((pR P) zz)))), (ap 2, .inl (cI, 40, .inl (fun zz => nI ((pA P) zz)))), (ap 3, .inl (cI, 40, .inl (fun zz => nI ((pB P) zz)))), (ap 4, .inl (cI, 40, .inl (pK P))), (ap 5, .inr (0, [.ref (ap 6), .ref (ap 7), .ref (ap 8), .int (nI (pN P))])), (ap 6, .inl (cI, 40, .inl (fun zz => nI ((pO P) zz)))), (ap 7, .inl (cI, 40, .inl (fun zz => nI (((L).1) zz)))), (ap 8, .inl (cI, 40, .inl (fun zz => nI (((L).2.1) zz)))), (ap 9, .inr (0, [.ref (ap 10), .ref (ap 11), .ref (ap 12), .int (nI (pl P (pN P)))])), (ap 10, .inl (cI, 80, .inl (fun zz => nI (((L).2.2.1) zz)))), (ap 11, .inl (cI, 80, .inl (fun zz => nI (((L).2.2.2.1) zz)))), (ap 12, .inl (cI, 40, .inl (fun zz => nI (((L).2.2.2.2) zz))))] := hD
  refine x_if_eqZ (b := decide ((pOp P x) = 10 ∨ (pOp P x) = 11)) (tgt := 33) hM d_Pr_numberAt_21 (by decide) (fun hc21 => ?_) (fun hc21 => ?_)
  · skip
    refine lv_iload_n hx hb d_Pr_numberAt_33 rfl (lv_at hl 0 rfl) ?_
    exact x_iret hM hQ (by rw [pOp_J] at hc21; rw [show aNum P x = _ from if_neg (by rw [hc21]; decide)]) rfl hP hK hD hS d_Pr_numberAt_34
  · skip
    rw [pOp_J] at hc21
    obtain ⟨hk1, hk2⟩ := pSd_k hp hs (i := pI P x) (by omega) hc21
    rw [hk2] at hl
    have hl : lv_has ls 4 [(3, .int (nI ((pK P (pI P x)).toNatClampNeg))), (0, .ref (ap 0)), (1, .ref (ap 9)), (2, .int (nI x))] := hl
    refine lv_aload_n hx hb d_Pr_numberAt_24 rfl (lv_at hl 2 rfl) ?_
    refine x_get hM hK hP 9 0 2 i_Li rfl rfl (by decide) q_fl_Pr_60 rfl d_Pr_numberAt_25 ?_
    refine lv_iload_n hx hb d_Pr_numberAt_28 rfl (lv_at hl 0 rfl) ?_
    refine x_iald hM hK hP 12 0 rfl rfl (by omega) (by decide) d_Pr_numberAt_29 ?_
    refine lv_goto hx hb d_Pr_numberAt_30 (tgt := 34) (by decide) ?_
    exact x_iret hM hQ (by rw [(hl0.1 _ hk1).2.2, show aNum P x = _ from if_pos hc21]) rfl hP hK hD hS d_Pr_numberAt_34
abbrev rm_Pr_numberAtF : Room := { frames := 1, cells := 0, slots := 0, locals := 20 }
set_option maxHeartbeats 4000000 in
set_option maxRecDepth 100000 in
theorem c_Pr_numberAtF (l : Launch) (D : va_G) (cI cZ cJ : ClassId) (sz : Nat) (ap : Nat → Nat) (P : xPg) (L : xLs) (x : Nat) (hp : pOk P) (hs : pSd P) (hl0 : lOk P L) (hx0 : x < pN P) : xCi l D (xT cI cZ cJ) y_Pr_numberAt k_Pr_numberAt rm_Pr_numberAtF sz (wPr cI ap P L) [.ref (ap 0), .ref (ap 5), .int (nI x)] (pK P x) (wPr cI ap P L) 0 0 := by
  refine x_ofi (cc := b_Pr_numberAt) (nL := 4) (ret := (some .int)) (by decide) rfl (Nat.le_of_ble_eq_true rfl) ?_
  intro p e s m args below meth c ls A Q hQ hM hsz hP hK hD hA hl
  obtain ⟨hx, hb, -, hml, hown, hts, -⟩ := id hM
  have hS : va_S A s.heap s.heap [] := va_S.rf
  have hl : lv_has ls 4 [(0, .ref (ap 0)), (1, .ref (ap 5)), (2, .int (nI x))] := hl
  have hP : va_P D vwCl [(ap 0, .inr (2, [.ref (ap 1), .ref (ap 2), .ref (ap 3), .ref (ap 4), .ref (ap 5), .ref (ap 9)])), (ap 1, .inl (cI, 40, .inl (fun zz => nI ((pR P) zz)))), (ap 2, .inl (cI, 40, .inl (fun zz => nI ((pA P) zz)))), (ap 3, .inl (cI, 40, .inl (fun zz => nI ((pB P) zz)))), (ap 4, .inl (cI, 40, .inl (pK P))), (ap 5, .inr (0, [.ref (ap 6), .ref (ap 7), .ref (ap 8), .int (nI (pN P))])), (ap 6, .inl (cI, 40, .inl (fun zz => nI ((pO P) zz)))), (ap 7, .inl (cI, 40, .inl (fun zz => nI (((L).1) zz)))), (ap 8, .inl (cI, 40, .inl (fun zz => nI (((L).2.1) zz)))), (ap 9, .inr (0, [.ref (ap 10), .ref (ap 11), .ref (ap 12), .int (nI (pl P (pN P)))])), (ap 10, .inl (cI, 80, .inl (fun zz => nI (((L).2.2.1) zz)))), (ap 11, .inl (cI, 80, .inl (fun zz => nI (((L).2.2.2.1) zz)))), (ap 12, .inl (cI, 40, .inl (fun zz => nI (((L).2.2.2.2) zz))))] s.heap := hP
  have hD : va_D A [(ap 0, .inr (2, [.ref (ap 1), .ref (ap 2), .ref (ap 3), .ref (ap 4), .ref (ap 5), .ref (ap 9)])), (ap 1, .inl (cI, 40, .inl (fun zz => nI ((pR P) zz)))), (ap 2, .inl (cI, 40, .inl (fun zz => nI ((pA P) zz)))), (ap 3, .inl (cI, 40, .inl (fun zz => nI ((pB P) zz)))), (ap 4, .inl (cI, 40, .inl (pK P))), (ap 5, .inr (0, [.ref (ap 6), .ref (ap 7), .ref (ap 8), .int (nI (pN P))])), (ap 6, .inl (cI, 40, .inl (fun zz => nI ((pO P) zz)))), (ap 7, .inl (cI, 40, .inl (fun zz => nI (((L).1) zz)))), (ap 8, .inl (cI, 40, .inl (fun zz => nI (((L).2.1) zz)))), (ap 9, .inr (0, [.ref (ap 10), .ref (ap 11), .ref (ap 12), .int (nI (pl P (pN P)))])), (ap 10, .inl (cI, 80, .inl (fun zz => nI (((L).2.2.1) zz)))), (ap 11, .inl (cI, 80, .inl (fun zz => nI (((L).2.2.2.1) zz)))), (ap 12, .inl (cI, 40, .inl (fun zz => nI (((L).2.2.2.2) zz))))] := hD
  have hnn := hp.1
  have hn2 := pl_le P (pN P)
  have s1 := hx0
  have o1 := (hp.2 x hx0).1
  refine lv_aload_n hx hb d_Pr_numberAt_0 rfl (lv_at hl 0 rfl) ?_
  refine x_get hM hK hP 0 2 3 i_Pr rfl rfl (by decide) q_fl_Pr_21 rfl d_Pr_numberAt_1 ?_
  refine lv_aload_n hx hb d_Pr_numberAt_4 rfl (lv_at hl 1 rfl) ?_
  refine x_get hM hK hP 5 0 1 i_Li rfl rfl (by decide) q_fl_Pr_57 rfl d_Pr_numberAt_5 ?_
  refine lv_iload_n hx hb d_Pr_numberAt_8 rfl (lv_at hl 2 rfl) ?_
  refine x_iald hM hK hP 7 0 rfl rfl (by omega) (by decide) d_Pr_numberAt_9 ?_
  refine W.eq (g2 := F0 m 10 ls [.int (nI x), .ref (ap 4)]) (by rw [(hl0.1 x hx0).1]) ?_
  refine x_iald hM hK hP 4 0 rfl rfl (by omega) (by decide) d_Pr_numberAt_10 ?_
  refine lv_istore_n hx hb d_Pr_numberAt_11 rfl hl (by decide) rfl (fun ls hl => ?_)
  have hl : lv_has ls 4 [(3, .int ((pK P) x)), (0, .ref (ap 0)), (1, .ref (ap 5)), (2, .int (nI x))] := hl
  refine lv_aload_n hx hb d_Pr_numberAt_12 rfl (lv_at hl 2 rfl) ?_
  refine x_get hM hK hP 5 0 0 i_Li rfl rfl (by decide) q_fl_Pr_50 rfl d_Pr_numberAt_13 ?_
  refine lv_iload_n hx hb d_Pr_numberAt_16 rfl (lv_at hl 3 rfl) ?_
  refine x_iald hM hK hP 6 0 rfl rfl (by omega) (by decide) d_Pr_numberAt_17 ?_
  refine x_calli (wc := []) (wr := [(ap 0, .inr (2, [.ref (ap 1), .ref (ap 2), .ref (ap 3), .ref (ap 4), .ref (ap 5), .ref (ap 9)])), (ap 1, .inl (cI, 40, .inl (fun zz => nI ((pR P) zz)))), (ap 2, .inl (cI, 40, .inl (fun zz => nI ((pA P) zz)))), (ap 3, .inl (cI, 40, .inl (fun zz => nI ((pB P) zz)))), (ap 4, .inl (cI, 40, .inl (pK P))), (ap 5, .inr (0, [.ref (ap 6), .ref (ap 7), .ref (ap 8), .int (nI (pN P))])), (ap 6, .inl (cI, 40, .inl (fun zz => nI ((pO P) zz)))), (ap 7, .inl (cI, 40, .inl (fun zz => nI (((L).1) zz)))), (ap 8, .inl (cI, 40, .inl (fun zz => nI (((L).2.1) zz)))), (ap 9, .inr (0, [.ref (ap 10), .ref (ap 11), .ref (ap 12), .int (nI (pl P (pN P)))])), (ap 10, .inl (cI, 80, .inl (fun zz => nI (((L).2.2.1) zz)))), (ap 11, .inl (cI, 80, .inl (fun zz => nI (((L).2.2.2.1) zz)))), (ap 12, .inl (cI, 40, .inl (fun zz => nI (((L).2.2.2.2) zz))))]) (va_runS (As := [.int (nI ((pO P) x))]) (rest := []) ⟨hx, hb, hml, hown, hts⟩ (c_Pr_goesOnElsewhere l D cI cZ cJ _ (pO P x) (by omega)) (va_cwS 1 hts (bw_S q_ml_Pr_53 q_st_Pr_goesOnElsewhere q_in_Pr q_cd_Pr_goesOnElsewhere) rfl rfl rfl ⟨by decide, by decide, by decide +kernel⟩ ⟨Nat.le_of_ble_eq_true rfl, Nat.le_of_ble_eq_true rfl⟩) (x_pre (wc := []) hP hD hK [] rfl (by decide)) rfl rfl hl.1 rfl (lv_room (Nat.le_of_ble_eq_true rfl)) d_Pr_numberAt_18 ⟨Nat.le_of_ble_eq_true rfl, Nat.le_of_ble_eq_true rfl⟩) hP hD hS hA [] [0, 1, 2, 3, 4, 5, 6, 7, 8, 9, 10, 11, 12] rfl rfl (by decide) (by decide) (fun H locs hP hD hS => ?_)
  have hP : va_P D vwCl [(ap 0, .inr (2, [.ref (ap 1), .ref (ap 2), .ref (ap 3), .ref (ap 4), .ref (ap 5), .ref (ap 9)])), (ap 1, .inl (cI, 40, .inl (fun zz => nI ((pR P) zz)))), (ap 2, .inl (cI, 40, .inl (fun zz => nI ((pA P) zz)))), (ap 3, .inl (cI, 40, .inl (fun zz => nI ((pB P) zz)))), (ap 4, .inl (cI, 40, .inl (pK P))), (ap 5, .inr (0, [.ref (ap 6), .ref (ap 7), .ref (ap 8), .int (nI (pN P))])), (ap 6, .inl (cI, 40, .inl (fun zz => nI ((pO P) zz)))), (ap 7, .inl (cI, 40, .inl (fun zz => nI (((L).1) zz)))), (ap 8, .inl (cI, 40, .inl (fun zz => nI (((L).2.1) zz)))), (ap 9, .inr (0, [.ref (ap 10), .ref (ap 11), .ref (ap 12), .int (nI (pl P (pN P)))])), (ap 10, .inl (cI, 80, .inl (fun zz => nI (((L).2.2.1) zz)))), (ap 11, .inl (cI, 80, .inl (fun zz => nI (((L).2.2.2.1) zz)))), (ap 12, .inl (cI, 40, .inl (fun zz => nI (((L).2.2.2.2) zz))))] H := hP
  have hD : va_D A [(ap 0, .inr (2, [.ref (ap 1), .ref (ap 2), .ref (ap 3), .ref (ap 4), .ref (ap 5), .ref (ap 9)])), (ap 1, .inl (cI, 40, .inl (fun zz => nI ((pR P) zz)))), (ap 2, .inl (cI, 40, .inl (fun zz => nI ((pA P) zz)))), (ap 3, .inl (cI, 40, .inl (fun zz => nI ((pB P) zz)))), (ap 4, .inl (cI, 40, .inl (pK P))), (ap 5, .inr (0, [.ref (ap 6), .ref (ap 7), .ref (ap 8), .int (nI (pN P))])), (ap 6, .inl (cI, 40, .inl (fun zz => nI ((pO P) zz)))), (ap 7, .inl (cI, 40, .inl (fun zz => nI (((L).1) zz)))), (ap 8, .inl (cI, 40, .inl (fun zz => nI (((L).2.1) zz)))), (ap 9, .inr (0, [.ref (ap 10), .ref (ap 11), .ref (ap 12), .int (nI (pl P (pN P)))])), (ap 10, .inl (cI, 80, .inl (fun zz => nI (((L).2.2.1) zz)))), (ap 11, .inl (cI, 80, .inl (fun zz => nI (((L).2.2.2.1) zz)))), (ap 12, .inl (cI, 40, .inl (fun zz => nI (((L).2.2.2.2) zz))))] := hD
  refine x_if_eqZ (b := decide ((pO P x) = 10 ∨ (pO P x) = 11)) (tgt := 33) hM d_Pr_numberAt_21 (by decide) (fun hc21 => ?_) (fun hc21 => ?_)
  · skip
    refine lv_iload_n hx hb d_Pr_numberAt_33 rfl (lv_at hl 0 rfl) ?_
    exact x_iret hM hQ rfl rfl hP hK hD hS d_Pr_numberAt_34
  · skip
    obtain ⟨hk1, hk2⟩ := pSd_k hp hs (i := x) (by omega) hc21
    rw [hk2] at hl
    have hl : lv_has ls 4 [(3, .int (nI ((pK P x).toNatClampNeg))), (0, .ref (ap 0)), (1, .ref (ap 5)), (2, .int (nI x))] := hl
    refine lv_aload_n hx hb d_Pr_numberAt_24 rfl (lv_at hl 2 rfl) ?_
    refine x_get hM hK hP 5 0 2 i_Li rfl rfl (by decide) q_fl_Pr_60 rfl d_Pr_numberAt_25 ?_
    refine lv_iload_n hx hb d_Pr_numberAt_28 rfl (lv_at hl 0 rfl) ?_
    refine x_iald hM hK hP 8 0 rfl rfl (by omega) (by decide) d_Pr_numberAt_29 ?_
    refine lv_goto hx hb d_Pr_numberAt_30 (tgt := 34) (by decide) ?_
    exact x_iret hM hQ (by rw [(hl0.1 _ hk1).2.1]; exact hk2.symm) rfl hP hK hD hS d_Pr_numberAt_34
abbrev rm_Pr_widthOf : Room := { frames := 0, cells := 0, slots := 0, locals := 0 }
set_option maxHeartbeats 4000000 in
set_option maxRecDepth 100000 in
theorem c_Pr_widthOf (l : Launch) (D : va_G) (cI cZ cJ : ClassId) (sz : Nat) (ap : Nat → Nat) (P : xPg) (L : xLs) (i : Nat) (hp : pOk P) (hi : i < pN P) (h6 : 6 ≤ pO P i) (h9 : pO P i ≤ 9) : xCi l D (xT cI cZ cJ) y_Pr_widthOf k_Pr_widthOf rm_Pr_widthOf sz (wPr cI ap P L) [.ref (ap 0), .int (nI i)] (nI (rMany P i)) (wPr cI ap P L) 0 0 := by
  refine x_ofi (cc := b_Pr_widthOf) (nL := 3) (ret := (some .int)) (by decide) rfl (Nat.le_of_ble_eq_true rfl) ?_
  intro p e s m args below meth c ls A Q hQ hM hsz hP hK hD hA hl
  obtain ⟨hx, hb, -, hml, hown, hts, -⟩ := id hM
  have hS : va_S A s.heap s.heap [] := va_S.rf
  have hl : lv_has ls 3 [(0, .ref (ap 0)), (1, .int (nI i))] := hl
  have hP : va_P D vwCl [(ap 0, .inr (2, [.ref (ap 1), .ref (ap 2), .ref (ap 3), .ref (ap 4), .ref (ap 5), .ref (ap 9)])), (ap 1, .inl (cI, 40, .inl (fun zz => nI ((pR P) zz)))), (ap 2, .inl (cI, 40, .inl (fun zz => nI ((pA P) zz)))), (ap 3, .inl (cI, 40, .inl (fun zz => nI ((pB P) zz)))), (ap 4, .inl (cI, 40, .inl (pK P))), (ap 5, .inr (0, [.ref (ap 6), .ref (ap 7), .ref (ap 8), .int (nI (pN P))])), (ap 6, .inl (cI, 40, .inl (fun zz => nI ((pO P) zz)))), (ap 7, .inl (cI, 40, .inl (fun zz => nI (((L).1) zz)))), (ap 8, .inl (cI, 40, .inl (fun zz => nI (((L).2.1) zz)))), (ap 9, .inr (0, [.ref (ap 10), .ref (ap 11), .ref (ap 12), .int (nI (pl P (pN P)))])), (ap 10, .inl (cI, 80, .inl (fun zz => nI (((L).2.2.1) zz)))), (ap 11, .inl (cI, 80, .inl (fun zz => nI (((L).2.2.2.1) zz)))), (ap 12, .inl (cI, 40, .inl (fun zz => nI (((L).2.2.2.2) zz))))] s.heap := hP
  have hD : va_D A [(ap 0, .inr (2, [.ref (ap 1), .ref (ap 2), .ref (ap 3), .ref (ap 4), .ref (ap 5), .ref (ap 9)])), (ap 1, .inl (cI, 40, .inl (fun zz => nI ((pR P) zz)))), (ap 2, .inl (cI, 40, .inl (fun zz => nI ((pA P) zz)))), (ap 3, .inl (cI, 40, .inl (fun zz => nI ((pB P) zz)))), (ap 4, .inl (cI, 40, .inl (pK P))), (ap 5, .inr (0, [.ref (ap 6), .ref (ap 7), .ref (ap 8), .int (nI (pN P))])), (ap 6, .inl (cI, 40, .inl (fun zz => nI ((pO P) zz)))), (ap 7, .inl (cI, 40, .inl (fun zz => nI (((L).1) zz)))), (ap 8, .inl (cI, 40, .inl (fun zz => nI (((L).2.1) zz)))), (ap 9, .inr (0, [.ref (ap 10), .ref (ap 11), .ref (ap 12), .int (nI (pl P (pN P)))])), (ap 10, .inl (cI, 80, .inl (fun zz => nI (((L).2.2.1) zz)))), (ap 11, .inl (cI, 80, .inl (fun zz => nI (((L).2.2.2.1) zz)))), (ap 12, .inl (cI, 40, .inl (fun zz => nI (((L).2.2.2.2) zz))))] := hD
  have hnn := hp.1
  refine lv_aload_n hx hb d_Pr_widthOf_0 rfl (lv_at hl 0 rfl) ?_
  refine x_get hM hK hP 0 2 4 i_Pr rfl rfl (by decide) q_fl_Pr_29 rfl d_Pr_widthOf_1 ?_
  refine x_get hM hK hP 5 0 0 i_Li rfl rfl (by decide) q_fl_Pr_50 rfl d_Pr_widthOf_4 ?_
  refine lv_iload_n hx hb d_Pr_widthOf_7 rfl (lv_at hl 1 rfl) ?_
  refine x_iald hM hK hP 6 0 rfl rfl (by omega) (by decide) d_Pr_widthOf_8 ?_
  refine lv_istore_n hx hb d_Pr_widthOf_9 rfl hl (by decide) rfl (fun ls hl => ?_)
  have hl : lv_has ls 3 [(2, .int (nI ((pO P) i))), (0, .ref (ap 0)), (1, .int (nI i))] := hl
  refine lv_iload_n hx hb d_Pr_widthOf_10 rfl (lv_at hl 0 rfl) ?_
  refine lv_bipush (v := nI 6) hx hb d_Pr_widthOf_11 (by decide) ?_
  refine x_icmp_eq (tgt := 22) hM (by omega) (by omega) d_Pr_widthOf_13 (by decide) (fun hc13 => ?_) (fun hc13 => ?_)
  · skip
    refine lv_iconst (v := nI 1) hx hb d_Pr_widthOf_22 (by decide) ?_
    refine lv_goto hx hb d_Pr_widthOf_23 (tgt := 27) (by decide) ?_
    exact x_iret hM hQ (by rw [rMany_w1 (by omega)]) rfl hP hK hD hS d_Pr_widthOf_27
  · skip
    refine lv_iload_n hx hb d_Pr_widthOf_16 rfl (lv_at hl 0 rfl) ?_
    refine lv_bipush (v := nI 8) hx hb d_Pr_widthOf_17 (by decide) ?_
    refine x_icmp_ne (tgt := 26) hM (by omega) (by omega) d_Pr_widthOf_19 (by decide) (fun hc19 => ?_) (fun hc19 => ?_)
    · skip
      refine lv_iconst (v := nI 4) hx hb d_Pr_widthOf_26 (by decide) ?_
      exact x_iret hM hQ (by rw [rMany_w4 (by omega) h6 h9]) rfl hP hK hD hS d_Pr_widthOf_27
    · skip
      refine lv_iconst (v := nI 1) hx hb d_Pr_widthOf_22 (by decide) ?_
      refine lv_goto hx hb d_Pr_widthOf_23 (tgt := 27) (by decide) ?_
      exact x_iret hM hQ (by rw [rMany_w1 (by omega)]) rfl hP hK hD hS d_Pr_widthOf_27
