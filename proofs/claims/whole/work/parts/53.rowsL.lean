theorem x_rc {n : Nat} (h : n ≤ 601024) : n ≤ room_1.cells := h
theorem x_rs {n : Nat} (h : n ≤ 7293034) : n ≤ room_1.slots := h
/-- the law's world -/
abbrev wLa (cI cZ cJ : ClassId) (ax : Nat) (ar ap am : Nat → Nat) (P : xPg) (L : xLs) (M : xMem) (R : xRn) (ln ao : Nat) (u : Nat → Int64) (a : Nat → Nat) (cd : Nat) (P2 : xPg) (M2 : xMem) (R2 : xRn) : va_W := (wSh cI cZ ax ar ap am P L M R ln ++ [(ao, .inl (cJ, 1, .inr (.inl u)))]) ++ wMo cI a cd P2 M2 R2
section XLW
variable {p : Program} {l : Launch} {e : Env} {R : Room} {s : State} {m : MethodId} {args : Array Value} {below : List Frame} {meth : Method} {c : Code} {H : Heap} {locs : List Loc} {cells slots : Nat} {Q : State → Prop}
variable {cc : ByteArray} {pc nL : Nat} {ls : Array Slot} {rest : List Value} {D : va_G} {A : Nat → Prop} {a : Nat} {tys : List (ClassId × FieldType)} {ws : va_W} {H0 : Heap} {ret : Option FieldType} {own nm : String} {k0 : Cond} {cI cZ cJ : ClassId}
theorem x_sld {b L j : Nat} {xs : Nat → Int32} (M : xM p s m args meth c cc nL ret own nm (k0 :: bw)) (hX : va_X b L xs s H0) (hbl : b < H0.size) (hbA : ¬ A b) (hS : va_S A H0 H locs) (hj : j < L) (hL : L < 2 ^ 31) (hd : decode cc pc = .ok (.iaload, 1))
    (kk : W p l e R s m args below meth c H locs cells slots Q (F0 m (pc + 1) ls (.int (xs j) :: rest))) : W p l e R s m args below meth c H locs cells slots Q (F0 m pc ls (.int (nI j) :: .ref b :: rest)) :=
  va_sld M.1 M.2.1 hX hbl hbA hS (vp_in_nI hj hL) hd (by rw [nI_clamp (Nat.lt_trans hj hL)]; exact kk)
theorem x_slen {b L : Nat} {xs : Nat → Int32} (M : xM p s m args meth c cc nL ret own nm (k0 :: bw)) (hX : va_X b L xs s H0) (hbl : b < H0.size) (hbA : ¬ A b) (hS : va_S A H0 H locs) (hd : decode cc pc = .ok (.arraylength, 1))
    (kk : W p l e R s m args below meth c H locs cells slots Q (F0 m (pc + 1) ls (.int (nI L) :: rest))) : W p l e R s m args below meth c H locs cells slots Q (F0 m pc ls (.ref b :: rest)) :=
  va_slen M.1 M.2.1 hX hbl hbA hS hd kk
theorem x_newaJ {n : Nat} (M : xM p s m args meth c cc nL ret own nm (k0 :: bw)) (hK : va_K D vwCl (xT cI cZ cJ) s) (hP : va_P D vwCl ws H) (hD : va_D A ws) (hS : va_S A H0 H locs) (hA : ∀ q, H0.size ≤ q → A q) (hn : n < 2 ^ 20) (hc : cells + 1 ≤ R.cells) (hs : slots + n ≤ R.slots) (hd : decode cc pc = .ok (.newarray .long, 2))
    (kk : ∀ (q : Nat) (H1 : Heap), va_P D vwCl (ws ++ [(q, .inl (cJ, n, .inr (.inl (fun _ => 0))))]) H1 → va_D A (ws ++ [(q, .inl (cJ, n, .inr (.inl (fun _ => 0))))]) → va_S A H0 H1 locs → W p l e R s m args below meth c H1 locs (cells + 1) (slots + n) Q (F0 m (pc + 2) ls (.ref q :: rest))) :
    W p l e R s m args below meth c H locs cells slots Q (F0 m pc ls (.int (nI n) :: rest)) :=
  va_newa (atype := .long) (a0 := (n, .inr (.inl (fun _ => 0)))) (ty := .long) M.1 M.2.1 (M.2.2.2.2.2.1 _ (List.mem_cons_of_mem _ q_ac_long)) rfl hK hP hD hS hA (fun cA => rfl) (nI_pos (by omega)) (nI_clamp (by omega)) (by show n * 8 ≤ _; omega) hc hs hd
    (fun q cA H1 k1 h1 h2 h3 => by rw [x_sameJ k1] at h1 h2; exact kk q H1 h1 h2 h3)
theorem x_preN {wc : va_W} {vs : List Value} {a1 : String} {i1 : Nat} {y1 : MethodName} {h1 : String} (hP : va_P D vwCl ws H) (hD : va_D A ws) (hK : va_K D vwCl tys s) (h9 : va_Nw (.methodLinkNest a1 i1 y1 h1) s) (isC : List Nat) (hC : isC.map (fun i => ws[i]?) = wc.map some) (hd : va_nd isC = true) : PreS s H (fun v U => xP D tys wc H.size vs v U ∧ va_Nw (.methodLinkNest a1 i1 y1 h1) U) vs := by
  have h0 := x_pre (vs := vs) (wc := wc) hP hD hK isC hC hd
  exact ⟨fun a U g mk q => ⟨h0.1 a U g mk q.1, va_Nw.same (u := U) (U := U.calling g mk a) rfl rfl q.2⟩, fun U hU hW => ⟨h0.2 U hU hW, va_Nw.warmM hW h9⟩⟩
end XLW
section XG
variable (p : Program) (l : Launch) (e : Env) (s : State) (m : MethodId) (args : Array Value) (below : List Frame) (meth : Method) (c : Code) (Q : State → Prop) (D : va_G) (A : Nat → Prop) (cI cZ cJ : ClassId) (ax ao : Nat) (ar ap am a : Nat → Nat) (b : Nat)
/-- the law goes well from pc on, at the script's place i -/
def xG (cells slots i pc : Nat) : Prop := ∀ (P : xPg) (L : xLs) (M : xMem) (R : xRn) (ln cd : Nat) (u : Nat → Int64) (ls : Array Slot) (H : Heap) (locs : List Loc), vOk P L M R ln → lv_has ls 7 [(0, .ref b), (1, .ref ax), (2, .ref (a 0)), (3, .ref ao), (4, .int (nI i))] → va_P D vwCl (wLa cI cZ cJ ax ar ap am P L M R ln ao u a cd P M R) H → va_D A (wLa cI cZ cJ ax ar ap am P L M R ln ao u a cd P M R) → va_S A s.heap H locs → W p l e room_1 s m args below meth c H locs cells slots Q (F0 m pc ls [])
/-- what the law's walk knows -/
def xH (nm : String) (k0 : Cond) (L0 : Nat) (xs : Nat → Int32) : Prop := l.stackTraces = false ∧ xM p s m args meth c code 7 ret R_La nm (k0 :: bw) ∧ xZ A s s.heap ∧ va_X b L0 xs s s.heap ∧ b < s.heap.size ∧ ¬ A b ∧ va_K D vwCl (xT cI cZ cJ) s ∧ (∀ q, s.heap.size ≤ q → A q) ∧ L0 ≤ 3072
end XG
