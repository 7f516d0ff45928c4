def xAd (q : List Nat) : Nat → Nat := fun k => q.getD k 0
theorem x_sameI {D : va_G} {cI cZ cJ cA : ClassId} {s : State} (h : va_K D vwCl (xT cI cZ cJ ++ [(cA, .int)]) s) : cA = cI := by
  have h1 : s.vm.findClass ("[" ++ FieldType.int.toString) = some cA := (h.2 3 (cA, .int) rfl).2
  have h2 : s.vm.findClass ("[" ++ FieldType.int.toString) = some cI := (h.2 0 (cI, .int) rfl).2
  exact Option.some.inj (h1.symm.trans h2)
theorem x_sameZ {D : va_G} {cI cZ cJ cA : ClassId} {s : State} (h : va_K D vwCl (xT cI cZ cJ ++ [(cA, .boolean)]) s) : cA = cZ := by
  have h1 : s.vm.findClass ("[" ++ FieldType.boolean.toString) = some cA := (h.2 3 (cA, .boolean) rfl).2
  have h2 : s.vm.findClass ("[" ++ FieldType.boolean.toString) = some cZ := (h.2 1 (cZ, .boolean) rfl).2
  exact Option.some.inj (h1.symm.trans h2)
theorem x_sameJ {D : va_G} {cI cZ cJ cA : ClassId} {s : State} (h : va_K D vwCl (xT cI cZ cJ ++ [(cA, .long)]) s) : cA = cJ := by
  have h1 : s.vm.findClass ("[" ++ FieldType.long.toString) = some cA := (h.2 3 (cA, .long) rfl).2
  have h2 : s.vm.findClass ("[" ++ FieldType.long.toString) = some cJ := (h.2 2 (cJ, .long) rfl).2
  exact Option.some.inj (h1.symm.trans h2)
abbrev xKv {S : Type} (l : Launch) (D : va_G) (tys : List (ClassId × FieldType)) (y : MethodName) (k : Cond) (rm : Room) (sz : Nat) (ws0 : va_W) (av : List Value) (post : S → Prop) (W1 : S → va_W) (mc ms : Nat) : Prop :=
  Met l y (k :: bw) rm (xP D tys ws0 sz av) (va_Qv post (xB D tys (va_A ws0 sz) W1) (va_A ws0 sz)) mc ms (va_A ws0 sz)
section XON
variable {l : Launch} {cc : ByteArray} {D : va_G} {tys : List (ClassId × FieldType)} {y : MethodName} {k : Cond} {rm : Room} {nL mc ms sz : Nat} {ret : Option FieldType} {ws0 : va_W} {av : List Value} {S : Type} {post : S → Prop} {W1 : S → va_W}
theorem x_ofvS (hy : plainName y.cls = true) (hk : k = .code y cc nL ret) (hlen : (lg_sl av).length ≤ nL)
    (body : ∀ (p : Program) (e : Env) (s : State) (m : MethodId) (args : Array Value) (below : List Frame) (meth : Method) (c : Code) (ls : Array Slot) (A : Nat → Prop) (Q : State → Prop), Q = MQ below (va_Qv post (xB D tys A W1) A) args s mc ms A → xM p s m args meth c cc nL ret y.cls y.name (k :: bw) → s.heap.size = sz → va_P D vwCl ws0 s.heap → va_K D vwCl tys s → va_D A ws0 → (∀ q, s.heap.size ≤ q → A q) → lv_has ls nL (lv_args 0 av) →
      W p l e rm s m args below meth c s.heap [] 0 0 Q (F0 m 0 ls [])) :
    xKv l D tys y k rm sz ws0 av post W1 mc ms := by
  refine Met.ofW (cc := cc) (maxL := nL) (ret := ret) (ws' := bw) hy (by rw [hk]) ?_
  intro p e s m args below meth c s₁ B hml hv
  obtain ⟨rfl, hsz, hP, hK, hD0⟩ := hv
  subst hsz
  have hl := lv_entry av hlen
  rw [lg_entry_eq]
  exact body p e s m _ below meth c _ (va_A ws0 s.heap.size) _ rfl ⟨B.exec, B.bytes, B.returns, hml, findClass_of_methodNamed B.named, atoms_spec (ws := k :: bw) B.pre, B.notSynchronized, (name_of_methodNamed B.named B.method).1⟩ rfl hP hK hD0.self (fun q h => Or.inr h) hl
/-- with a word that is kept beside the others -/
theorem x_ofvN {w9 : Cond} (hy : plainName y.cls = true) (hk : k = .code y cc nL ret) (hlen : (lg_sl av).length ≤ nL)
    (body : ∀ (p : Program) (e : Env) (s : State) (m : MethodId) (args : Array Value) (below : List Frame) (meth : Method) (c : Code) (ls : Array Slot) (A : Nat → Prop) (Q : State → Prop), Q = MQ below (va_Qv post (xB D tys A W1) A) args s mc ms A → xM p s m args meth c cc nL ret y.cls y.name (k :: bw) → va_Nw w9 s → s.heap.size = sz → va_P D vwCl ws0 s.heap → va_K D vwCl tys s → va_D A ws0 → (∀ q, s.heap.size ≤ q → A q) → lv_has ls nL (lv_args 0 av) →
      W p l e rm s m args below meth c s.heap [] 0 0 Q (F0 m 0 ls [])) :
    Met l y (k :: bw) rm (fun v U => xP D tys ws0 sz av v U ∧ va_Nw w9 U) (va_Qv post (xB D tys (va_A ws0 sz) W1) (va_A ws0 sz)) mc ms (va_A ws0 sz) := by
  refine Met.ofW (cc := cc) (maxL := nL) (ret := ret) (ws' := bw) hy (by rw [hk]) ?_
  intro p e s m args below meth c s₁ B hml hv
  obtain ⟨⟨rfl, hsz, hP, hK, hD0⟩, h9⟩ := hv
  subst hsz
  have hl := lv_entry av hlen
  rw [lg_entry_eq]
  exact body p e s m _ below meth c _ (va_A ws0 s.heap.size) _ rfl ⟨B.exec, B.bytes, B.returns, hml, findClass_of_methodNamed B.named, atoms_spec (ws := k :: bw) B.pre, B.notSynchronized, (name_of_methodNamed B.named B.method).1⟩ h9 rfl hP hK hD0.self (fun q h => Or.inr h) hl
end XON
section XRN
variable {p : Program} {l : Launch} {e : Env} {R : Room} {s : State} {m : MethodId} {args : Array Value} {below : List Frame} {meth : Method} {c : Code} {H : Heap} {locs : List Loc} {cells slots : Nat} {Q : State → Prop}
variable {cc : ByteArray} {pc nL : Nat} {ls : Array Slot} {rest : List Value} {D : va_G} {A : Nat → Prop} {a : Nat} {tys : List (ClassId × FieldType)} {ws : va_W} {H0 : Heap} {ret : Option FieldType} {own nm : String} {k0 : Cond} {mc ms : Nat} {cI cZ cJ : ClassId} {S : Type} {post : S → Prop} {W1 : S → va_W}
theorem x_vretS (M : xM p s m args meth c cc nL none own nm (k0 :: bw)) (hQ : Q = MQ below (va_Qv post (xB D tys A W1) A) args s mc ms A) (hc : cells ≤ mc) (hs : slots ≤ ms) (u : S) (hp : post u) (hw : ws = W1 u) (hP : va_P D vwCl ws H) (hK : va_K D vwCl tys s) (hD : va_D A ws) (hS : va_S A s.heap H locs) (hd : decode cc pc = .ok (.return_, 1)) :
    W p l e R s m args below meth c H locs cells slots Q (F0 m pc ls []) := by
  subst hw; subst hQ
  exact W.widen hc hs (W.vret M.1 M.2.1 M.2.2.1 (fun t ht hW => ⟨⟨u, rfl, hp, by rw [ht]; exact hP, va_K.moved hW.alike hK, hD⟩, hS.F ht⟩) hS.2.2 hd M.2.2.2.2.2.2.1)
theorem x_newaI {n : Nat} (M : xM p s m args meth c cc nL ret own nm (k0 :: bw)) (hK : va_K D vwCl (xT cI cZ cJ) s) (hP : va_P D vwCl ws H) (hD : va_D A ws) (hS : va_S A H0 H locs) (hA : ∀ q, H0.size ≤ q → A q) (hn : n < 2 ^ 20) (hc : cells + 1 ≤ R.cells) (hs : slots + n ≤ R.slots) (hd : decode cc pc = .ok (.newarray .int, 2))
    (kk : ∀ (q : Nat) (H1 : Heap), va_P D vwCl (ws ++ [(q, .inl (cI, n, .inl (fun _ => 0)))]) H1 → va_D A (ws ++ [(q, .inl (cI, n, .inl (fun _ => 0)))]) → va_S A H0 H1 locs → W p l e R s m args below meth c H1 locs (cells + 1) (slots + n) Q (F0 m (pc + 2) ls (.ref q :: rest))) :
    W p l e R s m args below meth c H locs cells slots Q (F0 m pc ls (.int (nI n) :: rest)) :=
  va_newa (atype := .int) (a0 := (n, .inl (fun _ => 0))) (ty := .int) M.1 M.2.1 (M.2.2.2.2.2.1 _ (List.mem_cons_of_mem _ q_ac_int)) rfl hK hP hD hS hA (fun cA => rfl) (nI_pos (by omega)) (nI_clamp (by omega)) (by show n * 4 ≤ _; omega) hc hs hd
    (fun q cA H1 k1 h1 h2 h3 => by rw [x_sameI k1] at h1 h2; exact kk q H1 h1 h2 h3)
theorem x_newaZ {n : Nat} (M : xM p s m args meth c cc nL ret own nm (k0 :: bw)) (hK : va_K D vwCl (xT cI cZ cJ) s) (hP : va_P D vwCl ws H) (hD : va_D A ws) (hS : va_S A H0 H locs) (hA : ∀ q, H0.size ≤ q → A q) (hn : n < 2 ^ 20) (hc : cells + 1 ≤ R.cells) (hs : slots + n ≤ R.slots) (hd : decode cc pc = .ok (.newarray .boolean, 2))
    (kk : ∀ (q : Nat) (H1 : Heap), va_P D vwCl (ws ++ [(q, .inl (cZ, n, .inl (fun _ => 0)))]) H1 → va_D A (ws ++ [(q, .inl (cZ, n, .inl (fun _ => 0)))]) → va_S A H0 H1 locs → W p l e R s m args below meth c H1 locs (cells + 1) (slots + n) Q (F0 m (pc + 2) ls (.ref q :: rest))) :
    W p l e R s m args below meth c H locs cells slots Q (F0 m pc ls (.int (nI n) :: rest)) :=
  va_newa (atype := .boolean) (a0 := (n, .inl (fun _ => 0))) (ty := .boolean) M.1 M.2.1 (M.2.2.2.2.2.1 _ (List.mem_cons_of_mem _ q_ac_boolean)) rfl hK hP hD hS hA (fun cA => rfl) (nI_pos (by omega)) (nI_clamp (by omega)) (by show n * 1 ≤ _; omega) hc hs hd
    (fun q cA H1 k1 h1 h2 h3 => by rw [x_sameZ k1] at h1 h2; exact kk q H1 h1 h2 h3)
theorem x_new {C : String} {T : u_T} {N ci idx : Nat} {fs : List Value} (M : xM p s m args meth c cc nL ret own nm (k0 :: bw)) (hK : va_K D vwCl tys s) (hP : va_P D vwCl ws H) (hD : va_D A ws) (hS : va_S A H0 H locs) (hA : ∀ q, H0.size ≤ q → A q) (hin : ∀ w ∈ u_ws C T N, w ∈ bw) (ty0 : Nat → FieldType) (hty : ∀ k, k < N → parseFieldDescriptor (T k).2.2.1 = some (ty0 k)) (hcl : Cond.classLink own idx C ∈ bw) (hib : Cond.instantiable C N ∈ bw) (hini : Cond.initialized C ∈ bw) (hci : vwCl[ci]? = some (C, T, N)) (hfs : ∀ j, j < N → defaultValue (ty0 j) = vp_V fs j) (hc : cells + 1 ≤ R.cells) (hs : slots + N ≤ R.slots) (hd : decode cc pc = .ok (.new idx, 3))
    (kk : ∀ (q : Nat) (H1 : Heap), va_P D vwCl (ws ++ [(q, .inr (ci, fs))]) H1 → va_D A (ws ++ [(q, .inr (ci, fs))]) → va_S A H0 H1 locs → W p l e R s m args below meth c H1 locs (cells + 1) (slots + N) Q (F0 m (pc + 3) ls (.ref q :: rest))) :
    W p l e R s m args below meth c H locs cells slots Q (F0 m pc ls rest) :=
  va_new M.1 M.2.1 M.2.2.2.2.2.1 (fun w h => List.mem_cons_of_mem _ (hin w h)) ty0 hty M.2.2.2.2.1 (M.2.2.2.2.2.1 _ (List.mem_cons_of_mem _ hcl)) (M.2.2.2.2.2.1 _ (List.mem_cons_of_mem _ hib)) (M.2.2.2.2.2.1 _ (List.mem_cons_of_mem _ hini)) hK hP hD hS hA hci hfs hc hs hd kk
variable {wc wr : va_W} {mc1 ms1 : Nat} {st0 : List Value} {av : Array Value}
theorem x_callvS (hr : va_Run p l e R s m args below meth c H locs cells slots mc1 ms1 (F0 m pc ls st0) rest (va_Qv post (xB D tys (va_A wc H.size) W1) (va_A wc H.size) av) (va_A wc H.size)) (hP : va_P D vwCl ws H) (hD : va_D A ws) (hS : va_S A H0 H locs) (hA : ∀ q, H0.size ≤ q → A q) (isC isR : List Nat) (hC : isC.map (fun i => ws[i]?) = wc.map some) (hR : isR.map (fun i => ws[i]?) = wr.map some) (hn : va_nd isR = true) (hdis : ∀ i ∈ isR, i ∉ isC)
    (kk : ∀ (u : S) (H1 : Heap) (locs1 : List Loc), post u → va_P D vwCl (wr ++ W1 u) H1 → va_D A (wr ++ W1 u) → va_S A H0 H1 locs1 → W p l e R s m args below meth c H1 locs1 (cells + mc1) (slots + ms1) Q (F0 m (pc + 3) ls rest)) :
    W p l e R s m args below meth c H locs cells slots Q (F0 m pc ls st0) := by
  have hF := va_free (wc := wc) hD hS hA isC hC
  refine va_callv hr hS (fun q _ h => hF q h) hF (fun u t H1 locs1 ht hvm hp hB hz hk hS1 => ?_)
  obtain ⟨hP1, hK1, hD1⟩ := hB
  rw [ht] at hP1
  obtain ⟨hP2, hD2⟩ := va_join (wr := wr) (w1 := W1 u) hP hD isC isR hC hR hn hdis hk hF hP1 hD1
  exact kk u H1 locs1 hp hP2 hD2 hS1
end XRN
abbrev nfLi : List Value := [.null, .null, .null, .int 0]
theorem nw_Li : ∀ j, j < 4 → defaultValue (t_Li j) = vp_V nfLi j := by
  intro j hj
  rcases (show j = 0 ∨ j = 1 ∨ j = 2 ∨ j = 3 by omega) with rfl | rfl | rfl | rfl <;> rfl
abbrev nfMe : List Value := [.null, .null, .null, .null, .null, .int 0, .int 0, .int 0]
theorem nw_Me : ∀ j, j < 8 → defaultValue (t_Me j) = vp_V nfMe j := by
  intro j hj
  rcases (show j = 0 ∨ j = 1 ∨ j = 2 ∨ j = 3 ∨ j = 4 ∨ j = 5 ∨ j = 6 ∨ j = 7 by omega) with rfl | rfl | rfl | rfl | rfl | rfl | rfl | rfl <;> rfl
abbrev nfPr : List Value := [.null, .null, .null, .null, .null, .null]
theorem nw_Pr : ∀ j, j < 6 → defaultValue (t_Pr j) = vp_V nfPr j := by
  intro j hj
  rcases (show j = 0 ∨ j = 1 ∨ j = 2 ∨ j = 3 ∨ j = 4 ∨ j = 5 by omega) with rfl | rfl | rfl | rfl | rfl | rfl <;> rfl
abbrev nfRu : List Value := [.null, .null, .null, .null, .int 0, .null, .int 0, .int 0, .int 0, .int 0]
theorem nw_Ru : ∀ j, j < 10 → defaultValue (t_Ru j) = vp_V nfRu j := by
  intro j hj
  rcases (show j = 0 ∨ j = 1 ∨ j = 2 ∨ j = 3 ∨ j = 4 ∨ j = 5 ∨ j = 6 ∨ j = 7 ∨ j = 8 ∨ j = 9 by omega) with rfl | rfl | rfl | rfl | rfl | rfl | rfl | rfl | rfl | rfl <;> rfl
abbrev nfS : List Value := [.null, .null, .null]
theorem nw_S : ∀ j, j < 3 → defaultValue (t_S j) = vp_V nfS j := by
  intro j hj
  rcases (show j = 0 ∨ j = 1 ∨ j = 2 by omega) with rfl | rfl | rfl <;> rfl
abbrev nfMo : List Value := [.int 0, .int 0, .null, .null, .null, .null, .null, .null, .null, .null, .null, .int 0, .null, .int 0, .int 0, .int 0, .int 0, .null, .int 0, .null, .int 0, .int 0, .int 0]
theorem nw_Mo : ∀ j, j < 23 → defaultValue (t_Mo j) = vp_V nfMo j := by
  intro j hj
  rcases (show j = 0 ∨ j = 1 ∨ j = 2 ∨ j = 3 ∨ j = 4 ∨ j = 5 ∨ j = 6 ∨ j = 7 ∨ j = 8 ∨ j = 9 ∨ j = 10 ∨ j = 11 ∨ j = 12 ∨ j = 13 ∨ j = 14 ∨ j = 15 ∨ j = 16 ∨ j = 17 ∨ j = 18 ∨ j = 19 ∨ j = 20 ∨ j = 21 ∨ j = 22 by omega) with rfl | rfl | rfl | rfl | rfl | rfl | rfl | rfl | rfl | rfl | rfl | rfl | rfl | rfl | rfl | rfl | rfl | rfl | rfl | rfl | rfl | rfl | rfl <;> rfl
/-! the values at the beginning -/
abbrev gP : xPg := (0, fun _ => 0, fun _ => 0, fun _ => 0, fun _ => 0, fun _ => 0)
abbrev gL : xLs := (fun _ => 0, fun _ => 0, fun _ => 0, fun _ => 0, fun _ => 0)
abbrev gM : xMem := (fun _ => 0, fun _ => 0, fun _ => 0, fun _ => 0, 0, fun _ => 0)
abbrev gR : xRn := (0, false, 0, 0, fun _ => 0, 0, fun _ => 0, 0, 0, 0)
theorem gM_l : xc (mIs gM 1) 64 = 0 := by decide +kernel
theorem gM_z : mZ gM := fun _ _ => rfl
theorem gM_q : (fun _ => 0 : Nat → Int32) = fun zz => zI (mIs gM 2 zz) := by
  funext zz; rfl
