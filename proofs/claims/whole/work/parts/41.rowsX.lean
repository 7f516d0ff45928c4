abbrev xN3 : List String := ["java/lang/RuntimeException", "java/lang/Exception"]
abbrev xEA : String := "java/lang/IllegalArgumentException"
abbrev xEB : String := "java/lang/IndexOutOfBoundsException"
abbrev xEC : String := "java/lang/IllegalStateException"
def xFw : List Cond := lw_tbl.filter Cond.faceAtom
theorem xw_A1 : ∀ w ∈ (vx_atS R_S 36 xEA xN3).filter goodWord, w ∈ bw := by decide +kernel
theorem xw_B1 : ∀ w ∈ (vx_atS R_S 53 xEB xN3).filter goodWord, w ∈ bw := by decide +kernel
theorem xw_C1 : ∀ w ∈ (vx_atS R_S 95 xEC xN3).filter goodWord, w ∈ bw := by decide +kernel
theorem xw_A0 : ∀ w ∈ (vx_atS R_S 36 xEA xN3).filter (fun w => !goodWord w), w ∈ xFw := by decide +kernel
theorem xw_B0 : ∀ w ∈ (vx_atS R_S 53 xEB xN3).filter (fun w => !goodWord w), w ∈ xFw := by decide +kernel
theorem xw_C0 : ∀ w ∈ (vx_atS R_S 95 xEC xN3).filter (fun w => !goodWord w), w ∈ xFw := by decide +kernel
theorem xg_A : ∀ w ∈ Cond.classLink R_S 32 xEA :: Cond.initialized xEA :: vx_atS R_S 36 xEA xN3, vx_ot w = true := by decide +kernel
theorem xg_B : ∀ w ∈ Cond.classLink R_S 49 xEB :: Cond.initialized xEB :: vx_atS R_S 53 xEB xN3, vx_ot w = true := by decide +kernel
theorem xg_C : ∀ w ∈ Cond.classLink R_S 91 xEC :: Cond.initialized xEC :: vx_atS R_S 95 xEC xN3, vx_ot w = true := by decide +kernel
theorem xFw_t : ∀ w ∈ xFw, w.onTables = true := by decide +kernel
theorem xFw_f {w : Cond} (h : w ∈ xFw) : w.faceAtom = true := (List.mem_filter.mp h).2
def xTx : List (Nat × String) := [(34, "no such operation"), (43, "no such register"), (51, "the program is full"), (161, "an instruction goes on at one that is not there"), (76, "no such line of the rewritten program"), (89, "what is 0 to 2"), (93, "there are no instructions"), (103, "there is no run"), (105, "n is 0 to 1000"), (110, "what is 0 to 5"), (127, "nothing was printed there"), (136, "no such address"), (141, "no such number of the shadow"), (146, "there is no report")]
def xNp : List (String × String) := [(xEB, xEA), (xEB, xEC), (xEA, xEC), (xEA, xEB)]
/-- what a throw rests on: two statics, the texts, words of the tables that are kept beside the others -/
def xZ (A : Nat → Prop) (U : State) (H : Heap) : Prop := vx_Zq Bundle.tN "UNASSIGNED_STACK" Bundle.steD A U H ∧ vx_Zq Bundle.tN "SUPPRESSED_SENTINEL" Bundle.listD A U H ∧ (∀ q ∈ xTx, ∃ sa : Nat, vk_R R_S q.1 q.2 sa U) ∧ (∀ w ∈ xFw, va_Nw w U) ∧ ∀ q ∈ xNp, va_Nc q.1 q.2 U
theorem xFw_m {w : Cond} (h : w ∈ xFw) {s U : State} (hA : s.vm.Alike U.vm) (hw : va_Nw w s) : va_Nw w U :=
  va_tabs (xFw_t w h) (rfl : (s.setVm U.vm).vm = U.vm) (Cond.faceAtom_setVm (args := #[]) hA w (xFw_f h) hw)
theorem xZ_go {A B : Nat → Prop} {s U : State} {H : Heap} {locs : List Loc} (h : xZ A s s.heap) (hS : va_S A s.heap H locs) (hB : ∀ q, B q → A q) (hU : U.heap = H) (hW : s.WarmedH U.vm) : xZ B U U.heap := by
  obtain ⟨h1, h2, h3, h4, h5⟩ := h
  have hk : ∀ a : Nat, a < s.heap.size → ¬ A a → U.heap[a]? = s.heap[a]? := fun a ha hn => by rw [hU]; exact hS.2.1 a ha hn
  exact ⟨((h1.kept hk).narrow hB).moved hW.alike, ((h2.kept hk).narrow hB).moved hW.alike, fun q hq => (h3 q hq).imp (fun sa hs => hs.warm hW), fun w hw => xFw_m hw hW.alike (h4 w hw), fun q hq => (h5 q hq).moved hW.alike⟩
theorem xZ_same {A : Nat → Prop} {U : State} {g : JFrame} {mk : MethodId} {a : Array Value} (h : xZ A U U.heap) : xZ A (U.calling g mk a) (U.calling g mk a).heap := by
  obtain ⟨h1, h2, h3, h4, h5⟩ := h
  exact ⟨h1.moved (Vm.Alike.refl U.vm), h2.moved (Vm.Alike.refl U.vm), fun q hq => (h3 q hq).imp (fun sa hs => hs.same rfl), fun w hw => va_Nw.same (u := U) (U := U.calling g mk a) (xFw_t w hw) rfl (h4 w hw), fun q hq => (h5 q hq).moved (Vm.Alike.refl U.vm)⟩
abbrev xPX (D : va_G) (tys : List (ClassId × FieldType)) (ws : va_W) (sz : Nat) (av : List Value) : Array Value → State → Prop :=
  va_Pc av (fun U => U.heap.size = sz ∧ va_P D vwCl ws U.heap ∧ va_K D vwCl tys U ∧ va_D (fun _ => True) ws ∧ xZ (va_A ws sz) U U.heap)
abbrev xQX (D : va_G) (tys : List (ClassId × FieldType)) (A : Nat → Prop) (ws0 : va_W) (cx : Nat) (ex : Nat → String) : String → State → State → Prop :=
  vx_X (fun (_ : Unit) => cx ≠ 0) (fun E _ t => E = ex cx ∧ xB D tys A (fun (_ : Unit) => ws0) () t) A
abbrev xTi (l : Launch) (D : va_G) (tys : List (ClassId × FieldType)) (y : MethodName) (k : Cond) (rm : Room) (sz : Nat) (ws0 : va_W) (av : List Value) (r : Int32) (ws1 : va_W) (cx : Nat) (ex : Nat → String) (mc ms : Nat) : Prop :=
  vx_Met l y (k :: bw) rm (xPX D tys ws0 sz av) (va_Qi (fun (v : Int32) (_ : Unit) => v = r ∧ cx = 0) (xB D tys (va_A ws0 sz) (fun _ => ws1)) (va_A ws0 sz)) (xQX D tys (va_A ws0 sz) ws0 cx ex) mc ms (va_A ws0 sz)
abbrev xTv (l : Launch) (D : va_G) (tys : List (ClassId × FieldType)) (y : MethodName) (k : Cond) (rm : Room) (sz : Nat) (ws0 : va_W) (av : List Value) (ws1 : va_W) (cx : Nat) (ex : Nat → String) (mc ms : Nat) : Prop :=
  vx_Met l y (k :: bw) rm (xPX D tys ws0 sz av) (va_Qv (fun (_ : Unit) => cx = 0) (xB D tys (va_A ws0 sz) (fun _ => ws1)) (va_A ws0 sz)) (xQX D tys (va_A ws0 sz) ws0 cx ex) mc ms (va_A ws0 sz)
section XOX
variable {l : Launch} {cc : ByteArray} {D : va_G} {tys : List (ClassId × FieldType)} {y : MethodName} {k : Cond} {rm : Room} {nL mc ms sz cx : Nat} {ex : Nat → String} {ret : Option FieldType} {ws0 ws1 : va_W} {av : List Value}
theorem x_ofiX {r : Int32} (hy : plainName y.cls = true) (hk : k = .code y cc nL ret) (hlen : (lg_sl av).length ≤ nL)
    (body : ∀ (p : Program) (e : Env) (s : State) (m : MethodId) (args : Array Value) (below : List Frame) (meth : Method) (c : Code) (ls : Array Slot) (A : Nat → Prop) (Q : State → Prop), Q = vx_MQ below (va_Qi (fun (v : Int32) (_ : Unit) => v = r ∧ cx = 0) (xB D tys A (fun _ => ws1)) A) (xQX D tys A ws0 cx ex) args s mc ms A → xM p s m args meth c cc nL ret y.cls y.name (k :: bw) → (∀ x ∈ c.exceptionTable.toList, False) → xZ A s s.heap → s.heap.size = sz → va_P D vwCl ws0 s.heap → va_K D vwCl tys s → va_D A ws0 → (∀ q, s.heap.size ≤ q → A q) → lv_has ls nL (lv_args 0 av) →
      W p l e rm s m args below meth c s.heap [] 0 0 Q (F0 m 0 ls [])) :
    xTi l D tys y k rm sz ws0 av r ws1 cx ex mc ms := by
  refine vx_ofW (cc := cc) (maxL := nL) (ret := ret) (ws' := bw) hy (by rw [hk]) ?_
  intro p e s m args below meth c s₁ B hml hnt hv
  obtain ⟨rfl, hsz, hP, hK, hD0, hZ⟩ := hv
  subst hsz
  have hl := lv_entry av hlen
  rw [lg_entry_eq]
  exact body p e s m _ below meth c _ (va_A ws0 s.heap.size) _ rfl ⟨B.exec, B.bytes, B.returns, hml, findClass_of_methodNamed B.named, atoms_spec (ws := k :: bw) B.pre, B.notSynchronized, (name_of_methodNamed B.named B.method).1⟩ hnt hZ rfl hP hK hD0.self (fun q h => Or.inr h) hl
theorem x_ofvX (hy : plainName y.cls = true) (hk : k = .code y cc nL ret) (hlen : (lg_sl av).length ≤ nL)
    (body : ∀ (p : Program) (e : Env) (s : State) (m : MethodId) (args : Array Value) (below : List Frame) (meth : Method) (c : Code) (ls : Array Slot) (A : Nat → Prop) (Q : State → Prop), Q = vx_MQ below (va_Qv (fun (_ : Unit) => cx = 0) (xB D tys A (fun _ => ws1)) A) (xQX D tys A ws0 cx ex) args s mc ms A → xM p s m args meth c cc nL ret y.cls y.name (k :: bw) → (∀ x ∈ c.exceptionTable.toList, False) → xZ A s s.heap → s.heap.size = sz → va_P D vwCl ws0 s.heap → va_K D vwCl tys s → va_D A ws0 → (∀ q, s.heap.size ≤ q → A q) → lv_has ls nL (lv_args 0 av) →
      W p l e rm s m args below meth c s.heap [] 0 0 Q (F0 m 0 ls [])) :
    xTv l D tys y k rm sz ws0 av ws1 cx ex mc ms := by
  refine vx_ofW (cc := cc) (maxL := nL) (ret := ret) (ws' := bw) hy (by rw [hk]) ?_
  intro p e s m args below meth c s₁ B hml hnt hv
  obtain ⟨rfl, hsz, hP, hK, hD0, hZ⟩ := hv
  subst hsz
  have hl := lv_entry av hlen
  rw [lg_entry_eq]
  exact body p e s m _ below meth c _ (va_A ws0 s.heap.size) _ rfl ⟨B.exec, B.bytes, B.returns, hml, findClass_of_methodNamed B.named, atoms_spec (ws := k :: bw) B.pre, B.notSynchronized, (name_of_methodNamed B.named B.method).1⟩ hnt hZ rfl hP hK hD0.self (fun q h => Or.inr h) hl
/-- the same for a method with a table -/
theorem x_ofiW {r : Int32} {hh : List (Nat × Nat × Nat × Nat)} (hy : plainName y.cls = true) (hk : k = .codeWith y cc nL ret hh) (hlen : (lg_sl av).length ≤ nL)
    (body : ∀ (p : Program) (e : Env) (s : State) (m : MethodId) (args : Array Value) (below : List Frame) (meth : Method) (c : Code) (ls : Array Slot) (A : Nat → Prop) (Q : State → Prop), Q = vx_MQ below (va_Qi (fun (v : Int32) (_ : Unit) => v = r ∧ cx = 0) (xB D tys A (fun _ => ws1)) A) (xQX D tys A ws0 cx ex) args s mc ms A → xM p s m args meth c cc nL ret y.cls y.name (k :: bw) → c.exceptionTable.toList = tableOf hh → xZ A s s.heap → s.heap.size = sz → va_P D vwCl ws0 s.heap → va_K D vwCl tys s → va_D A ws0 → (∀ q, s.heap.size ≤ q → A q) → lv_has ls nL (lv_args 0 av) →
      W p l e rm s m args below meth c s.heap [] 0 0 Q (F0 m 0 ls [])) :
    xTi l D tys y k rm sz ws0 av r ws1 cx ex mc ms := by
  refine vx_ofWH (cc := cc) (maxL := nL) (ret := ret) (hh := hh) (ws' := bw) hy (by rw [hk]) ?_
  intro p e s m args below meth c s₁ B hml hv
  obtain ⟨rfl, hsz, hP, hK, hD0, hZ⟩ := hv
  subst hsz
  have hl := lv_entry av hlen
  rw [lg_entry_eq]
  have hts := atoms_spec (ws := k :: bw) B.pre
  have htb := vx_table (x := y) B (hts _ (by rw [hk]; exact List.mem_cons_self))
  exact body p e s m _ below meth c _ (va_A ws0 s.heap.size) _ rfl ⟨B.exec, B.bytes, B.returns, hml, findClass_of_methodNamed B.named, hts, B.notSynchronized, (name_of_methodNamed B.named B.method).1⟩ htb hZ rfl hP hK hD0.self (fun q h => Or.inr h) hl
end XOX
section XRX
variable {p : Program} {l : Launch} {e : Env} {R : Room} {s : State} {m : MethodId} {args : Array Value} {below : List Frame} {meth : Method} {c : Code} {H : Heap} {locs : List Loc} {cells slots : Nat} {Q : State → Prop}
variable {cc : ByteArray} {pc nL : Nat} {ls : Array Slot} {rest : List Value} {D : va_G} {A : Nat → Prop} {a : Nat} {tys : List (ClassId × FieldType)} {ws : va_W} {H0 : Heap} {ret : Option FieldType} {own nm : String} {k0 : Cond} {mc ms cx : Nat} {ex : Nat → String} {ws0 ws1 : va_W} {XC : String → State → State → Prop}
theorem x_iretX {r v : Int32} (M : xM p s m args meth c cc nL (some .int) own nm (k0 :: bw)) (hQ : Q = vx_MQ below (va_Qi (fun (v : Int32) (_ : Unit) => v = r ∧ cx = 0) (xB D tys A (fun _ => ws1)) A) XC args s mc ms A) (hc : cells ≤ mc) (hs : slots ≤ ms) (hv : v = r) (h0 : cx = 0) (hw : ws = ws1) (hP : va_P D vwCl ws H) (hK : va_K D vwCl tys s) (hD : va_D A ws) (hS : va_S A s.heap H locs) (hd : decode cc pc = .ok (.ireturn, 1)) :
    W p l e R s m args below meth c H locs cells slots Q (F0 m pc ls [.int v]) := by
  subst hw; subst hQ
  exact vx_ret (W.widen hc hs (W.iret M.1 M.2.1 M.2.2.1 (fun t ht hW => ⟨⟨v, (), rfl, ⟨hv, h0⟩, by rw [ht]; exact hP, va_K.moved hW.alike hK, hD⟩, hS.F ht⟩) hS.2.2 hd M.2.2.2.2.2.2.1))
theorem x_vretX (M : xM p s m args meth c cc nL none own nm (k0 :: bw)) (hQ : Q = vx_MQ below (va_Qv (fun (_ : Unit) => cx = 0) (xB D tys A (fun _ => ws1)) A) XC args s mc ms A) (hc : cells ≤ mc) (hs : slots ≤ ms) (h0 : cx = 0) (hw : ws = ws1) (hP : va_P D vwCl ws H) (hK : va_K D vwCl tys s) (hD : va_D A ws) (hS : va_S A s.heap H locs) (hd : decode cc pc = .ok (.return_, 1)) :
    W p l e R s m args below meth c H locs cells slots Q (F0 m pc ls []) := by
  subst hw; subst hQ
  exact vx_ret (W.widen hc hs (W.vret M.1 M.2.1 M.2.2.1 (fun t ht hW => ⟨⟨(), rfl, h0, by rw [ht]; exact hP, va_K.moved hW.alike hK, hD⟩, hS.F ht⟩) hS.2.2 hd M.2.2.2.2.2.2.1))
theorem x_throw {cls text : String} {ik is ic : Nat} {Qc : Array Value → State → Outcome → State → Prop} (hst : l.stackTraces = false) (M : xM p s m args meth c cc nL ret R_S nm (k0 :: bw)) (hnt : ∀ x ∈ c.exceptionTable.toList, False) (hZ : xZ A s s.heap)
    (hk : Cond.classLink R_S ik cls ∈ bw) (hi : Cond.initialized cls ∈ bw) (hf : Bundle.fit cls = true) (w1 : ∀ w ∈ (vx_atS R_S ic cls xN3).filter goodWord, w ∈ bw) (w0 : ∀ w ∈ (vx_atS R_S ic cls xN3).filter (fun w => !goodWord w), w ∈ xFw) (hg : ∀ w ∈ Cond.classLink R_S ik cls :: Cond.initialized cls :: vx_atS R_S ic cls xN3, vx_ot w = true) (ht : (is, text) ∈ xTx)
    (hQ : Q = vx_MQ below Qc (xQX D tys A ws0 cx ex) args s mc ms A) (hcx : cx ≠ 0) (hex : cls = ex cx) (hw : ws = ws0) (hP : va_P D vwCl ws H) (hK : va_K D vwCl tys s) (hD : va_D A ws) (hS : va_S A s.heap H locs) (hl : ls.size = nL)
    (d0 : decode cc pc = .ok (.new ik, 3)) (d3 : decode cc (pc + 3) = .ok (.dup, 1)) (d4 : decode cc (pc + 4) = .ok (.ldc is, 2)) (d6 : decode cc (pc + 6) = .ok (.invokespecial ic, 3)) (d9 : decode cc (pc + 9) = .ok (.athrow, 1))
    (r1 : 5 < R.frames) (r2 : (rest.map fun v => v.category).sum + 82 ≤ R.locals) (r3 : cells + 1 ≤ R.cells) (r4 : slots + 6 ≤ R.slots) (hc : cells + 1 ≤ mc) (hs : slots + 6 ≤ ms) :
    W p l e R s m args below meth c H locs cells slots Q (F0 m pc ls rest) := by
  subst hw; subst hQ
  obtain ⟨z1, z2, z3, z4, z5⟩ := hZ
  obtain ⟨sa, hsa⟩ := z3 _ ht
  have hb : ∀ w ∈ bw, w.before args s = true := fun w hw => M.2.2.2.2.2.1 w (List.mem_cons_of_mem _ hw)
  refine vx_throwS (names := xN3) (sa := sa) (text := text) M.1 M.2.1 hst M.2.2.2.2.1 hf (by decide +kernel) (hb _ hk) (hb _ hi) hsa
    (vx_hat (B := xFw) (fun w hw => hb w (w1 w hw)) w0 (fun w hw => va_Nw.use (xFw_t w hw) (z4 w hw))) hg z1 z2 hS (hl.trans M.2.2.2.1.symm) d0 d3 d4 d6 d9 (fun x hx => (hnt x hx).elim) r1 r2 r3 r4 M.2.2.2.2.2.2.1 ?_ hS.2.2 hc hs
  intro t hA hsz hkp
  refine ⟨(), hcx, ⟨hex, hP.kept (fun k q hk => hkp q.1 (hP k q hk).lt), va_K.moved hA hK, hD⟩, Nat.le_trans hS.1 hsz, fun q h1 h2 => ?_⟩
  rw [hkp q (Nat.lt_of_lt_of_le h1 hS.1)]; exact hS.2.1 q h1 h2
variable {wc wr : va_W} {mc1 ms1 : Nat} {st0 : List Value} {av : Array Value}
theorem x_preX {vs : List Value} (hP : va_P D vwCl ws H) (hD : va_D A ws) (hK : va_K D vwCl tys s) (hZ : xZ A s s.heap) (hS : va_S A s.heap H locs) (hA : ∀ q, s.heap.size ≤ q → A q) (isC : List Nat) (hC : isC.map (fun i => ws[i]?) = wc.map some) (hd : va_nd isC = true) : PreS s H (xPX D tys wc H.size vs) vs := by
  have h0 := x_pre (vs := vs) (wc := wc) hP hD hK isC hC hd
  refine ⟨fun a U g mk q => ?_, fun U hU hW => ?_⟩
  · obtain ⟨q0, q1, qP, qK, qD, qZ⟩ := q
    exact ⟨q0, q1, qP, va_K.moved (u := U) (U := U.calling g mk a) (Vm.Alike.refl U.vm) qK, qD, xZ_same qZ⟩
  · obtain ⟨q0, q1, qP, qK, qD⟩ := h0.2 U hU hW
    exact ⟨q0, q1, qP, qK, qD, xZ_go hZ hS (va_free (wc := wc) hD hS hA isC hC) hU hW⟩
/-- a call that may throw, out of a method without a table: what it throws goes on -/
theorem x_callvX {Qc : Array Value → State → Outcome → State → Prop} {cx1 : Nat} {ex1 : Nat → String} (hnt : ∀ x ∈ c.exceptionTable.toList, False) (M : xM p s m args meth c cc nL ret own nm (k0 :: bw)) (hr : vx_Run p l e R s m args below meth c H locs cells slots mc1 ms1 (F0 m pc ls st0) rest (va_Qv (fun (_ : Unit) => cx1 = 0) (xB D tys (va_A wc H.size) (fun _ => ws1)) (va_A wc H.size) av) (xQX D tys (va_A wc H.size) wc cx1 ex1) (va_A wc H.size)) (hP : va_P D vwCl ws H) (hK : va_K D vwCl tys s) (hD : va_D A ws) (hS : va_S A s.heap H locs) (hA : ∀ q, s.heap.size ≤ q → A q) (isC isR : List Nat) (hC : isC.map (fun i => ws[i]?) = wc.map some) (hR : isR.map (fun i => ws[i]?) = wr.map some) (hn : va_nd isR = true) (hdis : ∀ i ∈ isR, i ∉ isC)
    (hQ : Q = vx_MQ below Qc (xQX D tys A ws0 cx ex) args s mc ms A) (hcx : cx1 ≠ 0 → cx ≠ 0 ∧ ex1 cx1 = ex cx) (hwp : ∀ H1 : Heap, va_P D vwCl (wr ++ wc) H1 → va_P D vwCl ws0 H1) (hwd : va_D A ws0) (hc : cells + mc1 ≤ mc) (hs : slots + ms1 ≤ ms)
    (kk : ∀ (H1 : Heap) (locs1 : List Loc), cx1 = 0 → va_P D vwCl (wr ++ ws1) H1 → va_D A (wr ++ ws1) → va_S A s.heap H1 locs1 → W p l e R s m args below meth c H1 locs1 (cells + mc1) (slots + ms1) Q (F0 m (pc + 3) ls rest)) :
    W p l e R s m args below meth c H locs cells slots Q (F0 m pc ls st0) := by
  have hF := va_free (wc := wc) hD hS hA isC hC
  refine vx_callv hr hS (fun q _ h => hF q h) hF (fun q _ h => hF q h) (fun E ce q9 u t H1 locs1 ht hvm hp hB hz hk hS1 hce hcv hcl => ?_) (fun u t H1 locs1 ht hvm hp hB hz hk hS1 => ?_)
  · obtain ⟨hE, hP1, hK1, hD1⟩ := hB
    rw [ht] at hP1
    obtain ⟨hP2, hD2⟩ := va_join (wr := wr) (w1 := wc) hP hD isC isR hC hR hn hdis hk hF hP1 hD1
    subst hQ
    refine vx_out (fun x hx => (hnt x hx).elim) M.2.2.2.2.2.2.1 hce hcv hcl (fun t' ht' hvm' => ?_) hS1.2.2 hc hs
    exact ⟨(), (hcx hp).1, ⟨hE.trans (hcx hp).2, by rw [ht']; exact hwp H1 hP2, va_K.moved hvm' hK, hwd⟩, hS1.F ht'⟩
  · obtain ⟨hP1, hK1, hD1⟩ := hB
    rw [ht] at hP1
    obtain ⟨hP2, hD2⟩ := va_join (wr := wr) (w1 := ws1) hP hD isC isR hC hR hn hdis hk hF hP1 hD1
    exact kk H1 locs1 hp hP2 hD2 hS1
/-- a call that may throw, in general: what it throws is given on -/
theorem x_calliY {r : Int32} {cx1 : Nat} {ex1 : Nat → String} (hr : vx_Run p l e R s m args below meth c H locs cells slots mc1 ms1 (F0 m pc ls st0) rest (va_Qi (fun (v : Int32) (_ : Unit) => v = r ∧ cx1 = 0) (xB D tys (va_A wc H.size) (fun _ => ws1)) (va_A wc H.size) av) (xQX D tys (va_A wc H.size) wc cx1 ex1) (va_A wc H.size)) (hP : va_P D vwCl ws H) (hD : va_D A ws) (hS : va_S A H0 H locs) (hA : ∀ q, H0.size ≤ q → A q) (isC isR : List Nat) (hC : isC.map (fun i => ws[i]?) = wc.map some) (hR : isR.map (fun i => ws[i]?) = wr.map some) (hn : va_nd isR = true) (hdis : ∀ i ∈ isR, i ∉ isC)
    (kx : ∀ (E : String) (ce : Cell) (q9 : Addr) (H1 : Heap) (locs1 : List Loc), cx1 ≠ 0 → E = ex1 cx1 → va_P D vwCl (wr ++ wc) H1 → va_D A (wr ++ wc) → va_S A H0 H1 locs1 → H1[q9]? = some ce → ce.vm = .none → s.vm.findClass E = some ce.cls → vx_W p l e R s m args below meth c H1 locs1 (cells + mc1) (slots + ms1) Q (F0 m pc ls rest) q9)
    (kk : ∀ (H1 : Heap) (locs1 : List Loc), cx1 = 0 → va_P D vwCl (wr ++ ws1) H1 → va_D A (wr ++ ws1) → va_S A H0 H1 locs1 → W p l e R s m args below meth c H1 locs1 (cells + mc1) (slots + ms1) Q (F0 m (pc + 3) ls (.int r :: rest))) :
    W p l e R s m args below meth c H locs cells slots Q (F0 m pc ls st0) := by
  have hF := va_free (wc := wc) hD hS hA isC hC
  refine vx_calli hr hS (fun q _ h => hF q h) hF (fun q _ h => hF q h) (fun E ce q9 u t H1 locs1 ht hvm hp hB hz hk hS1 hce hcv hcl => ?_) (fun r' u t H1 locs1 ht hvm hp hB hz hk hS1 => ?_)
  · obtain ⟨hE, hP1, hK1, hD1⟩ := hB
    rw [ht] at hP1
    obtain ⟨hP2, hD2⟩ := va_join (wr := wr) (w1 := wc) hP hD isC isR hC hR hn hdis hk hF hP1 hD1
    exact kx E ce q9 H1 locs1 hp hE hP2 hD2 hS1 hce hcv hcl
  · obtain ⟨hP1, hK1, hD1⟩ := hB
    rw [ht] at hP1
    obtain ⟨hP2, hD2⟩ := va_join (wr := wr) (w1 := ws1) hP hD isC isR hC hR hn hdis hk hF hP1 hD1
    obtain ⟨h1, h2⟩ := hp
    subst h1
    exact kk H1 locs1 h2 hP2 hD2 hS1
theorem x_callvY {cx1 : Nat} {ex1 : Nat → String} (hr : vx_Run p l e R s m args below meth c H locs cells slots mc1 ms1 (F0 m pc ls st0) rest (va_Qv (fun (_ : Unit) => cx1 = 0) (xB D tys (va_A wc H.size) (fun _ => ws1)) (va_A wc H.size) av) (xQX D tys (va_A wc H.size) wc cx1 ex1) (va_A wc H.size)) (hP : va_P D vwCl ws H) (hD : va_D A ws) (hS : va_S A H0 H locs) (hA : ∀ q, H0.size ≤ q → A q) (isC isR : List Nat) (hC : isC.map (fun i => ws[i]?) = wc.map some) (hR : isR.map (fun i => ws[i]?) = wr.map some) (hn : va_nd isR = true) (hdis : ∀ i ∈ isR, i ∉ isC)
    (kx : ∀ (E : String) (ce : Cell) (q9 : Addr) (H1 : Heap) (locs1 : List Loc), cx1 ≠ 0 → E = ex1 cx1 → va_P D vwCl (wr ++ wc) H1 → va_D A (wr ++ wc) → va_S A H0 H1 locs1 → H1[q9]? = some ce → ce.vm = .none → s.vm.findClass E = some ce.cls → vx_W p l e R s m args below meth c H1 locs1 (cells + mc1) (slots + ms1) Q (F0 m pc ls rest) q9)
    (kk : ∀ (H1 : Heap) (locs1 : List Loc), cx1 = 0 → va_P D vwCl (wr ++ ws1) H1 → va_D A (wr ++ ws1) → va_S A H0 H1 locs1 → W p l e R s m args below meth c H1 locs1 (cells + mc1) (slots + ms1) Q (F0 m (pc + 3) ls rest)) :
    W p l e R s m args below meth c H locs cells slots Q (F0 m pc ls st0) := by
  have hF := va_free (wc := wc) hD hS hA isC hC
  refine vx_callv hr hS (fun q _ h => hF q h) hF (fun q _ h => hF q h) (fun E ce q9 u t H1 locs1 ht hvm hp hB hz hk hS1 hce hcv hcl => ?_) (fun u t H1 locs1 ht hvm hp hB hz hk hS1 => ?_)
  · obtain ⟨hE, hP1, hK1, hD1⟩ := hB
    rw [ht] at hP1
    obtain ⟨hP2, hD2⟩ := va_join (wr := wr) (w1 := wc) hP hD isC isR hC hR hn hdis hk hF hP1 hD1
    exact kx E ce q9 H1 locs1 hp hE hP2 hD2 hS1 hce hcv hcl
  · obtain ⟨hP1, hK1, hD1⟩ := hB
    rw [ht] at hP1
    obtain ⟨hP2, hD2⟩ := va_join (wr := wr) (w1 := ws1) hP hD isC isR hC hR hn hdis hk hF hP1 hD1
    exact kk H1 locs1 hp hP2 hD2 hS1
end XRX
