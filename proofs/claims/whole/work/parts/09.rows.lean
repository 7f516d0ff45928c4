abbrev xT (cI cZ cJ : ClassId) : List (ClassId × FieldType) := [(cI, .int), (cZ, .boolean), (cJ, .long)]
abbrev xP (D : va_G) (tys : List (ClassId × FieldType)) (ws : va_W) (sz : Nat) (av : List Value) : Array Value → State → Prop :=
  va_Pc av (fun U => U.heap.size = sz ∧ va_P D vwCl ws U.heap ∧ va_K D vwCl tys U ∧ va_D (fun _ => True) ws)
abbrev xB {S : Type} (D : va_G) (tys : List (ClassId × FieldType)) (A : Nat → Prop) (W1 : S → va_W) : S → State → Prop := fun u t =>
  va_P D vwCl (W1 u) t.heap ∧ va_K D vwCl tys t ∧ va_D A (W1 u)
abbrev xCi (l : Launch) (D : va_G) (tys : List (ClassId × FieldType)) (y : MethodName) (k : Cond) (rm : Room) (sz : Nat) (ws0 : va_W) (av : List Value) (r : Int32) (ws1 : va_W) (mc ms : Nat) : Prop :=
  Met l y (k :: bw) rm (xP D tys ws0 sz av) (va_Qi (fun (v : Int32) (_ : Unit) => v = r) (xB D tys (va_A ws0 sz) (fun _ => ws1)) (va_A ws0 sz)) mc ms (va_A ws0 sz)
abbrev xCv (l : Launch) (D : va_G) (tys : List (ClassId × FieldType)) (y : MethodName) (k : Cond) (rm : Room) (sz : Nat) (ws0 : va_W) (av : List Value) (ws1 : va_W) (mc ms : Nat) : Prop :=
  Met l y (k :: bw) rm (xP D tys ws0 sz av) (va_Qv (fun (_ : Unit) => True) (xB D tys (va_A ws0 sz) (fun _ => ws1)) (va_A ws0 sz)) mc ms (va_A ws0 sz)
theorem x_dec {n : Nat} (h : 0 < n) : nI n + Int32.ofInt (-1) = nI (n - 1) := by
  rw [show Int32.ofInt (-1) = -1 by decide]; exact sb_m1 h
theorem x_zn (b : Bool) : narrow .boolean (.int (zI b)) = .int (zI b) := by cases b <;> decide
theorem x_zf (b : Bool) : fits .boolean (.int (zI b)) = true := by cases b <;> decide
theorem x_z1 {b : Bool} (h : b = true) : nI 1 = zI b := by rw [h]; rfl
theorem x_z0 {b : Bool} (h : b = false) : nI 0 = zI b := by rw [h]; rfl
theorem x_tlo {x : Nat} (h : x < 2 ^ 31) : ¬ (nI x).toInt < 0 := by rw [xI_toInt h]; omega
theorem x_thi {x n : Nat} (h : x < 2 ^ 31) (h2 : x ≤ n) : ¬ ((n : Nat) : Int) < (nI x).toInt := by rw [xI_toInt h]; omega
theorem x_tout {x n : Nat} (h : x < 2 ^ 31) (h2 : n < x) : ((n : Nat) : Int) < (nI x).toInt := by rw [xI_toInt h]; omega
def xM (p : Program) (s : State) (m : MethodId) (args : Array Value) (meth : Method) (c : Code) (cc : ByteArray) (nL : Nat) (ret : Option FieldType) (own nm : String) (Ts : List Cond) : Prop :=
  p.tables.exec = Jvm.exec ∧ c.code = cc ∧ meth.sig.returnType = ret ∧ c.maxLocals = nL ∧ s.vm.findClass own = some m.cls ∧ (∀ w ∈ Ts, w.before args s = true) ∧ meth.locks = false ∧ meth.name = nm
section XO
variable {l : Launch} {cc : ByteArray} {D : va_G} {tys : List (ClassId × FieldType)} {y : MethodName} {k : Cond} {rm : Room} {nL mc ms sz : Nat} {ret : Option FieldType} {ws0 ws1 : va_W} {av : List Value}
theorem x_ofi {r : Int32} (hy : plainName y.cls = true) (hk : k = .code y cc nL ret) (hlen : (lg_sl av).length ≤ nL)
    (body : ∀ (p : Program) (e : Env) (s : State) (m : MethodId) (args : Array Value) (below : List Frame) (meth : Method) (c : Code) (ls : Array Slot) (A : Nat → Prop) (Q : State → Prop), Q = MQ below (va_Qi (fun (v : Int32) (_ : Unit) => v = r) (xB D tys A (fun _ => ws1)) A) args s mc ms A → xM p s m args meth c cc nL ret y.cls y.name (k :: bw) → s.heap.size = sz → va_P D vwCl ws0 s.heap → va_K D vwCl tys s → va_D A ws0 → (∀ q, s.heap.size ≤ q → A q) → lv_has ls nL (lv_args 0 av) →
      W p l e rm s m args below meth c s.heap [] 0 0 Q (F0 m 0 ls [])) :
    xCi l D tys y k rm sz ws0 av r ws1 mc ms := by
  refine Met.ofW (cc := cc) (maxL := nL) (ret := ret) (ws' := bw) hy (by rw [hk]) ?_
  intro p e s m args below meth c s₁ B hml hv
  obtain ⟨rfl, hsz, hP, hK, hD0⟩ := hv
  subst hsz
  have hl := lv_entry av hlen
  rw [lg_entry_eq]
  exact body p e s m _ below meth c _ (va_A ws0 s.heap.size) _ rfl ⟨B.exec, B.bytes, B.returns, hml, findClass_of_methodNamed B.named, atoms_spec (ws := k :: bw) B.pre, B.notSynchronized, (name_of_methodNamed B.named B.method).1⟩ rfl hP hK hD0.self (fun q h => Or.inr h) hl
theorem x_ofv (hy : plainName y.cls = true) (hk : k = .code y cc nL ret) (hlen : (lg_sl av).length ≤ nL)
    (body : ∀ (p : Program) (e : Env) (s : State) (m : MethodId) (args : Array Value) (below : List Frame) (meth : Method) (c : Code) (ls : Array Slot) (A : Nat → Prop) (Q : State → Prop), Q = MQ below (va_Qv (fun (_ : Unit) => True) (xB D tys A (fun _ => ws1)) A) args s mc ms A → xM p s m args meth c cc nL ret y.cls y.name (k :: bw) → s.heap.size = sz → va_P D vwCl ws0 s.heap → va_K D vwCl tys s → va_D A ws0 → (∀ q, s.heap.size ≤ q → A q) → lv_has ls nL (lv_args 0 av) →
      W p l e rm s m args below meth c s.heap [] 0 0 Q (F0 m 0 ls [])) :
    xCv l D tys y k rm sz ws0 av ws1 mc ms := by
  refine Met.ofW (cc := cc) (maxL := nL) (ret := ret) (ws' := bw) hy (by rw [hk]) ?_
  intro p e s m args below meth c s₁ B hml hv
  obtain ⟨rfl, hsz, hP, hK, hD0⟩ := hv
  subst hsz
  have hl := lv_entry av hlen
  rw [lg_entry_eq]
  exact body p e s m _ below meth c _ (va_A ws0 s.heap.size) _ rfl ⟨B.exec, B.bytes, B.returns, hml, findClass_of_methodNamed B.named, atoms_spec (ws := k :: bw) B.pre, B.notSynchronized, (name_of_methodNamed B.named B.method).1⟩ rfl hP hK hD0.self (fun q h => Or.inr h) hl
end XO
section XR
variable {p : Program} {l : Launch} {e : Env} {R : Room} {s : State} {m : MethodId} {args : Array Value} {below : List Frame} {meth : Method} {c : Code} {H : Heap} {locs : List Loc} {cells slots : Nat} {Q : State → Prop}
variable {cc : ByteArray} {pc nL : Nat} {ls : Array Slot} {rest : List Value} {D : va_G} {A : Nat → Prop} {a : Nat} {tys : List (ClassId × FieldType)} {ws : va_W} {H0 : Heap} {ret : Option FieldType} {own nm : String} {k0 : Cond}
theorem x_iret {r v : Int32} {ws1 : va_W} (M : xM p s m args meth c cc nL (some .int) own nm (k0 :: bw)) (hQ : Q = MQ below (va_Qi (fun (v : Int32) (_ : Unit) => v = r) (xB D tys A (fun _ => ws1)) A) args s cells slots A) (hv : v = r) (hw : ws = ws1) (hP : va_P D vwCl ws H) (hK : va_K D vwCl tys s) (hD : va_D A ws) (hS : va_S A s.heap H locs) (hd : decode cc pc = .ok (.ireturn, 1)) :
    W p l e R s m args below meth c H locs cells slots Q (F0 m pc ls [.int v]) := by
  subst hw; subst hQ
  exact W.iret M.1 M.2.1 M.2.2.1 (fun t ht hW => ⟨⟨v, (), rfl, hv, by rw [ht]; exact hP, va_K.moved hW.alike hK, hD⟩, hS.F ht⟩) hS.2.2 hd M.2.2.2.2.2.2.1
theorem x_zret {r v : Int32} {ws1 : va_W} (M : xM p s m args meth c cc nL (some .boolean) own nm (k0 :: bw)) (hQ : Q = MQ below (va_Qi (fun (v : Int32) (_ : Unit) => v = r) (xB D tys A (fun _ => ws1)) A) args s cells slots A) (hn : narrow .boolean (.int v) = .int v) (hv : v = r) (hw : ws = ws1) (hP : va_P D vwCl ws H) (hK : va_K D vwCl tys s) (hD : va_D A ws) (hS : va_S A s.heap H locs) (hd : decode cc pc = .ok (.ireturn, 1)) :
    W p l e R s m args below meth c H locs cells slots Q (F0 m pc ls [.int v]) := by
  subst hw; subst hQ
  exact W.zret M.1 M.2.1 M.2.2.1 hn (fun t ht hW => ⟨⟨v, (), rfl, hv, by rw [ht]; exact hP, va_K.moved hW.alike hK, hD⟩, hS.F ht⟩) hS.2.2 hd M.2.2.2.2.2.2.1
theorem x_vret {ws1 : va_W} (M : xM p s m args meth c cc nL none own nm (k0 :: bw)) (hQ : Q = MQ below (va_Qv (fun (_ : Unit) => True) (xB D tys A (fun _ => ws1)) A) args s cells slots A) (hw : ws = ws1) (hP : va_P D vwCl ws H) (hK : va_K D vwCl tys s) (hD : va_D A ws) (hS : va_S A s.heap H locs) (hd : decode cc pc = .ok (.return_, 1)) :
    W p l e R s m args below meth c H locs cells slots Q (F0 m pc ls []) := by
  subst hw; subst hQ
  exact W.vret M.1 M.2.1 M.2.2.1 (fun t ht hW => ⟨⟨(), rfl, trivial, by rw [ht]; exact hP, va_K.moved hW.alike hK, hD⟩, hS.F ht⟩) hS.2.2 hd M.2.2.2.2.2.2.1
theorem x_iadd {x y : Nat} (M : xM p s m args meth c cc nL ret own nm (k0 :: bw)) (hd : decode cc pc = .ok (.iadd, 1)) (k : W p l e R s m args below meth c H locs cells slots Q (F0 m (pc + 1) ls (.int (nI (x + y)) :: rest))) :
    W p l e R s m args below meth c H locs cells slots Q (F0 m pc ls (.int (nI y) :: .int (nI x) :: rest)) := lv_iadd M.1 M.2.1 hd (by rw [nI_add]; exact k)
theorem x_isub {x y : Nat} (M : xM p s m args meth c cc nL ret own nm (k0 :: bw)) (h : y ≤ x) (hd : decode cc pc = .ok (.isub, 1)) (k : W p l e R s m args below meth c H locs cells slots Q (F0 m (pc + 1) ls (.int (nI (x - y)) :: rest))) :
    W p l e R s m args below meth c H locs cells slots Q (F0 m pc ls (.int (nI y) :: .int (nI x) :: rest)) := lv_isub M.1 M.2.1 hd (by rw [pk_sub h]; exact k)
theorem x_imul {x y : Nat} (M : xM p s m args meth c cc nL ret own nm (k0 :: bw)) (hd : decode cc pc = .ok (.imul, 1)) (k : W p l e R s m args below meth c H locs cells slots Q (F0 m (pc + 1) ls (.int (nI (x * y)) :: rest))) :
    W p l e R s m args below meth c H locs cells slots Q (F0 m pc ls (.int (nI y) :: .int (nI x) :: rest)) := lv_imul M.1 M.2.1 hd (by rw [pk_mul]; exact k)
theorem x_idiv {x y : Nat} (M : xM p s m args meth c cc nL ret own nm (k0 :: bw)) (hx : x < 2 ^ 31) (h0 : 0 < y) (hy : y < 2 ^ 31) (hd : decode cc pc = .ok (.idiv, 1)) (k : W p l e R s m args below meth c H locs cells slots Q (F0 m (pc + 1) ls (.int (nI (x / y)) :: rest))) :
    W p l e R s m args below meth c H locs cells slots Q (F0 m pc ls (.int (nI y) :: .int (nI x) :: rest)) := lv_idiv M.1 M.2.1 hd (nI_ne0 h0 hy) (by rw [pk_div hx h0 hy]; exact k)
theorem x_irem {x y : Nat} (M : xM p s m args meth c cc nL ret own nm (k0 :: bw)) (hx : x < 2 ^ 31) (h0 : 0 < y) (hy : y < 2 ^ 31) (hd : decode cc pc = .ok (.irem, 1)) (k : W p l e R s m args below meth c H locs cells slots Q (F0 m (pc + 1) ls (.int (nI (x % y)) :: rest))) :
    W p l e R s m args below meth c H locs cells slots Q (F0 m pc ls (.int (nI y) :: .int (nI x) :: rest)) := lv_irem M.1 M.2.1 hd (nI_ne0 h0 hy) (by rw [pk_rem hx h0 hy]; exact k)
theorem x_icmp_ge {x y : Nat} {off : Int} {tgt : Nat} (M : xM p s m args meth c cc nL ret own nm (k0 :: bw)) (hx : x < 2 ^ 31) (hy : y < 2 ^ 31) (hd : decode cc pc = .ok (.if_icmp .ge off, 3)) (ht : (pc : Int) + off = (tgt : Int)) (kt : y ≤ x → W p l e R s m args below meth c H locs cells slots Q (F0 m tgt ls rest)) (kf : x < y → W p l e R s m args below meth c H locs cells slots Q (F0 m (pc + 3) ls rest)) :
    W p l e R s m args below meth c H locs cells slots Q (F0 m pc ls (.int (nI y) :: .int (nI x) :: rest)) := lv_icmp_ge M.1 M.2.1 hd ht (fun h => kt ((nI_leI hy hx).mp h)) (fun h => kf (Nat.lt_of_not_le fun h' => h ((nI_leI hy hx).mpr h')))
theorem x_icmp_lt {x y : Nat} {off : Int} {tgt : Nat} (M : xM p s m args meth c cc nL ret own nm (k0 :: bw)) (hx : x < 2 ^ 31) (hy : y < 2 ^ 31) (hd : decode cc pc = .ok (.if_icmp .lt off, 3)) (ht : (pc : Int) + off = (tgt : Int)) (kt : x < y → W p l e R s m args below meth c H locs cells slots Q (F0 m tgt ls rest)) (kf : y ≤ x → W p l e R s m args below meth c H locs cells slots Q (F0 m (pc + 3) ls rest)) :
    W p l e R s m args below meth c H locs cells slots Q (F0 m pc ls (.int (nI y) :: .int (nI x) :: rest)) := lv_icmp_lt M.1 M.2.1 hd ht (fun h => kt ((nI_ltI hx hy).mp h)) (fun h => kf (Nat.le_of_not_lt fun h' => h ((nI_ltI hx hy).mpr h')))
theorem x_icmp_gt {x y : Nat} {off : Int} {tgt : Nat} (M : xM p s m args meth c cc nL ret own nm (k0 :: bw)) (hx : x < 2 ^ 31) (hy : y < 2 ^ 31) (hd : decode cc pc = .ok (.if_icmp .gt off, 3)) (ht : (pc : Int) + off = (tgt : Int)) (kt : y < x → W p l e R s m args below meth c H locs cells slots Q (F0 m tgt ls rest)) (kf : x ≤ y → W p l e R s m args below meth c H locs cells slots Q (F0 m (pc + 3) ls rest)) :
    W p l e R s m args below meth c H locs cells slots Q (F0 m pc ls (.int (nI y) :: .int (nI x) :: rest)) := lv_icmp_gt M.1 M.2.1 hd ht (fun h => kt ((nI_ltI hy hx).mp h)) (fun h => kf (Nat.le_of_not_lt fun h' => h ((nI_ltI hy hx).mpr h')))
theorem x_icmp_le {x y : Nat} {off : Int} {tgt : Nat} (M : xM p s m args meth c cc nL ret own nm (k0 :: bw)) (hx : x < 2 ^ 31) (hy : y < 2 ^ 31) (hd : decode cc pc = .ok (.if_icmp .le off, 3)) (ht : (pc : Int) + off = (tgt : Int)) (kt : x ≤ y → W p l e R s m args below meth c H locs cells slots Q (F0 m tgt ls rest)) (kf : y < x → W p l e R s m args below meth c H locs cells slots Q (F0 m (pc + 3) ls rest)) :
    W p l e R s m args below meth c H locs cells slots Q (F0 m pc ls (.int (nI y) :: .int (nI x) :: rest)) := lv_icmp_le M.1 M.2.1 hd ht (fun h => kt ((nI_leI hx hy).mp h)) (fun h => kf (Nat.lt_of_not_le fun h' => h ((nI_leI hx hy).mpr h')))
theorem x_icmp_eq {x y : Nat} {off : Int} {tgt : Nat} (M : xM p s m args meth c cc nL ret own nm (k0 :: bw)) (hx : x < 2 ^ 31) (hy : y < 2 ^ 31) (hd : decode cc pc = .ok (.if_icmp .eq off, 3)) (ht : (pc : Int) + off = (tgt : Int)) (kt : x = y → W p l e R s m args below meth c H locs cells slots Q (F0 m tgt ls rest)) (kf : x ≠ y → W p l e R s m args below meth c H locs cells slots Q (F0 m (pc + 3) ls rest)) :
    W p l e R s m args below meth c H locs cells slots Q (F0 m pc ls (.int (nI y) :: .int (nI x) :: rest)) := lv_icmp_eq M.1 M.2.1 hd ht (fun h => kt ((nI_eq hx hy).mp h)) (fun h => kf fun h' => h ((nI_eq hx hy).mpr h'))
theorem x_icmp_ne {x y : Nat} {off : Int} {tgt : Nat} (M : xM p s m args meth c cc nL ret own nm (k0 :: bw)) (hx : x < 2 ^ 31) (hy : y < 2 ^ 31) (hd : decode cc pc = .ok (.if_icmp .ne off, 3)) (ht : (pc : Int) + off = (tgt : Int)) (kt : x ≠ y → W p l e R s m args below meth c H locs cells slots Q (F0 m tgt ls rest)) (kf : x = y → W p l e R s m args below meth c H locs cells slots Q (F0 m (pc + 3) ls rest)) :
    W p l e R s m args below meth c H locs cells slots Q (F0 m pc ls (.int (nI y) :: .int (nI x) :: rest)) := lv_icmp_ne M.1 M.2.1 hd ht (fun h => kt fun h' => h ((nI_eq hx hy).mpr h')) (fun h => kf ((nI_eq hx hy).mp h))
theorem x_if_eq {x : Nat} {off : Int} {tgt : Nat} (M : xM p s m args meth c cc nL ret own nm (k0 :: bw)) (hx : x < 2 ^ 31) (hd : decode cc pc = .ok (.ifCond .eq off, 3)) (ht : (pc : Int) + off = (tgt : Int)) (kt : x = 0 → W p l e R s m args below meth c H locs cells slots Q (F0 m tgt ls rest)) (kf : x ≠ 0 → W p l e R s m args below meth c H locs cells slots Q (F0 m (pc + 3) ls rest)) :
    W p l e R s m args below meth c H locs cells slots Q (F0 m pc ls (.int (nI x) :: rest)) := lv_if_eq M.1 M.2.1 hd ht (fun h => kt ((nI_eq hx (by decide)).mp h)) (fun h => kf fun h' => h (by rw [h']; rfl))
theorem x_if_ne {x : Nat} {off : Int} {tgt : Nat} (M : xM p s m args meth c cc nL ret own nm (k0 :: bw)) (hx : x < 2 ^ 31) (hd : decode cc pc = .ok (.ifCond .ne off, 3)) (ht : (pc : Int) + off = (tgt : Int)) (kt : x ≠ 0 → W p l e R s m args below meth c H locs cells slots Q (F0 m tgt ls rest)) (kf : x = 0 → W p l e R s m args below meth c H locs cells slots Q (F0 m (pc + 3) ls rest)) :
    W p l e R s m args below meth c H locs cells slots Q (F0 m pc ls (.int (nI x) :: rest)) := lv_if_ne M.1 M.2.1 hd ht (fun h => kt fun h' => h (by rw [h']; rfl)) (fun h => kf ((nI_eq hx (by decide)).mp h))
theorem x_if_le {x : Nat} {off : Int} {tgt : Nat} (M : xM p s m args meth c cc nL ret own nm (k0 :: bw)) (hx : x < 2 ^ 31) (hd : decode cc pc = .ok (.ifCond .le off, 3)) (ht : (pc : Int) + off = (tgt : Int)) (kt : x = 0 → W p l e R s m args below meth c H locs cells slots Q (F0 m tgt ls rest)) (kf : 0 < x → W p l e R s m args below meth c H locs cells slots Q (F0 m (pc + 3) ls rest)) :
    W p l e R s m args below meth c H locs cells slots Q (F0 m pc ls (.int (nI x) :: rest)) := lv_if_le M.1 M.2.1 hd ht (fun h => kt (Nat.eq_zero_of_not_pos fun h' => nI_nle h' hx h)) (fun h => kf (Nat.pos_of_ne_zero fun h' => h (by rw [h']; exact nI_pos' (n := 0) (by decide))))
theorem x_if_gt {x : Nat} {off : Int} {tgt : Nat} (M : xM p s m args meth c cc nL ret own nm (k0 :: bw)) (hx : x < 2 ^ 31) (hd : decode cc pc = .ok (.ifCond .gt off, 3)) (ht : (pc : Int) + off = (tgt : Int)) (kt : 0 < x → W p l e R s m args below meth c H locs cells slots Q (F0 m tgt ls rest)) (kf : x = 0 → W p l e R s m args below meth c H locs cells slots Q (F0 m (pc + 3) ls rest)) :
    W p l e R s m args below meth c H locs cells slots Q (F0 m pc ls (.int (nI x) :: rest)) := lv_if_gt M.1 M.2.1 hd ht (fun h => kt (Nat.pos_of_ne_zero fun h' => by rw [h'] at h; exact absurd h (by decide))) (fun h => kf (Nat.eq_zero_of_not_pos fun h' => h ((nI_ltI (a := 0) (by decide) hx).mpr h')))
theorem x_if_lt {x : Nat} {off : Int} {tgt : Nat} (M : xM p s m args meth c cc nL ret own nm (k0 :: bw)) (hx : x < 2 ^ 31) (hd : decode cc pc = .ok (.ifCond .lt off, 3)) (ht : (pc : Int) + off = (tgt : Int)) (kf : W p l e R s m args below meth c H locs cells slots Q (F0 m (pc + 3) ls rest)) :
    W p l e R s m args below meth c H locs cells slots Q (F0 m pc ls (.int (nI x) :: rest)) := lv_if_lt M.1 M.2.1 hd ht (fun h => absurd h (nI_pos hx)) (fun _ => kf)
theorem x_if_ge {x : Nat} {off : Int} {tgt : Nat} (M : xM p s m args meth c cc nL ret own nm (k0 :: bw)) (hx : x < 2 ^ 31) (hd : decode cc pc = .ok (.ifCond .ge off, 3)) (ht : (pc : Int) + off = (tgt : Int)) (kt : W p l e R s m args below meth c H locs cells slots Q (F0 m tgt ls rest)) :
    W p l e R s m args below meth c H locs cells slots Q (F0 m pc ls (.int (nI x) :: rest)) := lv_if_ge M.1 M.2.1 hd ht (fun _ => kt) (fun h => absurd (nI_pos' hx) h)
theorem x_iald {cA : ClassId} {n j : Nat} {f : Nat → Int32} (M : xM p s m args meth c cc nL ret own nm (k0 :: bw)) (hK : va_K D vwCl tys s) (hP : va_P D vwCl ws H) (q0 t0 : Nat) (ha : ws[q0]? = some (a, .inl (cA, n, .inl f))) (ht : tys[t0]? = some (cA, .int)) (hj : j < n) (hn : n < 2 ^ 31) (hd : decode cc pc = .ok (.iaload, 1))
    (kk : W p l e R s m args below meth c H locs cells slots Q (F0 m (pc + 1) ls (.int (f j) :: rest))) : W p l e R s m args below meth c H locs cells slots Q (F0 m pc ls (.int (nI j) :: .ref a :: rest)) :=
  va_iald M.1 M.2.1 hK hP q0 t0 ha ht (vp_in_nI hj hn) hd (by rw [nI_clamp (Nat.lt_trans hj hn)]; exact kk)
theorem x_zald {cA : ClassId} {n j : Nat} {f : Nat → Int32} (M : xM p s m args meth c cc nL ret own nm (k0 :: bw)) (hK : va_K D vwCl tys s) (hP : va_P D vwCl ws H) (q0 t0 : Nat) (ha : ws[q0]? = some (a, .inl (cA, n, .inl f))) (ht : tys[t0]? = some (cA, .boolean)) (hj : j < n) (hn : n < 2 ^ 31) (hd : decode cc pc = .ok (.baload, 1))
    (kk : W p l e R s m args below meth c H locs cells slots Q (F0 m (pc + 1) ls (.int (f j) :: rest))) : W p l e R s m args below meth c H locs cells slots Q (F0 m pc ls (.int (nI j) :: .ref a :: rest)) :=
  va_zald M.1 M.2.1 hK hP q0 t0 ha ht (vp_in_nI hj hn) hd (by rw [nI_clamp (Nat.lt_trans hj hn)]; exact kk)
theorem x_iast {cA : ClassId} {n j : Nat} {f : Nat → Int32} {x : Int32} (M : xM p s m args meth c cc nL ret own nm (k0 :: bw)) (hK : va_K D vwCl tys s) (hP : va_P D vwCl ws H) (hD : va_D A ws) (hS : va_S A H0 H locs) (q0 t0 : Nat) (ha : ws[q0]? = some (a, .inl (cA, n, .inl f))) (ht : tys[t0]? = some (cA, .int)) (hj : j < n) (hn : n < 2 ^ 31) (hd : decode cc pc = .ok (.iastore, 1))
    (kk : ∀ (H1 : Heap) (locs1 : List Loc), va_P D vwCl (ws.set q0 (a, .inl (cA, n, .inl (upd f j x)))) H1 → va_D A (ws.set q0 (a, .inl (cA, n, .inl (upd f j x)))) → va_S A H0 H1 locs1 → W p l e R s m args below meth c H1 locs1 cells slots Q (F0 m (pc + 1) ls rest)) :
    W p l e R s m args below meth c H locs cells slots Q (F0 m pc ls (.int x :: .int (nI j) :: .ref a :: rest)) :=
  va_iast M.1 M.2.1 hK hP hD hS q0 t0 ha ht (vp_in_nI hj hn) hd (fun H1 l1 h1 h2 h3 => by rw [nI_clamp (Nat.lt_trans hj hn)] at h1 h2; exact kk H1 l1 h1 h2 h3)
theorem x_zast {cA : ClassId} {n j : Nat} {f : Nat → Int32} {x : Int32} (M : xM p s m args meth c cc nL ret own nm (k0 :: bw)) (hK : va_K D vwCl tys s) (hP : va_P D vwCl ws H) (hD : va_D A ws) (hS : va_S A H0 H locs) (q0 t0 : Nat) (ha : ws[q0]? = some (a, .inl (cA, n, .inl f))) (ht : tys[t0]? = some (cA, .boolean)) (hj : j < n) (hn : n < 2 ^ 31) (hx : vp_nar .boolean x = x) (hd : decode cc pc = .ok (.bastore, 1))
    (kk : ∀ (H1 : Heap) (locs1 : List Loc), va_P D vwCl (ws.set q0 (a, .inl (cA, n, .inl (upd f j x)))) H1 → va_D A (ws.set q0 (a, .inl (cA, n, .inl (upd f j x)))) → va_S A H0 H1 locs1 → W p l e R s m args below meth c H1 locs1 cells slots Q (F0 m (pc + 1) ls rest)) :
    W p l e R s m args below meth c H locs cells slots Q (F0 m pc ls (.int x :: .int (nI j) :: .ref a :: rest)) :=
  va_zast M.1 M.2.1 hK hP hD hS q0 t0 ha ht (vp_in_nI hj hn) hd (fun H1 l1 h1 h2 h3 => by rw [nI_clamp (Nat.lt_trans hj hn), hx] at h1 h2; exact kk H1 l1 h1 h2 h3)
theorem x_get {C : String} {T : u_T} {N idx : Nat} (M : xM p s m args meth c cc nL ret own nm (k0 :: bw)) (hK : va_K D vwCl tys s) (hP : va_P D vwCl ws H) (q0 ci k : Nat) (hin : ∀ w ∈ u_ws C T N, w ∈ bw) {fs : List Value} (he : ws[q0]? = some (a, .inr (ci, fs))) (hc : vwCl[ci]? = some (C, T, N)) (hk : k < N) (hq : Cond.fieldLink own idx (T k).1 (T k).2.1 (T k).2.2.1 ∈ bw) {v : Value} (hv : fs[k]? = some v) (hd : decode cc pc = .ok (.getfield idx, 3))
    (kk : W p l e R s m args below meth c H locs cells slots Q (F0 m (pc + 3) ls (v :: rest))) : W p l e R s m args below meth c H locs cells slots Q (F0 m pc ls (.ref a :: rest)) :=
  va_get M.1 M.2.1 M.2.2.2.2.2.1 (fun w h => List.mem_cons_of_mem _ (hin w h)) M.2.2.2.2.1 hK hP q0 he hc k hk (M.2.2.2.2.2.1 _ (List.mem_cons_of_mem _ hq)) (fun _ h => h) hv hd kk
theorem x_put {C : String} {T : u_T} {N idx : Nat} (M : xM p s m args meth c cc nL ret own nm (k0 :: bw)) (hK : va_K D vwCl tys s) (hP : va_P D vwCl ws H) (hD : va_D A ws) (hS : va_S A H0 H locs) (q0 ci k : Nat) (hin : ∀ w ∈ u_ws C T N, w ∈ bw) (ty0 : Nat → FieldType) (hty : ∀ k, k < N → parseFieldDescriptor (T k).2.2.1 = some (ty0 k)) (hnm : ∀ a, a < N → ∀ b, b < N → a ≠ b → (T a).2.1 ≠ (T b).2.1) {fs : List Value} (he : ws[q0]? = some (a, .inr (ci, fs))) (hc : vwCl[ci]? = some (C, T, N)) (hk : k < N) (hq : Cond.fieldLink own idx (T k).1 (T k).2.1 (T k).2.2.1 ∈ bw) (hfin : (T k).2.2.2 = false) {v : Value} (hn : narrow (ty0 k) v = v) (hfit : fits (ty0 k) v = true) (hl : k < fs.length) (hd : decode cc pc = .ok (.putfield idx, 3))
    (kk : ∀ (H1 : Heap) (locs1 : List Loc), va_P D vwCl (ws.set q0 (a, .inr (ci, fs.set k v))) H1 → va_D A (ws.set q0 (a, .inr (ci, fs.set k v))) → va_S A H0 H1 locs1 → W p l e R s m args below meth c H1 locs1 cells slots Q (F0 m (pc + 3) ls rest)) :
    W p l e R s m args below meth c H locs cells slots Q (F0 m pc ls (v :: .ref a :: rest)) :=
  va_put M.1 M.2.1 M.2.2.2.2.2.1 (fun w h => List.mem_cons_of_mem _ (hin w h)) ty0 hty hnm M.2.2.2.2.1 hK hP hD hS q0 he hc k hk (M.2.2.2.2.2.1 _ (List.mem_cons_of_mem _ hq)) (fun _ h => h) hfin (hty k hk) hn hfit hl hd kk
theorem x_putF {C : String} {T : u_T} {N idx : Nat} (M : xM p s m args meth c cc nL ret own "<init>" (k0 :: bw)) (hK : va_K D vwCl tys s) (hP : va_P D vwCl ws H) (hD : va_D A ws) (hS : va_S A H0 H locs) (q0 ci k : Nat) (hin : ∀ w ∈ u_ws C T N, w ∈ bw) (ty0 : Nat → FieldType) (hty : ∀ k, k < N → parseFieldDescriptor (T k).2.2.1 = some (ty0 k)) (hnm : ∀ a, a < N → ∀ b, b < N → a ≠ b → (T a).2.1 ≠ (T b).2.1) {fs : List Value} (he : ws[q0]? = some (a, .inr (ci, fs))) (hc : vwCl[ci]? = some (C, T, N)) (hk : k < N) (hq : Cond.fieldLink own idx (T k).1 (T k).2.1 (T k).2.2.1 ∈ bw) (hfin : (T k).2.2.2 = true) (hdecl : (T k).1 = own) {v : Value} (hn : narrow (ty0 k) v = v) (hfit : fits (ty0 k) v = true) (hl : k < fs.length) (hd : decode cc pc = .ok (.putfield idx, 3))
    (kk : ∀ (H1 : Heap) (locs1 : List Loc), va_P D vwCl (ws.set q0 (a, .inr (ci, fs.set k v))) H1 → va_D A (ws.set q0 (a, .inr (ci, fs.set k v))) → va_S A H0 H1 locs1 → W p l e R s m args below meth c H1 locs1 cells slots Q (F0 m (pc + 3) ls rest)) :
    W p l e R s m args below meth c H locs cells slots Q (F0 m pc ls (v :: .ref a :: rest)) :=
  va_putF M.1 M.2.1 M.2.2.2.2.2.1 (fun w h => List.mem_cons_of_mem _ (hin w h)) ty0 hty hnm M.2.2.2.2.1 hK hP hD hS q0 he hc k hk (M.2.2.2.2.2.1 _ (List.mem_cons_of_mem _ hq)) (fun _ h => h) hfin M.2.2.2.2.2.2.2 hdecl (hty k hk) hn hfit hl hd kk
theorem x_iastN {cA : ClassId} {n j : Nat} {f : Nat → Nat} {x : Nat} (M : xM p s m args meth c cc nL ret own nm (k0 :: bw)) (hK : va_K D vwCl tys s) (hP : va_P D vwCl ws H) (hD : va_D A ws) (hS : va_S A H0 H locs) (q0 t0 : Nat) (ha : ws[q0]? = some (a, .inl (cA, n, .inl (fun i => nI (f i))))) (ht : tys[t0]? = some (cA, .int)) (hj : j < n) (hn : n < 2 ^ 31) (hd : decode cc pc = .ok (.iastore, 1))
    (kk : ∀ (H1 : Heap) (locs1 : List Loc), va_P D vwCl (ws.set q0 (a, .inl (cA, n, .inl (fun i => nI (xu f j x i))))) H1 → va_D A (ws.set q0 (a, .inl (cA, n, .inl (fun i => nI (xu f j x i))))) → va_S A H0 H1 locs1 → W p l e R s m args below meth c H1 locs1 cells slots Q (F0 m (pc + 1) ls rest)) :
    W p l e R s m args below meth c H locs cells slots Q (F0 m pc ls (.int (nI x) :: .int (nI j) :: .ref a :: rest)) :=
  x_iast M hK hP hD hS q0 t0 ha ht hj hn hd (fun H1 l1 h1 h2 h3 => by rw [xu_nI] at h1 h2; exact kk H1 l1 h1 h2 h3)
theorem x_if_eqZ {b : Bool} {off : Int} {tgt : Nat} (M : xM p s m args meth c cc nL ret own nm (k0 :: bw)) (hd : decode cc pc = .ok (.ifCond .eq off, 3)) (ht : (pc : Int) + off = (tgt : Int)) (kt : b = false → W p l e R s m args below meth c H locs cells slots Q (F0 m tgt ls rest)) (kf : b = true → W p l e R s m args below meth c H locs cells slots Q (F0 m (pc + 3) ls rest)) :
    W p l e R s m args below meth c H locs cells slots Q (F0 m pc ls (.int (zI b) :: rest)) := lv_if_eq M.1 M.2.1 hd ht (fun h => kt (by cases b with
      | false => rfl
      | true => exact absurd h (by decide))) (fun h => kf (by cases b with
      | false => exact absurd rfl h
      | true => rfl))
theorem x_if_neZ {b : Bool} {off : Int} {tgt : Nat} (M : xM p s m args meth c cc nL ret own nm (k0 :: bw)) (hd : decode cc pc = .ok (.ifCond .ne off, 3)) (ht : (pc : Int) + off = (tgt : Int)) (kt : b = true → W p l e R s m args below meth c H locs cells slots Q (F0 m tgt ls rest)) (kf : b = false → W p l e R s m args below meth c H locs cells slots Q (F0 m (pc + 3) ls rest)) :
    W p l e R s m args below meth c H locs cells slots Q (F0 m pc ls (.int (zI b) :: rest)) := lv_if_ne M.1 M.2.1 hd ht (fun h => kt (by cases b with
      | false => exact absurd rfl h
      | true => rfl)) (fun h => kf (by cases b with
      | false => rfl
      | true => exact absurd h (show ¬ zI true = 0 by decide)))
theorem x_zastB {cA : ClassId} {n j : Nat} {f : Nat → Bool} {b : Bool} {x : Int32} (hx : x = zI b) (M : xM p s m args meth c cc nL ret own nm (k0 :: bw)) (hK : va_K D vwCl tys s) (hP : va_P D vwCl ws H) (hD : va_D A ws) (hS : va_S A H0 H locs) (q0 t0 : Nat) (ha : ws[q0]? = some (a, .inl (cA, n, .inl (fun i => zI (f i))))) (ht : tys[t0]? = some (cA, .boolean)) (hj : j < n) (hn : n < 2 ^ 31) (hd : decode cc pc = .ok (.bastore, 1))
    (kk : ∀ (H1 : Heap) (locs1 : List Loc), va_P D vwCl (ws.set q0 (a, .inl (cA, n, .inl (fun i => zI (xu f j b i))))) H1 → va_D A (ws.set q0 (a, .inl (cA, n, .inl (fun i => zI (xu f j b i))))) → va_S A H0 H1 locs1 → W p l e R s m args below meth c H1 locs1 cells slots Q (F0 m (pc + 1) ls rest)) :
    W p l e R s m args below meth c H locs cells slots Q (F0 m pc ls (.int x :: .int (nI j) :: .ref a :: rest)) := by
  subst hx
  have e : upd (fun i => zI (f i)) j (zI b) = fun i => zI (xu f j b i) := by
    funext k; unfold upd xu; split <;> rfl
  exact x_zast M hK hP hD hS q0 t0 ha ht hj hn (by cases b <;> decide) hd (fun H1 l1 h1 h2 h3 => by rw [e] at h1 h2; exact kk H1 l1 h1 h2 h3)
variable {wc wr : va_W} {mc ms : Nat} {st0 : List Value} {av : Array Value}
theorem x_calli {r : Int32} {ws1 : va_W} (hr : va_Run p l e R s m args below meth c H locs cells slots mc ms (F0 m pc ls st0) rest (va_Qi (fun (v : Int32) (_ : Unit) => v = r) (xB D tys (va_A wc H.size) (fun _ => ws1)) (va_A wc H.size) av) (va_A wc H.size)) (hP : va_P D vwCl ws H) (hD : va_D A ws) (hS : va_S A H0 H locs) (hA : ∀ q, H0.size ≤ q → A q) (isC isR : List Nat) (hC : isC.map (fun i => ws[i]?) = wc.map some) (hR : isR.map (fun i => ws[i]?) = wr.map some) (hn : va_nd isR = true) (hdis : ∀ i ∈ isR, i ∉ isC)
    (kk : ∀ (H1 : Heap) (locs1 : List Loc), va_P D vwCl (wr ++ ws1) H1 → va_D A (wr ++ ws1) → va_S A H0 H1 locs1 → W p l e R s m args below meth c H1 locs1 (cells + mc) (slots + ms) Q (F0 m (pc + 3) ls (.int r :: rest))) :
    W p l e R s m args below meth c H locs cells slots Q (F0 m pc ls st0) := by
  have hF := va_free (wc := wc) hD hS hA isC hC
  refine va_calli hr hS (fun q _ h => hF q h) hF (fun r' u t H1 locs1 ht hvm hp hB hz hk hS1 => ?_)
  subst hp
  obtain ⟨hP1, hK1, hD1⟩ := hB
  rw [ht] at hP1
  obtain ⟨hP2, hD2⟩ := va_join (wr := wr) (w1 := ws1) hP hD isC isR hC hR hn hdis hk hF hP1 hD1
  exact kk H1 locs1 hP2 hD2 hS1
theorem x_callv {ws1 : va_W} (hr : va_Run p l e R s m args below meth c H locs cells slots mc ms (F0 m pc ls st0) rest (va_Qv (fun (_ : Unit) => True) (xB D tys (va_A wc H.size) (fun _ => ws1)) (va_A wc H.size) av) (va_A wc H.size)) (hP : va_P D vwCl ws H) (hD : va_D A ws) (hS : va_S A H0 H locs) (hA : ∀ q, H0.size ≤ q → A q) (isC isR : List Nat) (hC : isC.map (fun i => ws[i]?) = wc.map some) (hR : isR.map (fun i => ws[i]?) = wr.map some) (hn : va_nd isR = true) (hdis : ∀ i ∈ isR, i ∉ isC)
    (kk : ∀ (H1 : Heap) (locs1 : List Loc), va_P D vwCl (wr ++ ws1) H1 → va_D A (wr ++ ws1) → va_S A H0 H1 locs1 → W p l e R s m args below meth c H1 locs1 (cells + mc) (slots + ms) Q (F0 m (pc + 3) ls rest)) :
    W p l e R s m args below meth c H locs cells slots Q (F0 m pc ls st0) := by
  have hF := va_free (wc := wc) hD hS hA isC hC
  refine va_callv hr hS (fun q _ h => hF q h) hF (fun u t H1 locs1 ht hvm hp hB hz hk hS1 => ?_)
  obtain ⟨hP1, hK1, hD1⟩ := hB
  rw [ht] at hP1
  obtain ⟨hP2, hD2⟩ := va_join (wr := wr) (w1 := ws1) hP hD isC isR hC hR hn hdis hk hF hP1 hD1
  exact kk H1 locs1 hP2 hD2 hS1
theorem x_pre {vs : List Value} (hP : va_P D vwCl ws H) (hD : va_D A ws) (hK : va_K D vwCl tys s) (isC : List Nat) (hC : isC.map (fun i => ws[i]?) = wc.map some) (hd : va_nd isC = true) : PreS s H (xP D tys wc H.size vs) vs :=
  ⟨fun a U g mk q => by obtain ⟨q0, q1, qP, qK, qD⟩ := q; exact ⟨q0, q1, qP, va_K.moved (u := U) (U := U.calling g mk a) (Vm.Alike.refl U.vm) qK, qD⟩,
   fun U hU hW => ⟨rfl, by rw [hU], by rw [hU]; exact hP.sub isC (by
      have h : ∀ (l : List Nat) (w : va_W), l.map (fun i => ws[i]?) = w.map some → l.filterMap (fun i => ws[i]?) = w := by
        intro l
        induction l with
        | nil => intro w hw; cases w with
          | nil => rfl
          | cons x t => cases hw
        | cons i t ih => intro w hw; cases w with
          | nil => cases hw
          | cons x t' =>
            simp only [List.map_cons, List.cons.injEq] at hw
            rw [List.filterMap_cons, hw.1]
            simp only
            rw [ih t' hw.2]
      exact h isC wc hC), va_K.moved hW.alike hK, (hD.sub isC hd hC).weaken (fun _ _ _ _ => trivial)⟩⟩
end XR
