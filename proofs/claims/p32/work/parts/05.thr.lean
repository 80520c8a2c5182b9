/-! exceptions of the usher's own: what a start must hold for them, contracts of methods that throw, their rows -/
def kStr : List (Nat × String) := [(47, "nine listeners want this concert there already"), (66, "nobody wants this concert there"), (84, "the fading time is out of range"), (87, "the patience is out of range"), (89, "the asking time is out of range"), (103, "there is no such other usher"), (144, "there is no such count"), (184, "no state is saved"), (203, "there is no such row"), (208, "there is no such concert"), (210, "the minutes are out of range")]
def xI : String := "java/lang/IndexOutOfBoundsException"
def xS : String := "java/lang/IllegalStateException"
def xA : String := "java/lang/IllegalArgumentException"
/-- which of the three a row of a table takes -/
def kDc (U : State) : Prop := va_Nw (.declares (Bundle.initS "java/lang/RuntimeException")) U ∧ va_Nw (.declares (Bundle.initS "java/lang/Exception")) U ∧ va_Nw (.declares (Bundle.initS Bundle.tN)) U
def kC (U : State) : Prop := (va_Nw (.castable xI xI) U ∧ va_Nw (.castable xS xS) U ∧ va_Nw (.castable xA xA) U ∧ kDc U) ∧ va_Nc xS xI U ∧ va_Nc xA xI U ∧ va_Nc xS xA U ∧ va_Nc xI xS U ∧ va_Nc xA xS U ∧ va_Nc xI xA U
theorem kC.same {u U : State} (hv : u.vm = U.vm) (h : kC u) : kC U := by
  have ha : u.vm.Alike U.vm := by rw [hv]; exact Vm.Alike.refl _
  exact ⟨⟨va_Nw.same rfl hv h.1.1, va_Nw.same rfl hv h.1.2.1, va_Nw.same rfl hv h.1.2.2.1, va_Nw.same rfl hv h.1.2.2.2.1, va_Nw.same rfl hv h.1.2.2.2.2.1, va_Nw.same rfl hv h.1.2.2.2.2.2⟩, va_Nc.moved ha h.2.1, va_Nc.moved ha h.2.2.1, va_Nc.moved ha h.2.2.2.1, va_Nc.moved ha h.2.2.2.2.1, va_Nc.moved ha h.2.2.2.2.2.1, va_Nc.moved ha h.2.2.2.2.2.2⟩
theorem kC.warm {s U : State} (hW : s.WarmedH U.vm) (h : kC s) : kC U :=
  ⟨⟨va_Nw.warmC hW h.1.1, va_Nw.warmC hW h.1.2.1, va_Nw.warmC hW h.1.2.2.1, va_Nw.warmD hW h.1.2.2.2.1, va_Nw.warmD hW h.1.2.2.2.2.1, va_Nw.warmD hW h.1.2.2.2.2.2⟩, va_Nc.moved hW.alike h.2.1, va_Nc.moved hW.alike h.2.2.1, va_Nc.moved hW.alike h.2.2.2.1, va_Nc.moved hW.alike h.2.2.2.2.1, va_Nc.moved hW.alike h.2.2.2.2.2.1, va_Nc.moved hW.alike h.2.2.2.2.2.2⟩
def kSt (sa : Nat → Nat) (U : State) : Prop := ∀ (i : Nat) (q : Nat × String), kStr[i]? = some q → vk_R RX3 q.1 q.2 (sa i) U
def kS (sa : Nat → Nat) (U : State) : Prop := kSt sa U ∧ kC U
theorem kS.same {sa : Nat → Nat} {u U : State} (hv : U.vm = u.vm) (h : kS sa u) : kS sa U := ⟨fun i x hx => vk_R.same hv (h.1 i x hx), kC.same hv.symm h.2⟩
theorem kS.warm {sa : Nat → Nat} {s U : State} (hW : s.WarmedH U.vm) (h : kS sa s) : kS sa U := ⟨fun i x hx => vk_R.warm hW (h.1 i x hx), kC.warm hW h.2⟩
def kZ (A : Nat → Prop) (U : State) (H : Heap) : Prop := vx_Zq Bundle.tN "UNASSIGNED_STACK" Bundle.steD A U H ∧ vx_Zq Bundle.tN "SUPPRESSED_SENTINEL" Bundle.listD A U H
def kPreX (g : kG) (sa : Nat → Nat) (av : List Value) (w0 : va_W) (sz : Nat) : Array Value → State → Prop := va_Pc av (fun U => U.heap.size = sz ∧ va_P g.1 vwCl w0 U.heap ∧ va_D (fun _ => True) w0 ∧ kE g U ∧ kS sa U ∧ kZ (va_A w0 sz) U U.heap)
theorem kPreX.blind {g : kG} {sa : Nat → Nat} {av : List Value} {w0 : va_W} {sz : Nat} : FrameBlind (kPreX g sa av w0 sz) := fun a U gg mk q =>
  ⟨q.1, q.2.1, q.2.2.1, q.2.2.2.1, kE.same (u := U) rfl q.2.2.2.2.1, kS.same (u := U) rfl q.2.2.2.2.2.1, vx_Zq.moved (u := U) (U := U.calling gg mk a) (Vm.Alike.refl U.vm) q.2.2.2.2.2.2.1, vx_Zq.moved (u := U) (U := U.calling gg mk a) (Vm.Alike.refl U.vm) q.2.2.2.2.2.2.2⟩
def kQxi (g : kG) (code : Nat) (r : Int32) (w1 : va_W) (A : Nat → Prop) : Array Value → State → Outcome → State → Prop := va_Qi (fun (x : Int32) (_ : Unit) => code = 0 ∧ x = r) (fun _ t => kW g w1 A t) A
def kQxv (g : kG) (code : Nat) (w1 : va_W) (A : Nat → Prop) : Array Value → State → Outcome → State → Prop := va_Qv (fun (_ : Unit) => code = 0) (fun _ t => kW g w1 A t) A
def kXx (g : kG) (code : Nat) (EN : Nat → String) (w0 : va_W) (A : Nat → Prop) : String → State → State → Prop := vx_X (fun (_ : Unit) => ¬ code = 0) (fun E _ t => E = EN code ∧ kW g w0 A t) A
def KXI (l : Launch) (y : MethodName) (ws : List Cond) (rm : Room) (g : kG) (sa : Nat → Nat) (av : List Value) (w0 : va_W) (code : Nat) (EN : Nat → String) (r : Int32) (w1 : va_W) (mc mz : Nat) : Prop := ∀ sz, vx_Met l y ws rm (kPreX g sa av w0 sz) (kQxi g code r w1 (va_A w0 sz)) (kXx g code EN w0 (va_A w0 sz)) mc mz (va_A w0 sz)
def KXV (l : Launch) (y : MethodName) (ws : List Cond) (rm : Room) (g : kG) (sa : Nat → Nat) (av : List Value) (w0 : va_W) (code : Nat) (EN : Nat → String) (w1 : va_W) (mc mz : Nat) : Prop := ∀ sz, vx_Met l y ws rm (kPreX g sa av w0 sz) (kQxv g code w1 (va_A w0 sz)) (kXx g code EN w0 (va_A w0 sz)) mc mz (va_A w0 sz)
theorem k_beginX {l : Launch} {y : MethodName} {ws ws' : List Cond} {rm : Room} {g : kG} {sa : Nat → Nat} {av : List Value} {w0 : va_W} {Qc : (Nat → Prop) → Array Value → State → Outcome → State → Prop} {XC : (Nat → Prop) → String → State → State → Prop} {mc mz : Nat} {cc : ByteArray} {maxL : Nat} {ret : Option FieldType} (hy : plainName y.cls = true) (hw : ws = Cond.code y cc maxL ret :: ws') (hlen : (lg_sl av).length ≤ maxL)
    (body : ∀ (p : Program) (e : Env) (s : State) (m : MethodId) (below : List Frame) (meth : Method) (c : Code) (A : Nat → Prop) (ls : Array Slot), CallFix p m c cc maxL s av.toArray ws y.cls → meth.sig.returnType = ret → meth.locks = false → (∀ x ∈ c.exceptionTable.toList, False) → kE g s → kS sa s → kZ A s s.heap → va_P g.1 vwCl w0 s.heap → va_D A w0 → va_S A s.heap s.heap [] → (∀ q : Nat, s.heap.size ≤ q → A q) → lv_has ls maxL (lv_args 0 av) →
      W p l e rm s m av.toArray below meth c s.heap [] 0 0 (vx_MQ below (Qc A) (XC A) av.toArray s mc mz A) (F0 m 0 ls [])) : ∀ sz, vx_Met l y ws rm (kPreX g sa av w0 sz) (Qc (va_A w0 sz)) (XC (va_A w0 sz)) mc mz (va_A w0 sz) := by
  intro sz
  refine vx_ofW (cc := cc) (maxL := maxL) (ret := ret) hy hw ?_
  intro p e s m args below meth c s₁ B hml ht hv
  obtain ⟨rfl, hsz, hP, hD0, hE, hSt, hZ⟩ := hv
  subst hsz
  have hl := lv_entry av (n := maxL) hlen
  rw [lg_entry_eq]
  exact body p e s m below meth c (va_A w0 s.heap.size) _ ⟨B.exec, B.bytes, hml, findClass_of_methodNamed B.named, atoms_spec (ws := ws) B.pre⟩ B.returns B.notSynchronized ht hE hSt hZ hP hD0.self va_S.rf (fun q h => Or.inr h) hl
/-- a body with a table, that itself throws nothing: its callees' exceptions are caught -/
theorem k_ofWH {l : Launch} {y : MethodName} {ws ws' : List Cond} {rm : Room} {Pc : Array Value → State → Prop} {Qc : Array Value → State → Outcome → State → Prop} {mc ms : Nat} {free : Addr → Prop} {cc : ByteArray} {maxL : Nat} {ret : Option FieldType} {hh : List (Nat × Nat × Nat × Nat)}
    (hy : plainName y.cls = true) (hw : ws = Cond.codeWith y cc maxL ret hh :: ws')
    (body : ∀ p e s m args below meth c s₁, BodyLoose p l y (headSpec ws rm) cc maxL ret e s m args below meth c s₁ → c.maxLocals = maxL → Pc args s →
      W p l e (headSpec ws rm).room s m args below meth c s.heap [] 0 0 (MQ below Qc args s mc ms free) (entryFrame m args maxL)) : Met l y ws rm Pc Qc mc ms free := by
  refine MetFree.of_bodyS (code := cc) (maxLocals := maxL) (ret := ret) hy ?_ ?_
  · intro args s m h hn
    obtain ⟨m9, meth, c, hn9, h1, h2, h3, h4, -, h5, h6, -⟩ := Cond.codeWith_spec (atoms_spec (ws := ws) h _ (by rw [hw]; exact List.mem_cons_self))
    cases hn.symm.trans hn9
    exact ⟨meth, c, h1, h2, h3, h4, h5, h6⟩
  · intro p e s m args below meth c s₁ B hml hP _
    have hh0 : s₁.heap = s.heap := by rw [B.state]; rfl
    obtain ⟨t, a1, o, b1, b2, b3⟩ := body p e s m args below meth c s₁ B hml hP s₁ hh0 (Stand.of_body B)
    exact ⟨t, o, a1, b1, b2, b3⟩
/-- contracts of the law's helpers: they throw nothing, but their start holds what a throw needs -/
def KIX (l : Launch) (y : MethodName) (ws : List Cond) (rm : Room) (g : kG) (sa : Nat → Nat) (av : List Value) (w0 : va_W) (r : Int32) (w1 : va_W) (mc mz : Nat) : Prop := ∀ sz, Met l y ws rm (kPreX g sa av w0 sz) (kQi g r w1 (va_A w0 sz)) mc mz (va_A w0 sz)
theorem k_beginH {l : Launch} {y : MethodName} {ws ws' : List Cond} {rm : Room} {g : kG} {sa : Nat → Nat} {av : List Value} {w0 : va_W} {Qc : (Nat → Prop) → Array Value → State → Outcome → State → Prop} {mc mz : Nat} {cc : ByteArray} {maxL : Nat} {ret : Option FieldType} {hh : List (Nat × Nat × Nat × Nat)} (hy : plainName y.cls = true) (hw : ws = Cond.codeWith y cc maxL ret hh :: ws') (hlen : (lg_sl av).length ≤ maxL)
    (body : ∀ (p : Program) (e : Env) (s : State) (m : MethodId) (below : List Frame) (meth : Method) (c : Code) (A : Nat → Prop) (ls : Array Slot), CallFix p m c cc maxL s av.toArray ws y.cls → meth.sig.returnType = ret → meth.locks = false → c.exceptionTable.toList = tableOf hh → kE g s → kS sa s → kZ A s s.heap → va_P g.1 vwCl w0 s.heap → va_D A w0 → va_S A s.heap s.heap [] → (∀ q : Nat, s.heap.size ≤ q → A q) → lv_has ls maxL (lv_args 0 av) →
      W p l e rm s m av.toArray below meth c s.heap [] 0 0 (MQ below (Qc A) av.toArray s mc mz A) (F0 m 0 ls [])) : ∀ sz, Met l y ws rm (kPreX g sa av w0 sz) (Qc (va_A w0 sz)) mc mz (va_A w0 sz) := by
  intro sz
  refine k_ofWH (cc := cc) (maxL := maxL) (ret := ret) (hh := hh) hy hw ?_
  intro p e s m args below meth c s₁ B hml hv
  obtain ⟨rfl, hsz, hP, hD0, hE, hSt, hZ⟩ := hv
  subst hsz
  have hl := lv_entry av (n := maxL) hlen
  rw [lg_entry_eq]
  have hts := atoms_spec (ws := ws) B.pre
  exact body p e s m below meth c (va_A w0 s.heap.size) _ ⟨B.exec, B.bytes, hml, findClass_of_methodNamed B.named, hts⟩ B.returns B.notSynchronized (vx_table (x := y) B (hts _ (by rw [hw]; exact List.mem_cons_self))) hE hSt hZ hP hD0.self va_S.rf (fun q h => Or.inr h) hl
section KT
variable {p : Program} {l : Launch} {e : Env} {R : Room} {s : State} {m : MethodId} {args : Array Value} {below : List Frame} {meth : Method} {c : Code} {H : Heap} {locs : List Loc} {cells slots : Nat} {Q : State → Prop}
variable {cc : ByteArray} {pc : Nat} {ls : Array Slot} {rest st0 : List Value} {g : kG} {A : Nat → Prop} {a : Nat} {ws wr w0 w1 ws1 wC : va_W} {sa : Nat → Nat}
theorem kZ_at (hZ : kZ A s s.heap) (hS : va_S A s.heap H locs) : kZ A s H := ⟨hZ.1.kept hS.2.1, hZ.2.kept hS.2.1⟩
theorem k_preX {av : List Value} {U : State} (hE : kE g s) (hSt : kS sa s) (hZ : kZ A s s.heap) (hP : va_P g.1 vwCl ws H) (hD : va_D A ws) (hS : va_S A s.heap H locs) (hA : ∀ q : Nat, s.heap.size ≤ q → A q) (hp : ws.Perm (w0 ++ wr)) (hU : U.heap = H) (hW : s.WarmedH U.vm) : kPreX g sa av w0 H.size av.toArray U := by
  have hz := kZ_at hZ hS
  have hfr := k_free hD hS hA hp
  subst hU
  exact ⟨rfl, rfl, (k_P_app.mp (k_P_perm hp hP)).1, (k_D_left (k_D_perm hp hD)).weaken (fun _ _ _ _ => trivial), kE.warm hW hE, kS.warm hW hSt, (hz.1.moved hW.alike).narrow hfr, (hz.2.moved hW.alike).narrow hfr⟩
theorem k_xiret {av : Array Value} {code : Nat} {EN : Nat → String} {r v : Int32} {mc mz : Nat} (hx : p.tables.exec = Jvm.exec) (hb : c.code = cc) {ty : FieldType} (hr : meth.sig.returnType = some ty) (hlocks : meth.locks = false) (hn : narrow ty (.int v) = .int v) (h0 : code = 0) (hv : v = r) (hP : va_P g.1 vwCl w1 H) (hD : va_D A w1) (hS : va_S A s.heap H locs) (hc : cells ≤ mc) (hs : slots ≤ mz) (hdg : decode cc pc = .ok (.ireturn, 1)) : W p l e R s m av below meth c H locs cells slots (vx_MQ below (kQxi g code r w1 A) (kXx g code EN w0 A) av s mc mz A) (F0 m pc ls [.int v]) := by
  refine W.widen hc hs (vx_ret ?_)
  refine W.zret hx hb hr hn (fun t ht hW => ⟨⟨v, (), rfl, ⟨h0, hv⟩, by rw [ht]; exact hP, hD⟩, hS.F ht⟩) hS.2.2 hdg hlocks
theorem k_xvret {av : Array Value} {code : Nat} {EN : Nat → String} {mc mz : Nat} (hx : p.tables.exec = Jvm.exec) (hb : c.code = cc) (hr : meth.sig.returnType = none) (hlocks : meth.locks = false) (h0 : code = 0) (hP : va_P g.1 vwCl w1 H) (hD : va_D A w1) (hS : va_S A s.heap H locs) (hc : cells ≤ mc) (hs : slots ≤ mz) (hdg : decode cc pc = .ok (.return_, 1)) : W p l e R s m av below meth c H locs cells slots (vx_MQ below (kQxv g code w1 A) (kXx g code EN w0 A) av s mc mz A) (F0 m pc ls []) := by
  refine W.widen hc hs (vx_ret ?_)
  refine W.vret hx hb hr (fun t ht hW => ⟨⟨(), rfl, h0, by rw [ht]; exact hP, hD⟩, hS.F ht⟩) hS.2.2 hdg hlocks
/-- a throw of this method's own, its cells as at the start -/
theorem k_throw {Qc : Array Value → State → Outcome → State → Prop} {code : Nat} {EN : Nat → String} {cls text : String} {ik is ic mc mz i : Nat} (hx : p.tables.exec = Jvm.exec) (hb : c.code = cc) (hl : l.stackTraces = false) (hown : s.vm.findClass RX3 = some m.cls) (hcls : Bundle.fit cls = true) (hk : (Cond.classLink RX3 ik cls).before args s = true) (hini : (Cond.initialized cls).before args s = true) (hSt : kS sa s) (hi : kStr[i]? = some (is, text))
    (hat : ∀ w ∈ vx_atS RX3 ic cls ["java/lang/RuntimeException", "java/lang/Exception"], w.before args s = true) (hgood : ∀ w ∈ Cond.classLink RX3 ik cls :: Cond.initialized cls :: vx_atS RX3 ic cls ["java/lang/RuntimeException", "java/lang/Exception"], vx_ot w = true) (hZ : kZ A s s.heap) (hP : va_P g.1 vwCl w0 H) (hD : va_D A w0) (hS : va_S A s.heap H locs) (hA : ∀ q : Nat, s.heap.size ≤ q → A q) (hsize : ls.size = c.maxLocals)
    (d0 : decode cc pc = .ok (.new ik, 3)) (d3 : decode cc (pc + 3) = .ok (.dup, 1)) (d4 : decode cc (pc + 4) = .ok (.ldc is, 2)) (d6 : decode cc (pc + 6) = .ok (.invokespecial ic, 3)) (d9 : decode cc (pc + 9) = .ok (.athrow, 1)) (hout : ∀ x ∈ c.exceptionTable.toList, False)
    (hRframes : 5 < R.frames) (hRlocals : (rest.map fun v => v.category).sum + 82 ≤ R.locals) (hRcells : cells + 1 ≤ R.cells) (hRslots : slots + 6 ≤ R.slots) (hlocks : meth.locks = false) (hc : cells + 1 ≤ mc) (hs : slots + 6 ≤ mz) (h0 : ¬ code = 0) (hEN : cls = EN code) :
    W p l e R s m args below meth c H locs cells slots (vx_MQ below Qc (kXx g code EN w0 A) args s mc mz A) (F0 m pc ls rest) :=
  vx_throwS (sa := sa i) (text := text) hx hb hl hown hcls (by decide) hk hini (hSt.1 i _ hi) hat hgood hZ.1 hZ.2 hS hsize d0 d3 d4 d6 d9 (fun x h => (hout x h).elim) hRframes hRlocals hRcells hRslots hlocks
    (fun t hW hz hk => ⟨(), h0, ⟨hEN, hP.kept (fun k q hq => hk _ (hP k q hq).lt), hD⟩, Nat.le_trans hS.1 hz, fun q h1 h2 => (hk q (Nat.lt_of_lt_of_le h1 hS.1)).trans (hS.2.1 q h1 h2)⟩) hS.2.2 hc hs
theorem k_throwW {Qc : Array Value → State → Outcome → State → Prop} {code : Nat} {EN : Nat → String} {cls text : String} {ik is ic mc mz i : Nat} (hx : p.tables.exec = Jvm.exec) (hb : c.code = cc) (hl : l.stackTraces = false) (hown : s.vm.findClass RX3 = some m.cls) (hcls : Bundle.fit cls = true) (hk : (Cond.classLink RX3 ik cls).before args s = true) (hini : (Cond.initialized cls).before args s = true) (hSt : kS sa s) (hi : kStr[i]? = some (is, text))
    (hat : ∀ w ∈ vx_atS RX3 ic cls ["java/lang/RuntimeException", "java/lang/Exception"], w.before args s = true) (hgood : ∀ w ∈ Cond.classLink RX3 ik cls :: Cond.initialized cls :: vx_atS RX3 ic cls ["java/lang/RuntimeException", "java/lang/Exception"], vx_ot w = true) (hZ : kZ A s s.heap) (hP : va_P g.1 vwCl w0 H) (hD : va_D A w0) (hS : va_S A s.heap H locs) (hA : ∀ q : Nat, s.heap.size ≤ q → A q) (hsize : ls.size = c.maxLocals)
    (d0 : decode cc pc = .ok (.new ik, 3)) (d3 : decode cc (pc + 3) = .ok (.dup, 1)) (d4 : decode cc (pc + 4) = .ok (.ldc_w is, 3)) (d7 : decode cc (pc + 7) = .ok (.invokespecial ic, 3)) (d10 : decode cc (pc + 10) = .ok (.athrow, 1)) (hout : ∀ x ∈ c.exceptionTable.toList, False)
    (hRframes : 5 < R.frames) (hRlocals : (rest.map fun v => v.category).sum + 82 ≤ R.locals) (hRcells : cells + 1 ≤ R.cells) (hRslots : slots + 6 ≤ R.slots) (hlocks : meth.locks = false) (hc : cells + 1 ≤ mc) (hs : slots + 6 ≤ mz) (h0 : ¬ code = 0) (hEN : cls = EN code) :
    W p l e R s m args below meth c H locs cells slots (vx_MQ below Qc (kXx g code EN w0 A) args s mc mz A) (F0 m pc ls rest) :=
  vx_throwSW (sa := sa i) (text := text) hx hb hl hown hcls (by decide) hk hini (hSt.1 i _ hi) hat hgood hZ.1 hZ.2 hS hsize d0 d3 d4 d7 d10 (fun x h => (hout x h).elim) hRframes hRlocals hRcells hRslots hlocks
    (fun t hW hz hk => ⟨(), h0, ⟨hEN, hP.kept (fun k q hq => hk _ (hP k q hq).lt), hD⟩, Nat.le_trans hS.1 hz, fun q h1 h2 => (hk q (Nat.lt_of_lt_of_le h1 hS.1)).trans (hS.2.1 q h1 h2)⟩) hS.2.2 hc hs
/-- a static callee that may throw, in a method that lets it go on; all cells as at the start -/
theorem k_XSv {own : String} {y : MethodName} {bytes : ByteArray} {maxL nL mc mz n index mcC mzC : Nat} {ret : Option FieldType} {wsy Ts : List Cond} {rm : Room} {As : List Value} {code codeC : Nat} {EN ENC : Nat → String} {Qc : Array Value → State → Outcome → State → Prop}
    (S : CallFix p m c cc nL s args Ts own) (hM : KXV l y wsy rm g sa As w0 code EN w0 mc mz) (cw : CallB R s args own index y bytes maxL ret wsy rm mc mz n ∧ (Cond.static y).before args s = true) (hE : kE g s) (hSt : kS sa s) (hZ : kZ A s s.heap) (hP : va_P g.1 vwCl ws H) (hD : va_D A ws) (hS : va_S A s.heap H locs) (hA : ∀ q : Nat, s.heap.size ≤ q → A q) (hp : ws.Perm (w0 ++ wr))
    (hn : As.length = n) (hls : ls.size = nL) (hst : st0 = As.reverse ++ rest) (hW : (rest.map fun v => v.category).sum ≤ 8) (hdg : decode cc pc = .ok (.invokestatic index, 3)) (hf : cells + mc ≤ R.cells ∧ slots + mz ≤ R.slots) (hout : ∀ x ∈ c.exceptionTable.toList, False) (hlocks : meth.locks = false) (hc : cells + mc ≤ mcC) (hs : slots + mz ≤ mzC) (hx9 : ¬ code = 0 → ¬ codeC = 0 ∧ EN code = ENC codeC)
    (kk : ∀ (H1 : Heap) (locs1 : List Loc), code = 0 → va_P g.1 vwCl ws H1 → va_D A ws → va_S A s.heap H1 locs1 → W p l e R s m args below meth c H1 locs1 (cells + mc) (slots + mz) (vx_MQ below Qc (kXx g codeC ENC ws A) args s mcC mzC A) (F0 m (pc + 3) ls rest)) : W p l e R s m args below meth c H locs cells slots (vx_MQ below Qc (kXx g codeC ENC ws A) args s mcC mzC A) (F0 m pc ls st0) := by
  subst hst
  refine vx_callv (vx_runS (As := As) (rest := rest) S (hM H.size) cw ⟨kPreX.blind, fun U hU hW => k_preX hE hSt hZ hP hD hS hA hp hU hW⟩ rfl hn hls rfl (lv_room hW) hdg hf) hS (fun q _ h => k_free hD hS hA hp q h) (k_free hD hS hA hp) (fun q _ h => k_free hD hS hA hp q h) (fun E ce q9 u t H1 locs1 ht hvm hw hB hz1 hk1 hS1 hce hcv hcl => ?_) (fun u t H1 locs1 ht hvm hw hB hz1 hk1 hS1 => ?_)
  · obtain ⟨hEE, hP1, hD1⟩ := hB
    rw [ht] at hP1
    have hj := k_join hP hD hS hA hp hp.symm hk1 hP1 hD1
    obtain ⟨h1, h2⟩ := hx9 hw
    exact vx_out (fun x h => (hout x h).elim) hlocks hce hcv hcl (fun t9 ht9 hal => ⟨(), h1, ⟨hEE.trans h2, by rw [ht9]; exact hj.1, hj.2⟩, by rw [ht9]; exact hS1.1, fun q h3 h4 => by rw [ht9]; exact hS1.2.1 q h3 h4⟩) hS1.2.2 hc hs
  · obtain ⟨hP1, hD1⟩ := hB
    rw [ht] at hP1
    have hj := k_join hP hD hS hA hp hp.symm hk1 hP1 hD1
    exact kk H1 locs1 hw hj.1 hj.2 hS1
/-- the law's helper calls the class: it returns, or throws what the helper catches -/
theorem k_LVi {own C : String} {y : MethodName} {bytes : ByteArray} {maxL nL mc mz n index b : Nat} {ret : Option FieldType} {wsy Ts : List Cond} {rm : Room} {As : List Value} {code : Nat} {EN : Nat → String} {r : Int32}
    (S : CallFix p m c cc nL s args Ts own) (hM : KXI l y wsy rm g sa (Value.ref b :: As) w0 code EN r w1 mc mz) (cw : CallW R s args own C index y bytes maxL ret wsy rm mc mz n) (hE : kE g s) (hSt : kS sa s) (hZ : kZ A s s.heap) (hP : va_P g.1 vwCl ws H) (hD : va_D A ws) (hS : va_S A s.heap H locs) (hA : ∀ q : Nat, s.heap.size ≤ q → A q) (hp : ws.Perm (w0 ++ wr)) (hq : (w1 ++ wr).Perm ws1)
    (q0 : Nat) {ci : Nat} {fs : List Value} {q : vw_C} (he : ws[q0]? = some (b, .inr (ci, fs))) (hc : vwCl[ci]? = some q) (hC : q.1 = C) (hn : As.length = n) (hls : ls.size = nL) (hst : st0 = As.reverse ++ .ref b :: rest) (hW : (rest.map fun v => v.category).sum ≤ 8) (hdg : decode cc pc = .ok (.invokevirtual index, 3)) (hf : cells + mc ≤ R.cells ∧ slots + mz ≤ R.slots)
    (kx : ∀ (ce : Cell) (q9 : Addr) (H1 : Heap) (locs1 : List Loc), ¬ code = 0 → va_P g.1 vwCl ws H1 → va_D A ws → va_S A s.heap H1 locs1 → H1[q9]? = some ce → ce.vm = .none → s.vm.findClass (EN code) = some ce.cls → vx_W p l e R s m args below meth c H1 locs1 (cells + mc) (slots + mz) Q (F0 m pc ls rest) q9)
    (kk : ∀ (H1 : Heap) (locs1 : List Loc), code = 0 → va_P g.1 vwCl ws1 H1 → va_D A ws1 → va_S A s.heap H1 locs1 → W p l e R s m args below meth c H1 locs1 (cells + mc) (slots + mz) Q (F0 m (pc + 3) ls (.int r :: rest))) : W p l e R s m args below meth c H locs cells slots Q (F0 m pc ls st0) := by
  subst hst
  have hrc := va_recv hE.1 hP hc he
  rw [hC] at hrc
  refine vx_calli (vx_runV (As := As) (rest := rest) S (hM H.size) cw ⟨kPreX.blind, hrc, fun U hU hW => k_preX hE hSt hZ hP hD hS hA hp hU hW⟩ rfl hn hls rfl (lv_room hW) hdg hf) hS (fun q _ h => k_free hD hS hA hp q h) (k_free hD hS hA hp) (fun q _ h => k_free hD hS hA hp q h) (fun E ce q9 u t H1 locs1 ht hvm hw hB hz1 hk1 hS1 hce hcv hcl => ?_) (fun r' u t H1 locs1 ht hvm hw hB hz1 hk1 hS1 => ?_)
  · obtain ⟨hEE, hP1, hD1⟩ := hB
    rw [ht] at hP1
    have hj := k_join hP hD hS hA hp hp.symm hk1 hP1 hD1
    subst hEE
    exact kx ce q9 H1 locs1 hw hj.1 hj.2 hS1 hce hcv hcl
  · obtain ⟨hP1, hD1⟩ := hB
    rw [ht] at hP1
    have hj := k_join hP hD hS hA hp hq hk1 hP1 hD1
    obtain ⟨h0, rfl⟩ := hw
    exact kk H1 locs1 h0 hj.1 hj.2 hS1
/-- the law calls its helper -/
theorem k_SWi {own : String} {y : MethodName} {bytes : ByteArray} {maxL nL mc mz n index : Nat} {ret : Option FieldType} {hh : List (Nat × Nat × Nat × Nat)} {wsy Ts : List Cond} {rm : Room} {As : List Value} {r : Int32}
    (S : CallFix p m c cc nL s args Ts own) (hM : KIX l y wsy rm g sa As w0 r w1 mc mz) (cw : vx_CSW R s args own index y bytes maxL ret hh wsy rm mc mz n) (hE : kE g s) (hSt : kS sa s) (hZ : kZ A s s.heap) (hP : va_P g.1 vwCl ws H) (hD : va_D A ws) (hS : va_S A s.heap H locs) (hA : ∀ q : Nat, s.heap.size ≤ q → A q) (hp : ws.Perm (w0 ++ wr)) (hq : (w1 ++ wr).Perm ws1)
    (hn : As.length = n) (hls : ls.size = nL) (hst : st0 = As.reverse ++ rest) (hW : (rest.map fun v => v.category).sum ≤ 8) (hdg : decode cc pc = .ok (.invokestatic index, 3)) (hf : cells + mc ≤ R.cells ∧ slots + mz ≤ R.slots)
    (kk : ∀ (H1 : Heap) (locs1 : List Loc), va_P g.1 vwCl ws1 H1 → va_D A ws1 → va_S A s.heap H1 locs1 → W p l e R s m args below meth c H1 locs1 (cells + mc) (slots + mz) Q (F0 m (pc + 3) ls (.int r :: rest))) : W p l e R s m args below meth c H locs cells slots Q (F0 m pc ls st0) := by
  subst hst
  refine va_calli (vx_runSW (As := As) (rest := rest) S (hM H.size) cw ⟨kPreX.blind, fun U hU hW => k_preX hE hSt hZ hP hD hS hA hp hU hW⟩ rfl hn hls rfl (lv_room hW) hdg hf) hS (fun q _ h => k_free hD hS hA hp q h) (k_free hD hS hA hp) (fun r' u t H1 locs1 ht hvm hw hB hz1 hk1 hS1 => ?_)
  subst hw
  obtain ⟨hP1, hD1⟩ := hB
  rw [ht] at hP1
  have hj := k_join hP hD hS hA hp hq hk1 hP1 hD1
  exact kk H1 locs1 hj.1 hj.2 hS1
end KT
