/-! states of the class and of the reference, their cells, contracts and rows -/
abbrev kG : Type := va_G × ClassId × ClassId × ClassId × ClassId
/-- a hall's cells -/
abbrev wH (g : kG) (a : Nat → Nat) (h : HSt) : va_W := [(a 0, .inr (1, [.ref (a 1), .ref (a 2), .ref (a 3), .int (hop h), .int (hqk h), .int (hf1 h), .int (hf2 h), .int (hfd h), .int (hpt h), .int (has h), .int (hmn h), .int (hsn h)])), (a 1, .inl (g.2.1, 48, .inl (hL h))), (a 2, .inl (g.2.1, 48, .inl (hR h))), (a 3, .inl (g.2.1, 6, .inl (hC h)))]
/-- the buffer's cells: its signs, its length -/
abbrev wT (g : kG) (a : Nat → Nat) (t : TSt) : va_W := [(a 0, .inr (0, [.ref (a 1), .int (tln t)])), (a 1, .inl (g.2.2.1, 60, .inl (tsg t)))]
/-- n halls -/
def wHs (g : kG) (ak : Nat → Nat → Nat) (hs : Nat → HSt) : Nat → va_W
  | 0 => []
  | n + 1 => wH g (ak n) (hs n) ++ wHs g ak hs n
/-- the ring of halls: oldest, size -/
abbrev wK0 (g : kG) (a : Nat → Nat) (ak : Nat → Nat → Nat) (k : KSt) : va_W := [(a 0, .inr (2, [.ref (a 1), .int (kod k), .int (ksz k)])), (a 1, .inl (g.2.2.2.1, 6, .inr (.inr (.inr (.inr (fun i => some (ak i 0)))))))]
/-- the usher's own cell -/
abbrev wU (u h k t : Nat) : va_W := [(u, .inr (3, [.ref h, .ref k, .ref t]))]
def tyS (g : kG) : List (ClassId × FieldType) := [(g.2.1, .int), (g.2.2.1, .char), (g.2.2.2.1, .object RX1)]
def nk0 : Cond := .methodLinkNest RX1 67 yX3_placeOf RX3
def nk1 : Cond := .methodLinkNest RX2 24 yX1_init RX3
def nk2 : Cond := .methodLinkNest RX3 11 yX1_init RX3
def nk3 : Cond := .methodLinkNest RX3 25 yX0_init RX3
/-- what is known of the tables -/
def kE (g : kG) (U : State) : Prop := va_K g.1 vwCl (tyS g) U ∧ (va_Nw nk0 U ∧ va_Nw nk1 U ∧ va_Nw nk2 U ∧ va_Nw nk3 U) ∧ va_AO RX1 U
theorem kE.same {g : kG} {u U : State} (hv : u.vm = U.vm) (h : kE g u) : kE g U := ⟨va_K.moved (by rw [hv]; exact Vm.Alike.refl _) h.1, ⟨va_Nw.same rfl hv h.2.1.1, va_Nw.same rfl hv h.2.1.2.1, va_Nw.same rfl hv h.2.1.2.2.1, va_Nw.same rfl hv h.2.1.2.2.2⟩, va_AO.moved (by rw [hv]; exact Vm.Alike.refl _) h.2.2⟩
theorem kE.warm {g : kG} {s U : State} (hW : s.WarmedH U.vm) (h : kE g s) : kE g U := ⟨va_K.moved hW.alike h.1, ⟨va_Nw.warmM hW h.2.1.1, va_Nw.warmM hW h.2.1.2.1, va_Nw.warmM hW h.2.1.2.2.1, va_Nw.warmM hW h.2.1.2.2.2⟩, va_AO.moved hW.alike h.2.2⟩
def kPre (g : kG) (av : List Value) (w0 : va_W) (sz : Nat) : Array Value → State → Prop := va_Pc av (fun U => U.heap.size = sz ∧ va_P g.1 vwCl w0 U.heap ∧ va_D (fun _ => True) w0 ∧ kE g U)
theorem kPre.blind {g : kG} {av : List Value} {w0 : va_W} {sz : Nat} : FrameBlind (kPre g av w0 sz) := fun _ U _ _ q => ⟨q.1, q.2.1, q.2.2.1, q.2.2.2.1, kE.same (u := U) rfl q.2.2.2.2⟩
def kW (g : kG) (w1 : va_W) (A : Nat → Prop) (t : State) : Prop := va_P g.1 vwCl w1 t.heap ∧ va_D A w1
def kQi (g : kG) (r : Int32) (w1 : va_W) (A : Nat → Prop) : Array Value → State → Outcome → State → Prop := va_Qi (fun (x : Int32) (_ : Unit) => x = r) (fun _ t => kW g w1 A t) A
def kQl (g : kG) (r : Int64) (w1 : va_W) (A : Nat → Prop) : Array Value → State → Outcome → State → Prop := va_Ql (fun (x : Int64) (_ : Unit) => x = r) (fun _ t => kW g w1 A t) A
def kQd (g : kG) (r : UInt64) (w1 : va_W) (A : Nat → Prop) : Array Value → State → Outcome → State → Prop := va_Qd (fun (x : UInt64) (_ : Unit) => x = r) (fun _ t => kW g w1 A t) A
def kQv (g : kG) (w1 : va_W) (A : Nat → Prop) : Array Value → State → Outcome → State → Prop := va_Qv (fun (_ : Unit) => True) (fun _ t => kW g w1 A t) A
def kQn {S : Type} (g : kG) (ok : S → Prop) (w1 : S → va_W) (A : Nat → Prop) : Array Value → State → Outcome → State → Prop := va_Qv ok (fun u t => kW g (w1 u) A t) A
/-- contracts: from the cells w0, with the values av, comes the answer r and the cells w1 -/
def KI (l : Launch) (y : MethodName) (ws : List Cond) (rm : Room) (g : kG) (av : List Value) (w0 : va_W) (r : Int32) (w1 : va_W) (mc mz : Nat) : Prop := ∀ sz, Met l y ws rm (kPre g av w0 sz) (kQi g r w1 (va_A w0 sz)) mc mz (va_A w0 sz)
def KL (l : Launch) (y : MethodName) (ws : List Cond) (rm : Room) (g : kG) (av : List Value) (w0 : va_W) (r : Int64) (w1 : va_W) (mc mz : Nat) : Prop := ∀ sz, Met l y ws rm (kPre g av w0 sz) (kQl g r w1 (va_A w0 sz)) mc mz (va_A w0 sz)
def KD (l : Launch) (y : MethodName) (ws : List Cond) (rm : Room) (g : kG) (av : List Value) (w0 : va_W) (r : UInt64) (w1 : va_W) (mc mz : Nat) : Prop := ∀ sz, Met l y ws rm (kPre g av w0 sz) (kQd g r w1 (va_A w0 sz)) mc mz (va_A w0 sz)
def KV (l : Launch) (y : MethodName) (ws : List Cond) (rm : Room) (g : kG) (av : List Value) (w0 : va_W) (w1 : va_W) (mc mz : Nat) : Prop := ∀ sz, Met l y ws rm (kPre g av w0 sz) (kQv g w1 (va_A w0 sz)) mc mz (va_A w0 sz)
def KN (l : Launch) (y : MethodName) (ws : List Cond) (rm : Room) (g : kG) (av : List Value) (w0 : va_W) {S : Type} (ok : S → Prop) (w1 : S → va_W) (mc mz : Nat) : Prop := ∀ sz, Met l y ws rm (kPre g av w0 sz) (kQn g ok w1 (va_A w0 sz)) mc mz (va_A w0 sz)
/-- a method's entry -/
theorem k_begin {l : Launch} {y : MethodName} {ws ws' : List Cond} {rm : Room} {g : kG} {av : List Value} {w0 : va_W} {Qc : (Nat → Prop) → Array Value → State → Outcome → State → Prop} {mc mz : Nat} {cc : ByteArray} {maxL : Nat} {ret : Option FieldType} (hy : plainName y.cls = true) (hw : ws = Cond.code y cc maxL ret :: ws') (hlen : (lg_sl av).length ≤ maxL)
    (body : ∀ (p : Program) (e : Env) (s : State) (m : MethodId) (below : List Frame) (meth : Method) (c : Code) (A : Nat → Prop) (ls : Array Slot), CallFix p m c cc maxL s av.toArray ws y.cls → meth.sig.returnType = ret → meth.locks = false → meth.name = y.name → kE g s → va_P g.1 vwCl w0 s.heap → va_D A w0 → va_S A s.heap s.heap [] → (∀ q : Nat, s.heap.size ≤ q → A q) → lv_has ls maxL (lv_args 0 av) →
      W p l e rm s m av.toArray below meth c s.heap [] 0 0 (MQ below (Qc A) av.toArray s mc mz A) (F0 m 0 ls [])) : ∀ sz, Met l y ws rm (kPre g av w0 sz) (Qc (va_A w0 sz)) mc mz (va_A w0 sz) := by
  intro sz
  refine Met.ofW (cc := cc) (maxL := maxL) (ret := ret) hy hw ?_
  intro p e s m args below meth c s₁ B hml hv
  obtain ⟨rfl, hsz, hP, hD0, hE⟩ := hv
  subst hsz
  have hl := lv_entry av (n := maxL) hlen
  rw [lg_entry_eq]
  exact body p e s m below meth c (va_A w0 s.heap.size) _ ⟨B.exec, B.bytes, hml, findClass_of_methodNamed B.named, atoms_spec (ws := ws) B.pre⟩ B.returns B.notSynchronized (name_of_methodNamed B.named B.method).1 hE hP hD0.self va_S.rf (fun q h => Or.inr h) hl
theorem k_P_mem {D : va_G} {cl : List vw_C} {ws : va_W} {H : Heap} : va_P D cl ws H ↔ ∀ q ∈ ws, va_at D cl q H :=
  ⟨fun h q hq => by obtain ⟨k, hk⟩ := List.mem_iff_getElem?.mp hq; exact h k q hk, fun h k q hk => h q (List.mem_of_getElem? hk)⟩
theorem k_P_perm {D : va_G} {cl : List vw_C} {ws w2 : va_W} {H : Heap} (hp : ws.Perm w2) (h : va_P D cl ws H) : va_P D cl w2 H := k_P_mem.mpr fun q hq => k_P_mem.mp h q (hp.mem_iff.mpr hq)
theorem k_P_app {D : va_G} {cl : List vw_C} {w1 w2 : va_W} {H : Heap} : va_P D cl (w1 ++ w2) H ↔ va_P D cl w1 H ∧ va_P D cl w2 H := by
  simp only [k_P_mem, List.mem_append]
  exact ⟨fun h => ⟨fun q hq => h q (Or.inl hq), fun q hq => h q (Or.inr hq)⟩, fun h q hq => hq.elim (h.1 q) (h.2 q)⟩
theorem k_D_iff {A : Nat → Prop} {ws : va_W} : va_D A ws ↔ (ws.map (fun q => q.1)).Nodup ∧ ∀ q ∈ ws, A q.1 := by
  constructor
  · intro h
    refine ⟨?_, fun q hq => ?_⟩
    · refine List.pairwise_iff_getElem.mpr fun i j hi hj hij he => ?_
      rw [List.length_map] at hi hj
      rw [List.getElem_map, List.getElem_map] at he
      have := h.1 i j _ _ (List.getElem?_eq_getElem hi) (List.getElem?_eq_getElem hj) he
      omega
    · obtain ⟨k, hk⟩ := List.mem_iff_getElem?.mp hq
      exact h.2 k q hk
  · intro h
    refine ⟨fun i j p q hp hq he => ?_, fun k q hq => h.2 q (List.mem_of_getElem? hq)⟩
    have hn := List.pairwise_iff_getElem.mp h.1
    obtain ⟨hi, hi2⟩ := List.getElem?_eq_some_iff.mp hp
    obtain ⟨hj, hj2⟩ := List.getElem?_eq_some_iff.mp hq
    rcases Nat.lt_trichotomy i j with hij | hij | hij
    · exact absurd (by rw [List.getElem_map, List.getElem_map, hi2, hj2]; exact he) (hn i j (by rw [List.length_map]; exact hi) (by rw [List.length_map]; exact hj) hij)
    · exact hij
    · exact absurd (by rw [List.getElem_map, List.getElem_map, hi2, hj2]; exact he.symm) (hn j i (by rw [List.length_map]; exact hj) (by rw [List.length_map]; exact hi) hij)
theorem k_D_perm {A : Nat → Prop} {ws w2 : va_W} (hp : ws.Perm w2) (h : va_D A ws) : va_D A w2 := by
  rw [k_D_iff] at h ⊢
  exact ⟨(hp.map _).nodup_iff.mp h.1, fun q hq => h.2 q (hp.mem_iff.mpr hq)⟩
theorem k_D_left {A : Nat → Prop} {w1 w2 : va_W} (h : va_D A (w1 ++ w2)) : va_D A w1 := by
  rw [k_D_iff] at h ⊢
  rw [List.map_append, List.nodup_append] at h
  exact ⟨h.1.1, fun q hq => h.2 q (List.mem_append_left _ hq)⟩
theorem k_A_mem {ws : va_W} {sz q : Nat} : va_A ws sz q ↔ (∃ x ∈ ws, x.1 = q) ∨ sz ≤ q := by
  constructor
  · rintro (⟨k, e, h⟩ | h)
    · exact Or.inl ⟨_, List.mem_of_getElem? h, rfl⟩
    · exact Or.inr h
  · rintro (⟨x, hx, rfl⟩ | h)
    · obtain ⟨k, hk⟩ := List.mem_iff_getElem?.mp hx
      exact Or.inl ⟨k, x.2, hk⟩
    · exact Or.inr h
/-- behind a call: the callee's cells and the rest, which is unchanged -/
theorem k_pall (w : va_W) : w.Perm (w ++ []) := by rw [List.append_nil]
theorem k_join {A : Nat → Prop} {D : va_G} {cl : List vw_C} {ws w0 wr w1 ws1 : va_W} {H0 H H1 : Heap} {locs : List Loc} (hP : va_P D cl ws H) (hD : va_D A ws) (hS : va_S A H0 H locs) (hA : ∀ q : Nat, H0.size ≤ q → A q) (hp : ws.Perm (w0 ++ wr)) (hq : (w1 ++ wr).Perm ws1)
    (hk : ∀ q : Nat, q < H.size → ¬ va_A w0 H.size q → H1[q]? = H[q]?) (hP1 : va_P D cl w1 H1) (hD1 : va_D (va_A w0 H.size) w1) : va_P D cl ws1 H1 ∧ va_D A ws1 := by
  have hP2 := k_P_perm hp hP
  have hD2 := k_D_perm hp hD
  have hPr := (k_P_app.mp hP2).2
  have hlt : ∀ q ∈ wr, q.1 < H.size := fun q hq => (k_P_mem.mp hPr q hq).lt
  have hD2' := k_D_iff.mp hD2
  rw [List.map_append, List.nodup_append] at hD2'
  have hnot : ∀ q ∈ wr, ¬ va_A w0 H.size q.1 := by
    intro q hq hz
    rcases k_A_mem.mp hz with ⟨x, hx, he⟩ | h
    · exact hD2'.1.2.2 _ (List.mem_map_of_mem hx) _ (List.mem_map_of_mem hq) he
    · exact absurd (hlt q hq) (Nat.not_lt.mpr h)
  refine ⟨k_P_perm hq (k_P_app.mpr ⟨hP1, k_P_mem.mpr fun q hq => (k_P_mem.mp hPr q hq).kept (hk q.1 (hlt q hq) (hnot q hq))⟩), k_D_perm hq ?_⟩
  rw [k_D_iff, List.map_append, List.nodup_append]
  have hD1' := k_D_iff.mp hD1
  refine ⟨⟨hD1'.1, hD2'.1.2.1, ?_⟩, fun q hq => ?_⟩
  · intro a ha b hb he
    obtain ⟨x, hx, rfl⟩ := List.mem_map.mp ha
    obtain ⟨z, hz, rfl⟩ := List.mem_map.mp hb
    exact hnot z hz (he ▸ hD1'.2 x hx)
  · rcases List.mem_append.mp hq with h | h
    · rcases k_A_mem.mp (hD1'.2 q h) with ⟨x, hx, he⟩ | h2
      · rw [← he]; exact hD2'.2 x (List.mem_append_left _ hx)
      · exact hA _ (Nat.le_trans hS.1 h2)
    · exact hD2'.2 q (List.mem_append_right _ h)
theorem k_free {A : Nat → Prop} {ws w0 wr : va_W} {H0 H : Heap} {locs : List Loc} (hD : va_D A ws) (hS : va_S A H0 H locs) (hA : ∀ q : Nat, H0.size ≤ q → A q) (hp : ws.Perm (w0 ++ wr)) : ∀ q, va_A w0 H.size q → A q := by
  intro q hq
  rcases k_A_mem.mp hq with ⟨x, hx, he⟩ | h
  · rw [← he]; exact (k_D_iff.mp (k_D_perm hp hD)).2 x (List.mem_append_left _ hx)
  · exact hA _ (Nat.le_trans hS.1 h)
theorem k_at_ext {D : va_G} {cl : List vw_C} {q n : Nat} {cA : ClassId} {f f2 : Nat → Int32} {H : Heap} (hf : ∀ k, k < n → f k = f2 k) (h : va_at D cl (q, .inl (cA, n, .inl f)) H) : va_at D cl (q, .inl (cA, n, .inl f2)) H := by
  have e : arrV cA n (fun j => .int (f j)) = arrV cA n (fun j => .int (f2 j)) := by
    have h9 : (fun j : Fin n => (fun j => Value.int (f j)) j.val) = (fun j : Fin n => (fun j => Value.int (f2 j)) j.val) := funext fun j => congrArg Value.int (hf j.val j.isLt)
    exact congrArg (fun z => ({ cls := cA, slots := Array.ofFn z, vm := .none } : Cell)) h9
  show H[q]? = some (arrV cA n (fun j => .int (f2 j)))
  rw [← e]
  exact h
section KR
variable {p : Program} {l : Launch} {e : Env} {R : Room} {s : State} {m : MethodId} {args : Array Value} {below : List Frame} {meth : Method} {c : Code} {H : Heap} {locs : List Loc} {cells slots : Nat} {Q : State → Prop}
variable {cc : ByteArray} {pc : Nat} {ls : Array Slot} {rest st0 : List Value} {g : kG} {A : Nat → Prop} {a : Nat} {ws wr w0 w1 ws1 : va_W}
theorem k_top {x y : Int32} (h : x = y) (k : W p l e R s m args below meth c H locs cells slots Q (F0 m pc ls (.int y :: rest))) : W p l e R s m args below meth c H locs cells slots Q (F0 m pc ls (.int x :: rest)) := by rw [h]; exact k
theorem k_topl {x y : Int64} (h : x = y) (k : W p l e R s m args below meth c H locs cells slots Q (F0 m pc ls (.long y :: rest))) : W p l e R s m args below meth c H locs cells slots Q (F0 m pc ls (.long x :: rest)) := by rw [h]; exact k
theorem k_meet {x : Value} {pj : Nat} (f : W p l e R s m args below meth c H locs cells slots Q (F0 m pj ls (x :: rest)) → W p l e R s m args below meth c H locs cells slots Q (F0 m pc ls st0)) (k : W p l e R s m args below meth c H locs cells slots Q (F0 m pj ls (x :: rest))) : W p l e R s m args below meth c H locs cells slots Q (F0 m pc ls st0) := f k
theorem k_ifeqB {P : Prop} [Decidable P] (hx : p.tables.exec = Jvm.exec) (hb : c.code = cc) {off : Int} {tgt : Nat} (hdg : decode cc pc = .ok (.ifCond .eq off, 3)) (ht : (pc : Int) + off = (tgt : Int)) (kt : ¬ P → W p l e R s m args below meth c H locs cells slots Q (F0 m tgt ls rest)) (kf : P → W p l e R s m args below meth c H locs cells slots Q (F0 m (pc + 3) ls rest)) : W p l e R s m args below meth c H locs cells slots Q (F0 m pc ls (.int (bI P) :: rest)) :=
  lv_if_eq hx hb hdg ht (fun h => kt (bI_eq.mp h)) (fun h => kf (bI_ne.mp h))
theorem k_ifneB {P : Prop} [Decidable P] (hx : p.tables.exec = Jvm.exec) (hb : c.code = cc) {off : Int} {tgt : Nat} (hdg : decode cc pc = .ok (.ifCond .ne off, 3)) (ht : (pc : Int) + off = (tgt : Int)) (kt : P → W p l e R s m args below meth c H locs cells slots Q (F0 m tgt ls rest)) (kf : ¬ P → W p l e R s m args below meth c H locs cells slots Q (F0 m (pc + 3) ls rest)) : W p l e R s m args below meth c H locs cells slots Q (F0 m pc ls (.int (bI P) :: rest)) :=
  lv_if_ne hx hb hdg ht (fun h => kt (bI_ne.mp h)) (fun h => kf (bI_eq.mp h))
theorem k_geN (hx : p.tables.exec = Jvm.exec) (hb : c.code = cc) {x y : Nat} (bx : x < 2 ^ 31) (by_ : y < 2 ^ 31) {off : Int} {tgt : Nat} (hdg : decode cc pc = .ok (.if_icmp .ge off, 3)) (ht : (pc : Int) + off = (tgt : Int)) (kt : y ≤ x → W p l e R s m args below meth c H locs cells slots Q (F0 m tgt ls rest)) (kf : x < y → W p l e R s m args below meth c H locs cells slots Q (F0 m (pc + 3) ls rest)) : W p l e R s m args below meth c H locs cells slots Q (F0 m pc ls (.int (nI y) :: .int (nI x) :: rest)) :=
  lv_icmp_ge hx hb hdg ht (fun h => kt ((nI_leI by_ bx).mp h)) (fun h => kf (Nat.lt_of_not_le fun z => h ((nI_leI by_ bx).mpr z)))
theorem k_ltN (hx : p.tables.exec = Jvm.exec) (hb : c.code = cc) {x y : Nat} (bx : x < 2 ^ 31) (by_ : y < 2 ^ 31) {off : Int} {tgt : Nat} (hdg : decode cc pc = .ok (.if_icmp .lt off, 3)) (ht : (pc : Int) + off = (tgt : Int)) (kt : x < y → W p l e R s m args below meth c H locs cells slots Q (F0 m tgt ls rest)) (kf : y ≤ x → W p l e R s m args below meth c H locs cells slots Q (F0 m (pc + 3) ls rest)) : W p l e R s m args below meth c H locs cells slots Q (F0 m pc ls (.int (nI y) :: .int (nI x) :: rest)) :=
  lv_icmp_lt hx hb hdg ht (fun h => kt ((nI_ltI bx by_).mp h)) (fun h => kf (Nat.le_of_not_lt fun z => h ((nI_ltI bx by_).mpr z)))
theorem k_gtN (hx : p.tables.exec = Jvm.exec) (hb : c.code = cc) {x y : Nat} (bx : x < 2 ^ 31) (by_ : y < 2 ^ 31) {off : Int} {tgt : Nat} (hdg : decode cc pc = .ok (.if_icmp .gt off, 3)) (ht : (pc : Int) + off = (tgt : Int)) (kt : y < x → W p l e R s m args below meth c H locs cells slots Q (F0 m tgt ls rest)) (kf : x ≤ y → W p l e R s m args below meth c H locs cells slots Q (F0 m (pc + 3) ls rest)) : W p l e R s m args below meth c H locs cells slots Q (F0 m pc ls (.int (nI y) :: .int (nI x) :: rest)) :=
  lv_icmp_gt hx hb hdg ht (fun h => kt ((nI_ltI by_ bx).mp h)) (fun h => kf (Nat.le_of_not_lt fun z => h ((nI_ltI by_ bx).mpr z)))
theorem k_leN (hx : p.tables.exec = Jvm.exec) (hb : c.code = cc) {x y : Nat} (bx : x < 2 ^ 31) (by_ : y < 2 ^ 31) {off : Int} {tgt : Nat} (hdg : decode cc pc = .ok (.if_icmp .le off, 3)) (ht : (pc : Int) + off = (tgt : Int)) (kt : x ≤ y → W p l e R s m args below meth c H locs cells slots Q (F0 m tgt ls rest)) (kf : y < x → W p l e R s m args below meth c H locs cells slots Q (F0 m (pc + 3) ls rest)) : W p l e R s m args below meth c H locs cells slots Q (F0 m pc ls (.int (nI y) :: .int (nI x) :: rest)) :=
  lv_icmp_le hx hb hdg ht (fun h => kt ((nI_leI bx by_).mp h)) (fun h => kf (Nat.lt_of_not_le fun z => h ((nI_leI bx by_).mpr z)))
theorem k_eqN (hx : p.tables.exec = Jvm.exec) (hb : c.code = cc) {x y : Nat} (bx : x < 2 ^ 31) (by_ : y < 2 ^ 31) {off : Int} {tgt : Nat} (hdg : decode cc pc = .ok (.if_icmp .eq off, 3)) (ht : (pc : Int) + off = (tgt : Int)) (kt : x = y → W p l e R s m args below meth c H locs cells slots Q (F0 m tgt ls rest)) (kf : ¬ x = y → W p l e R s m args below meth c H locs cells slots Q (F0 m (pc + 3) ls rest)) : W p l e R s m args below meth c H locs cells slots Q (F0 m pc ls (.int (nI y) :: .int (nI x) :: rest)) :=
  lv_icmp_eq hx hb hdg ht (fun h => kt ((nI_eq bx by_).mp h)) (fun h => kf (fun z => h ((nI_eq bx by_).mpr z)))
theorem k_neN (hx : p.tables.exec = Jvm.exec) (hb : c.code = cc) {x y : Nat} (bx : x < 2 ^ 31) (by_ : y < 2 ^ 31) {off : Int} {tgt : Nat} (hdg : decode cc pc = .ok (.if_icmp .ne off, 3)) (ht : (pc : Int) + off = (tgt : Int)) (kt : ¬ x = y → W p l e R s m args below meth c H locs cells slots Q (F0 m tgt ls rest)) (kf : x = y → W p l e R s m args below meth c H locs cells slots Q (F0 m (pc + 3) ls rest)) : W p l e R s m args below meth c H locs cells slots Q (F0 m pc ls (.int (nI y) :: .int (nI x) :: rest)) :=
  lv_icmp_ne hx hb hdg ht (fun h => kt (fun z => h ((nI_eq bx by_).mpr z))) (fun h => kf ((nI_eq bx by_).mp h))
theorem k_if0 (hx : p.tables.exec = Jvm.exec) (hb : c.code = cc) {x : Nat} (bx : x < 2 ^ 31) {off : Int} {tgt : Nat} (hdg : decode cc pc = .ok (.ifCond .eq off, 3)) (ht : (pc : Int) + off = (tgt : Int)) (kt : x = 0 → W p l e R s m args below meth c H locs cells slots Q (F0 m tgt ls rest)) (kf : ¬ x = 0 → W p l e R s m args below meth c H locs cells slots Q (F0 m (pc + 3) ls rest)) : W p l e R s m args below meth c H locs cells slots Q (F0 m pc ls (.int (nI x) :: rest)) :=
  lv_if_eq hx hb hdg ht (fun h => kt ((nI_eq bx (by decide)).mp (h.trans nI_0.symm))) (fun h => kf (fun z => h (by rw [z]; exact nI_0)))
theorem k_ifn0 (hx : p.tables.exec = Jvm.exec) (hb : c.code = cc) {x : Nat} (bx : x < 2 ^ 31) {off : Int} {tgt : Nat} (hdg : decode cc pc = .ok (.ifCond .ne off, 3)) (ht : (pc : Int) + off = (tgt : Int)) (kt : ¬ x = 0 → W p l e R s m args below meth c H locs cells slots Q (F0 m tgt ls rest)) (kf : x = 0 → W p l e R s m args below meth c H locs cells slots Q (F0 m (pc + 3) ls rest)) : W p l e R s m args below meth c H locs cells slots Q (F0 m pc ls (.int (nI x) :: rest)) :=
  lv_if_ne hx hb hdg ht (fun h => kt (fun z => h (by rw [z]; exact nI_0))) (fun h => kf ((nI_eq bx (by decide)).mp (h.trans nI_0.symm)))
theorem k_iald (hexec : p.tables.exec = Jvm.exec) (hb : c.code = cc) (hE : kE g s) (hP : va_P g.1 vwCl ws H) (q0 : Nat) {n : Nat} {f : Nat → Int32} (ha : ws[q0]? = some (a, .inl (g.2.1, n, .inl f))) {i : Int32} (k : Nat) (hi : i = nI k) (hk : k < n) (hn : n < 2 ^ 31) (hdg : decode cc pc = .ok (.iaload, 1)) (kk : W p l e R s m args below meth c H locs cells slots Q (F0 m (pc + 1) ls (.int (f k) :: rest))) : W p l e R s m args below meth c H locs cells slots Q (F0 m pc ls (.int i :: .ref a :: rest)) := by
  subst hi
  refine va_iald hexec hb hE.1 hP q0 0 ha rfl (vp_in_nI hk hn) hdg ?_
  rw [nI_clamp (Nat.lt_trans hk hn)]
  exact kk
theorem k_cald (hexec : p.tables.exec = Jvm.exec) (hb : c.code = cc) (hE : kE g s) (hP : va_P g.1 vwCl ws H) (q0 : Nat) {n : Nat} {f : Nat → Int32} (ha : ws[q0]? = some (a, .inl (g.2.2.1, n, .inl f))) {i : Int32} (k : Nat) (hi : i = nI k) (hk : k < n) (hn : n < 2 ^ 31) (hdg : decode cc pc = .ok (.caload, 1)) (kk : W p l e R s m args below meth c H locs cells slots Q (F0 m (pc + 1) ls (.int (f k) :: rest))) : W p l e R s m args below meth c H locs cells slots Q (F0 m pc ls (.int i :: .ref a :: rest)) := by
  subst hi
  refine va_cald hexec hb hE.1 hP q0 1 ha rfl (vp_in_nI hk hn) hdg ?_
  rw [nI_clamp (Nat.lt_trans hk hn)]
  exact kk
theorem k_aald (hexec : p.tables.exec = Jvm.exec) (hb : c.code = cc) (hE : kE g s) (hP : va_P g.1 vwCl ws H) (q0 : Nat) {n : Nat} {f : Nat → Nat} (ha : ws[q0]? = some (a, .inl (g.2.2.2.1, n, .inr (.inr (.inr (.inr (fun i => some (f i)))))))) {i : Int32} (k : Nat) (hi : i = nI k) (hk : k < n) (hn : n < 2 ^ 31) (hdg : decode cc pc = .ok (.aaload, 1)) (kk : W p l e R s m args below meth c H locs cells slots Q (F0 m (pc + 1) ls (.ref (f k) :: rest))) : W p l e R s m args below meth c H locs cells slots Q (F0 m pc ls (.int i :: .ref a :: rest)) := by
  subst hi
  refine va_aldq hexec hb hE.1 hP q0 2 ha rfl (vp_in_nI hk hn) hdg ?_
  rw [nI_clamp (Nat.lt_trans hk hn)]
  exact kk
/-- a loop that counts up to N -/
theorem k_loop {N : Nat} {Inv : Nat → Heap → List Loc → Array Slot → Prop} (i0 : Nat) (h0 : i0 ≤ N) (hs : Inv i0 H locs ls)
    (step : ∀ i : Nat, i ≤ N → (∀ (H : Heap) (locs : List Loc) (ls : Array Slot), i < N → Inv (i + 1) H locs ls → W p l e R s m args below meth c H locs cells slots Q (F0 m pc ls st0)) → ∀ (H : Heap) (locs : List Loc) (ls : Array Slot), Inv i H locs ls → W p l e R s m args below meth c H locs cells slots Q (F0 m pc ls st0)) :
    W p l e R s m args below meth c H locs cells slots Q (F0 m pc ls st0) := by
  have K : ∀ (n i : Nat), i + n = N → ∀ (H : Heap) (locs : List Loc) (ls : Array Slot), Inv i H locs ls → W p l e R s m args below meth c H locs cells slots Q (F0 m pc ls st0) := by
    intro n
    induction n with
    | zero => exact fun i hi H locs ls h => step i (by omega) (fun _ _ _ hlt => absurd hlt (by omega)) H locs ls h
    | succ n ih => exact fun i hi H locs ls h => step i (by omega) (fun H1 locs1 ls1 _ h1 => ih (i + 1) (by omega) H1 locs1 ls1 h1) H locs ls h
  exact K (N - i0) i0 (by omega) H locs ls hs
theorem k_iast (hexec : p.tables.exec = Jvm.exec) (hb : c.code = cc) (hE : kE g s) (hP : va_P g.1 vwCl ws H) (hD : va_D A ws) (hS : va_S A s.heap H locs) (q0 : Nat) {n : Nat} {f : Nat → Int32} (ha : ws[q0]? = some (a, .inl (g.2.1, n, .inl f))) {i x : Int32} (k : Nat) (hi : i = nI k) (hk : k < n) (hn : n < 2 ^ 31) (hw : ws.set q0 (a, .inl (g.2.1, n, .inl (upd f k x))) = ws1) (hdg : decode cc pc = .ok (.iastore, 1)) (kk : ∀ (H1 : Heap) (locs1 : List Loc), va_P g.1 vwCl ws1 H1 → va_D A ws1 → va_S A s.heap H1 locs1 → W p l e R s m args below meth c H1 locs1 cells slots Q (F0 m (pc + 1) ls rest)) : W p l e R s m args below meth c H locs cells slots Q (F0 m pc ls (.int x :: .int i :: .ref a :: rest)) := by
  subst hi
  refine va_iast hexec hb hE.1 hP hD hS q0 0 ha rfl (vp_in_nI hk hn) hdg ?_
  rw [nI_clamp (Nat.lt_trans hk hn), hw]
  exact kk
theorem k_cast (hexec : p.tables.exec = Jvm.exec) (hb : c.code = cc) (hE : kE g s) (hP : va_P g.1 vwCl ws H) (hD : va_D A ws) (hS : va_S A s.heap H locs) (q0 : Nat) {n : Nat} {f : Nat → Int32} (ha : ws[q0]? = some (a, .inl (g.2.2.1, n, .inl f))) {i x : Int32} (k : Nat) (hi : i = nI k) (hk : k < n) (hn : n < 2 ^ 31) (hx : vp_nar .char x = x) (hw : ws.set q0 (a, .inl (g.2.2.1, n, .inl (upd f k x))) = ws1) (hdg : decode cc pc = .ok (.castore, 1)) (kk : ∀ (H1 : Heap) (locs1 : List Loc), va_P g.1 vwCl ws1 H1 → va_D A ws1 → va_S A s.heap H1 locs1 → W p l e R s m args below meth c H1 locs1 cells slots Q (F0 m (pc + 1) ls rest)) : W p l e R s m args below meth c H locs cells slots Q (F0 m pc ls (.int x :: .int i :: .ref a :: rest)) := by
  subst hi
  refine va_cast hexec hb hE.1 hP hD hS q0 1 ha rfl (vp_in_nI hk hn) hdg ?_
  rw [nI_clamp (Nat.lt_trans hk hn), hx, hw]
  exact kk
theorem k_iret {av : Array Value} {r v : Int32} {mc mz : Nat} (hx : p.tables.exec = Jvm.exec) (hb : c.code = cc) {ty : FieldType} (hr : meth.sig.returnType = some ty) (hlocks : meth.locks = false) (hn : narrow ty (.int v) = .int v) (hv : v = r) (hP : va_P g.1 vwCl w1 H) (hD : va_D A w1) (hS : va_S A s.heap H locs) (hc : cells ≤ mc) (hs : slots ≤ mz) (hdg : decode cc pc = .ok (.ireturn, 1)) : W p l e R s m av below meth c H locs cells slots (MQ below (kQi g r w1 A) av s mc mz A) (F0 m pc ls [.int v]) := by
  refine W.widen hc hs ?_
  refine W.zret hx hb hr hn (fun t ht hW => ⟨⟨v, (), rfl, hv, by rw [ht]; exact hP, hD⟩, hS.F ht⟩) hS.2.2 hdg hlocks
theorem k_lret {av : Array Value} {r v : Int64} {mc mz : Nat} (hx : p.tables.exec = Jvm.exec) (hb : c.code = cc) (hr : meth.sig.returnType = some .long) (hlocks : meth.locks = false) (hv : v = r) (hP : va_P g.1 vwCl w1 H) (hD : va_D A w1) (hS : va_S A s.heap H locs) (hc : cells ≤ mc) (hs : slots ≤ mz) (hdg : decode cc pc = .ok (.lreturn, 1)) : W p l e R s m av below meth c H locs cells slots (MQ below (kQl g r w1 A) av s mc mz A) (F0 m pc ls [.long v]) := by
  refine W.widen hc hs ?_
  refine W.lret hx hb hr (fun t ht hW => ⟨⟨v, (), rfl, hv, by rw [ht]; exact hP, hD⟩, hS.F ht⟩) hS.2.2 hdg hlocks
theorem k_dret {av : Array Value} {r v : UInt64} {mc mz : Nat} (hx : p.tables.exec = Jvm.exec) (hb : c.code = cc) (hr : meth.sig.returnType = some .double) (hlocks : meth.locks = false) (hv : v = r) (hP : va_P g.1 vwCl w1 H) (hD : va_D A w1) (hS : va_S A s.heap H locs) (hc : cells ≤ mc) (hs : slots ≤ mz) (hdg : decode cc pc = .ok (.dreturn, 1)) : W p l e R s m av below meth c H locs cells slots (MQ below (kQd g r w1 A) av s mc mz A) (F0 m pc ls [.double v]) := by
  refine W.widen hc hs ?_
  refine W.dret hx hb hr (fun t ht hW => ⟨⟨v, (), rfl, hv, by rw [ht]; exact hP, hD⟩, hS.F ht⟩) hS.2.2 hdg hlocks
theorem k_vret {av : Array Value} {mc mz : Nat} (hx : p.tables.exec = Jvm.exec) (hb : c.code = cc) (hr : meth.sig.returnType = none) (hlocks : meth.locks = false) (hP : va_P g.1 vwCl w1 H) (hD : va_D A w1) (hS : va_S A s.heap H locs) (hc : cells ≤ mc) (hs : slots ≤ mz) (hdg : decode cc pc = .ok (.return_, 1)) : W p l e R s m av below meth c H locs cells slots (MQ below (kQv g w1 A) av s mc mz A) (F0 m pc ls []) := by
  refine W.widen hc hs ?_
  refine W.vret hx hb hr (fun t ht hW => ⟨⟨(), rfl, trivial, by rw [ht]; exact hP, hD⟩, hS.F ht⟩) hS.2.2 hdg hlocks
theorem k_nret {av : Array Value} {S : Type} {ok : S → Prop} {w1 : S → va_W} (u : S) {mc mz : Nat} (hx : p.tables.exec = Jvm.exec) (hb : c.code = cc) (hr : meth.sig.returnType = none) (hlocks : meth.locks = false) (hok : ok u) (hP : va_P g.1 vwCl (w1 u) H) (hD : va_D A (w1 u)) (hS : va_S A s.heap H locs) (hc : cells ≤ mc) (hs : slots ≤ mz) (hdg : decode cc pc = .ok (.return_, 1)) : W p l e R s m av below meth c H locs cells slots (MQ below (kQn g ok w1 A) av s mc mz A) (F0 m pc ls []) := by
  refine W.widen hc hs ?_
  refine W.vret hx hb hr (fun t ht hW => ⟨⟨u, rfl, hok, by rw [ht]; exact hP, hD⟩, hS.F ht⟩) hS.2.2 hdg hlocks
/-- the start of a callee -/
theorem k_pre {av : List Value} {U : State} (hE : kE g s) (hP : va_P g.1 vwCl ws H) (hD : va_D A ws) (hp : ws.Perm (w0 ++ wr)) (hU : U.heap = H) (hW : s.WarmedH U.vm) : kPre g av w0 H.size av.toArray U :=
  ⟨rfl, by rw [hU], by rw [hU]; exact (k_P_app.mp (k_P_perm hp hP)).1, (k_D_left (k_D_perm hp hD)).weaken (fun _ _ _ _ => trivial), kE.warm hW hE⟩
theorem k_Vi {own C : String} {y : MethodName} {bytes : ByteArray} {maxL nL mc mz n index b : Nat} {ret : Option FieldType} {wsy Ts : List Cond} {rm : Room} {As : List Value} {r : Int32} (S : CallFix p m c cc nL s args Ts own) (hM : KI l y wsy rm g (Value.ref b :: As) w0 r w1 mc mz) (cw : CallW R s args own C index y bytes maxL ret wsy rm mc mz n) (hE : kE g s) (hP : va_P g.1 vwCl ws H) (hD : va_D A ws) (hS : va_S A s.heap H locs) (hA : ∀ q : Nat, s.heap.size ≤ q → A q) (hp : ws.Perm (w0 ++ wr)) (hq : (w1 ++ wr).Perm ws1) (q0 : Nat) {ci : Nat} {fs : List Value} {q : vw_C} (he : ws[q0]? = some (b, .inr (ci, fs))) (hc : vwCl[ci]? = some q) (hC : q.1 = C) (hn : As.length = n) (hls : ls.size = nL) (hst : st0 = As.reverse ++ .ref b :: rest) (hW : (rest.map fun v => v.category).sum ≤ 8) (hdg : decode cc pc = .ok (.invokevirtual index, 3)) (hf : cells + mc ≤ R.cells ∧ slots + mz ≤ R.slots) (kk : ∀ (H1 : Heap) (locs1 : List Loc), va_P g.1 vwCl ws1 H1 → va_D A ws1 → va_S A s.heap H1 locs1 → W p l e R s m args below meth c H1 locs1 (cells + mc) (slots + mz) Q (F0 m (pc + 3) ls (.int r :: rest))) : W p l e R s m args below meth c H locs cells slots Q (F0 m pc ls st0) := by
  subst hst
  have hrc := va_recv hE.1 hP hc he
  rw [hC] at hrc
  refine va_calli (va_runV (As := As) (rest := rest) S (hM H.size) cw ⟨kPre.blind, hrc, fun U hU hW => k_pre hE hP hD hp hU hW⟩ rfl hn hls rfl (lv_room hW) hdg hf) hS (fun q _ h => k_free hD hS hA hp q h) (k_free hD hS hA hp) (fun r' u t H1 locs1 ht hvm hw hB hz1 hk1 hS1 => ?_)
  subst hw
  obtain ⟨hP1, hD1⟩ := hB
  rw [ht] at hP1
  have hj := k_join hP hD hS hA hp hq hk1 hP1 hD1
  exact kk H1 locs1 hj.1 hj.2 hS1
theorem k_Vl {own C : String} {y : MethodName} {bytes : ByteArray} {maxL nL mc mz n index b : Nat} {ret : Option FieldType} {wsy Ts : List Cond} {rm : Room} {As : List Value} {r : Int64} (S : CallFix p m c cc nL s args Ts own) (hM : KL l y wsy rm g (Value.ref b :: As) w0 r w1 mc mz) (cw : CallW R s args own C index y bytes maxL ret wsy rm mc mz n) (hE : kE g s) (hP : va_P g.1 vwCl ws H) (hD : va_D A ws) (hS : va_S A s.heap H locs) (hA : ∀ q : Nat, s.heap.size ≤ q → A q) (hp : ws.Perm (w0 ++ wr)) (hq : (w1 ++ wr).Perm ws1) (q0 : Nat) {ci : Nat} {fs : List Value} {q : vw_C} (he : ws[q0]? = some (b, .inr (ci, fs))) (hc : vwCl[ci]? = some q) (hC : q.1 = C) (hn : As.length = n) (hls : ls.size = nL) (hst : st0 = As.reverse ++ .ref b :: rest) (hW : (rest.map fun v => v.category).sum ≤ 8) (hdg : decode cc pc = .ok (.invokevirtual index, 3)) (hf : cells + mc ≤ R.cells ∧ slots + mz ≤ R.slots) (kk : ∀ (H1 : Heap) (locs1 : List Loc), va_P g.1 vwCl ws1 H1 → va_D A ws1 → va_S A s.heap H1 locs1 → W p l e R s m args below meth c H1 locs1 (cells + mc) (slots + mz) Q (F0 m (pc + 3) ls (.long r :: rest))) : W p l e R s m args below meth c H locs cells slots Q (F0 m pc ls st0) := by
  subst hst
  have hrc := va_recv hE.1 hP hc he
  rw [hC] at hrc
  refine va_calll (va_runV (As := As) (rest := rest) S (hM H.size) cw ⟨kPre.blind, hrc, fun U hU hW => k_pre hE hP hD hp hU hW⟩ rfl hn hls rfl (lv_room hW) hdg hf) hS (fun q _ h => k_free hD hS hA hp q h) (k_free hD hS hA hp) (fun r' u t H1 locs1 ht hvm hw hB hz1 hk1 hS1 => ?_)
  subst hw
  obtain ⟨hP1, hD1⟩ := hB
  rw [ht] at hP1
  have hj := k_join hP hD hS hA hp hq hk1 hP1 hD1
  exact kk H1 locs1 hj.1 hj.2 hS1
theorem k_Vd {own C : String} {y : MethodName} {bytes : ByteArray} {maxL nL mc mz n index b : Nat} {ret : Option FieldType} {wsy Ts : List Cond} {rm : Room} {As : List Value} {r : UInt64} (S : CallFix p m c cc nL s args Ts own) (hM : KD l y wsy rm g (Value.ref b :: As) w0 r w1 mc mz) (cw : CallW R s args own C index y bytes maxL ret wsy rm mc mz n) (hE : kE g s) (hP : va_P g.1 vwCl ws H) (hD : va_D A ws) (hS : va_S A s.heap H locs) (hA : ∀ q : Nat, s.heap.size ≤ q → A q) (hp : ws.Perm (w0 ++ wr)) (hq : (w1 ++ wr).Perm ws1) (q0 : Nat) {ci : Nat} {fs : List Value} {q : vw_C} (he : ws[q0]? = some (b, .inr (ci, fs))) (hc : vwCl[ci]? = some q) (hC : q.1 = C) (hn : As.length = n) (hls : ls.size = nL) (hst : st0 = As.reverse ++ .ref b :: rest) (hW : (rest.map fun v => v.category).sum ≤ 8) (hdg : decode cc pc = .ok (.invokevirtual index, 3)) (hf : cells + mc ≤ R.cells ∧ slots + mz ≤ R.slots) (kk : ∀ (H1 : Heap) (locs1 : List Loc), va_P g.1 vwCl ws1 H1 → va_D A ws1 → va_S A s.heap H1 locs1 → W p l e R s m args below meth c H1 locs1 (cells + mc) (slots + mz) Q (F0 m (pc + 3) ls (.double r :: rest))) : W p l e R s m args below meth c H locs cells slots Q (F0 m pc ls st0) := by
  subst hst
  have hrc := va_recv hE.1 hP hc he
  rw [hC] at hrc
  refine va_calld (va_runV (As := As) (rest := rest) S (hM H.size) cw ⟨kPre.blind, hrc, fun U hU hW => k_pre hE hP hD hp hU hW⟩ rfl hn hls rfl (lv_room hW) hdg hf) hS (fun q _ h => k_free hD hS hA hp q h) (k_free hD hS hA hp) (fun r' u t H1 locs1 ht hvm hw hB hz1 hk1 hS1 => ?_)
  subst hw
  obtain ⟨hP1, hD1⟩ := hB
  rw [ht] at hP1
  have hj := k_join hP hD hS hA hp hq hk1 hP1 hD1
  exact kk H1 locs1 hj.1 hj.2 hS1
theorem k_Vv {own C : String} {y : MethodName} {bytes : ByteArray} {maxL nL mc mz n index b : Nat} {ret : Option FieldType} {wsy Ts : List Cond} {rm : Room} {As : List Value} (S : CallFix p m c cc nL s args Ts own) (hM : KV l y wsy rm g (Value.ref b :: As) w0 w1 mc mz) (cw : CallW R s args own C index y bytes maxL ret wsy rm mc mz n) (hE : kE g s) (hP : va_P g.1 vwCl ws H) (hD : va_D A ws) (hS : va_S A s.heap H locs) (hA : ∀ q : Nat, s.heap.size ≤ q → A q) (hp : ws.Perm (w0 ++ wr)) (hq : (w1 ++ wr).Perm ws1) (q0 : Nat) {ci : Nat} {fs : List Value} {q : vw_C} (he : ws[q0]? = some (b, .inr (ci, fs))) (hc : vwCl[ci]? = some q) (hC : q.1 = C) (hn : As.length = n) (hls : ls.size = nL) (hst : st0 = As.reverse ++ .ref b :: rest) (hW : (rest.map fun v => v.category).sum ≤ 8) (hdg : decode cc pc = .ok (.invokevirtual index, 3)) (hf : cells + mc ≤ R.cells ∧ slots + mz ≤ R.slots) (kk : ∀ (H1 : Heap) (locs1 : List Loc), va_P g.1 vwCl ws1 H1 → va_D A ws1 → va_S A s.heap H1 locs1 → W p l e R s m args below meth c H1 locs1 (cells + mc) (slots + mz) Q (F0 m (pc + 3) ls (rest))) : W p l e R s m args below meth c H locs cells slots Q (F0 m pc ls st0) := by
  subst hst
  have hrc := va_recv hE.1 hP hc he
  rw [hC] at hrc
  refine va_callv (va_runV (As := As) (rest := rest) S (hM H.size) cw ⟨kPre.blind, hrc, fun U hU hW => k_pre hE hP hD hp hU hW⟩ rfl hn hls rfl (lv_room hW) hdg hf) hS (fun q _ h => k_free hD hS hA hp q h) (k_free hD hS hA hp) (fun u t H1 locs1 ht hvm hw hB hz1 hk1 hS1 => ?_)
  obtain ⟨hP1, hD1⟩ := hB
  rw [ht] at hP1
  have hj := k_join hP hD hS hA hp hq hk1 hP1 hD1
  exact kk H1 locs1 hj.1 hj.2 hS1
theorem k_Si {own : String} {y : MethodName} {bytes : ByteArray} {maxL nL mc mz n index : Nat} {ret : Option FieldType} {wsy Ts : List Cond} {rm : Room} {As : List Value} {r : Int32} (S : CallFix p m c cc nL s args Ts own) (hM : KI l y wsy rm g As w0 r w1 mc mz) (cw : CallB R s args own index y bytes maxL ret wsy rm mc mz n ∧ (Cond.static y).before args s = true) (hE : kE g s) (hP : va_P g.1 vwCl ws H) (hD : va_D A ws) (hS : va_S A s.heap H locs) (hA : ∀ q : Nat, s.heap.size ≤ q → A q) (hp : ws.Perm (w0 ++ wr)) (hq : (w1 ++ wr).Perm ws1) (hn : As.length = n) (hls : ls.size = nL) (hst : st0 = As.reverse ++ rest) (hW : (rest.map fun v => v.category).sum ≤ 8) (hdg : decode cc pc = .ok (.invokestatic index, 3)) (hf : cells + mc ≤ R.cells ∧ slots + mz ≤ R.slots) (kk : ∀ (H1 : Heap) (locs1 : List Loc), va_P g.1 vwCl ws1 H1 → va_D A ws1 → va_S A s.heap H1 locs1 → W p l e R s m args below meth c H1 locs1 (cells + mc) (slots + mz) Q (F0 m (pc + 3) ls (.int r :: rest))) : W p l e R s m args below meth c H locs cells slots Q (F0 m pc ls st0) := by
  subst hst
  refine va_calli (va_runS (As := As) (rest := rest) S (hM H.size) cw ⟨kPre.blind, fun U hU hW => k_pre hE hP hD hp hU hW⟩ rfl hn hls rfl (lv_room hW) hdg hf) hS (fun q _ h => k_free hD hS hA hp q h) (k_free hD hS hA hp) (fun r' u t H1 locs1 ht hvm hw hB hz1 hk1 hS1 => ?_)
  subst hw
  obtain ⟨hP1, hD1⟩ := hB
  rw [ht] at hP1
  have hj := k_join hP hD hS hA hp hq hk1 hP1 hD1
  exact kk H1 locs1 hj.1 hj.2 hS1
theorem k_Sl {own : String} {y : MethodName} {bytes : ByteArray} {maxL nL mc mz n index : Nat} {ret : Option FieldType} {wsy Ts : List Cond} {rm : Room} {As : List Value} {r : Int64} (S : CallFix p m c cc nL s args Ts own) (hM : KL l y wsy rm g As w0 r w1 mc mz) (cw : CallB R s args own index y bytes maxL ret wsy rm mc mz n ∧ (Cond.static y).before args s = true) (hE : kE g s) (hP : va_P g.1 vwCl ws H) (hD : va_D A ws) (hS : va_S A s.heap H locs) (hA : ∀ q : Nat, s.heap.size ≤ q → A q) (hp : ws.Perm (w0 ++ wr)) (hq : (w1 ++ wr).Perm ws1) (hn : As.length = n) (hls : ls.size = nL) (hst : st0 = As.reverse ++ rest) (hW : (rest.map fun v => v.category).sum ≤ 8) (hdg : decode cc pc = .ok (.invokestatic index, 3)) (hf : cells + mc ≤ R.cells ∧ slots + mz ≤ R.slots) (kk : ∀ (H1 : Heap) (locs1 : List Loc), va_P g.1 vwCl ws1 H1 → va_D A ws1 → va_S A s.heap H1 locs1 → W p l e R s m args below meth c H1 locs1 (cells + mc) (slots + mz) Q (F0 m (pc + 3) ls (.long r :: rest))) : W p l e R s m args below meth c H locs cells slots Q (F0 m pc ls st0) := by
  subst hst
  refine va_calll (va_runS (As := As) (rest := rest) S (hM H.size) cw ⟨kPre.blind, fun U hU hW => k_pre hE hP hD hp hU hW⟩ rfl hn hls rfl (lv_room hW) hdg hf) hS (fun q _ h => k_free hD hS hA hp q h) (k_free hD hS hA hp) (fun r' u t H1 locs1 ht hvm hw hB hz1 hk1 hS1 => ?_)
  subst hw
  obtain ⟨hP1, hD1⟩ := hB
  rw [ht] at hP1
  have hj := k_join hP hD hS hA hp hq hk1 hP1 hD1
  exact kk H1 locs1 hj.1 hj.2 hS1
theorem k_Sd {own : String} {y : MethodName} {bytes : ByteArray} {maxL nL mc mz n index : Nat} {ret : Option FieldType} {wsy Ts : List Cond} {rm : Room} {As : List Value} {r : UInt64} (S : CallFix p m c cc nL s args Ts own) (hM : KD l y wsy rm g As w0 r w1 mc mz) (cw : CallB R s args own index y bytes maxL ret wsy rm mc mz n ∧ (Cond.static y).before args s = true) (hE : kE g s) (hP : va_P g.1 vwCl ws H) (hD : va_D A ws) (hS : va_S A s.heap H locs) (hA : ∀ q : Nat, s.heap.size ≤ q → A q) (hp : ws.Perm (w0 ++ wr)) (hq : (w1 ++ wr).Perm ws1) (hn : As.length = n) (hls : ls.size = nL) (hst : st0 = As.reverse ++ rest) (hW : (rest.map fun v => v.category).sum ≤ 8) (hdg : decode cc pc = .ok (.invokestatic index, 3)) (hf : cells + mc ≤ R.cells ∧ slots + mz ≤ R.slots) (kk : ∀ (H1 : Heap) (locs1 : List Loc), va_P g.1 vwCl ws1 H1 → va_D A ws1 → va_S A s.heap H1 locs1 → W p l e R s m args below meth c H1 locs1 (cells + mc) (slots + mz) Q (F0 m (pc + 3) ls (.double r :: rest))) : W p l e R s m args below meth c H locs cells slots Q (F0 m pc ls st0) := by
  subst hst
  refine va_calld (va_runS (As := As) (rest := rest) S (hM H.size) cw ⟨kPre.blind, fun U hU hW => k_pre hE hP hD hp hU hW⟩ rfl hn hls rfl (lv_room hW) hdg hf) hS (fun q _ h => k_free hD hS hA hp q h) (k_free hD hS hA hp) (fun r' u t H1 locs1 ht hvm hw hB hz1 hk1 hS1 => ?_)
  subst hw
  obtain ⟨hP1, hD1⟩ := hB
  rw [ht] at hP1
  have hj := k_join hP hD hS hA hp hq hk1 hP1 hD1
  exact kk H1 locs1 hj.1 hj.2 hS1
theorem k_Sv {own : String} {y : MethodName} {bytes : ByteArray} {maxL nL mc mz n index : Nat} {ret : Option FieldType} {wsy Ts : List Cond} {rm : Room} {As : List Value} (S : CallFix p m c cc nL s args Ts own) (hM : KV l y wsy rm g As w0 w1 mc mz) (cw : CallB R s args own index y bytes maxL ret wsy rm mc mz n ∧ (Cond.static y).before args s = true) (hE : kE g s) (hP : va_P g.1 vwCl ws H) (hD : va_D A ws) (hS : va_S A s.heap H locs) (hA : ∀ q : Nat, s.heap.size ≤ q → A q) (hp : ws.Perm (w0 ++ wr)) (hq : (w1 ++ wr).Perm ws1) (hn : As.length = n) (hls : ls.size = nL) (hst : st0 = As.reverse ++ rest) (hW : (rest.map fun v => v.category).sum ≤ 8) (hdg : decode cc pc = .ok (.invokestatic index, 3)) (hf : cells + mc ≤ R.cells ∧ slots + mz ≤ R.slots) (kk : ∀ (H1 : Heap) (locs1 : List Loc), va_P g.1 vwCl ws1 H1 → va_D A ws1 → va_S A s.heap H1 locs1 → W p l e R s m args below meth c H1 locs1 (cells + mc) (slots + mz) Q (F0 m (pc + 3) ls (rest))) : W p l e R s m args below meth c H locs cells slots Q (F0 m pc ls st0) := by
  subst hst
  refine va_callv (va_runS (As := As) (rest := rest) S (hM H.size) cw ⟨kPre.blind, fun U hU hW => k_pre hE hP hD hp hU hW⟩ rfl hn hls rfl (lv_room hW) hdg hf) hS (fun q _ h => k_free hD hS hA hp q h) (k_free hD hS hA hp) (fun u t H1 locs1 ht hvm hw hB hz1 hk1 hS1 => ?_)
  obtain ⟨hP1, hD1⟩ := hB
  rw [ht] at hP1
  have hj := k_join hP hD hS hA hp hq hk1 hP1 hD1
  exact kk H1 locs1 hj.1 hj.2 hS1
theorem k_SNi {own host : String} {y : MethodName} {bytes : ByteArray} {maxL nL mc mz n index : Nat} {ret : Option FieldType} {wsy Ts : List Cond} {rm : Room} {As : List Value} {r : Int32} (S : CallFix p m c cc nL s args Ts own) (hM : KI l y wsy rm g As w0 r w1 mc mz) (cw : va_CN R s args own index y host bytes maxL ret wsy rm mc mz n ∧ (Cond.static y).before args s = true ∧ True) (hE : kE g s) (hP : va_P g.1 vwCl ws H) (hD : va_D A ws) (hS : va_S A s.heap H locs) (hA : ∀ q : Nat, s.heap.size ≤ q → A q) (hp : ws.Perm (w0 ++ wr)) (hq : (w1 ++ wr).Perm ws1) (hn : As.length = n) (hls : ls.size = nL) (hst : st0 = As.reverse ++ rest) (hW : (rest.map fun v => v.category).sum ≤ 8) (hdg : decode cc pc = .ok (.invokestatic index, 3)) (hf : cells + mc ≤ R.cells ∧ slots + mz ≤ R.slots) (kk : ∀ (H1 : Heap) (locs1 : List Loc), va_P g.1 vwCl ws1 H1 → va_D A ws1 → va_S A s.heap H1 locs1 → W p l e R s m args below meth c H1 locs1 (cells + mc) (slots + mz) Q (F0 m (pc + 3) ls (.int r :: rest))) : W p l e R s m args below meth c H locs cells slots Q (F0 m pc ls st0) := by
  subst hst
  refine va_calli (va_runSN (As := As) (rest := rest) S (hM H.size) cw ⟨kPre.blind, fun U hU hW => k_pre hE hP hD hp hU hW⟩ rfl hn hls rfl (lv_room hW) hdg hf) hS (fun q _ h => k_free hD hS hA hp q h) (k_free hD hS hA hp) (fun r' u t H1 locs1 ht hvm hw hB hz1 hk1 hS1 => ?_)
  subst hw
  obtain ⟨hP1, hD1⟩ := hB
  rw [ht] at hP1
  have hj := k_join hP hD hS hA hp hq hk1 hP1 hD1
  exact kk H1 locs1 hj.1 hj.2 hS1
theorem k_In {own : String} {y : MethodName} {bytes : ByteArray} {maxL nL mc mz n index b : Nat} {wsy Ts : List Cond} {rm : Room} {As : List Value} {S0 : Type} {ok : S0 → Prop} {w1 ws1 : S0 → va_W} (S : CallFix p m c cc nL s args Ts own) (hM : KN l y wsy rm g (Value.ref b :: As) w0 ok w1 mc mz) (cw : CallB R s args own index y bytes maxL none wsy rm mc mz n ∧ y.name = "<init>" ∧ (Cond.instanceMethod y).before args s = true) (hE : kE g s) (hP : va_P g.1 vwCl ws H) (hD : va_D A ws) (hS : va_S A s.heap H locs) (hA : ∀ q : Nat, s.heap.size ≤ q → A q) (hp : ws.Perm (w0 ++ wr)) (hq : ∀ u, (w1 u ++ wr).Perm (ws1 u)) (hn : As.length = n) (hls : ls.size = nL) (hst : st0 = As.reverse ++ .ref b :: rest) (hW : (rest.map fun v => v.category).sum ≤ 8) (hdg : decode cc pc = .ok (.invokespecial index, 3)) (hf : cells + mc ≤ R.cells ∧ slots + mz ≤ R.slots) (kk : ∀ (u : S0) (H1 : Heap) (locs1 : List Loc), ok u → va_P g.1 vwCl (ws1 u) H1 → va_D A (ws1 u) → va_S A s.heap H1 locs1 → W p l e R s m args below meth c H1 locs1 (cells + mc) (slots + mz) Q (F0 m (pc + 3) ls (rest))) : W p l e R s m args below meth c H locs cells slots Q (F0 m pc ls st0) := by
  subst hst
  refine va_callv (va_runI (As := As) (rest := rest) S (hM H.size) cw ⟨kPre.blind, fun U hU hW => k_pre hE hP hD hp hU hW⟩ rfl hn hls rfl (lv_room hW) hdg hf) hS (fun q _ h => k_free hD hS hA hp q h) (k_free hD hS hA hp) (fun u t H1 locs1 ht hvm hw hB hz1 hk1 hS1 => ?_)
  obtain ⟨hP1, hD1⟩ := hB
  rw [ht] at hP1
  have hj := k_join hP hD hS hA hp (hq u) hk1 hP1 hD1
  exact kk u H1 locs1 hw hj.1 hj.2 hS1
theorem k_INn {own host : String} {y : MethodName} {bytes : ByteArray} {maxL nL mc mz n index b : Nat} {wsy Ts : List Cond} {rm : Room} {As : List Value} {S0 : Type} {ok : S0 → Prop} {w1 ws1 : S0 → va_W} (S : CallFix p m c cc nL s args Ts own) (hM : KN l y wsy rm g (Value.ref b :: As) w0 ok w1 mc mz) (cw : va_CN R s args own index y host bytes maxL none wsy rm mc mz n ∧ y.name = "<init>" ∧ (Cond.instanceMethod y).before args s = true) (hE : kE g s) (hP : va_P g.1 vwCl ws H) (hD : va_D A ws) (hS : va_S A s.heap H locs) (hA : ∀ q : Nat, s.heap.size ≤ q → A q) (hp : ws.Perm (w0 ++ wr)) (hq : ∀ u, (w1 u ++ wr).Perm (ws1 u)) (hn : As.length = n) (hls : ls.size = nL) (hst : st0 = As.reverse ++ .ref b :: rest) (hW : (rest.map fun v => v.category).sum ≤ 8) (hdg : decode cc pc = .ok (.invokespecial index, 3)) (hf : cells + mc ≤ R.cells ∧ slots + mz ≤ R.slots) (kk : ∀ (u : S0) (H1 : Heap) (locs1 : List Loc), ok u → va_P g.1 vwCl (ws1 u) H1 → va_D A (ws1 u) → va_S A s.heap H1 locs1 → W p l e R s m args below meth c H1 locs1 (cells + mc) (slots + mz) Q (F0 m (pc + 3) ls (rest))) : W p l e R s m args below meth c H locs cells slots Q (F0 m pc ls st0) := by
  subst hst
  refine va_callv (va_runIN (As := As) (rest := rest) S (hM H.size) cw ⟨kPre.blind, fun U hU hW => k_pre hE hP hD hp hU hW⟩ rfl hn hls rfl (lv_room hW) hdg hf) hS (fun q _ h => k_free hD hS hA hp q h) (k_free hD hS hA hp) (fun u t H1 locs1 ht hvm hw hB hz1 hk1 hS1 => ?_)
  obtain ⟨hP1, hD1⟩ := hB
  rw [ht] at hP1
  have hj := k_join hP hD hS hA hp (hq u) hk1 hP1 hD1
  exact kk u H1 locs1 hw hj.1 hj.2 hS1
end KR
