/-! new objects -/
def ad2 (x0 x1 : Nat) : Nat → Nat
  | 0 => x0
  | _ => x1
def ad4 (x0 x1 x2 x3 : Nat) : Nat → Nat
  | 0 => x0
  | 1 => x1
  | 2 => x2
  | _ => x3
def ad6 (x0 x1 x2 x3 x4 x5 : Nat) : Nat → Nat
  | 0 => x0
  | 1 => x1
  | 2 => x2
  | 3 => x3
  | 4 => x4
  | _ => x5
def ak6 (x0 x1 x2 x3 x4 x5 : Nat → Nat) : Nat → Nat → Nat
  | 0 => x0
  | 1 => x1
  | 2 => x2
  | 3 => x3
  | 4 => x4
  | _ => x5
abbrev z0 : Nat → Int32 := fun _ => nI 0
abbrev raw0 : List Value := [.null, .int (nI 0)]
abbrev raw1 : List Value := [.null, .null, .null, .int (nI 0), .int (nI 0), .int (nI 0), .int (nI 0), .int (nI 0), .int (nI 0), .int (nI 0), .int (nI 0), .int (nI 0)]
abbrev raw2 : List Value := [.null, .int (nI 0), .int (nI 0)]
abbrev raw3 : List Value := [.null, .null, .null]
abbrev raw4 : List Value := [.int (nI 0), .null, .null, .null, .int (nI 0), .null, .int (nI 0), .int (nI 0), .int (nI 0), .null, .int (nI 0), .long 0]
abbrev H0 : HSt := (z0, z0, z0, nI 0, nI 0, nI 0, nI 0, nI 20, nI 3, nI 10, nI 0, nI 0)
abbrev M0 : MSt := (nI 0, upd (upd (upd z0 0 (nI 20)) 1 (nI 3)) 2 (nI 10), z0, z0, nI 0, z0, nI 0, nI 0, nI 0, z0, nI 0, 0)
abbrev T0 : TSt := (z0, nI 0)
abbrev K0 : KSt := (nI 0, nI 0)
theorem va_RA_inj {U : State} {cA cB : ClassId} {ty : FieldType} (h1 : va_RA U cA ty) (h2 : va_RA U cB ty) : cA = cB := by
  cases ty with
  | object C =>
    obtain ⟨_, _, _, _, _, e1⟩ := h1
    obtain ⟨_, _, _, _, _, e2⟩ := h2
    exact Option.some.inj (e1.symm.trans e2)
  | _ => exact Option.some.inj (Eq.trans (Eq.symm h1) h2)
section KCt
variable {p : Program} {l : Launch} {e : Env} {R : Room} {s : State} {m : MethodId} {args : Array Value} {below : List Frame} {meth : Method} {c : Code} {H : Heap} {locs : List Loc} {cells slots : Nat} {Q : State → Prop}
variable {cc : ByteArray} {pc : Nat} {ls : Array Slot} {rest : List Value} {g : kG} {A : Nat → Prop} {ws : va_W}
theorem k_newi (hexec : p.tables.exec = Jvm.exec) (hb : c.code = cc) (harr : (Cond.arrayClass .int).before args s = true) (hE : kE g s) (hP : va_P g.1 vwCl ws H) (hD : va_D A ws) (hS : va_S A s.heap H locs) (hA : ∀ q : Nat, s.heap.size ≤ q → A q) (N : Nat) (hN : N < 2 ^ 31) (hbytes : N * componentBytes .int ≤ 536870912) (hcells : cells + 1 ≤ R.cells) (hslots : slots + N ≤ R.slots) (hdg : decode cc pc = .ok (.newarray .int, 2))
    (kk : ∀ (q : Nat) (H1 : Heap), va_P g.1 vwCl (ws ++ [(q, .inl (g.2.1, N, .inl z0))]) H1 → va_D A (ws ++ [(q, .inl (g.2.1, N, .inl z0))]) → va_S A s.heap H1 locs → W p l e R s m args below meth c H1 locs (cells + 1) (slots + N) Q (F0 m (pc + 2) ls (.ref q :: rest))) : W p l e R s m args below meth c H locs cells slots Q (F0 m pc ls (.int (nI N) :: rest)) := by
  refine va_newa (atype := .int) (ty := .int) hexec hb harr rfl hE.1 hP hD hS hA (N' := N) (a0 := (N, .inl z0)) (fun cA => vp_cell_i cA N z0) (nI_pos hN) (nI_clamp hN) hbytes hcells hslots hdg (fun q cA H1 hK1 hP1 hD1 hS1 => ?_)
  have e1 : cA = g.2.1 := va_RA_inj (hK1.2 3 (cA, .int) rfl).2 (hE.1.2 0 (g.2.1, .int) rfl).2
  subst e1
  exact kk q H1 hP1 hD1 hS1
theorem k_newc (hexec : p.tables.exec = Jvm.exec) (hb : c.code = cc) (harr : (Cond.arrayClass .char).before args s = true) (hE : kE g s) (hP : va_P g.1 vwCl ws H) (hD : va_D A ws) (hS : va_S A s.heap H locs) (hA : ∀ q : Nat, s.heap.size ≤ q → A q) (N : Nat) (hN : N < 2 ^ 31) (hbytes : N * componentBytes .char ≤ 536870912) (hcells : cells + 1 ≤ R.cells) (hslots : slots + N ≤ R.slots) (hdg : decode cc pc = .ok (.newarray .char, 2))
    (kk : ∀ (q : Nat) (H1 : Heap), va_P g.1 vwCl (ws ++ [(q, .inl (g.2.2.1, N, .inl z0))]) H1 → va_D A (ws ++ [(q, .inl (g.2.2.1, N, .inl z0))]) → va_S A s.heap H1 locs → W p l e R s m args below meth c H1 locs (cells + 1) (slots + N) Q (F0 m (pc + 2) ls (.ref q :: rest))) : W p l e R s m args below meth c H locs cells slots Q (F0 m pc ls (.int (nI N) :: rest)) := by
  refine va_newa (atype := .char) (ty := .char) hexec hb harr rfl hE.1 hP hD hS hA (N' := N) (a0 := (N, .inl z0)) (fun cA => vp_cell_i cA N z0) (nI_pos hN) (nI_clamp hN) hbytes hcells hslots hdg (fun q cA H1 hK1 hP1 hD1 hS1 => ?_)
  have e1 : cA = g.2.2.1 := va_RA_inj (hK1.2 3 (cA, .char) rfl).2 (hE.1.2 1 (g.2.2.1, .char) rfl).2
  subst e1
  exact kk q H1 hP1 hD1 hS1
theorem k_newq (hexec : p.tables.exec = Jvm.exec) (hb : c.code = cc) {own : String} {index : Nat} (hown : s.vm.findClass own = some m.cls) (hclink : (Cond.classLink own index RX1).before args s = true) (hE : kE g s) (hP : va_P g.1 vwCl ws H) (hD : va_D A ws) (hS : va_S A s.heap H locs) (hA : ∀ q : Nat, s.heap.size ≤ q → A q) (N : Nat) (hN : N < 2 ^ 31) (hbytes : N * 4 ≤ 536870912) (hcells : cells + 1 ≤ R.cells) (hslots : slots + N ≤ R.slots) (hdg : decode cc pc = .ok (.anewarray index, 3))
    (kk : ∀ (q : Nat) (H1 : Heap), va_P g.1 vwCl (ws ++ [(q, .inl (g.2.2.2.1, N, .inr (.inr (.inr (.inr (fun _ => none))))))]) H1 → va_D A (ws ++ [(q, .inl (g.2.2.2.1, N, .inr (.inr (.inr (.inr (fun _ => none))))))]) → va_S A s.heap H1 locs → W p l e R s m args below meth c H1 locs (cells + 1) (slots + N) Q (F0 m (pc + 3) ls (.ref q :: rest))) : W p l e R s m args below meth c H locs cells slots Q (F0 m pc ls (.int (nI N) :: rest)) := by
  refine va_newq hexec hb hown hclink hE.2.2 hE.1 hP hD hS hA (N' := N) (nI_pos hN) (nI_clamp hN) hbytes hcells hslots hdg (fun q cA H1 hK1 hP1 hD1 hS1 => ?_)
  have e1 : cA = g.2.2.2.1 := va_RA_inj (hK1.2 3 (cA, .object RX1) rfl).2 (hE.1.2 2 (g.2.2.2.1, .object RX1) rfl).2
  subst e1
  exact kk q H1 hP1 hD1 hS1
theorem k_astq (hexec : p.tables.exec = Jvm.exec) (hb : c.code = cc) (hE : kE g s) (hP : va_P g.1 vwCl ws H) (hD : va_D A ws) (hS : va_S A s.heap H locs) (q0 qk : Nat) {a n v : Nat} {vs : List Value} {f : Nat → Option Nat} (ha : ws[q0]? = some (a, .inl (g.2.2.2.1, n, .inr (.inr (.inr (.inr f)))))) (hv : ws[qk]? = some (v, .inr (1, vs))) (k : Nat) (hk : k < n) (hn : n < 2 ^ 31) (hdg : decode cc pc = .ok (.aastore, 1))
    (kk : ∀ (H1 : Heap) (locs1 : List Loc), va_P g.1 vwCl (ws.set q0 (a, .inl (g.2.2.2.1, n, .inr (.inr (.inr (.inr (va_up f k (some v)))))))) H1 → va_D A (ws.set q0 (a, .inl (g.2.2.2.1, n, .inr (.inr (.inr (.inr (va_up f k (some v)))))))) → va_S A s.heap H1 locs1 → W p l e R s m args below meth c H1 locs1 cells slots Q (F0 m (pc + 1) ls rest)) : W p l e R s m args below meth c H locs cells slots Q (F0 m pc ls (.ref v :: .int (nI k) :: .ref a :: rest)) := by
  refine va_astq hexec hb hE.1 hP hD hS q0 2 qk 1 ha rfl hv rfl (vp_in_nI hk hn) hdg ?_
  rw [nI_clamp (Nat.lt_trans hk hn)]
  exact kk
end KCt
theorem k_PQ_ext {D : va_G} {cl : List vw_C} {p a n : Nat} {cA : ClassId} {ws ws2 : va_W} {f f2 : Nat → Option Nat} {H : Heap} (hq : ws[p]? = some (a, .inl (cA, n, .inr (.inr (.inr (.inr f)))))) (hw : ws.set p (a, .inl (cA, n, .inr (.inr (.inr (.inr f2))))) = ws2) (hf : ∀ k, k < n → f k = f2 k) (hP : va_P D cl ws H) : va_P D cl ws2 H := by
  subst hw
  have hp : p < ws.length := by
    by_cases c : p < ws.length
    · exact c
    · rw [List.getElem?_eq_none (by omega)] at hq; cases hq
  intro k q hq2
  by_cases hk : k = p
  · subst hk
    rw [List.getElem?_set_self hp] at hq2
    cases hq2
    have e : arrV cA n (fun j => va_rf (f j)) = arrV cA n (fun j => va_rf (f2 j)) := by
      have h9 : (fun j : Fin n => (fun j => va_rf (f j)) j.val) = (fun j : Fin n => (fun j => va_rf (f2 j)) j.val) := funext fun j => congrArg va_rf (hf j.val j.isLt)
      exact congrArg (fun z => ({ cls := cA, slots := Array.ofFn z, vm := .none } : Cell)) h9
    show H[a]? = some (arrV cA n (fun j => va_rf (f2 j)))
    rw [← e]
    exact hP k _ hq
  · rw [List.getElem?_set_ne (Ne.symm hk)] at hq2
    exact hP k q hq2
theorem k_pm3 {α : Type} (x B R : List α) : (x ++ (B ++ R)).Perm (B ++ (x ++ R)) := by
  classical exact List.perm_iff_count.mpr (fun y => by simp only [List.count_append]; omega)
theorem k_pm3r {α : Type} (B R x : List α) : (B ++ (R ++ x)).Perm (x ++ (B ++ R)) := by
  classical exact List.perm_iff_count.mpr (fun y => by simp only [List.count_append]; omega)
theorem k_pmX {α : Type} (o h k t : List α) : (o ++ (h ++ (k ++ t))).Perm (o ++ (h ++ (t ++ k))) := by
  classical exact List.perm_iff_count.mpr (fun y => by simp only [List.count_append]; omega)
