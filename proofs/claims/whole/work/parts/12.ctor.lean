/-! new objects -/
def ad2 (x0 x1 : Nat) : Nat → Nat
  | 0 => x0
  | _ => x1
def ad4 (x0 x1 x2 x3 : Nat) : Nat → Nat
  | 0 => x0
  | 1 => x1
  | 2 => x2
  | _ => x3
def ad6 (x0 x1 x2 x3 x4 x5 : Nat) : Nat → Nat
  | 0 => x0
  | 1 => x1
  | 2 => x2
  | 3 => x3
  | 4 => x4
  | _ => x5
def ak6 (x0 x1 x2 x3 x4 x5 : Nat → Nat) : Nat → Nat → Nat
  | 0 => x0
  | 1 => x1
  | 2 => x2
  | 3 => x3
  | 4 => x4
  | _ => x5
abbrev z0 : Nat → Int32 := fun _ => nI 0
abbrev raw0 : List Value := [.null, .int (nI 0)]
abbrev raw1 : List Value := [.null, .null, .null, .int (nI 0), .int (nI 0), .int (nI 0), .int (nI 0), .int (nI 0), .int (nI 0), .int (nI 0), .int (nI 0), .int (nI 0)]
abbrev raw2 : List Value := [.null, .int (nI 0), .int (nI 0)]
abbrev raw3 : List Value := [.null, .null, .null]
abbrev raw4 : List Value := [.int (nI 0), .null, .null, .null, .int (nI 0), .null, .int (nI 0), .int (nI 0), .int (nI 0), .null, .int (nI 0), .long 0]
abbrev H0 : HSt := (z0, z0, z0, nI 0, nI 0, nI 0, nI 0, nI 20, nI 3, nI 10, nI 0, nI 0)
abbrev M0 : MSt := (nI 0, upd (upd (upd z0 0 (nI 20)) 1 (nI 3)) 2 (nI 10), z0, z0, nI 0, z0, nI 0, nI 0, nI 0, z0, nI 0, 0)
abbrev T0 : TSt := (z0, nI 0)
abbrev K0 : KSt := (nI 0, nI 0)
theorem va_RA_inj {U : State} {cA cB : ClassId} {ty : FieldType} (h1 : va_RA U cA ty) (h2 : va_RA U cB ty) : cA = cB := by
  cases ty with
  | object C =>
    obtain ⟨_, _, _, _, _, e1⟩ := h1
    obtain ⟨_, _, _, _, _, e2⟩ := h2
    exact Option.some.inj (e1.symm.trans e2)
  | _ => exact Option.some.inj (Eq.trans (Eq.symm h1) h2)
section KCt
variable {p : Program} {l : Launch} {e : Env} {R : Room} {s : State} {m : MethodId} {args : Array Value} {below : List Frame} {meth : Method} {c : Code} {H : Heap} {locs : List Loc} {cells slots : Nat} {Q : State → Prop}
variable {cc : ByteArray} {pc : Nat} {ls : Array Slot} {rest : List Value} {g : kG} {A : Nat → Prop} {ws : va_W}
theorem k_newi (hexec : p.tables.exec = Jvm.exec) (hb : c.code = cc) (harr : (Cond.arrayClass .int).before args s = true) (hE : kE g s) (hP : va_P g.1 vwCl ws H) (hD : va_D A ws) (hS : va_S A s.heap H locs) (hA : ∀ q : Nat, s.heap.size ≤ q → A q) (N : Nat) (hN : N < 2 ^ 31) (hbytes : N * componentBytes .int ≤ 536870912) (hcells : cells + 1 ≤ R.cells) (hslots : slots + N ≤ R.slots) (hdg : decode cc pc = .ok (.newarray .int, 2))
    (kk : ∀ (q : Nat) (H1 : Heap), va_P g.1 vwCl (ws ++ [(q, .inl (g.2.1, N, .inl z0))]) H1 → va_D A (ws ++ [(q, .inl (g.2.1, N, .inl z0))]) → va_S A s.heap H1 locs → W p l e R s m args below meth c H1 locs (cells + 1) (slots + N) Q (F0 m (pc + 2) ls (.ref q :: rest))) : W p l e R s m args below meth c H locs cells slots Q (F0 m pc ls (.int (nI N) :: rest)) := by
  refine va_newa (ty := .int) hexec hb harr rfl hE.1 hP hD hS hA (N' := N) (a0 := (N, .inl z0)) (fun cA => vp_cell_i cA N z0) (nI_pos hN) (nI_clamp hN) hbytes hcells hslots hdg (fun q cA H1 hK1 hP1 hD1 hS1 => ?_)
  have e1 : cA = g.2.1 := va_RA_inj (hK1.2 4 (cA, .int) rfl).2 (hE.1.2 0 (g.2.1, .int) rfl).2
  subst e1
  exact kk q H1 hP1 hD1 hS1
theorem k_newc (hexec : p.tables.exec = Jvm.exec) (hb : c.code = cc) (harr : (Cond.arrayClass .char).before args s = true) (hE : kE g s) (hP : va_P g.1 vwCl ws H) (hD : va_D A ws) (hS : va_S A s.heap H locs) (hA : ∀ q : Nat, s.heap.size ≤ q → A q) (N : Nat) (hN : N < 2 ^ 31) (hbytes : N * componentBytes .char ≤ 536870912) (hcells : cells + 1 ≤ R.cells) (hslots : slots + N ≤ R.slots) (hdg : decode cc pc = .ok (.newarray .char, 2))
    (kk : ∀ (q : Nat) (H1 : Heap), va_P g.1 vwCl (ws ++ [(q, .inl (g.2.2.1, N, .inl z0))]) H1 → va_D A (ws ++ [(q, .inl (g.2.2.1, N, .inl z0))]) → va_S A s.heap H1 locs → W p l e R s m args below meth c H1 locs (cells + 1) (slots + N) Q (F0 m (pc + 2) ls (.ref q :: rest))) : W p l e R s m args below meth c H locs cells slots Q (F0 m pc ls (.int (nI N) :: rest)) := by
  refine va_newa (ty := .char) hexec hb harr rfl hE.1 hP hD hS hA (N' := N) (a0 := (N, .inl z0)) (fun cA => vp_cell_i cA N z0) (nI_pos hN) (nI_clamp hN) hbytes hcells hslots hdg (fun q cA H1 hK1 hP1 hD1 hS1 => ?_)
  have e1 : cA = g.2.2.1 := va_RA_inj (hK1.2 4 (cA, .char) rfl).2 (hE.1.2 1 (g.2.2.1, .char) rfl).2
  subst e1
  exact kk q H1 hP1 hD1 hS1
theorem k_newq (hexec : p.tables.exec = Jvm.exec) (hb : c.code = cc) {own : String} {index : Nat} (hown : s.vm.findClass own = some m.cls) (hclink : (Cond.classLink own index RX1).before args s = true) (hE : kE g s) (hP : va_P g.1 vwCl ws H) (hD : va_D A ws) (hS : va_S A s.heap H locs) (hA : ∀ q : Nat, s.heap.size ≤ q → A q) (N : Nat) (hN : N < 2 ^ 31) (hbytes : N * 4 ≤ 536870912) (hcells : cells + 1 ≤ R.cells) (hslots : slots + N ≤ R.slots) (hdg : decode cc pc = .ok (.anewarray index, 3))
    (kk : ∀ (q : Nat) (H1 : Heap), va_P g.1 vwCl (ws ++ [(q, .inl (g.2.2.2.1, N, .inr (.inr (.inr (.inr (fun _ => none))))))]) H1 → va_D A (ws ++ [(q, .inl (g.2.2.2.1, N, .inr (.inr (.inr (.inr (fun _ => none))))))]) → va_S A s.heap H1 locs → W p l e R s m args below meth c H1 locs (cells + 1) (slots + N) Q (F0 m (pc + 3) ls (.ref q :: rest))) : W p l e R s m args below meth c H locs cells slots Q (F0 m pc ls (.int (nI N) :: rest)) := by
  refine va_newq hexec hb hown hclink hE.2.2 hE.1 hP hD hS hA (N' := N) (nI_pos hN) (nI_clamp hN) hbytes hcells hslots hdg (fun q cA H1 hK1 hP1 hD1 hS1 => ?_)
  have e1 : cA = g.2.2.2.1 := va_RA_inj (hK1.2 4 (cA, .object RX1) rfl).2 (hE.1.2 2 (g.2.2.2.1, .object RX1) rfl).2
  subst e1
  exact kk q H1 hP1 hD1 hS1
theorem k_astq (hexec : p.tables.exec = Jvm.exec) (hb : c.code = cc) (hE : kE g s) (hP : va_P g.1 vwCl ws H) (hD : va_D A ws) (hS : va_S A s.heap H locs) (q0 qk : Nat) {a n v : Nat} {vs : List Value} {f : Nat → Option Nat} (ha : ws[q0]? = some (a, .inl (g.2.2.2.1, n, .inr (.inr (.inr (.inr f)))))) (hv : ws[qk]? = some (v, .inr (1, vs))) (k : Nat) (hk : k < n) (hn : n < 2 ^ 31) (hdg : decode cc pc = .ok (.aastore, 1))
    (kk : ∀ (H1 : Heap) (locs1 : List Loc), va_P g.1 vwCl (ws.set q0 (a, .inl (g.2.2.2.1, n, .inr (.inr (.inr (.inr (va_up f k (some v)))))))) H1 → va_D A (ws.set q0 (a, .inl (g.2.2.2.1, n, .inr (.inr (.inr (.inr (va_up f k (some v)))))))) → va_S A s.heap H1 locs1 → W p l e R s m args below meth c H1 locs1 cells slots Q (F0 m (pc + 1) ls rest)) : W p l e R s m args below meth c H locs cells slots Q (F0 m pc ls (.ref v :: .int (nI k) :: .ref a :: rest)) := by
  refine va_astq hexec hb hE.1 hP hD hS q0 2 qk 1 ha rfl hv rfl (vp_in_nI hk hn) hdg ?_
  rw [nI_clamp (Nat.lt_trans hk hn)]
  exact kk
end KCt
theorem k_PQ_ext {D : va_G} {cl : List vw_C} {p a n : Nat} {cA : ClassId} {ws ws2 : va_W} {f f2 : Nat → Option Nat} {H : Heap} (hq : ws[p]? = some (a, .inl (cA, n, .inr (.inr (.inr (.inr f)))))) (hw : ws.set p (a, .inl (cA, n, .inr (.inr (.inr (.inr f2))))) = ws2) (hf : ∀ k, k < n → f k = f2 k) (hP : va_P D cl ws H) : va_P D cl ws2 H := by
  subst hw
  have hp : p < ws.length := by
    by_cases c : p < ws.length
    · exact c
    · rw [List.getElem?_eq_none (by omega)] at hq; cases hq
  intro k q hq2
  by_cases hk : k = p
  · subst hk
    rw [List.getElem?_set_self hp] at hq2
    cases hq2
    have e : arrV cA n (fun j => va_rf (f j)) = arrV cA n (fun j => va_rf (f2 j)) := by
      have h9 : (fun j : Fin n => (fun j => va_rf (f j)) j.val) = (fun j : Fin n => (fun j => va_rf (f2 j)) j.val) := funext fun j => congrArg va_rf (hf j.val j.isLt)
      exact congrArg (fun z => ({ cls := cA, slots := Array.ofFn z, vm := .none } : Cell)) h9
    show H[a]? = some (arrV cA n (fun j => va_rf (f2 j)))
    rw [← e]
    exact hP k _ hq
  · rw [List.getElem?_set_ne (Ne.symm hk)] at hq2
    exact hP k q hq2
theorem k_pm3 {α : Type} (x B R : List α) : (x ++ (B ++ R)).Perm (B ++ (x ++ R)) := by
  classical exact List.perm_iff_count.mpr (fun y => by simp only [List.count_append]; omega)
theorem k_pm3r {α : Type} (B R x : List α) : (B ++ (R ++ x)).Perm (x ++ (B ++ R)) := by
  classical exact List.perm_iff_count.mpr (fun y => by simp only [List.count_append]; omega)
theorem k_pmX {α : Type} (o h k t : List α) : (o ++ (h ++ (k ++ t))).Perm (o ++ (h ++ (t ++ k))) := by
  classical exact List.perm_iff_count.mpr (fun y => by simp only [List.count_append]; omega)
set_option maxHeartbeats 4000000 in
set_option maxRecDepth 100000 in
theorem c_X0_init (l : Launch) (g : kG) (b : Nat) : KN l yX0_init wsX0_init ({ frames := 1, cells := 1, slots := 60, locals := 20 }) g [.ref b] [(b, .inr (0, raw0))] (fun u : Nat → Nat => u 0 = b) (fun u => wT g u T0) 1 60 := by
  refine k_begin (cc := cX0_init) (maxL := 1) (ret := none) (Qc := fun A => kQn g (fun u : Nat → Nat => u 0 = b) (fun u => wT g u T0) A) (by decide) rfl (Nat.le_of_ble_eq_true rfl) ?_
  intro p e s m below meth c A ls hF hr hlocks hin hE hP hD hS hA hl
  obtain ⟨hx, hb, hml, hown, hts⟩ := id hF
  have hown : s.vm.findClass RX0 = some m.cls := hown
  have hl : lv_has ls 1 [(0, .ref b)] := hl
  have hP : va_P g.1 vwCl [(b, .inr (0, [.null, .int (nI 0)]))] _ := hP
  have hD : va_D A [(b, .inr (0, [.null, .int (nI 0)]))] := hD
  have hiX0 : ∀ w ∈ wsX00, w ∈ wsX0_init := fun _ h => List.mem_cons_of_mem _ (List.mem_append_right _ (h))
  have oil : (Cond.methodLink RX0 3 objectInit).before _ s = true := hts _ (List.mem_of_getElem? (i := 1) rfl)
  have oii : (Cond.instanceMethod objectInit).before _ s = true := hts _ (List.mem_of_getElem? (i := 2) rfl)
  have ac_char : (Cond.arrayClass .char).before _ s = true := hts _ (List.mem_of_getElem? (i := 4) rfl)
  have f9 : (Cond.fieldLink RX0 9 "ConcertUsher$EventText" "signs" "[C").before _ s = true := hts _ (List.mem_of_getElem? (i := 5) rfl)
  have f15 : (Cond.fieldLink RX0 15 "ConcertUsher$EventText" "length" "I").before _ s = true := hts _ (List.mem_of_getElem? (i := 6) rfl)
  refine lv_aload_n hx hb dX0_init_0 rfl (lv_at hl 0 rfl) ?_
  refine W.objInit hx hb hown oil oii (hts _ (List.mem_of_getElem? (i := 3) rfl)) rfl (by rw [hml]; exact hl.1) rfl dX0_init_1 (Nat.le_of_ble_eq_true rfl) (Nat.le_of_ble_eq_true rfl) ?_
  refine W.eq (g2 := F0 m 4 ls []) rfl ?_
  refine lv_aload_n hx hb dX0_init_4 rfl (lv_at hl 0 rfl) ?_
  refine lv_bipush (v := (nI 60)) hx hb dX0_init_5 (by decide) ?_
  refine k_newc hx hb ac_char hE hP hD hS hA 60 (by decide) (by decide) (Nat.le_of_ble_eq_true rfl) (Nat.le_of_ble_eq_true rfl) dX0_init_7 (fun q1 H hP hD hS => ?_)
  have hP : va_P g.1 vwCl ([(b, .inr (0, [.null, .int (nI 0)]))] ++ [(q1, .inl (g.2.2.1, 60, .inl z0))]) _ := hP
  have hD : va_D A ([(b, .inr (0, [.null, .int (nI 0)]))] ++ [(q1, .inl (g.2.2.1, 60, .inl z0))]) := hD
  refine va_putF (D := g.1) (ci := 0) (v := .ref q1) (ty := tyX0 0) (C := RX0) (T := TX0) (N := 2) hx hb hts hiX0 tyX0 tyX0_ok nmX0 hown hE.1 hP hD hS 0 rfl rfl 0 (by decide) f9 (fun _ h9 => h9) rfl hin rfl (tyX0_ok 0 (by decide)) rfl rfl (Nat.le_of_ble_eq_true rfl) dX0_init_9 (fun H locs hP hD hS => ?_)
  have hP : va_P g.1 vwCl ([(b, .inr (0, [.ref q1, .int (nI 0)]))] ++ [(q1, .inl (g.2.2.1, 60, .inl z0))]) _ := hP
  have hD : va_D A ([(b, .inr (0, [.ref q1, .int (nI 0)]))] ++ [(q1, .inl (g.2.2.1, 60, .inl z0))]) := hD
  refine lv_aload_n hx hb dX0_init_12 rfl (lv_at hl 0 rfl) ?_
  refine lv_iconst (v := (nI 0)) hx hb dX0_init_13 (by decide) ?_
  refine va_put (D := g.1) (ci := 0) (v := .int (nI 0)) (ty := tyX0 1) (C := RX0) (T := TX0) (N := 2) hx hb hts hiX0 tyX0 tyX0_ok nmX0 hown hE.1 hP hD hS 0 rfl rfl 1 (by decide) f15 (fun _ h9 => h9) rfl (tyX0_ok 1 (by decide)) rfl rfl (Nat.le_of_ble_eq_true rfl) dX0_init_14 (fun H locs hP hD hS => ?_)
  have hP : va_P g.1 vwCl ([(b, .inr (0, [.ref q1, .int (nI 0)]))] ++ [(q1, .inl (g.2.2.1, 60, .inl z0))]) _ := hP
  have hD : va_D A ([(b, .inr (0, [.ref q1, .int (nI 0)]))] ++ [(q1, .inl (g.2.2.1, 60, .inl z0))]) := hD
  exact k_nret (ad2 b q1) hx hb hr hlocks rfl hP hD hS (Nat.le_of_ble_eq_true rfl) (Nat.le_of_ble_eq_true rfl) dX0_init_17
set_option maxHeartbeats 4000000 in
set_option maxRecDepth 100000 in
theorem c_X1_init (l : Launch) (g : kG) (b : Nat) : KN l yX1_init wsX1_init ({ frames := 1, cells := 3, slots := 102, locals := 20 }) g [.ref b] [(b, .inr (1, raw1))] (fun u : Nat → Nat => u 0 = b) (fun u => wH g u H0) 3 102 := by
  refine k_begin (cc := cX1_init) (maxL := 1) (ret := none) (Qc := fun A => kQn g (fun u : Nat → Nat => u 0 = b) (fun u => wH g u H0) A) (by decide) rfl (Nat.le_of_ble_eq_true rfl) ?_
  intro p e s m below meth c A ls hF hr hlocks hin hE hP hD hS hA hl
  obtain ⟨hx, hb, hml, hown, hts⟩ := id hF
  have hown : s.vm.findClass RX1 = some m.cls := hown
  have hl : lv_has ls 1 [(0, .ref b)] := hl
  have hP : va_P g.1 vwCl [(b, .inr (1, [.null, .null, .null, .int (nI 0), .int (nI 0), .int (nI 0), .int (nI 0), .int (nI 0), .int (nI 0), .int (nI 0), .int (nI 0), .int (nI 0)]))] _ := hP
  have hD : va_D A [(b, .inr (1, [.null, .null, .null, .int (nI 0), .int (nI 0), .int (nI 0), .int (nI 0), .int (nI 0), .int (nI 0), .int (nI 0), .int (nI 0), .int (nI 0)]))] := hD
  have hiX1 : ∀ w ∈ wsX10, w ∈ wsX1_init := fun _ h => List.mem_cons_of_mem _ (List.mem_append_right _ (h))
  have oil : (Cond.methodLink RX1 3 objectInit).before _ s = true := hts _ (List.mem_of_getElem? (i := 1) rfl)
  have oii : (Cond.instanceMethod objectInit).before _ s = true := hts _ (List.mem_of_getElem? (i := 2) rfl)
  have ac_int : (Cond.arrayClass .int).before _ s = true := hts _ (List.mem_of_getElem? (i := 4) rfl)
  have f9 : (Cond.fieldLink RX1 9 "ConcertUsher$Hall" "listeners" "[I").before _ s = true := hts _ (List.mem_of_getElem? (i := 5) rfl)
  have f15 : (Cond.fieldLink RX1 15 "ConcertUsher$Hall" "rests" "[I").before _ s = true := hts _ (List.mem_of_getElem? (i := 6) rfl)
  have f18 : (Cond.fieldLink RX1 18 "ConcertUsher$Hall" "counts" "[I").before _ s = true := hts _ (List.mem_of_getElem? (i := 7) rfl)
  have f21 : (Cond.fieldLink RX1 21 "ConcertUsher$Hall" "openRows" "I").before _ s = true := hts _ (List.mem_of_getElem? (i := 8) rfl)
  have f25 : (Cond.fieldLink RX1 25 "ConcertUsher$Hall" "isQuick" "Z").before _ s = true := hts _ (List.mem_of_getElem? (i := 9) rfl)
  have f29 : (Cond.fieldLink RX1 29 "ConcertUsher$Hall" "isFirstPresent" "Z").before _ s = true := hts _ (List.mem_of_getElem? (i := 10) rfl)
  have f32 : (Cond.fieldLink RX1 32 "ConcertUsher$Hall" "isSecondPresent" "Z").before _ s = true := hts _ (List.mem_of_getElem? (i := 11) rfl)
  have f35 : (Cond.fieldLink RX1 35 "ConcertUsher$Hall" "fading" "I").before _ s = true := hts _ (List.mem_of_getElem? (i := 12) rfl)
  have f38 : (Cond.fieldLink RX1 38 "ConcertUsher$Hall" "patience" "I").before _ s = true := hts _ (List.mem_of_getElem? (i := 13) rfl)
  have f41 : (Cond.fieldLink RX1 41 "ConcertUsher$Hall" "asking" "I").before _ s = true := hts _ (List.mem_of_getElem? (i := 14) rfl)
  have f44 : (Cond.fieldLink RX1 44 "ConcertUsher$Hall" "minutes" "I").before _ s = true := hts _ (List.mem_of_getElem? (i := 15) rfl)
  have f47 : (Cond.fieldLink RX1 47 "ConcertUsher$Hall" "sinceQuestion" "I").before _ s = true := hts _ (List.mem_of_getElem? (i := 16) rfl)
  refine lv_aload_n hx hb dX1_init_0 rfl (lv_at hl 0 rfl) ?_
  refine W.objInit hx hb hown oil oii (hts _ (List.mem_of_getElem? (i := 3) rfl)) rfl (by rw [hml]; exact hl.1) rfl dX1_init_1 (Nat.le_of_ble_eq_true rfl) (Nat.le_of_ble_eq_true rfl) ?_
  refine W.eq (g2 := F0 m 4 ls []) rfl ?_
  refine lv_aload_n hx hb dX1_init_4 rfl (lv_at hl 0 rfl) ?_
  refine lv_bipush (v := (nI 48)) hx hb dX1_init_5 (by decide) ?_
  refine k_newi hx hb ac_int hE hP hD hS hA 48 (by decide) (by decide) (Nat.le_of_ble_eq_true rfl) (Nat.le_of_ble_eq_true rfl) dX1_init_7 (fun q1 H hP hD hS => ?_)
  have hP : va_P g.1 vwCl ([(b, .inr (1, [.null, .null, .null, .int (nI 0), .int (nI 0), .int (nI 0), .int (nI 0), .int (nI 0), .int (nI 0), .int (nI 0), .int (nI 0), .int (nI 0)]))] ++ [(q1, .inl (g.2.1, 48, .inl z0))]) _ := hP
  have hD : va_D A ([(b, .inr (1, [.null, .null, .null, .int (nI 0), .int (nI 0), .int (nI 0), .int (nI 0), .int (nI 0), .int (nI 0), .int (nI 0), .int (nI 0), .int (nI 0)]))] ++ [(q1, .inl (g.2.1, 48, .inl z0))]) := hD
  refine va_putF (D := g.1) (ci := 1) (v := .ref q1) (ty := tyX1 0) (C := RX1) (T := TX1) (N := 12) hx hb hts hiX1 tyX1 tyX1_ok nmX1 hown hE.1 hP hD hS 0 rfl rfl 0 (by decide) f9 (fun _ h9 => h9) rfl hin rfl (tyX1_ok 0 (by decide)) rfl rfl (Nat.le_of_ble_eq_true rfl) dX1_init_9 (fun H locs hP hD hS => ?_)
  have hP : va_P g.1 vwCl ([(b, .inr (1, [.ref q1, .null, .null, .int (nI 0), .int (nI 0), .int (nI 0), .int (nI 0), .int (nI 0), .int (nI 0), .int (nI 0), .int (nI 0), .int (nI 0)]))] ++ [(q1, .inl (g.2.1, 48, .inl z0))]) _ := hP
  have hD : va_D A ([(b, .inr (1, [.ref q1, .null, .null, .int (nI 0), .int (nI 0), .int (nI 0), .int (nI 0), .int (nI 0), .int (nI 0), .int (nI 0), .int (nI 0), .int (nI 0)]))] ++ [(q1, .inl (g.2.1, 48, .inl z0))]) := hD
  refine lv_aload_n hx hb dX1_init_12 rfl (lv_at hl 0 rfl) ?_
  refine lv_bipush (v := (nI 48)) hx hb dX1_init_13 (by decide) ?_
  refine k_newi hx hb ac_int hE hP hD hS hA 48 (by decide) (by decide) (Nat.le_of_ble_eq_true rfl) (Nat.le_of_ble_eq_true rfl) dX1_init_15 (fun q2 H hP hD hS => ?_)
  have hP : va_P g.1 vwCl ([(b, .inr (1, [.ref q1, .null, .null, .int (nI 0), .int (nI 0), .int (nI 0), .int (nI 0), .int (nI 0), .int (nI 0), .int (nI 0), .int (nI 0), .int (nI 0)]))] ++ ([(q1, .inl (g.2.1, 48, .inl z0))] ++ [(q2, .inl (g.2.1, 48, .inl z0))])) _ := hP
  have hD : va_D A ([(b, .inr (1, [.ref q1, .null, .null, .int (nI 0), .int (nI 0), .int (nI 0), .int (nI 0), .int (nI 0), .int (nI 0), .int (nI 0), .int (nI 0), .int (nI 0)]))] ++ ([(q1, .inl (g.2.1, 48, .inl z0))] ++ [(q2, .inl (g.2.1, 48, .inl z0))])) := hD
  refine va_putF (D := g.1) (ci := 1) (v := .ref q2) (ty := tyX1 1) (C := RX1) (T := TX1) (N := 12) hx hb hts hiX1 tyX1 tyX1_ok nmX1 hown hE.1 hP hD hS 0 rfl rfl 1 (by decide) f15 (fun _ h9 => h9) rfl hin rfl (tyX1_ok 1 (by decide)) rfl rfl (Nat.le_of_ble_eq_true rfl) dX1_init_17 (fun H locs hP hD hS => ?_)
  have hP : va_P g.1 vwCl ([(b, .inr (1, [.ref q1, .ref q2, .null, .int (nI 0), .int (nI 0), .int (nI 0), .int (nI 0), .int (nI 0), .int (nI 0), .int (nI 0), .int (nI 0), .int (nI 0)]))] ++ ([(q1, .inl (g.2.1, 48, .inl z0))] ++ [(q2, .inl (g.2.1, 48, .inl z0))])) _ := hP
  have hD : va_D A ([(b, .inr (1, [.ref q1, .ref q2, .null, .int (nI 0), .int (nI 0), .int (nI 0), .int (nI 0), .int (nI 0), .int (nI 0), .int (nI 0), .int (nI 0), .int (nI 0)]))] ++ ([(q1, .inl (g.2.1, 48, .inl z0))] ++ [(q2, .inl (g.2.1, 48, .inl z0))])) := hD
  refine lv_aload_n hx hb dX1_init_20 rfl (lv_at hl 0 rfl) ?_
  refine lv_bipush (v := (nI 6)) hx hb dX1_init_21 (by decide) ?_
  refine k_newi hx hb ac_int hE hP hD hS hA 6 (by decide) (by decide) (Nat.le_of_ble_eq_true rfl) (Nat.le_of_ble_eq_true rfl) dX1_init_23 (fun q3 H hP hD hS => ?_)
  have hP : va_P g.1 vwCl ([(b, .inr (1, [.ref q1, .ref q2, .null, .int (nI 0), .int (nI 0), .int (nI 0), .int (nI 0), .int (nI 0), .int (nI 0), .int (nI 0), .int (nI 0), .int (nI 0)]))] ++ ([(q1, .inl (g.2.1, 48, .inl z0))] ++ ([(q2, .inl (g.2.1, 48, .inl z0))] ++ [(q3, .inl (g.2.1, 6, .inl z0))]))) _ := hP
  have hD : va_D A ([(b, .inr (1, [.ref q1, .ref q2, .null, .int (nI 0), .int (nI 0), .int (nI 0), .int (nI 0), .int (nI 0), .int (nI 0), .int (nI 0), .int (nI 0), .int (nI 0)]))] ++ ([(q1, .inl (g.2.1, 48, .inl z0))] ++ ([(q2, .inl (g.2.1, 48, .inl z0))] ++ [(q3, .inl (g.2.1, 6, .inl z0))]))) := hD
  refine va_putF (D := g.1) (ci := 1) (v := .ref q3) (ty := tyX1 2) (C := RX1) (T := TX1) (N := 12) hx hb hts hiX1 tyX1 tyX1_ok nmX1 hown hE.1 hP hD hS 0 rfl rfl 2 (by decide) f18 (fun _ h9 => h9) rfl hin rfl (tyX1_ok 2 (by decide)) rfl rfl (Nat.le_of_ble_eq_true rfl) dX1_init_25 (fun H locs hP hD hS => ?_)
  have hP : va_P g.1 vwCl ([(b, .inr (1, [.ref q1, .ref q2, .ref q3, .int (nI 0), .int (nI 0), .int (nI 0), .int (nI 0), .int (nI 0), .int (nI 0), .int (nI 0), .int (nI 0), .int (nI 0)]))] ++ ([(q1, .inl (g.2.1, 48, .inl z0))] ++ ([(q2, .inl (g.2.1, 48, .inl z0))] ++ [(q3, .inl (g.2.1, 6, .inl z0))]))) _ := hP
  have hD : va_D A ([(b, .inr (1, [.ref q1, .ref q2, .ref q3, .int (nI 0), .int (nI 0), .int (nI 0), .int (nI 0), .int (nI 0), .int (nI 0), .int (nI 0), .int (nI 0), .int (nI 0)]))] ++ ([(q1, .inl (g.2.1, 48, .inl z0))] ++ ([(q2, .inl (g.2.1, 48, .inl z0))] ++ [(q3, .inl (g.2.1, 6, .inl z0))]))) := hD
  refine lv_aload_n hx hb dX1_init_28 rfl (lv_at hl 0 rfl) ?_
  refine lv_iconst (v := (nI 0)) hx hb dX1_init_29 (by decide) ?_
  refine va_put (D := g.1) (ci := 1) (v := .int (nI 0)) (ty := tyX1 3) (C := RX1) (T := TX1) (N := 12) hx hb hts hiX1 tyX1 tyX1_ok nmX1 hown hE.1 hP hD hS 0 rfl rfl 3 (by decide) f21 (fun _ h9 => h9) rfl (tyX1_ok 3 (by decide)) rfl rfl (Nat.le_of_ble_eq_true rfl) dX1_init_30 (fun H locs hP hD hS => ?_)
  have hP : va_P g.1 vwCl ([(b, .inr (1, [.ref q1, .ref q2, .ref q3, .int (nI 0), .int (nI 0), .int (nI 0), .int (nI 0), .int (nI 0), .int (nI 0), .int (nI 0), .int (nI 0), .int (nI 0)]))] ++ ([(q1, .inl (g.2.1, 48, .inl z0))] ++ ([(q2, .inl (g.2.1, 48, .inl z0))] ++ [(q3, .inl (g.2.1, 6, .inl z0))]))) _ := hP
  have hD : va_D A ([(b, .inr (1, [.ref q1, .ref q2, .ref q3, .int (nI 0), .int (nI 0), .int (nI 0), .int (nI 0), .int (nI 0), .int (nI 0), .int (nI 0), .int (nI 0), .int (nI 0)]))] ++ ([(q1, .inl (g.2.1, 48, .inl z0))] ++ ([(q2, .inl (g.2.1, 48, .inl z0))] ++ [(q3, .inl (g.2.1, 6, .inl z0))]))) := hD
  refine lv_aload_n hx hb dX1_init_33 rfl (lv_at hl 0 rfl) ?_
  refine lv_iconst (v := (nI 0)) hx hb dX1_init_34 (by decide) ?_
  refine va_put (D := g.1) (ci := 1) (v := .int (nI 0)) (ty := tyX1 4) (C := RX1) (T := TX1) (N := 12) hx hb hts hiX1 tyX1 tyX1_ok nmX1 hown hE.1 hP hD hS 0 rfl rfl 4 (by decide) f25 (fun _ h9 => h9) rfl (tyX1_ok 4 (by decide)) rfl rfl (Nat.le_of_ble_eq_true rfl) dX1_init_35 (fun H locs hP hD hS => ?_)
  have hP : va_P g.1 vwCl ([(b, .inr (1, [.ref q1, .ref q2, .ref q3, .int (nI 0), .int (nI 0), .int (nI 0), .int (nI 0), .int (nI 0), .int (nI 0), .int (nI 0), .int (nI 0), .int (nI 0)]))] ++ ([(q1, .inl (g.2.1, 48, .inl z0))] ++ ([(q2, .inl (g.2.1, 48, .inl z0))] ++ [(q3, .inl (g.2.1, 6, .inl z0))]))) _ := hP
  have hD : va_D A ([(b, .inr (1, [.ref q1, .ref q2, .ref q3, .int (nI 0), .int (nI 0), .int (nI 0), .int (nI 0), .int (nI 0), .int (nI 0), .int (nI 0), .int (nI 0), .int (nI 0)]))] ++ ([(q1, .inl (g.2.1, 48, .inl z0))] ++ ([(q2, .inl (g.2.1, 48, .inl z0))] ++ [(q3, .inl (g.2.1, 6, .inl z0))]))) := hD
  refine lv_aload_n hx hb dX1_init_38 rfl (lv_at hl 0 rfl) ?_
  refine lv_iconst (v := (nI 0)) hx hb dX1_init_39 (by decide) ?_
  refine va_put (D := g.1) (ci := 1) (v := .int (nI 0)) (ty := tyX1 5) (C := RX1) (T := TX1) (N := 12) hx hb hts hiX1 tyX1 tyX1_ok nmX1 hown hE.1 hP hD hS 0 rfl rfl 5 (by decide) f29 (fun _ h9 => h9) rfl (tyX1_ok 5 (by decide)) rfl rfl (Nat.le_of_ble_eq_true rfl) dX1_init_40 (fun H locs hP hD hS => ?_)
  have hP : va_P g.1 vwCl ([(b, .inr (1, [.ref q1, .ref q2, .ref q3, .int (nI 0), .int (nI 0), .int (nI 0), .int (nI 0), .int (nI 0), .int (nI 0), .int (nI 0), .int (nI 0), .int (nI 0)]))] ++ ([(q1, .inl (g.2.1, 48, .inl z0))] ++ ([(q2, .inl (g.2.1, 48, .inl z0))] ++ [(q3, .inl (g.2.1, 6, .inl z0))]))) _ := hP
  have hD : va_D A ([(b, .inr (1, [.ref q1, .ref q2, .ref q3, .int (nI 0), .int (nI 0), .int (nI 0), .int (nI 0), .int (nI 0), .int (nI 0), .int (nI 0), .int (nI 0), .int (nI 0)]))] ++ ([(q1, .inl (g.2.1, 48, .inl z0))] ++ ([(q2, .inl (g.2.1, 48, .inl z0))] ++ [(q3, .inl (g.2.1, 6, .inl z0))]))) := hD
  refine lv_aload_n hx hb dX1_init_43 rfl (lv_at hl 0 rfl) ?_
  refine lv_iconst (v := (nI 0)) hx hb dX1_init_44 (by decide) ?_
  refine va_put (D := g.1) (ci := 1) (v := .int (nI 0)) (ty := tyX1 6) (C := RX1) (T := TX1) (N := 12) hx hb hts hiX1 tyX1 tyX1_ok nmX1 hown hE.1 hP hD hS 0 rfl rfl 6 (by decide) f32 (fun _ h9 => h9) rfl (tyX1_ok 6 (by decide)) rfl rfl (Nat.le_of_ble_eq_true rfl) dX1_init_45 (fun H locs hP hD hS => ?_)
  have hP : va_P g.1 vwCl ([(b, .inr (1, [.ref q1, .ref q2, .ref q3, .int (nI 0), .int (nI 0), .int (nI 0), .int (nI 0), .int (nI 0), .int (nI 0), .int (nI 0), .int (nI 0), .int (nI 0)]))] ++ ([(q1, .inl (g.2.1, 48, .inl z0))] ++ ([(q2, .inl (g.2.1, 48, .inl z0))] ++ [(q3, .inl (g.2.1, 6, .inl z0))]))) _ := hP
  have hD : va_D A ([(b, .inr (1, [.ref q1, .ref q2, .ref q3, .int (nI 0), .int (nI 0), .int (nI 0), .int (nI 0), .int (nI 0), .int (nI 0), .int (nI 0), .int (nI 0), .int (nI 0)]))] ++ ([(q1, .inl (g.2.1, 48, .inl z0))] ++ ([(q2, .inl (g.2.1, 48, .inl z0))] ++ [(q3, .inl (g.2.1, 6, .inl z0))]))) := hD
  refine lv_aload_n hx hb dX1_init_48 rfl (lv_at hl 0 rfl) ?_
  refine lv_bipush (v := (nI 20)) hx hb dX1_init_49 (by decide) ?_
  refine va_put (D := g.1) (ci := 1) (v := .int (nI 20)) (ty := tyX1 7) (C := RX1) (T := TX1) (N := 12) hx hb hts hiX1 tyX1 tyX1_ok nmX1 hown hE.1 hP hD hS 0 rfl rfl 7 (by decide) f35 (fun _ h9 => h9) rfl (tyX1_ok 7 (by decide)) rfl rfl (Nat.le_of_ble_eq_true rfl) dX1_init_51 (fun H locs hP hD hS => ?_)
  have hP : va_P g.1 vwCl ([(b, .inr (1, [.ref q1, .ref q2, .ref q3, .int (nI 0), .int (nI 0), .int (nI 0), .int (nI 0), .int (nI 20), .int (nI 0), .int (nI 0), .int (nI 0), .int (nI 0)]))] ++ ([(q1, .inl (g.2.1, 48, .inl z0))] ++ ([(q2, .inl (g.2.1, 48, .inl z0))] ++ [(q3, .inl (g.2.1, 6, .inl z0))]))) _ := hP
  have hD : va_D A ([(b, .inr (1, [.ref q1, .ref q2, .ref q3, .int (nI 0), .int (nI 0), .int (nI 0), .int (nI 0), .int (nI 20), .int (nI 0), .int (nI 0), .int (nI 0), .int (nI 0)]))] ++ ([(q1, .inl (g.2.1, 48, .inl z0))] ++ ([(q2, .inl (g.2.1, 48, .inl z0))] ++ [(q3, .inl (g.2.1, 6, .inl z0))]))) := hD
  refine lv_aload_n hx hb dX1_init_54 rfl (lv_at hl 0 rfl) ?_
  refine lv_iconst (v := (nI 3)) hx hb dX1_init_55 (by decide) ?_
  refine va_put (D := g.1) (ci := 1) (v := .int (nI 3)) (ty := tyX1 8) (C := RX1) (T := TX1) (N := 12) hx hb hts hiX1 tyX1 tyX1_ok nmX1 hown hE.1 hP hD hS 0 rfl rfl 8 (by decide) f38 (fun _ h9 => h9) rfl (tyX1_ok 8 (by decide)) rfl rfl (Nat.le_of_ble_eq_true rfl) dX1_init_56 (fun H locs hP hD hS => ?_)
  have hP : va_P g.1 vwCl ([(b, .inr (1, [.ref q1, .ref q2, .ref q3, .int (nI 0), .int (nI 0), .int (nI 0), .int (nI 0), .int (nI 20), .int (nI 3), .int (nI 0), .int (nI 0), .int (nI 0)]))] ++ ([(q1, .inl (g.2.1, 48, .inl z0))] ++ ([(q2, .inl (g.2.1, 48, .inl z0))] ++ [(q3, .inl (g.2.1, 6, .inl z0))]))) _ := hP
  have hD : va_D A ([(b, .inr (1, [.ref q1, .ref q2, .ref q3, .int (nI 0), .int (nI 0), .int (nI 0), .int (nI 0), .int (nI 20), .int (nI 3), .int (nI 0), .int (nI 0), .int (nI 0)]))] ++ ([(q1, .inl (g.2.1, 48, .inl z0))] ++ ([(q2, .inl (g.2.1, 48, .inl z0))] ++ [(q3, .inl (g.2.1, 6, .inl z0))]))) := hD
  refine lv_aload_n hx hb dX1_init_59 rfl (lv_at hl 0 rfl) ?_
  refine lv_bipush (v := (nI 10)) hx hb dX1_init_60 (by decide) ?_
  refine va_put (D := g.1) (ci := 1) (v := .int (nI 10)) (ty := tyX1 9) (C := RX1) (T := TX1) (N := 12) hx hb hts hiX1 tyX1 tyX1_ok nmX1 hown hE.1 hP hD hS 0 rfl rfl 9 (by decide) f41 (fun _ h9 => h9) rfl (tyX1_ok 9 (by decide)) rfl rfl (Nat.le_of_ble_eq_true rfl) dX1_init_62 (fun H locs hP hD hS => ?_)
  have hP : va_P g.1 vwCl ([(b, .inr (1, [.ref q1, .ref q2, .ref q3, .int (nI 0), .int (nI 0), .int (nI 0), .int (nI 0), .int (nI 20), .int (nI 3), .int (nI 10), .int (nI 0), .int (nI 0)]))] ++ ([(q1, .inl (g.2.1, 48, .inl z0))] ++ ([(q2, .inl (g.2.1, 48, .inl z0))] ++ [(q3, .inl (g.2.1, 6, .inl z0))]))) _ := hP
  have hD : va_D A ([(b, .inr (1, [.ref q1, .ref q2, .ref q3, .int (nI 0), .int (nI 0), .int (nI 0), .int (nI 0), .int (nI 20), .int (nI 3), .int (nI 10), .int (nI 0), .int (nI 0)]))] ++ ([(q1, .inl (g.2.1, 48, .inl z0))] ++ ([(q2, .inl (g.2.1, 48, .inl z0))] ++ [(q3, .inl (g.2.1, 6, .inl z0))]))) := hD
  refine lv_aload_n hx hb dX1_init_65 rfl (lv_at hl 0 rfl) ?_
  refine lv_iconst (v := (nI 0)) hx hb dX1_init_66 (by decide) ?_
  refine va_put (D := g.1) (ci := 1) (v := .int (nI 0)) (ty := tyX1 10) (C := RX1) (T := TX1) (N := 12) hx hb hts hiX1 tyX1 tyX1_ok nmX1 hown hE.1 hP hD hS 0 rfl rfl 10 (by decide) f44 (fun _ h9 => h9) rfl (tyX1_ok 10 (by decide)) rfl rfl (Nat.le_of_ble_eq_true rfl) dX1_init_67 (fun H locs hP hD hS => ?_)
  have hP : va_P g.1 vwCl ([(b, .inr (1, [.ref q1, .ref q2, .ref q3, .int (nI 0), .int (nI 0), .int (nI 0), .int (nI 0), .int (nI 20), .int (nI 3), .int (nI 10), .int (nI 0), .int (nI 0)]))] ++ ([(q1, .inl (g.2.1, 48, .inl z0))] ++ ([(q2, .inl (g.2.1, 48, .inl z0))] ++ [(q3, .inl (g.2.1, 6, .inl z0))]))) _ := hP
  have hD : va_D A ([(b, .inr (1, [.ref q1, .ref q2, .ref q3, .int (nI 0), .int (nI 0), .int (nI 0), .int (nI 0), .int (nI 20), .int (nI 3), .int (nI 10), .int (nI 0), .int (nI 0)]))] ++ ([(q1, .inl (g.2.1, 48, .inl z0))] ++ ([(q2, .inl (g.2.1, 48, .inl z0))] ++ [(q3, .inl (g.2.1, 6, .inl z0))]))) := hD
  refine lv_aload_n hx hb dX1_init_70 rfl (lv_at hl 0 rfl) ?_
  refine lv_iconst (v := (nI 0)) hx hb dX1_init_71 (by decide) ?_
  refine va_put (D := g.1) (ci := 1) (v := .int (nI 0)) (ty := tyX1 11) (C := RX1) (T := TX1) (N := 12) hx hb hts hiX1 tyX1 tyX1_ok nmX1 hown hE.1 hP hD hS 0 rfl rfl 11 (by decide) f47 (fun _ h9 => h9) rfl (tyX1_ok 11 (by decide)) rfl rfl (Nat.le_of_ble_eq_true rfl) dX1_init_72 (fun H locs hP hD hS => ?_)
  have hP : va_P g.1 vwCl ([(b, .inr (1, [.ref q1, .ref q2, .ref q3, .int (nI 0), .int (nI 0), .int (nI 0), .int (nI 0), .int (nI 20), .int (nI 3), .int (nI 10), .int (nI 0), .int (nI 0)]))] ++ ([(q1, .inl (g.2.1, 48, .inl z0))] ++ ([(q2, .inl (g.2.1, 48, .inl z0))] ++ [(q3, .inl (g.2.1, 6, .inl z0))]))) _ := hP
  have hD : va_D A ([(b, .inr (1, [.ref q1, .ref q2, .ref q3, .int (nI 0), .int (nI 0), .int (nI 0), .int (nI 0), .int (nI 20), .int (nI 3), .int (nI 10), .int (nI 0), .int (nI 0)]))] ++ ([(q1, .inl (g.2.1, 48, .inl z0))] ++ ([(q2, .inl (g.2.1, 48, .inl z0))] ++ [(q3, .inl (g.2.1, 6, .inl z0))]))) := hD
  exact k_nret (ad4 b q1 q2 q3) hx hb hr hlocks rfl hP hD hS (Nat.le_of_ble_eq_true rfl) (Nat.le_of_ble_eq_true rfl) dX1_init_75
set_option maxHeartbeats 4000000 in
set_option maxRecDepth 100000 in
theorem c_X2_init (l : Launch) (g : kG) (b : Nat) : KN l yX2_init wsX2_init ({ frames := 2, cells := 25, slots := 690, locals := 40 }) g [.ref b] [(b, .inr (2, raw2))] (fun u : (Nat → Nat) × (Nat → Nat → Nat) => u.1 0 = b) (fun u => (wK0 g u.1 u.2 K0) ++ (wHs g u.2 (fun _ => H0) 6)) 25 690 := by
  refine k_begin (cc := cX2_init) (maxL := 2) (ret := none) (Qc := fun A => kQn g (fun u : (Nat → Nat) × (Nat → Nat → Nat) => u.1 0 = b) (fun u => (wK0 g u.1 u.2 K0) ++ (wHs g u.2 (fun _ => H0) 6)) A) (by decide) rfl (Nat.le_of_ble_eq_true rfl) ?_
  intro p e s m below meth c A ls hF hr hlocks hin hE hP hD hS hA hl
  obtain ⟨hx, hb, hml, hown, hts⟩ := id hF
  have hown : s.vm.findClass RX2 = some m.cls := hown
  have hl : lv_has ls 2 [(0, .ref b)] := hl
  have hP : va_P g.1 vwCl [(b, .inr (2, [.null, .int (nI 0), .int (nI 0)]))] _ := hP
  have hD : va_D A [(b, .inr (2, [.null, .int (nI 0), .int (nI 0)]))] := hD
  have hiX2 : ∀ w ∈ wsX20, w ∈ wsX2_init := fun _ h => List.mem_cons_of_mem _ (List.mem_append_left _ (List.mem_append_right _ (h)))
  have hiX1 : ∀ w ∈ wsX10, w ∈ wsX2_init := fun _ h => List.mem_cons_of_mem _ (List.mem_append_right _ (h))
  have oil : (Cond.methodLink RX2 3 objectInit).before _ s = true := hts _ (List.mem_of_getElem? (i := 1) rfl)
  have oii : (Cond.instanceMethod objectInit).before _ s = true := hts _ (List.mem_of_getElem? (i := 2) rfl)
  have cl9 : (Cond.classLink RX2 9 RX1).before _ s = true := hts _ (List.mem_of_getElem? (i := 4) rfl)
  have f11 : (Cond.fieldLink RX2 11 "ConcertUsher$History" "halls" "[LConcertUsher$Hall;").before _ s = true := hts _ (List.mem_of_getElem? (i := 5) rfl)
  have f17 : (Cond.fieldLink RX2 17 "ConcertUsher$History" "oldest" "I").before _ s = true := hts _ (List.mem_of_getElem? (i := 6) rfl)
  have f21 : (Cond.fieldLink RX2 21 "ConcertUsher$History" "size" "I").before _ s = true := hts _ (List.mem_of_getElem? (i := 7) rfl)
  have inX1 : (Cond.instantiable RX1 12).before _ s = true := hts _ (List.mem_of_getElem? (i := 8) rfl)
  have iniX1 : (Cond.initialized RX1).before _ s = true := hts _ (List.mem_of_getElem? (i := 9) rfl)
  have imX1 : (Cond.instanceMethod yX1_init).before _ s = true := hts _ (List.mem_of_getElem? (i := 10) rfl)
  refine lv_aload_n hx hb dX2_init_0 rfl (lv_at hl 0 rfl) ?_
  refine W.objInit hx hb hown oil oii (hts _ (List.mem_of_getElem? (i := 3) rfl)) rfl (by rw [hml]; exact hl.1) rfl dX2_init_1 (Nat.le_of_ble_eq_true rfl) (Nat.le_of_ble_eq_true rfl) ?_
  refine W.eq (g2 := F0 m 4 ls []) rfl ?_
  refine lv_aload_n hx hb dX2_init_4 rfl (lv_at hl 0 rfl) ?_
  refine lv_bipush (v := (nI 6)) hx hb dX2_init_5 (by decide) ?_
  refine k_newq hx hb hown cl9 hE hP hD hS hA 6 (by decide) (by decide) (Nat.le_of_ble_eq_true rfl) (Nat.le_of_ble_eq_true rfl) dX2_init_7 (fun q1 H hP hD hS => ?_)
  have hP : va_P g.1 vwCl ([(b, .inr (2, [.null, .int (nI 0), .int (nI 0)]))] ++ [(q1, .inl (g.2.2.2.1, 6, .inr (.inr (.inr (.inr (fun _ => none))))))]) _ := hP
  have hD : va_D A ([(b, .inr (2, [.null, .int (nI 0), .int (nI 0)]))] ++ [(q1, .inl (g.2.2.2.1, 6, .inr (.inr (.inr (.inr (fun _ => none))))))]) := hD
  refine va_putF (D := g.1) (ci := 2) (v := .ref q1) (ty := tyX2 0) (C := RX2) (T := TX2) (N := 3) hx hb hts hiX2 tyX2 tyX2_ok nmX2 hown hE.1 hP hD hS 0 rfl rfl 0 (by decide) f11 (fun _ h9 => h9) rfl hin rfl (tyX2_ok 0 (by decide)) rfl rfl (Nat.le_of_ble_eq_true rfl) dX2_init_10 (fun H locs hP hD hS => ?_)
  have hP : va_P g.1 vwCl ([(b, .inr (2, [.ref q1, .int (nI 0), .int (nI 0)]))] ++ [(q1, .inl (g.2.2.2.1, 6, .inr (.inr (.inr (.inr (fun _ => none))))))]) _ := hP
  have hD : va_D A ([(b, .inr (2, [.ref q1, .int (nI 0), .int (nI 0)]))] ++ [(q1, .inl (g.2.2.2.1, 6, .inr (.inr (.inr (.inr (fun _ => none))))))]) := hD
  refine lv_aload_n hx hb dX2_init_13 rfl (lv_at hl 0 rfl) ?_
  refine lv_iconst (v := (nI 0)) hx hb dX2_init_14 (by decide) ?_
  refine va_put (D := g.1) (ci := 2) (v := .int (nI 0)) (ty := tyX2 1) (C := RX2) (T := TX2) (N := 3) hx hb hts hiX2 tyX2 tyX2_ok nmX2 hown hE.1 hP hD hS 0 rfl rfl 1 (by decide) f17 (fun _ h9 => h9) rfl (tyX2_ok 1 (by decide)) rfl rfl (Nat.le_of_ble_eq_true rfl) dX2_init_15 (fun H locs hP hD hS => ?_)
  have hP : va_P g.1 vwCl ([(b, .inr (2, [.ref q1, .int (nI 0), .int (nI 0)]))] ++ [(q1, .inl (g.2.2.2.1, 6, .inr (.inr (.inr (.inr (fun _ => none))))))]) _ := hP
  have hD : va_D A ([(b, .inr (2, [.ref q1, .int (nI 0), .int (nI 0)]))] ++ [(q1, .inl (g.2.2.2.1, 6, .inr (.inr (.inr (.inr (fun _ => none))))))]) := hD
  refine lv_aload_n hx hb dX2_init_18 rfl (lv_at hl 0 rfl) ?_
  refine lv_iconst (v := (nI 0)) hx hb dX2_init_19 (by decide) ?_
  refine va_put (D := g.1) (ci := 2) (v := .int (nI 0)) (ty := tyX2 2) (C := RX2) (T := TX2) (N := 3) hx hb hts hiX2 tyX2 tyX2_ok nmX2 hown hE.1 hP hD hS 0 rfl rfl 2 (by decide) f21 (fun _ h9 => h9) rfl (tyX2_ok 2 (by decide)) rfl rfl (Nat.le_of_ble_eq_true rfl) dX2_init_20 (fun H locs hP hD hS => ?_)
  have hP : va_P g.1 vwCl ([(b, .inr (2, [.ref q1, .int (nI 0), .int (nI 0)]))] ++ [(q1, .inl (g.2.2.2.1, 6, .inr (.inr (.inr (.inr (fun _ => none))))))]) _ := hP
  have hD : va_D A ([(b, .inr (2, [.ref q1, .int (nI 0), .int (nI 0)]))] ++ [(q1, .inl (g.2.2.2.1, 6, .inr (.inr (.inr (.inr (fun _ => none))))))]) := hD
  refine lv_iconst (v := (nI 0)) hx hb dX2_init_23 (by decide) ?_
  refine lv_istore_n (lv' := [(1, .int (nI 0)), (0, .ref b)]) hx hb dX2_init_24 rfl hl (by decide) rfl (fun ls hl => ?_)
  refine lv_iload_n hx hb dX2_init_25 rfl (lv_at hl 0 rfl) ?_
  refine lv_bipush (v := (nI 6)) hx hb dX2_init_26 (by decide) ?_
  refine k_geN (tgt := 50) hx hb (by decide) (by decide) dX2_init_28 (by decide) (fun c2 => absurd c2 (by decide)) (fun c2 => ?_)
  refine lv_aload_n hx hb dX2_init_31 rfl (lv_at hl 1 rfl) ?_
  refine va_get (D := g.1) (ci := 2) (v := .ref q1) (C := RX2) (T := TX2) (N := 3) hx hb hts hiX2 hown hE.1 hP 0 rfl rfl 0 (by decide) f11 (fun _ h9 => h9) rfl dX2_init_32 ?_
  refine lv_iload_n hx hb dX2_init_35 rfl (lv_at hl 0 rfl) ?_
  refine va_new (ci := 1) (C := RX1) (T := TX1) (N := 12) (fs := raw1) hx hb hts hiX1 tyX1 tyX1_ok hown cl9 inX1 iniX1 hE.1 hP hD hS hA rfl (fun j hj => by rcases (show j = 0 ∨ j = 1 ∨ j = 2 ∨ j = 3 ∨ j = 4 ∨ j = 5 ∨ j = 6 ∨ j = 7 ∨ j = 8 ∨ j = 9 ∨ j = 10 ∨ j = 11 by omega) with rfl | rfl | rfl | rfl | rfl | rfl | rfl | rfl | rfl | rfl | rfl | rfl <;> rfl) (Nat.le_of_ble_eq_true rfl) (Nat.le_of_ble_eq_true rfl) dX2_init_36 (fun q3 H hP hD hS => ?_)
  have hP : va_P g.1 vwCl ([(b, .inr (2, [.ref q1, .int (nI 0), .int (nI 0)]))] ++ ([(q1, .inl (g.2.2.2.1, 6, .inr (.inr (.inr (.inr (fun _ => none))))))] ++ [(q3, .inr (1, raw1))])) _ := hP
  have hD : va_D A ([(b, .inr (2, [.ref q1, .int (nI 0), .int (nI 0)]))] ++ ([(q1, .inl (g.2.2.2.1, 6, .inr (.inr (.inr (.inr (fun _ => none))))))] ++ [(q3, .inr (1, raw1))])) := hD
  refine lv_dup hx hb dX2_init_39 rfl ?_
  have hP : va_P g.1 vwCl (([(b, .inr (2, [.ref q1, .int (nI 0), .int (nI 0)]))] ++ [(q1, .inl (g.2.2.2.1, 6, .inr (.inr (.inr (.inr (fun _ => none))))))]) ++ ([] ++ [(q3, .inr (1, raw1))])) _ := hP
  have hD : va_D A (([(b, .inr (2, [.ref q1, .int (nI 0), .int (nI 0)]))] ++ [(q1, .inl (g.2.2.2.1, 6, .inr (.inr (.inr (.inr (fun _ => none))))))]) ++ ([] ++ [(q3, .inr (1, raw1))])) := hD
  refine k_INn (As := []) (ws1 := (fun u => ([(b, .inr (2, [.ref q1, .int (nI 0), .int (nI 0)]))] ++ [(q1, .inl (g.2.2.2.1, 6, .inr (.inr (.inr (.inr (fun _ => none))))))]) ++ ((wH g u H0) ++ []))) hF (c_X1_init l g q3) ⟨va_cnB 0 hts gX2_init_X1_init_n24 rfl rfl rfl hE.2.1.2.1 iniX1 (by decide +kernel) ⟨(Nat.le_of_ble_eq_true rfl), (Nat.le_of_ble_eq_true rfl)⟩, rfl, imX1⟩ hE hP hD hS hA (k_pm3r _ _ _) (fun _ => k_pm3 _ _ _) rfl hl.1 rfl (Nat.le_of_ble_eq_true rfl) dX2_init_40 ⟨(Nat.le_of_ble_eq_true rfl), (Nat.le_of_ble_eq_true rfl)⟩ (fun u4 H locs hu hP hD hS => ?_)
  have hu : (u4 0) = q3 := hu
  subst hu
  have hP : va_P g.1 vwCl ([(b, .inr (2, [.ref q1, .int (nI 0), .int (nI 0)]))] ++ ([(q1, .inl (g.2.2.2.1, 6, .inr (.inr (.inr (.inr (fun _ => none))))))] ++ (wH g u4 H0))) _ := hP
  have hD : va_D A ([(b, .inr (2, [.ref q1, .int (nI 0), .int (nI 0)]))] ++ ([(q1, .inl (g.2.2.2.1, 6, .inr (.inr (.inr (.inr (fun _ => none))))))] ++ (wH g u4 H0))) := hD
  refine k_astq (f := (fun _ => none)) hx hb hE hP hD hS 1 2 rfl rfl 0 (by decide) (by decide) dX2_init_43 (fun H locs hP hD hS => ?_)
  have hP : va_P g.1 vwCl ([(b, .inr (2, [.ref q1, .int (nI 0), .int (nI 0)]))] ++ ([(q1, .inl (g.2.2.2.1, 6, .inr (.inr (.inr (.inr (va_up (fun _ => none) 0 (some (u4 0))))))))] ++ (wH g u4 H0))) _ := hP
  have hD : va_D A ([(b, .inr (2, [.ref q1, .int (nI 0), .int (nI 0)]))] ++ ([(q1, .inl (g.2.2.2.1, 6, .inr (.inr (.inr (.inr (va_up (fun _ => none) 0 (some (u4 0))))))))] ++ (wH g u4 H0))) := hD
  refine lv_iinc (v := (nI 1)) (lv' := [(1, .int (nI 1)), (0, .ref b)]) hx hb dX2_init_44 hl (k := 0) rfl (k_inc1 _) (by decide) rfl (fun ls hl => ?_)
  refine lv_goto (tgt := 25) hx hb dX2_init_47 (by decide) ?_
  refine lv_iload_n hx hb dX2_init_25 rfl (lv_at hl 0 rfl) ?_
  refine lv_bipush (v := (nI 6)) hx hb dX2_init_26 (by decide) ?_
  refine k_geN (tgt := 50) hx hb (by decide) (by decide) dX2_init_28 (by decide) (fun c5 => absurd c5 (by decide)) (fun c5 => ?_)
  refine lv_aload_n hx hb dX2_init_31 rfl (lv_at hl 1 rfl) ?_
  refine va_get (D := g.1) (ci := 2) (v := .ref q1) (C := RX2) (T := TX2) (N := 3) hx hb hts hiX2 hown hE.1 hP 0 rfl rfl 0 (by decide) f11 (fun _ h9 => h9) rfl dX2_init_32 ?_
  refine lv_iload_n hx hb dX2_init_35 rfl (lv_at hl 0 rfl) ?_
  refine va_new (ci := 1) (C := RX1) (T := TX1) (N := 12) (fs := raw1) hx hb hts hiX1 tyX1 tyX1_ok hown cl9 inX1 iniX1 hE.1 hP hD hS hA rfl (fun j hj => by rcases (show j = 0 ∨ j = 1 ∨ j = 2 ∨ j = 3 ∨ j = 4 ∨ j = 5 ∨ j = 6 ∨ j = 7 ∨ j = 8 ∨ j = 9 ∨ j = 10 ∨ j = 11 by omega) with rfl | rfl | rfl | rfl | rfl | rfl | rfl | rfl | rfl | rfl | rfl | rfl <;> rfl) (Nat.le_of_ble_eq_true rfl) (Nat.le_of_ble_eq_true rfl) dX2_init_36 (fun q6 H hP hD hS => ?_)
  have hP : va_P g.1 vwCl ([(b, .inr (2, [.ref q1, .int (nI 0), .int (nI 0)]))] ++ ([(q1, .inl (g.2.2.2.1, 6, .inr (.inr (.inr (.inr (va_up (fun _ => none) 0 (some (u4 0))))))))] ++ ((wH g u4 H0) ++ [(q6, .inr (1, raw1))]))) _ := hP
  have hD : va_D A ([(b, .inr (2, [.ref q1, .int (nI 0), .int (nI 0)]))] ++ ([(q1, .inl (g.2.2.2.1, 6, .inr (.inr (.inr (.inr (va_up (fun _ => none) 0 (some (u4 0))))))))] ++ ((wH g u4 H0) ++ [(q6, .inr (1, raw1))]))) := hD
  refine lv_dup hx hb dX2_init_39 rfl ?_
  have hP : va_P g.1 vwCl (([(b, .inr (2, [.ref q1, .int (nI 0), .int (nI 0)]))] ++ [(q1, .inl (g.2.2.2.1, 6, .inr (.inr (.inr (.inr (va_up (fun _ => none) 0 (some (u4 0))))))))]) ++ ((wH g u4 H0) ++ [(q6, .inr (1, raw1))])) _ := hP
  have hD : va_D A (([(b, .inr (2, [.ref q1, .int (nI 0), .int (nI 0)]))] ++ [(q1, .inl (g.2.2.2.1, 6, .inr (.inr (.inr (.inr (va_up (fun _ => none) 0 (some (u4 0))))))))]) ++ ((wH g u4 H0) ++ [(q6, .inr (1, raw1))])) := hD
  refine k_INn (As := []) (ws1 := (fun u => ([(b, .inr (2, [.ref q1, .int (nI 0), .int (nI 0)]))] ++ [(q1, .inl (g.2.2.2.1, 6, .inr (.inr (.inr (.inr (va_up (fun _ => none) 0 (some (u4 0))))))))]) ++ ((wH g u H0) ++ (wH g u4 H0)))) hF (c_X1_init l g q6) ⟨va_cnB 0 hts gX2_init_X1_init_n24 rfl rfl rfl hE.2.1.2.1 iniX1 (by decide +kernel) ⟨(Nat.le_of_ble_eq_true rfl), (Nat.le_of_ble_eq_true rfl)⟩, rfl, imX1⟩ hE hP hD hS hA (k_pm3r _ _ _) (fun _ => k_pm3 _ _ _) rfl hl.1 rfl (Nat.le_of_ble_eq_true rfl) dX2_init_40 ⟨(Nat.le_of_ble_eq_true rfl), (Nat.le_of_ble_eq_true rfl)⟩ (fun u7 H locs hu hP hD hS => ?_)
  have hu : (u7 0) = q6 := hu
  subst hu
  have hP : va_P g.1 vwCl ([(b, .inr (2, [.ref q1, .int (nI 0), .int (nI 0)]))] ++ ([(q1, .inl (g.2.2.2.1, 6, .inr (.inr (.inr (.inr (va_up (fun _ => none) 0 (some (u4 0))))))))] ++ ((wH g u7 H0) ++ (wH g u4 H0)))) _ := hP
  have hD : va_D A ([(b, .inr (2, [.ref q1, .int (nI 0), .int (nI 0)]))] ++ ([(q1, .inl (g.2.2.2.1, 6, .inr (.inr (.inr (.inr (va_up (fun _ => none) 0 (some (u4 0))))))))] ++ ((wH g u7 H0) ++ (wH g u4 H0)))) := hD
  refine k_astq (f := (va_up (fun _ => none) 0 (some (u4 0)))) hx hb hE hP hD hS 1 2 rfl rfl 1 (by decide) (by decide) dX2_init_43 (fun H locs hP hD hS => ?_)
  have hP : va_P g.1 vwCl ([(b, .inr (2, [.ref q1, .int (nI 0), .int (nI 0)]))] ++ ([(q1, .inl (g.2.2.2.1, 6, .inr (.inr (.inr (.inr (va_up (va_up (fun _ => none) 0 (some (u4 0))) 1 (some (u7 0))))))))] ++ ((wH g u7 H0) ++ (wH g u4 H0)))) _ := hP
  have hD : va_D A ([(b, .inr (2, [.ref q1, .int (nI 0), .int (nI 0)]))] ++ ([(q1, .inl (g.2.2.2.1, 6, .inr (.inr (.inr (.inr (va_up (va_up (fun _ => none) 0 (some (u4 0))) 1 (some (u7 0))))))))] ++ ((wH g u7 H0) ++ (wH g u4 H0)))) := hD
  refine lv_iinc (v := (nI 2)) (lv' := [(1, .int (nI 2)), (0, .ref b)]) hx hb dX2_init_44 hl (k := 0) rfl (k_inc1 _) (by decide) rfl (fun ls hl => ?_)
  refine lv_goto (tgt := 25) hx hb dX2_init_47 (by decide) ?_
  refine lv_iload_n hx hb dX2_init_25 rfl (lv_at hl 0 rfl) ?_
  refine lv_bipush (v := (nI 6)) hx hb dX2_init_26 (by decide) ?_
  refine k_geN (tgt := 50) hx hb (by decide) (by decide) dX2_init_28 (by decide) (fun c8 => absurd c8 (by decide)) (fun c8 => ?_)
  refine lv_aload_n hx hb dX2_init_31 rfl (lv_at hl 1 rfl) ?_
  refine va_get (D := g.1) (ci := 2) (v := .ref q1) (C := RX2) (T := TX2) (N := 3) hx hb hts hiX2 hown hE.1 hP 0 rfl rfl 0 (by decide) f11 (fun _ h9 => h9) rfl dX2_init_32 ?_
  refine lv_iload_n hx hb dX2_init_35 rfl (lv_at hl 0 rfl) ?_
  refine va_new (ci := 1) (C := RX1) (T := TX1) (N := 12) (fs := raw1) hx hb hts hiX1 tyX1 tyX1_ok hown cl9 inX1 iniX1 hE.1 hP hD hS hA rfl (fun j hj => by rcases (show j = 0 ∨ j = 1 ∨ j = 2 ∨ j = 3 ∨ j = 4 ∨ j = 5 ∨ j = 6 ∨ j = 7 ∨ j = 8 ∨ j = 9 ∨ j = 10 ∨ j = 11 by omega) with rfl | rfl | rfl | rfl | rfl | rfl | rfl | rfl | rfl | rfl | rfl | rfl <;> rfl) (Nat.le_of_ble_eq_true rfl) (Nat.le_of_ble_eq_true rfl) dX2_init_36 (fun q9 H hP hD hS => ?_)
  have hP : va_P g.1 vwCl ([(b, .inr (2, [.ref q1, .int (nI 0), .int (nI 0)]))] ++ ([(q1, .inl (g.2.2.2.1, 6, .inr (.inr (.inr (.inr (va_up (va_up (fun _ => none) 0 (some (u4 0))) 1 (some (u7 0))))))))] ++ ((wH g u7 H0) ++ ((wH g u4 H0) ++ [(q9, .inr (1, raw1))])))) _ := hP
  have hD : va_D A ([(b, .inr (2, [.ref q1, .int (nI 0), .int (nI 0)]))] ++ ([(q1, .inl (g.2.2.2.1, 6, .inr (.inr (.inr (.inr (va_up (va_up (fun _ => none) 0 (some (u4 0))) 1 (some (u7 0))))))))] ++ ((wH g u7 H0) ++ ((wH g u4 H0) ++ [(q9, .inr (1, raw1))])))) := hD
  refine lv_dup hx hb dX2_init_39 rfl ?_
  have hP : va_P g.1 vwCl (([(b, .inr (2, [.ref q1, .int (nI 0), .int (nI 0)]))] ++ [(q1, .inl (g.2.2.2.1, 6, .inr (.inr (.inr (.inr (va_up (va_up (fun _ => none) 0 (some (u4 0))) 1 (some (u7 0))))))))]) ++ (((wH g u7 H0) ++ (wH g u4 H0)) ++ [(q9, .inr (1, raw1))])) _ := hP
  have hD : va_D A (([(b, .inr (2, [.ref q1, .int (nI 0), .int (nI 0)]))] ++ [(q1, .inl (g.2.2.2.1, 6, .inr (.inr (.inr (.inr (va_up (va_up (fun _ => none) 0 (some (u4 0))) 1 (some (u7 0))))))))]) ++ (((wH g u7 H0) ++ (wH g u4 H0)) ++ [(q9, .inr (1, raw1))])) := hD
  refine k_INn (As := []) (ws1 := (fun u => ([(b, .inr (2, [.ref q1, .int (nI 0), .int (nI 0)]))] ++ [(q1, .inl (g.2.2.2.1, 6, .inr (.inr (.inr (.inr (va_up (va_up (fun _ => none) 0 (some (u4 0))) 1 (some (u7 0))))))))]) ++ ((wH g u H0) ++ ((wH g u7 H0) ++ (wH g u4 H0))))) hF (c_X1_init l g q9) ⟨va_cnB 0 hts gX2_init_X1_init_n24 rfl rfl rfl hE.2.1.2.1 iniX1 (by decide +kernel) ⟨(Nat.le_of_ble_eq_true rfl), (Nat.le_of_ble_eq_true rfl)⟩, rfl, imX1⟩ hE hP hD hS hA (k_pm3r _ _ _) (fun _ => k_pm3 _ _ _) rfl hl.1 rfl (Nat.le_of_ble_eq_true rfl) dX2_init_40 ⟨(Nat.le_of_ble_eq_true rfl), (Nat.le_of_ble_eq_true rfl)⟩ (fun u10 H locs hu hP hD hS => ?_)
  have hu : (u10 0) = q9 := hu
  subst hu
  have hP : va_P g.1 vwCl ([(b, .inr (2, [.ref q1, .int (nI 0), .int (nI 0)]))] ++ ([(q1, .inl (g.2.2.2.1, 6, .inr (.inr (.inr (.inr (va_up (va_up (fun _ => none) 0 (some (u4 0))) 1 (some (u7 0))))))))] ++ ((wH g u10 H0) ++ ((wH g u7 H0) ++ (wH g u4 H0))))) _ := hP
  have hD : va_D A ([(b, .inr (2, [.ref q1, .int (nI 0), .int (nI 0)]))] ++ ([(q1, .inl (g.2.2.2.1, 6, .inr (.inr (.inr (.inr (va_up (va_up (fun _ => none) 0 (some (u4 0))) 1 (some (u7 0))))))))] ++ ((wH g u10 H0) ++ ((wH g u7 H0) ++ (wH g u4 H0))))) := hD
  refine k_astq (f := (va_up (va_up (fun _ => none) 0 (some (u4 0))) 1 (some (u7 0)))) hx hb hE hP hD hS 1 2 rfl rfl 2 (by decide) (by decide) dX2_init_43 (fun H locs hP hD hS => ?_)
  have hP : va_P g.1 vwCl ([(b, .inr (2, [.ref q1, .int (nI 0), .int (nI 0)]))] ++ ([(q1, .inl (g.2.2.2.1, 6, .inr (.inr (.inr (.inr (va_up (va_up (va_up (fun _ => none) 0 (some (u4 0))) 1 (some (u7 0))) 2 (some (u10 0))))))))] ++ ((wH g u10 H0) ++ ((wH g u7 H0) ++ (wH g u4 H0))))) _ := hP
  have hD : va_D A ([(b, .inr (2, [.ref q1, .int (nI 0), .int (nI 0)]))] ++ ([(q1, .inl (g.2.2.2.1, 6, .inr (.inr (.inr (.inr (va_up (va_up (va_up (fun _ => none) 0 (some (u4 0))) 1 (some (u7 0))) 2 (some (u10 0))))))))] ++ ((wH g u10 H0) ++ ((wH g u7 H0) ++ (wH g u4 H0))))) := hD
  refine lv_iinc (v := (nI 3)) (lv' := [(1, .int (nI 3)), (0, .ref b)]) hx hb dX2_init_44 hl (k := 0) rfl (k_inc1 _) (by decide) rfl (fun ls hl => ?_)
  refine lv_goto (tgt := 25) hx hb dX2_init_47 (by decide) ?_
  refine lv_iload_n hx hb dX2_init_25 rfl (lv_at hl 0 rfl) ?_
  refine lv_bipush (v := (nI 6)) hx hb dX2_init_26 (by decide) ?_
  refine k_geN (tgt := 50) hx hb (by decide) (by decide) dX2_init_28 (by decide) (fun c11 => absurd c11 (by decide)) (fun c11 => ?_)
  refine lv_aload_n hx hb dX2_init_31 rfl (lv_at hl 1 rfl) ?_
  refine va_get (D := g.1) (ci := 2) (v := .ref q1) (C := RX2) (T := TX2) (N := 3) hx hb hts hiX2 hown hE.1 hP 0 rfl rfl 0 (by decide) f11 (fun _ h9 => h9) rfl dX2_init_32 ?_
  refine lv_iload_n hx hb dX2_init_35 rfl (lv_at hl 0 rfl) ?_
  refine va_new (ci := 1) (C := RX1) (T := TX1) (N := 12) (fs := raw1) hx hb hts hiX1 tyX1 tyX1_ok hown cl9 inX1 iniX1 hE.1 hP hD hS hA rfl (fun j hj => by rcases (show j = 0 ∨ j = 1 ∨ j = 2 ∨ j = 3 ∨ j = 4 ∨ j = 5 ∨ j = 6 ∨ j = 7 ∨ j = 8 ∨ j = 9 ∨ j = 10 ∨ j = 11 by omega) with rfl | rfl | rfl | rfl | rfl | rfl | rfl | rfl | rfl | rfl | rfl | rfl <;> rfl) (Nat.le_of_ble_eq_true rfl) (Nat.le_of_ble_eq_true rfl) dX2_init_36 (fun q12 H hP hD hS => ?_)
  have hP : va_P g.1 vwCl ([(b, .inr (2, [.ref q1, .int (nI 0), .int (nI 0)]))] ++ ([(q1, .inl (g.2.2.2.1, 6, .inr (.inr (.inr (.inr (va_up (va_up (va_up (fun _ => none) 0 (some (u4 0))) 1 (some (u7 0))) 2 (some (u10 0))))))))] ++ ((wH g u10 H0) ++ ((wH g u7 H0) ++ ((wH g u4 H0) ++ [(q12, .inr (1, raw1))]))))) _ := hP
  have hD : va_D A ([(b, .inr (2, [.ref q1, .int (nI 0), .int (nI 0)]))] ++ ([(q1, .inl (g.2.2.2.1, 6, .inr (.inr (.inr (.inr (va_up (va_up (va_up (fun _ => none) 0 (some (u4 0))) 1 (some (u7 0))) 2 (some (u10 0))))))))] ++ ((wH g u10 H0) ++ ((wH g u7 H0) ++ ((wH g u4 H0) ++ [(q12, .inr (1, raw1))]))))) := hD
  refine lv_dup hx hb dX2_init_39 rfl ?_
  have hP : va_P g.1 vwCl (([(b, .inr (2, [.ref q1, .int (nI 0), .int (nI 0)]))] ++ [(q1, .inl (g.2.2.2.1, 6, .inr (.inr (.inr (.inr (va_up (va_up (va_up (fun _ => none) 0 (some (u4 0))) 1 (some (u7 0))) 2 (some (u10 0))))))))]) ++ (((wH g u10 H0) ++ ((wH g u7 H0) ++ (wH g u4 H0))) ++ [(q12, .inr (1, raw1))])) _ := hP
  have hD : va_D A (([(b, .inr (2, [.ref q1, .int (nI 0), .int (nI 0)]))] ++ [(q1, .inl (g.2.2.2.1, 6, .inr (.inr (.inr (.inr (va_up (va_up (va_up (fun _ => none) 0 (some (u4 0))) 1 (some (u7 0))) 2 (some (u10 0))))))))]) ++ (((wH g u10 H0) ++ ((wH g u7 H0) ++ (wH g u4 H0))) ++ [(q12, .inr (1, raw1))])) := hD
  refine k_INn (As := []) (ws1 := (fun u => ([(b, .inr (2, [.ref q1, .int (nI 0), .int (nI 0)]))] ++ [(q1, .inl (g.2.2.2.1, 6, .inr (.inr (.inr (.inr (va_up (va_up (va_up (fun _ => none) 0 (some (u4 0))) 1 (some (u7 0))) 2 (some (u10 0))))))))]) ++ ((wH g u H0) ++ ((wH g u10 H0) ++ ((wH g u7 H0) ++ (wH g u4 H0)))))) hF (c_X1_init l g q12) ⟨va_cnB 0 hts gX2_init_X1_init_n24 rfl rfl rfl hE.2.1.2.1 iniX1 (by decide +kernel) ⟨(Nat.le_of_ble_eq_true rfl), (Nat.le_of_ble_eq_true rfl)⟩, rfl, imX1⟩ hE hP hD hS hA (k_pm3r _ _ _) (fun _ => k_pm3 _ _ _) rfl hl.1 rfl (Nat.le_of_ble_eq_true rfl) dX2_init_40 ⟨(Nat.le_of_ble_eq_true rfl), (Nat.le_of_ble_eq_true rfl)⟩ (fun u13 H locs hu hP hD hS => ?_)
  have hu : (u13 0) = q12 := hu
  subst hu
  have hP : va_P g.1 vwCl ([(b, .inr (2, [.ref q1, .int (nI 0), .int (nI 0)]))] ++ ([(q1, .inl (g.2.2.2.1, 6, .inr (.inr (.inr (.inr (va_up (va_up (va_up (fun _ => none) 0 (some (u4 0))) 1 (some (u7 0))) 2 (some (u10 0))))))))] ++ ((wH g u13 H0) ++ ((wH g u10 H0) ++ ((wH g u7 H0) ++ (wH g u4 H0)))))) _ := hP
  have hD : va_D A ([(b, .inr (2, [.ref q1, .int (nI 0), .int (nI 0)]))] ++ ([(q1, .inl (g.2.2.2.1, 6, .inr (.inr (.inr (.inr (va_up (va_up (va_up (fun _ => none) 0 (some (u4 0))) 1 (some (u7 0))) 2 (some (u10 0))))))))] ++ ((wH g u13 H0) ++ ((wH g u10 H0) ++ ((wH g u7 H0) ++ (wH g u4 H0)))))) := hD
  refine k_astq (f := (va_up (va_up (va_up (fun _ => none) 0 (some (u4 0))) 1 (some (u7 0))) 2 (some (u10 0)))) hx hb hE hP hD hS 1 2 rfl rfl 3 (by decide) (by decide) dX2_init_43 (fun H locs hP hD hS => ?_)
  have hP : va_P g.1 vwCl ([(b, .inr (2, [.ref q1, .int (nI 0), .int (nI 0)]))] ++ ([(q1, .inl (g.2.2.2.1, 6, .inr (.inr (.inr (.inr (va_up (va_up (va_up (va_up (fun _ => none) 0 (some (u4 0))) 1 (some (u7 0))) 2 (some (u10 0))) 3 (some (u13 0))))))))] ++ ((wH g u13 H0) ++ ((wH g u10 H0) ++ ((wH g u7 H0) ++ (wH g u4 H0)))))) _ := hP
  have hD : va_D A ([(b, .inr (2, [.ref q1, .int (nI 0), .int (nI 0)]))] ++ ([(q1, .inl (g.2.2.2.1, 6, .inr (.inr (.inr (.inr (va_up (va_up (va_up (va_up (fun _ => none) 0 (some (u4 0))) 1 (some (u7 0))) 2 (some (u10 0))) 3 (some (u13 0))))))))] ++ ((wH g u13 H0) ++ ((wH g u10 H0) ++ ((wH g u7 H0) ++ (wH g u4 H0)))))) := hD
  refine lv_iinc (v := (nI 4)) (lv' := [(1, .int (nI 4)), (0, .ref b)]) hx hb dX2_init_44 hl (k := 0) rfl (k_inc1 _) (by decide) rfl (fun ls hl => ?_)
  refine lv_goto (tgt := 25) hx hb dX2_init_47 (by decide) ?_
  refine lv_iload_n hx hb dX2_init_25 rfl (lv_at hl 0 rfl) ?_
  refine lv_bipush (v := (nI 6)) hx hb dX2_init_26 (by decide) ?_
  refine k_geN (tgt := 50) hx hb (by decide) (by decide) dX2_init_28 (by decide) (fun c14 => absurd c14 (by decide)) (fun c14 => ?_)
  refine lv_aload_n hx hb dX2_init_31 rfl (lv_at hl 1 rfl) ?_
  refine va_get (D := g.1) (ci := 2) (v := .ref q1) (C := RX2) (T := TX2) (N := 3) hx hb hts hiX2 hown hE.1 hP 0 rfl rfl 0 (by decide) f11 (fun _ h9 => h9) rfl dX2_init_32 ?_
  refine lv_iload_n hx hb dX2_init_35 rfl (lv_at hl 0 rfl) ?_
  refine va_new (ci := 1) (C := RX1) (T := TX1) (N := 12) (fs := raw1) hx hb hts hiX1 tyX1 tyX1_ok hown cl9 inX1 iniX1 hE.1 hP hD hS hA rfl (fun j hj => by rcases (show j = 0 ∨ j = 1 ∨ j = 2 ∨ j = 3 ∨ j = 4 ∨ j = 5 ∨ j = 6 ∨ j = 7 ∨ j = 8 ∨ j = 9 ∨ j = 10 ∨ j = 11 by omega) with rfl | rfl | rfl | rfl | rfl | rfl | rfl | rfl | rfl | rfl | rfl | rfl <;> rfl) (Nat.le_of_ble_eq_true rfl) (Nat.le_of_ble_eq_true rfl) dX2_init_36 (fun q15 H hP hD hS => ?_)
  have hP : va_P g.1 vwCl ([(b, .inr (2, [.ref q1, .int (nI 0), .int (nI 0)]))] ++ ([(q1, .inl (g.2.2.2.1, 6, .inr (.inr (.inr (.inr (va_up (va_up (va_up (va_up (fun _ => none) 0 (some (u4 0))) 1 (some (u7 0))) 2 (some (u10 0))) 3 (some (u13 0))))))))] ++ ((wH g u13 H0) ++ ((wH g u10 H0) ++ ((wH g u7 H0) ++ ((wH g u4 H0) ++ [(q15, .inr (1, raw1))])))))) _ := hP
  have hD : va_D A ([(b, .inr (2, [.ref q1, .int (nI 0), .int (nI 0)]))] ++ ([(q1, .inl (g.2.2.2.1, 6, .inr (.inr (.inr (.inr (va_up (va_up (va_up (va_up (fun _ => none) 0 (some (u4 0))) 1 (some (u7 0))) 2 (some (u10 0))) 3 (some (u13 0))))))))] ++ ((wH g u13 H0) ++ ((wH g u10 H0) ++ ((wH g u7 H0) ++ ((wH g u4 H0) ++ [(q15, .inr (1, raw1))])))))) := hD
  refine lv_dup hx hb dX2_init_39 rfl ?_
  have hP : va_P g.1 vwCl (([(b, .inr (2, [.ref q1, .int (nI 0), .int (nI 0)]))] ++ [(q1, .inl (g.2.2.2.1, 6, .inr (.inr (.inr (.inr (va_up (va_up (va_up (va_up (fun _ => none) 0 (some (u4 0))) 1 (some (u7 0))) 2 (some (u10 0))) 3 (some (u13 0))))))))]) ++ (((wH g u13 H0) ++ ((wH g u10 H0) ++ ((wH g u7 H0) ++ (wH g u4 H0)))) ++ [(q15, .inr (1, raw1))])) _ := hP
  have hD : va_D A (([(b, .inr (2, [.ref q1, .int (nI 0), .int (nI 0)]))] ++ [(q1, .inl (g.2.2.2.1, 6, .inr (.inr (.inr (.inr (va_up (va_up (va_up (va_up (fun _ => none) 0 (some (u4 0))) 1 (some (u7 0))) 2 (some (u10 0))) 3 (some (u13 0))))))))]) ++ (((wH g u13 H0) ++ ((wH g u10 H0) ++ ((wH g u7 H0) ++ (wH g u4 H0)))) ++ [(q15, .inr (1, raw1))])) := hD
  refine k_INn (As := []) (ws1 := (fun u => ([(b, .inr (2, [.ref q1, .int (nI 0), .int (nI 0)]))] ++ [(q1, .inl (g.2.2.2.1, 6, .inr (.inr (.inr (.inr (va_up (va_up (va_up (va_up (fun _ => none) 0 (some (u4 0))) 1 (some (u7 0))) 2 (some (u10 0))) 3 (some (u13 0))))))))]) ++ ((wH g u H0) ++ ((wH g u13 H0) ++ ((wH g u10 H0) ++ ((wH g u7 H0) ++ (wH g u4 H0))))))) hF (c_X1_init l g q15) ⟨va_cnB 0 hts gX2_init_X1_init_n24 rfl rfl rfl hE.2.1.2.1 iniX1 (by decide +kernel) ⟨(Nat.le_of_ble_eq_true rfl), (Nat.le_of_ble_eq_true rfl)⟩, rfl, imX1⟩ hE hP hD hS hA (k_pm3r _ _ _) (fun _ => k_pm3 _ _ _) rfl hl.1 rfl (Nat.le_of_ble_eq_true rfl) dX2_init_40 ⟨(Nat.le_of_ble_eq_true rfl), (Nat.le_of_ble_eq_true rfl)⟩ (fun u16 H locs hu hP hD hS => ?_)
  have hu : (u16 0) = q15 := hu
  subst hu
  have hP : va_P g.1 vwCl ([(b, .inr (2, [.ref q1, .int (nI 0), .int (nI 0)]))] ++ ([(q1, .inl (g.2.2.2.1, 6, .inr (.inr (.inr (.inr (va_up (va_up (va_up (va_up (fun _ => none) 0 (some (u4 0))) 1 (some (u7 0))) 2 (some (u10 0))) 3 (some (u13 0))))))))] ++ ((wH g u16 H0) ++ ((wH g u13 H0) ++ ((wH g u10 H0) ++ ((wH g u7 H0) ++ (wH g u4 H0))))))) _ := hP
  have hD : va_D A ([(b, .inr (2, [.ref q1, .int (nI 0), .int (nI 0)]))] ++ ([(q1, .inl (g.2.2.2.1, 6, .inr (.inr (.inr (.inr (va_up (va_up (va_up (va_up (fun _ => none) 0 (some (u4 0))) 1 (some (u7 0))) 2 (some (u10 0))) 3 (some (u13 0))))))))] ++ ((wH g u16 H0) ++ ((wH g u13 H0) ++ ((wH g u10 H0) ++ ((wH g u7 H0) ++ (wH g u4 H0))))))) := hD
  refine k_astq (f := (va_up (va_up (va_up (va_up (fun _ => none) 0 (some (u4 0))) 1 (some (u7 0))) 2 (some (u10 0))) 3 (some (u13 0)))) hx hb hE hP hD hS 1 2 rfl rfl 4 (by decide) (by decide) dX2_init_43 (fun H locs hP hD hS => ?_)
  have hP : va_P g.1 vwCl ([(b, .inr (2, [.ref q1, .int (nI 0), .int (nI 0)]))] ++ ([(q1, .inl (g.2.2.2.1, 6, .inr (.inr (.inr (.inr (va_up (va_up (va_up (va_up (va_up (fun _ => none) 0 (some (u4 0))) 1 (some (u7 0))) 2 (some (u10 0))) 3 (some (u13 0))) 4 (some (u16 0))))))))] ++ ((wH g u16 H0) ++ ((wH g u13 H0) ++ ((wH g u10 H0) ++ ((wH g u7 H0) ++ (wH g u4 H0))))))) _ := hP
  have hD : va_D A ([(b, .inr (2, [.ref q1, .int (nI 0), .int (nI 0)]))] ++ ([(q1, .inl (g.2.2.2.1, 6, .inr (.inr (.inr (.inr (va_up (va_up (va_up (va_up (va_up (fun _ => none) 0 (some (u4 0))) 1 (some (u7 0))) 2 (some (u10 0))) 3 (some (u13 0))) 4 (some (u16 0))))))))] ++ ((wH g u16 H0) ++ ((wH g u13 H0) ++ ((wH g u10 H0) ++ ((wH g u7 H0) ++ (wH g u4 H0))))))) := hD
  refine lv_iinc (v := (nI 5)) (lv' := [(1, .int (nI 5)), (0, .ref b)]) hx hb dX2_init_44 hl (k := 0) rfl (k_inc1 _) (by decide) rfl (fun ls hl => ?_)
  refine lv_goto (tgt := 25) hx hb dX2_init_47 (by decide) ?_
  refine lv_iload_n hx hb dX2_init_25 rfl (lv_at hl 0 rfl) ?_
  refine lv_bipush (v := (nI 6)) hx hb dX2_init_26 (by decide) ?_
  refine k_geN (tgt := 50) hx hb (by decide) (by decide) dX2_init_28 (by decide) (fun c17 => absurd c17 (by decide)) (fun c17 => ?_)
  refine lv_aload_n hx hb dX2_init_31 rfl (lv_at hl 1 rfl) ?_
  refine va_get (D := g.1) (ci := 2) (v := .ref q1) (C := RX2) (T := TX2) (N := 3) hx hb hts hiX2 hown hE.1 hP 0 rfl rfl 0 (by decide) f11 (fun _ h9 => h9) rfl dX2_init_32 ?_
  refine lv_iload_n hx hb dX2_init_35 rfl (lv_at hl 0 rfl) ?_
  refine va_new (ci := 1) (C := RX1) (T := TX1) (N := 12) (fs := raw1) hx hb hts hiX1 tyX1 tyX1_ok hown cl9 inX1 iniX1 hE.1 hP hD hS hA rfl (fun j hj => by rcases (show j = 0 ∨ j = 1 ∨ j = 2 ∨ j = 3 ∨ j = 4 ∨ j = 5 ∨ j = 6 ∨ j = 7 ∨ j = 8 ∨ j = 9 ∨ j = 10 ∨ j = 11 by omega) with rfl | rfl | rfl | rfl | rfl | rfl | rfl | rfl | rfl | rfl | rfl | rfl <;> rfl) (Nat.le_of_ble_eq_true rfl) (Nat.le_of_ble_eq_true rfl) dX2_init_36 (fun q18 H hP hD hS => ?_)
  have hP : va_P g.1 vwCl ([(b, .inr (2, [.ref q1, .int (nI 0), .int (nI 0)]))] ++ ([(q1, .inl (g.2.2.2.1, 6, .inr (.inr (.inr (.inr (va_up (va_up (va_up (va_up (va_up (fun _ => none) 0 (some (u4 0))) 1 (some (u7 0))) 2 (some (u10 0))) 3 (some (u13 0))) 4 (some (u16 0))))))))] ++ ((wH g u16 H0) ++ ((wH g u13 H0) ++ ((wH g u10 H0) ++ ((wH g u7 H0) ++ ((wH g u4 H0) ++ [(q18, .inr (1, raw1))]))))))) _ := hP
  have hD : va_D A ([(b, .inr (2, [.ref q1, .int (nI 0), .int (nI 0)]))] ++ ([(q1, .inl (g.2.2.2.1, 6, .inr (.inr (.inr (.inr (va_up (va_up (va_up (va_up (va_up (fun _ => none) 0 (some (u4 0))) 1 (some (u7 0))) 2 (some (u10 0))) 3 (some (u13 0))) 4 (some (u16 0))))))))] ++ ((wH g u16 H0) ++ ((wH g u13 H0) ++ ((wH g u10 H0) ++ ((wH g u7 H0) ++ ((wH g u4 H0) ++ [(q18, .inr (1, raw1))]))))))) := hD
  refine lv_dup hx hb dX2_init_39 rfl ?_
  have hP : va_P g.1 vwCl (([(b, .inr (2, [.ref q1, .int (nI 0), .int (nI 0)]))] ++ [(q1, .inl (g.2.2.2.1, 6, .inr (.inr (.inr (.inr (va_up (va_up (va_up (va_up (va_up (fun _ => none) 0 (some (u4 0))) 1 (some (u7 0))) 2 (some (u10 0))) 3 (some (u13 0))) 4 (some (u16 0))))))))]) ++ (((wH g u16 H0) ++ ((wH g u13 H0) ++ ((wH g u10 H0) ++ ((wH g u7 H0) ++ (wH g u4 H0))))) ++ [(q18, .inr (1, raw1))])) _ := hP
  have hD : va_D A (([(b, .inr (2, [.ref q1, .int (nI 0), .int (nI 0)]))] ++ [(q1, .inl (g.2.2.2.1, 6, .inr (.inr (.inr (.inr (va_up (va_up (va_up (va_up (va_up (fun _ => none) 0 (some (u4 0))) 1 (some (u7 0))) 2 (some (u10 0))) 3 (some (u13 0))) 4 (some (u16 0))))))))]) ++ (((wH g u16 H0) ++ ((wH g u13 H0) ++ ((wH g u10 H0) ++ ((wH g u7 H0) ++ (wH g u4 H0))))) ++ [(q18, .inr (1, raw1))])) := hD
  refine k_INn (As := []) (ws1 := (fun u => ([(b, .inr (2, [.ref q1, .int (nI 0), .int (nI 0)]))] ++ [(q1, .inl (g.2.2.2.1, 6, .inr (.inr (.inr (.inr (va_up (va_up (va_up (va_up (va_up (fun _ => none) 0 (some (u4 0))) 1 (some (u7 0))) 2 (some (u10 0))) 3 (some (u13 0))) 4 (some (u16 0))))))))]) ++ ((wH g u H0) ++ ((wH g u16 H0) ++ ((wH g u13 H0) ++ ((wH g u10 H0) ++ ((wH g u7 H0) ++ (wH g u4 H0)))))))) hF (c_X1_init l g q18) ⟨va_cnB 0 hts gX2_init_X1_init_n24 rfl rfl rfl hE.2.1.2.1 iniX1 (by decide +kernel) ⟨(Nat.le_of_ble_eq_true rfl), (Nat.le_of_ble_eq_true rfl)⟩, rfl, imX1⟩ hE hP hD hS hA (k_pm3r _ _ _) (fun _ => k_pm3 _ _ _) rfl hl.1 rfl (Nat.le_of_ble_eq_true rfl) dX2_init_40 ⟨(Nat.le_of_ble_eq_true rfl), (Nat.le_of_ble_eq_true rfl)⟩ (fun u19 H locs hu hP hD hS => ?_)
  have hu : (u19 0) = q18 := hu
  subst hu
  have hP : va_P g.1 vwCl ([(b, .inr (2, [.ref q1, .int (nI 0), .int (nI 0)]))] ++ ([(q1, .inl (g.2.2.2.1, 6, .inr (.inr (.inr (.inr (va_up (va_up (va_up (va_up (va_up (fun _ => none) 0 (some (u4 0))) 1 (some (u7 0))) 2 (some (u10 0))) 3 (some (u13 0))) 4 (some (u16 0))))))))] ++ ((wH g u19 H0) ++ ((wH g u16 H0) ++ ((wH g u13 H0) ++ ((wH g u10 H0) ++ ((wH g u7 H0) ++ (wH g u4 H0)))))))) _ := hP
  have hD : va_D A ([(b, .inr (2, [.ref q1, .int (nI 0), .int (nI 0)]))] ++ ([(q1, .inl (g.2.2.2.1, 6, .inr (.inr (.inr (.inr (va_up (va_up (va_up (va_up (va_up (fun _ => none) 0 (some (u4 0))) 1 (some (u7 0))) 2 (some (u10 0))) 3 (some (u13 0))) 4 (some (u16 0))))))))] ++ ((wH g u19 H0) ++ ((wH g u16 H0) ++ ((wH g u13 H0) ++ ((wH g u10 H0) ++ ((wH g u7 H0) ++ (wH g u4 H0)))))))) := hD
  refine k_astq (f := (va_up (va_up (va_up (va_up (va_up (fun _ => none) 0 (some (u4 0))) 1 (some (u7 0))) 2 (some (u10 0))) 3 (some (u13 0))) 4 (some (u16 0)))) hx hb hE hP hD hS 1 2 rfl rfl 5 (by decide) (by decide) dX2_init_43 (fun H locs hP hD hS => ?_)
  have hP : va_P g.1 vwCl ([(b, .inr (2, [.ref q1, .int (nI 0), .int (nI 0)]))] ++ ([(q1, .inl (g.2.2.2.1, 6, .inr (.inr (.inr (.inr (va_up (va_up (va_up (va_up (va_up (va_up (fun _ => none) 0 (some (u4 0))) 1 (some (u7 0))) 2 (some (u10 0))) 3 (some (u13 0))) 4 (some (u16 0))) 5 (some (u19 0))))))))] ++ ((wH g u19 H0) ++ ((wH g u16 H0) ++ ((wH g u13 H0) ++ ((wH g u10 H0) ++ ((wH g u7 H0) ++ (wH g u4 H0)))))))) _ := hP
  have hD : va_D A ([(b, .inr (2, [.ref q1, .int (nI 0), .int (nI 0)]))] ++ ([(q1, .inl (g.2.2.2.1, 6, .inr (.inr (.inr (.inr (va_up (va_up (va_up (va_up (va_up (va_up (fun _ => none) 0 (some (u4 0))) 1 (some (u7 0))) 2 (some (u10 0))) 3 (some (u13 0))) 4 (some (u16 0))) 5 (some (u19 0))))))))] ++ ((wH g u19 H0) ++ ((wH g u16 H0) ++ ((wH g u13 H0) ++ ((wH g u10 H0) ++ ((wH g u7 H0) ++ (wH g u4 H0)))))))) := hD
  refine lv_iinc (v := (nI 6)) (lv' := [(1, .int (nI 6)), (0, .ref b)]) hx hb dX2_init_44 hl (k := 0) rfl (k_inc1 _) (by decide) rfl (fun ls hl => ?_)
  refine lv_goto (tgt := 25) hx hb dX2_init_47 (by decide) ?_
  refine lv_iload_n hx hb dX2_init_25 rfl (lv_at hl 0 rfl) ?_
  refine lv_bipush (v := (nI 6)) hx hb dX2_init_26 (by decide) ?_
  refine k_geN (tgt := 50) hx hb (by decide) (by decide) dX2_init_28 (by decide) (fun c20 => ?_) (fun c20 => absurd c20 (by decide))
  have hP : va_P g.1 vwCl ((wK0 g (ad2 b q1) (ak6 u4 u7 u10 u13 u16 u19) K0) ++ (wHs g (ak6 u4 u7 u10 u13 u16 u19) (fun _ => H0) 6)) _ := k_PQ_ext (ws := ([(b, .inr (2, [.ref q1, .int (nI 0), .int (nI 0)]))] ++ ([(q1, .inl (g.2.2.2.1, 6, .inr (.inr (.inr (.inr (va_up (va_up (va_up (va_up (va_up (va_up (fun _ => none) 0 (some (u4 0))) 1 (some (u7 0))) 2 (some (u10 0))) 3 (some (u13 0))) 4 (some (u16 0))) 5 (some (u19 0))))))))] ++ ((wH g u19 H0) ++ ((wH g u16 H0) ++ ((wH g u13 H0) ++ ((wH g u10 H0) ++ ((wH g u7 H0) ++ (wH g u4 H0))))))))) (p := 1) (a := q1) (f := (va_up (va_up (va_up (va_up (va_up (va_up (fun _ => none) 0 (some (u4 0))) 1 (some (u7 0))) 2 (some (u10 0))) 3 (some (u13 0))) 4 (some (u16 0))) 5 (some (u19 0)))) (f2 := fun i => some ((ak6 u4 u7 u10 u13 u16 u19) i 0)) rfl rfl (fun k hk => by rcases (show k = 0 ∨ k = 1 ∨ k = 2 ∨ k = 3 ∨ k = 4 ∨ k = 5 by omega) with rfl | rfl | rfl | rfl | rfl | rfl <;> rfl) hP
  have hD : va_D A ((wK0 g (ad2 b q1) (ak6 u4 u7 u10 u13 u16 u19) K0) ++ (wHs g (ak6 u4 u7 u10 u13 u16 u19) (fun _ => H0) 6)) := k_D_ext (ws := ([(b, .inr (2, [.ref q1, .int (nI 0), .int (nI 0)]))] ++ ([(q1, .inl (g.2.2.2.1, 6, .inr (.inr (.inr (.inr (va_up (va_up (va_up (va_up (va_up (va_up (fun _ => none) 0 (some (u4 0))) 1 (some (u7 0))) 2 (some (u10 0))) 3 (some (u13 0))) 4 (some (u16 0))) 5 (some (u19 0))))))))] ++ ((wH g u19 H0) ++ ((wH g u16 H0) ++ ((wH g u13 H0) ++ ((wH g u10 H0) ++ ((wH g u7 H0) ++ (wH g u4 H0))))))))) 1 rfl rfl hD
  exact k_nret ((ad2 b q1, (ak6 u4 u7 u10 u13 u16 u19)) : (Nat → Nat) × (Nat → Nat → Nat)) hx hb hr hlocks rfl hP hD hS (Nat.le_of_ble_eq_true rfl) (Nat.le_of_ble_eq_true rfl) dX2_init_50
set_option maxHeartbeats 4000000 in
set_option maxRecDepth 100000 in
theorem c_X3_init (l : Launch) (g : kG) (b : Nat) : KN l yX3_init wsX3_init ({ frames := 3, cells := 32, slots := 869, locals := 61 }) g [.ref b] [(b, .inr (3, raw3))] (fun _ : (Nat → Nat) × (Nat → Nat) × (Nat → Nat) × (Nat → Nat → Nat) => True) (fun u => (wU b (u.1 0) (u.2.2.1 0) (u.2.1 0)) ++ ((wH g u.1 H0) ++ ((wT g u.2.1 T0) ++ ((wK0 g u.2.2.1 u.2.2.2 K0) ++ (wHs g u.2.2.2 (fun _ => H0) 6))))) 32 869 := by
  refine k_begin (cc := cX3_init) (maxL := 1) (ret := none) (Qc := fun A => kQn g (fun _ : (Nat → Nat) × (Nat → Nat) × (Nat → Nat) × (Nat → Nat → Nat) => True) (fun u => (wU b (u.1 0) (u.2.2.1 0) (u.2.1 0)) ++ ((wH g u.1 H0) ++ ((wT g u.2.1 T0) ++ ((wK0 g u.2.2.1 u.2.2.2 K0) ++ (wHs g u.2.2.2 (fun _ => H0) 6))))) A) (by decide) rfl (Nat.le_of_ble_eq_true rfl) ?_
  intro p e s m below meth c A ls hF hr hlocks hin hE hP hD hS hA hl
  obtain ⟨hx, hb, hml, hown, hts⟩ := id hF
  have hown : s.vm.findClass RX3 = some m.cls := hown
  have hl : lv_has ls 1 [(0, .ref b)] := hl
  have hP : va_P g.1 vwCl [(b, .inr (3, [.null, .null, .null]))] _ := hP
  have hD : va_D A [(b, .inr (3, [.null, .null, .null]))] := hD
  have hiX1 : ∀ w ∈ wsX10, w ∈ wsX3_init := fun _ h => List.mem_cons_of_mem _ (List.mem_append_left _ (List.mem_append_left _ (List.mem_append_left _ (List.mem_append_right _ (h)))))
  have hiX3 : ∀ w ∈ wsX30, w ∈ wsX3_init := fun _ h => List.mem_cons_of_mem _ (List.mem_append_left _ (List.mem_append_left _ (List.mem_append_right _ (h))))
  have hiX2 : ∀ w ∈ wsX20, w ∈ wsX3_init := fun _ h => List.mem_cons_of_mem _ (List.mem_append_left _ (List.mem_append_right _ (h)))
  have hiX0 : ∀ w ∈ wsX00, w ∈ wsX3_init := fun _ h => List.mem_cons_of_mem _ (List.mem_append_right _ (h))
  have oil : (Cond.methodLink RX3 3 objectInit).before _ s = true := hts _ (List.mem_of_getElem? (i := 1) rfl)
  have oii : (Cond.instanceMethod objectInit).before _ s = true := hts _ (List.mem_of_getElem? (i := 2) rfl)
  have cl9 : (Cond.classLink RX3 9 RX1).before _ s = true := hts _ (List.mem_of_getElem? (i := 4) rfl)
  have inX1 : (Cond.instantiable RX1 12).before _ s = true := hts _ (List.mem_of_getElem? (i := 5) rfl)
  have iniX1 : (Cond.initialized RX1).before _ s = true := hts _ (List.mem_of_getElem? (i := 6) rfl)
  have imX1 : (Cond.instanceMethod yX1_init).before _ s = true := hts _ (List.mem_of_getElem? (i := 16) rfl)
  have f12 : (Cond.fieldLink RX3 12 "ConcertUsher" "hall" "LConcertUsher$Hall;").before _ s = true := hts _ (List.mem_of_getElem? (i := 7) rfl)
  have cl16 : (Cond.classLink RX3 16 RX2).before _ s = true := hts _ (List.mem_of_getElem? (i := 8) rfl)
  have inX2 : (Cond.instantiable RX2 3).before _ s = true := hts _ (List.mem_of_getElem? (i := 9) rfl)
  have iniX2 : (Cond.initialized RX2).before _ s = true := hts _ (List.mem_of_getElem? (i := 10) rfl)
  have imX2 : (Cond.instanceMethod yX2_init).before _ s = true := hts _ (List.mem_of_getElem? (i := 33) rfl)
  have mlX2 : (Cond.methodLink RX3 18 yX2_init).before _ s = true := hts _ (List.mem_of_getElem? (i := 32) rfl)
  have f19 : (Cond.fieldLink RX3 19 "ConcertUsher" "history" "LConcertUsher$History;").before _ s = true := hts _ (List.mem_of_getElem? (i := 11) rfl)
  have cl23 : (Cond.classLink RX3 23 RX0).before _ s = true := hts _ (List.mem_of_getElem? (i := 12) rfl)
  have inX0 : (Cond.instantiable RX0 2).before _ s = true := hts _ (List.mem_of_getElem? (i := 13) rfl)
  have iniX0 : (Cond.initialized RX0).before _ s = true := hts _ (List.mem_of_getElem? (i := 14) rfl)
  have imX0 : (Cond.instanceMethod yX0_init).before _ s = true := hts _ (List.mem_of_getElem? (i := 40) rfl)
  have f26 : (Cond.fieldLink RX3 26 "ConcertUsher" "text" "LConcertUsher$EventText;").before _ s = true := hts _ (List.mem_of_getElem? (i := 15) rfl)
  refine lv_aload_n hx hb dX3_init_0 rfl (lv_at hl 0 rfl) ?_
  refine W.objInit hx hb hown oil oii (hts _ (List.mem_of_getElem? (i := 3) rfl)) rfl (by rw [hml]; exact hl.1) rfl dX3_init_1 (Nat.le_of_ble_eq_true rfl) (Nat.le_of_ble_eq_true rfl) ?_
  refine W.eq (g2 := F0 m 4 ls []) rfl ?_
  refine lv_aload_n hx hb dX3_init_4 rfl (lv_at hl 0 rfl) ?_
  refine va_new (ci := 1) (C := RX1) (T := TX1) (N := 12) (fs := raw1) hx hb hts hiX1 tyX1 tyX1_ok hown cl9 inX1 iniX1 hE.1 hP hD hS hA rfl (fun j hj => by rcases (show j = 0 ∨ j = 1 ∨ j = 2 ∨ j = 3 ∨ j = 4 ∨ j = 5 ∨ j = 6 ∨ j = 7 ∨ j = 8 ∨ j = 9 ∨ j = 10 ∨ j = 11 by omega) with rfl | rfl | rfl | rfl | rfl | rfl | rfl | rfl | rfl | rfl | rfl | rfl <;> rfl) (Nat.le_of_ble_eq_true rfl) (Nat.le_of_ble_eq_true rfl) dX3_init_5 (fun q1 H hP hD hS => ?_)
  have hP : va_P g.1 vwCl ([(b, .inr (3, [.null, .null, .null]))] ++ [(q1, .inr (1, raw1))]) _ := hP
  have hD : va_D A ([(b, .inr (3, [.null, .null, .null]))] ++ [(q1, .inr (1, raw1))]) := hD
  refine lv_dup hx hb dX3_init_8 rfl ?_
  have hP : va_P g.1 vwCl ([(b, .inr (3, [.null, .null, .null]))] ++ [(q1, .inr (1, raw1))]) _ := hP
  have hD : va_D A ([(b, .inr (3, [.null, .null, .null]))] ++ [(q1, .inr (1, raw1))]) := hD
  refine k_INn (As := []) (ws1 := (fun u => [(b, .inr (3, [.null, .null, .null]))] ++ (wH g u H0))) hF (c_X1_init l g q1) ⟨va_cnB 0 hts gX3_init_X1_init_n11 rfl rfl rfl hE.2.1.2.2.1 iniX1 (by decide +kernel) ⟨(Nat.le_of_ble_eq_true rfl), (Nat.le_of_ble_eq_true rfl)⟩, rfl, imX1⟩ hE hP hD hS hA List.perm_append_comm (fun _ => List.perm_append_comm) rfl hl.1 rfl (Nat.le_of_ble_eq_true rfl) dX3_init_9 ⟨(Nat.le_of_ble_eq_true rfl), (Nat.le_of_ble_eq_true rfl)⟩ (fun u2 H locs hu hP hD hS => ?_)
  have hu : (u2 0) = q1 := hu
  subst hu
  have hP : va_P g.1 vwCl ([(b, .inr (3, [.null, .null, .null]))] ++ (wH g u2 H0)) _ := hP
  have hD : va_D A ([(b, .inr (3, [.null, .null, .null]))] ++ (wH g u2 H0)) := hD
  refine va_putF (D := g.1) (ci := 3) (v := .ref (u2 0)) (ty := tyX3 0) (C := RX3) (T := TX3) (N := 3) hx hb hts hiX3 tyX3 tyX3_ok nmX3 hown hE.1 hP hD hS 0 rfl rfl 0 (by decide) f12 (fun _ h9 => h9) rfl hin rfl (tyX3_ok 0 (by decide)) rfl rfl (Nat.le_of_ble_eq_true rfl) dX3_init_12 (fun H locs hP hD hS => ?_)
  have hP : va_P g.1 vwCl ([(b, .inr (3, [.ref (u2 0), .null, .null]))] ++ (wH g u2 H0)) _ := hP
  have hD : va_D A ([(b, .inr (3, [.ref (u2 0), .null, .null]))] ++ (wH g u2 H0)) := hD
  refine lv_aload_n hx hb dX3_init_15 rfl (lv_at hl 0 rfl) ?_
  refine va_new (ci := 2) (C := RX2) (T := TX2) (N := 3) (fs := raw2) hx hb hts hiX2 tyX2 tyX2_ok hown cl16 inX2 iniX2 hE.1 hP hD hS hA rfl (fun j hj => by rcases (show j = 0 ∨ j = 1 ∨ j = 2 by omega) with rfl | rfl | rfl <;> rfl) (Nat.le_of_ble_eq_true rfl) (Nat.le_of_ble_eq_true rfl) dX3_init_16 (fun q3 H hP hD hS => ?_)
  have hP : va_P g.1 vwCl ([(b, .inr (3, [.ref (u2 0), .null, .null]))] ++ ((wH g u2 H0) ++ [(q3, .inr (2, raw2))])) _ := hP
  have hD : va_D A ([(b, .inr (3, [.ref (u2 0), .null, .null]))] ++ ((wH g u2 H0) ++ [(q3, .inr (2, raw2))])) := hD
  refine lv_dup hx hb dX3_init_19 rfl ?_
  have hP : va_P g.1 vwCl (([(b, .inr (3, [.ref (u2 0), .null, .null]))] ++ (wH g u2 H0)) ++ [(q3, .inr (2, raw2))]) _ := hP
  have hD : va_D A (([(b, .inr (3, [.ref (u2 0), .null, .null]))] ++ (wH g u2 H0)) ++ [(q3, .inr (2, raw2))]) := hD
  refine k_In (As := []) (ws1 := (fun u => ([(b, .inr (3, [.ref (u2 0), .null, .null]))] ++ (wH g u2 H0)) ++ ((wK0 g u.1 u.2 K0) ++ (wHs g u.2 (fun _ => H0) 6)))) hF (c_X2_init l g q3) ⟨callB_of 0 hts gX3_init_X2_init rfl rfl rfl mlX2 iniX2 (by decide +kernel) ⟨(Nat.le_of_ble_eq_true rfl), (Nat.le_of_ble_eq_true rfl)⟩, rfl, imX2⟩ hE hP hD hS hA List.perm_append_comm (fun _ => List.perm_append_comm) rfl hl.1 rfl (Nat.le_of_ble_eq_true rfl) dX3_init_20 ⟨(Nat.le_of_ble_eq_true rfl), (Nat.le_of_ble_eq_true rfl)⟩ (fun u4 H locs hu hP hD hS => ?_)
  have hu : (u4.1 0) = q3 := hu
  subst hu
  have hP : va_P g.1 vwCl ([(b, .inr (3, [.ref (u2 0), .null, .null]))] ++ ((wH g u2 H0) ++ ((wK0 g u4.1 u4.2 K0) ++ (wHs g u4.2 (fun _ => H0) 6)))) _ := hP
  have hD : va_D A ([(b, .inr (3, [.ref (u2 0), .null, .null]))] ++ ((wH g u2 H0) ++ ((wK0 g u4.1 u4.2 K0) ++ (wHs g u4.2 (fun _ => H0) 6)))) := hD
  refine va_putF (D := g.1) (ci := 3) (v := .ref (u4.1 0)) (ty := tyX3 1) (C := RX3) (T := TX3) (N := 3) hx hb hts hiX3 tyX3 tyX3_ok nmX3 hown hE.1 hP hD hS 0 rfl rfl 1 (by decide) f19 (fun _ h9 => h9) rfl hin rfl (tyX3_ok 1 (by decide)) rfl rfl (Nat.le_of_ble_eq_true rfl) dX3_init_23 (fun H locs hP hD hS => ?_)
  have hP : va_P g.1 vwCl ([(b, .inr (3, [.ref (u2 0), .ref (u4.1 0), .null]))] ++ ((wH g u2 H0) ++ ((wK0 g u4.1 u4.2 K0) ++ (wHs g u4.2 (fun _ => H0) 6)))) _ := hP
  have hD : va_D A ([(b, .inr (3, [.ref (u2 0), .ref (u4.1 0), .null]))] ++ ((wH g u2 H0) ++ ((wK0 g u4.1 u4.2 K0) ++ (wHs g u4.2 (fun _ => H0) 6)))) := hD
  refine lv_aload_n hx hb dX3_init_26 rfl (lv_at hl 0 rfl) ?_
  refine va_new (ci := 0) (C := RX0) (T := TX0) (N := 2) (fs := raw0) hx hb hts hiX0 tyX0 tyX0_ok hown cl23 inX0 iniX0 hE.1 hP hD hS hA rfl (fun j hj => by rcases (show j = 0 ∨ j = 1 by omega) with rfl | rfl <;> rfl) (Nat.le_of_ble_eq_true rfl) (Nat.le_of_ble_eq_true rfl) dX3_init_27 (fun q5 H hP hD hS => ?_)
  have hP : va_P g.1 vwCl ([(b, .inr (3, [.ref (u2 0), .ref (u4.1 0), .null]))] ++ ((wH g u2 H0) ++ (((wK0 g u4.1 u4.2 K0) ++ (wHs g u4.2 (fun _ => H0) 6)) ++ [(q5, .inr (0, raw0))]))) _ := hP
  have hD : va_D A ([(b, .inr (3, [.ref (u2 0), .ref (u4.1 0), .null]))] ++ ((wH g u2 H0) ++ (((wK0 g u4.1 u4.2 K0) ++ (wHs g u4.2 (fun _ => H0) 6)) ++ [(q5, .inr (0, raw0))]))) := hD
  refine lv_dup hx hb dX3_init_30 rfl ?_
  have hP : va_P g.1 vwCl (([(b, .inr (3, [.ref (u2 0), .ref (u4.1 0), .null]))] ++ ((wH g u2 H0) ++ ((wK0 g u4.1 u4.2 K0) ++ (wHs g u4.2 (fun _ => H0) 6)))) ++ [(q5, .inr (0, raw0))]) _ := hP
  have hD : va_D A (([(b, .inr (3, [.ref (u2 0), .ref (u4.1 0), .null]))] ++ ((wH g u2 H0) ++ ((wK0 g u4.1 u4.2 K0) ++ (wHs g u4.2 (fun _ => H0) 6)))) ++ [(q5, .inr (0, raw0))]) := hD
  refine k_INn (As := []) (ws1 := (fun u => ([(b, .inr (3, [.ref (u2 0), .ref (u4.1 0), .null]))] ++ ((wH g u2 H0) ++ ((wK0 g u4.1 u4.2 K0) ++ (wHs g u4.2 (fun _ => H0) 6)))) ++ (wT g u T0))) hF (c_X0_init l g q5) ⟨va_cnB 0 hts gX3_init_X0_init_n25 rfl rfl rfl hE.2.1.2.2.2 iniX0 (by decide +kernel) ⟨(Nat.le_of_ble_eq_true rfl), (Nat.le_of_ble_eq_true rfl)⟩, rfl, imX0⟩ hE hP hD hS hA List.perm_append_comm (fun _ => List.perm_append_comm) rfl hl.1 rfl (Nat.le_of_ble_eq_true rfl) dX3_init_31 ⟨(Nat.le_of_ble_eq_true rfl), (Nat.le_of_ble_eq_true rfl)⟩ (fun u6 H locs hu hP hD hS => ?_)
  have hu : (u6 0) = q5 := hu
  subst hu
  have hP : va_P g.1 vwCl ([(b, .inr (3, [.ref (u2 0), .ref (u4.1 0), .null]))] ++ ((wH g u2 H0) ++ (((wK0 g u4.1 u4.2 K0) ++ (wHs g u4.2 (fun _ => H0) 6)) ++ (wT g u6 T0)))) _ := hP
  have hD : va_D A ([(b, .inr (3, [.ref (u2 0), .ref (u4.1 0), .null]))] ++ ((wH g u2 H0) ++ (((wK0 g u4.1 u4.2 K0) ++ (wHs g u4.2 (fun _ => H0) 6)) ++ (wT g u6 T0)))) := hD
  refine va_putF (D := g.1) (ci := 3) (v := .ref (u6 0)) (ty := tyX3 2) (C := RX3) (T := TX3) (N := 3) hx hb hts hiX3 tyX3 tyX3_ok nmX3 hown hE.1 hP hD hS 0 rfl rfl 2 (by decide) f26 (fun _ h9 => h9) rfl hin rfl (tyX3_ok 2 (by decide)) rfl rfl (Nat.le_of_ble_eq_true rfl) dX3_init_34 (fun H locs hP hD hS => ?_)
  have hP : va_P g.1 vwCl ([(b, .inr (3, [.ref (u2 0), .ref (u4.1 0), .ref (u6 0)]))] ++ ((wH g u2 H0) ++ (((wK0 g u4.1 u4.2 K0) ++ (wHs g u4.2 (fun _ => H0) 6)) ++ (wT g u6 T0)))) _ := hP
  have hD : va_D A ([(b, .inr (3, [.ref (u2 0), .ref (u4.1 0), .ref (u6 0)]))] ++ ((wH g u2 H0) ++ (((wK0 g u4.1 u4.2 K0) ++ (wHs g u4.2 (fun _ => H0) 6)) ++ (wT g u6 T0)))) := hD
  have hP : va_P g.1 vwCl ((wU b (u2 0) (u4.1 0) (u6 0)) ++ ((wH g u2 H0) ++ (((wK0 g u4.1 u4.2 K0) ++ (wHs g u4.2 (fun _ => H0) 6)) ++ (wT g u6 T0)))) _ := hP
  have hD : va_D A ((wU b (u2 0) (u4.1 0) (u6 0)) ++ ((wH g u2 H0) ++ (((wK0 g u4.1 u4.2 K0) ++ (wHs g u4.2 (fun _ => H0) 6)) ++ (wT g u6 T0)))) := hD
  have hP : va_P g.1 vwCl ((wU b (u2 0) (u4.1 0) (u6 0)) ++ ((wH g u2 H0) ++ ((wT g u6 T0) ++ ((wK0 g u4.1 u4.2 K0) ++ (wHs g u4.2 (fun _ => H0) 6))))) _ := k_P_perm (k_pmX _ _ _ _) hP
  have hD : va_D A ((wU b (u2 0) (u4.1 0) (u6 0)) ++ ((wH g u2 H0) ++ ((wT g u6 T0) ++ ((wK0 g u4.1 u4.2 K0) ++ (wHs g u4.2 (fun _ => H0) 6))))) := k_D_perm (k_pmX _ _ _ _) hD
  exact k_nret ((u2, u6, u4.1, u4.2) : (Nat → Nat) × (Nat → Nat) × (Nat → Nat) × (Nat → Nat → Nat)) hx hb hr hlocks trivial hP hD hS (Nat.le_of_ble_eq_true rfl) (Nat.le_of_ble_eq_true rfl) dX3_init_37
set_option maxHeartbeats 4000000 in
set_option maxRecDepth 100000 in
theorem c_X4_init (l : Launch) (g : kG) (b : Nat) : KN l yX4_init wsX4_init ({ frames := 1, cells := 5, slots := 1116, locals := 20 }) g [.ref b] [(b, .inr (4, raw4))] (fun u : Nat → Nat => u 0 = b) (fun u => wM g u M0) 5 1116 := by
  refine k_begin (cc := cX4_init) (maxL := 1) (ret := none) (Qc := fun A => kQn g (fun u : Nat → Nat => u 0 = b) (fun u => wM g u M0) A) (by decide) rfl (Nat.le_of_ble_eq_true rfl) ?_
  intro p e s m below meth c A ls hF hr hlocks hin hE hP hD hS hA hl
  obtain ⟨hx, hb, hml, hown, hts⟩ := id hF
  have hown : s.vm.findClass RX4 = some m.cls := hown
  have hl : lv_has ls 1 [(0, .ref b)] := hl
  have hP : va_P g.1 vwCl [(b, .inr (4, [.int (nI 0), .null, .null, .null, .int (nI 0), .null, .int (nI 0), .int (nI 0), .int (nI 0), .null, .int (nI 0), .long 0]))] _ := hP
  have hD : va_D A [(b, .inr (4, [.int (nI 0), .null, .null, .null, .int (nI 0), .null, .int (nI 0), .int (nI 0), .int (nI 0), .null, .int (nI 0), .long 0]))] := hD
  have hiX4 : ∀ w ∈ wsX40, w ∈ wsX4_init := fun _ h => List.mem_cons_of_mem _ (List.mem_append_right _ (h))
  have oil : (Cond.methodLink RX4 1 objectInit).before _ s = true := hts _ (List.mem_of_getElem? (i := 1) rfl)
  have oii : (Cond.instanceMethod objectInit).before _ s = true := hts _ (List.mem_of_getElem? (i := 2) rfl)
  have ac_int : (Cond.arrayClass .int).before _ s = true := hts _ (List.mem_of_getElem? (i := 4) rfl)
  have f7 : (Cond.fieldLink RX4 7 "ConcertUsherModel" "s" "[I").before _ s = true := hts _ (List.mem_of_getElem? (i := 5) rfl)
  have f13 : (Cond.fieldLink RX4 13 "ConcertUsherModel" "aside" "[I").before _ s = true := hts _ (List.mem_of_getElem? (i := 6) rfl)
  have f16 : (Cond.fieldLink RX4 16 "ConcertUsherModel" "saved" "[I").before _ s = true := hts _ (List.mem_of_getElem? (i := 7) rfl)
  have f19 : (Cond.fieldLink RX4 19 "ConcertUsherModel" "buffer" "[I").before _ s = true := hts _ (List.mem_of_getElem? (i := 8) rfl)
  have f22 : (Cond.fieldLink RX4 22 "ConcertUsherModel" "read" "[I").before _ s = true := hts _ (List.mem_of_getElem? (i := 9) rfl)
  have f25 : (Cond.fieldLink RX4 25 "ConcertUsherModel" "thrown" "I").before _ s = true := hts _ (List.mem_of_getElem? (i := 10) rfl)
  refine lv_aload_n hx hb dX4_init_0 rfl (lv_at hl 0 rfl) ?_
  refine W.objInit hx hb hown oil oii (hts _ (List.mem_of_getElem? (i := 3) rfl)) rfl (by rw [hml]; exact hl.1) rfl dX4_init_1 (Nat.le_of_ble_eq_true rfl) (Nat.le_of_ble_eq_true rfl) ?_
  refine W.eq (g2 := F0 m 4 ls []) rfl ?_
  refine lv_aload_n hx hb dX4_init_4 rfl (lv_at hl 0 rfl) ?_
  refine lv_bipush (v := (nI 120)) hx hb dX4_init_5 (by decide) ?_
  refine k_newi hx hb ac_int hE hP hD hS hA 120 (by decide) (by decide) (Nat.le_of_ble_eq_true rfl) (Nat.le_of_ble_eq_true rfl) dX4_init_7 (fun q1 H hP hD hS => ?_)
  have hP : va_P g.1 vwCl ([(b, .inr (4, [.int (nI 0), .null, .null, .null, .int (nI 0), .null, .int (nI 0), .int (nI 0), .int (nI 0), .null, .int (nI 0), .long 0]))] ++ [(q1, .inl (g.2.1, 120, .inl z0))]) _ := hP
  have hD : va_D A ([(b, .inr (4, [.int (nI 0), .null, .null, .null, .int (nI 0), .null, .int (nI 0), .int (nI 0), .int (nI 0), .null, .int (nI 0), .long 0]))] ++ [(q1, .inl (g.2.1, 120, .inl z0))]) := hD
  refine va_putF (D := g.1) (ci := 4) (v := .ref q1) (ty := tyX4 1) (C := RX4) (T := TX4) (N := 12) hx hb hts hiX4 tyX4 tyX4_ok nmX4 hown hE.1 hP hD hS 0 rfl rfl 1 (by decide) f7 (fun _ h9 => h9) rfl hin rfl (tyX4_ok 1 (by decide)) rfl rfl (Nat.le_of_ble_eq_true rfl) dX4_init_9 (fun H locs hP hD hS => ?_)
  have hP : va_P g.1 vwCl ([(b, .inr (4, [.int (nI 0), .ref q1, .null, .null, .int (nI 0), .null, .int (nI 0), .int (nI 0), .int (nI 0), .null, .int (nI 0), .long 0]))] ++ [(q1, .inl (g.2.1, 120, .inl z0))]) _ := hP
  have hD : va_D A ([(b, .inr (4, [.int (nI 0), .ref q1, .null, .null, .int (nI 0), .null, .int (nI 0), .int (nI 0), .int (nI 0), .null, .int (nI 0), .long 0]))] ++ [(q1, .inl (g.2.1, 120, .inl z0))]) := hD
  refine lv_aload_n hx hb dX4_init_12 rfl (lv_at hl 0 rfl) ?_
  refine lv_bipush (v := (nI 120)) hx hb dX4_init_13 (by decide) ?_
  refine k_newi hx hb ac_int hE hP hD hS hA 120 (by decide) (by decide) (Nat.le_of_ble_eq_true rfl) (Nat.le_of_ble_eq_true rfl) dX4_init_15 (fun q2 H hP hD hS => ?_)
  have hP : va_P g.1 vwCl ([(b, .inr (4, [.int (nI 0), .ref q1, .null, .null, .int (nI 0), .null, .int (nI 0), .int (nI 0), .int (nI 0), .null, .int (nI 0), .long 0]))] ++ ([(q1, .inl (g.2.1, 120, .inl z0))] ++ [(q2, .inl (g.2.1, 120, .inl z0))])) _ := hP
  have hD : va_D A ([(b, .inr (4, [.int (nI 0), .ref q1, .null, .null, .int (nI 0), .null, .int (nI 0), .int (nI 0), .int (nI 0), .null, .int (nI 0), .long 0]))] ++ ([(q1, .inl (g.2.1, 120, .inl z0))] ++ [(q2, .inl (g.2.1, 120, .inl z0))])) := hD
  refine va_putF (D := g.1) (ci := 4) (v := .ref q2) (ty := tyX4 2) (C := RX4) (T := TX4) (N := 12) hx hb hts hiX4 tyX4 tyX4_ok nmX4 hown hE.1 hP hD hS 0 rfl rfl 2 (by decide) f13 (fun _ h9 => h9) rfl hin rfl (tyX4_ok 2 (by decide)) rfl rfl (Nat.le_of_ble_eq_true rfl) dX4_init_17 (fun H locs hP hD hS => ?_)
  have hP : va_P g.1 vwCl ([(b, .inr (4, [.int (nI 0), .ref q1, .ref q2, .null, .int (nI 0), .null, .int (nI 0), .int (nI 0), .int (nI 0), .null, .int (nI 0), .long 0]))] ++ ([(q1, .inl (g.2.1, 120, .inl z0))] ++ [(q2, .inl (g.2.1, 120, .inl z0))])) _ := hP
  have hD : va_D A ([(b, .inr (4, [.int (nI 0), .ref q1, .ref q2, .null, .int (nI 0), .null, .int (nI 0), .int (nI 0), .int (nI 0), .null, .int (nI 0), .long 0]))] ++ ([(q1, .inl (g.2.1, 120, .inl z0))] ++ [(q2, .inl (g.2.1, 120, .inl z0))])) := hD
  refine lv_aload_n hx hb dX4_init_20 rfl (lv_at hl 0 rfl) ?_
  refine lv_sipush (v := (nI 720)) hx hb dX4_init_21 (by decide) ?_
  refine k_newi hx hb ac_int hE hP hD hS hA 720 (by decide) (by decide) (Nat.le_of_ble_eq_true rfl) (Nat.le_of_ble_eq_true rfl) dX4_init_24 (fun q3 H hP hD hS => ?_)
  have hP : va_P g.1 vwCl ([(b, .inr (4, [.int (nI 0), .ref q1, .ref q2, .null, .int (nI 0), .null, .int (nI 0), .int (nI 0), .int (nI 0), .null, .int (nI 0), .long 0]))] ++ ([(q1, .inl (g.2.1, 120, .inl z0))] ++ ([(q2, .inl (g.2.1, 120, .inl z0))] ++ [(q3, .inl (g.2.1, 720, .inl z0))]))) _ := hP
  have hD : va_D A ([(b, .inr (4, [.int (nI 0), .ref q1, .ref q2, .null, .int (nI 0), .null, .int (nI 0), .int (nI 0), .int (nI 0), .null, .int (nI 0), .long 0]))] ++ ([(q1, .inl (g.2.1, 120, .inl z0))] ++ ([(q2, .inl (g.2.1, 120, .inl z0))] ++ [(q3, .inl (g.2.1, 720, .inl z0))]))) := hD
  refine va_putF (D := g.1) (ci := 4) (v := .ref q3) (ty := tyX4 3) (C := RX4) (T := TX4) (N := 12) hx hb hts hiX4 tyX4 tyX4_ok nmX4 hown hE.1 hP hD hS 0 rfl rfl 3 (by decide) f16 (fun _ h9 => h9) rfl hin rfl (tyX4_ok 3 (by decide)) rfl rfl (Nat.le_of_ble_eq_true rfl) dX4_init_26 (fun H locs hP hD hS => ?_)
  have hP : va_P g.1 vwCl ([(b, .inr (4, [.int (nI 0), .ref q1, .ref q2, .ref q3, .int (nI 0), .null, .int (nI 0), .int (nI 0), .int (nI 0), .null, .int (nI 0), .long 0]))] ++ ([(q1, .inl (g.2.1, 120, .inl z0))] ++ ([(q2, .inl (g.2.1, 120, .inl z0))] ++ [(q3, .inl (g.2.1, 720, .inl z0))]))) _ := hP
  have hD : va_D A ([(b, .inr (4, [.int (nI 0), .ref q1, .ref q2, .ref q3, .int (nI 0), .null, .int (nI 0), .int (nI 0), .int (nI 0), .null, .int (nI 0), .long 0]))] ++ ([(q1, .inl (g.2.1, 120, .inl z0))] ++ ([(q2, .inl (g.2.1, 120, .inl z0))] ++ [(q3, .inl (g.2.1, 720, .inl z0))]))) := hD
  refine lv_aload_n hx hb dX4_init_29 rfl (lv_at hl 0 rfl) ?_
  refine lv_bipush (v := (nI 60)) hx hb dX4_init_30 (by decide) ?_
  refine k_newi hx hb ac_int hE hP hD hS hA 60 (by decide) (by decide) (Nat.le_of_ble_eq_true rfl) (Nat.le_of_ble_eq_true rfl) dX4_init_32 (fun q4 H hP hD hS => ?_)
  have hP : va_P g.1 vwCl ([(b, .inr (4, [.int (nI 0), .ref q1, .ref q2, .ref q3, .int (nI 0), .null, .int (nI 0), .int (nI 0), .int (nI 0), .null, .int (nI 0), .long 0]))] ++ ([(q1, .inl (g.2.1, 120, .inl z0))] ++ ([(q2, .inl (g.2.1, 120, .inl z0))] ++ ([(q3, .inl (g.2.1, 720, .inl z0))] ++ [(q4, .inl (g.2.1, 60, .inl z0))])))) _ := hP
  have hD : va_D A ([(b, .inr (4, [.int (nI 0), .ref q1, .ref q2, .ref q3, .int (nI 0), .null, .int (nI 0), .int (nI 0), .int (nI 0), .null, .int (nI 0), .long 0]))] ++ ([(q1, .inl (g.2.1, 120, .inl z0))] ++ ([(q2, .inl (g.2.1, 120, .inl z0))] ++ ([(q3, .inl (g.2.1, 720, .inl z0))] ++ [(q4, .inl (g.2.1, 60, .inl z0))])))) := hD
  refine va_putF (D := g.1) (ci := 4) (v := .ref q4) (ty := tyX4 5) (C := RX4) (T := TX4) (N := 12) hx hb hts hiX4 tyX4 tyX4_ok nmX4 hown hE.1 hP hD hS 0 rfl rfl 5 (by decide) f19 (fun _ h9 => h9) rfl hin rfl (tyX4_ok 5 (by decide)) rfl rfl (Nat.le_of_ble_eq_true rfl) dX4_init_34 (fun H locs hP hD hS => ?_)
  have hP : va_P g.1 vwCl ([(b, .inr (4, [.int (nI 0), .ref q1, .ref q2, .ref q3, .int (nI 0), .ref q4, .int (nI 0), .int (nI 0), .int (nI 0), .null, .int (nI 0), .long 0]))] ++ ([(q1, .inl (g.2.1, 120, .inl z0))] ++ ([(q2, .inl (g.2.1, 120, .inl z0))] ++ ([(q3, .inl (g.2.1, 720, .inl z0))] ++ [(q4, .inl (g.2.1, 60, .inl z0))])))) _ := hP
  have hD : va_D A ([(b, .inr (4, [.int (nI 0), .ref q1, .ref q2, .ref q3, .int (nI 0), .ref q4, .int (nI 0), .int (nI 0), .int (nI 0), .null, .int (nI 0), .long 0]))] ++ ([(q1, .inl (g.2.1, 120, .inl z0))] ++ ([(q2, .inl (g.2.1, 120, .inl z0))] ++ ([(q3, .inl (g.2.1, 720, .inl z0))] ++ [(q4, .inl (g.2.1, 60, .inl z0))])))) := hD
  refine lv_aload_n hx hb dX4_init_37 rfl (lv_at hl 0 rfl) ?_
  refine lv_bipush (v := (nI 96)) hx hb dX4_init_38 (by decide) ?_
  refine k_newi hx hb ac_int hE hP hD hS hA 96 (by decide) (by decide) (Nat.le_of_ble_eq_true rfl) (Nat.le_of_ble_eq_true rfl) dX4_init_40 (fun q5 H hP hD hS => ?_)
  have hP : va_P g.1 vwCl ([(b, .inr (4, [.int (nI 0), .ref q1, .ref q2, .ref q3, .int (nI 0), .ref q4, .int (nI 0), .int (nI 0), .int (nI 0), .null, .int (nI 0), .long 0]))] ++ ([(q1, .inl (g.2.1, 120, .inl z0))] ++ ([(q2, .inl (g.2.1, 120, .inl z0))] ++ ([(q3, .inl (g.2.1, 720, .inl z0))] ++ ([(q4, .inl (g.2.1, 60, .inl z0))] ++ [(q5, .inl (g.2.1, 96, .inl z0))]))))) _ := hP
  have hD : va_D A ([(b, .inr (4, [.int (nI 0), .ref q1, .ref q2, .ref q3, .int (nI 0), .ref q4, .int (nI 0), .int (nI 0), .int (nI 0), .null, .int (nI 0), .long 0]))] ++ ([(q1, .inl (g.2.1, 120, .inl z0))] ++ ([(q2, .inl (g.2.1, 120, .inl z0))] ++ ([(q3, .inl (g.2.1, 720, .inl z0))] ++ ([(q4, .inl (g.2.1, 60, .inl z0))] ++ [(q5, .inl (g.2.1, 96, .inl z0))]))))) := hD
  refine va_putF (D := g.1) (ci := 4) (v := .ref q5) (ty := tyX4 9) (C := RX4) (T := TX4) (N := 12) hx hb hts hiX4 tyX4 tyX4_ok nmX4 hown hE.1 hP hD hS 0 rfl rfl 9 (by decide) f22 (fun _ h9 => h9) rfl hin rfl (tyX4_ok 9 (by decide)) rfl rfl (Nat.le_of_ble_eq_true rfl) dX4_init_42 (fun H locs hP hD hS => ?_)
  have hP : va_P g.1 vwCl ([(b, .inr (4, [.int (nI 0), .ref q1, .ref q2, .ref q3, .int (nI 0), .ref q4, .int (nI 0), .int (nI 0), .int (nI 0), .ref q5, .int (nI 0), .long 0]))] ++ ([(q1, .inl (g.2.1, 120, .inl z0))] ++ ([(q2, .inl (g.2.1, 120, .inl z0))] ++ ([(q3, .inl (g.2.1, 720, .inl z0))] ++ ([(q4, .inl (g.2.1, 60, .inl z0))] ++ [(q5, .inl (g.2.1, 96, .inl z0))]))))) _ := hP
  have hD : va_D A ([(b, .inr (4, [.int (nI 0), .ref q1, .ref q2, .ref q3, .int (nI 0), .ref q4, .int (nI 0), .int (nI 0), .int (nI 0), .ref q5, .int (nI 0), .long 0]))] ++ ([(q1, .inl (g.2.1, 120, .inl z0))] ++ ([(q2, .inl (g.2.1, 120, .inl z0))] ++ ([(q3, .inl (g.2.1, 720, .inl z0))] ++ ([(q4, .inl (g.2.1, 60, .inl z0))] ++ [(q5, .inl (g.2.1, 96, .inl z0))]))))) := hD
  refine lv_aload_n hx hb dX4_init_45 rfl (lv_at hl 0 rfl) ?_
  refine lv_iconst (v := (nI 0)) hx hb dX4_init_46 (by decide) ?_
  refine va_put (D := g.1) (ci := 4) (v := .int (nI 0)) (ty := tyX4 0) (C := RX4) (T := TX4) (N := 12) hx hb hts hiX4 tyX4 tyX4_ok nmX4 hown hE.1 hP hD hS 0 rfl rfl 0 (by decide) f25 (fun _ h9 => h9) rfl (tyX4_ok 0 (by decide)) rfl rfl (Nat.le_of_ble_eq_true rfl) dX4_init_47 (fun H locs hP hD hS => ?_)
  have hP : va_P g.1 vwCl ([(b, .inr (4, [.int (nI 0), .ref q1, .ref q2, .ref q3, .int (nI 0), .ref q4, .int (nI 0), .int (nI 0), .int (nI 0), .ref q5, .int (nI 0), .long 0]))] ++ ([(q1, .inl (g.2.1, 120, .inl z0))] ++ ([(q2, .inl (g.2.1, 120, .inl z0))] ++ ([(q3, .inl (g.2.1, 720, .inl z0))] ++ ([(q4, .inl (g.2.1, 60, .inl z0))] ++ [(q5, .inl (g.2.1, 96, .inl z0))]))))) _ := hP
  have hD : va_D A ([(b, .inr (4, [.int (nI 0), .ref q1, .ref q2, .ref q3, .int (nI 0), .ref q4, .int (nI 0), .int (nI 0), .int (nI 0), .ref q5, .int (nI 0), .long 0]))] ++ ([(q1, .inl (g.2.1, 120, .inl z0))] ++ ([(q2, .inl (g.2.1, 120, .inl z0))] ++ ([(q3, .inl (g.2.1, 720, .inl z0))] ++ ([(q4, .inl (g.2.1, 60, .inl z0))] ++ [(q5, .inl (g.2.1, 96, .inl z0))]))))) := hD
  refine lv_aload_n hx hb dX4_init_50 rfl (lv_at hl 0 rfl) ?_
  refine va_get (D := g.1) (ci := 4) (v := .ref q1) (C := RX4) (T := TX4) (N := 12) hx hb hts hiX4 hown hE.1 hP 0 rfl rfl 1 (by decide) f7 (fun _ h9 => h9) rfl dX4_init_51 ?_
  refine lv_iconst (v := (nI 0)) hx hb dX4_init_54 (by decide) ?_
  refine lv_bipush (v := (nI 20)) hx hb dX4_init_55 (by decide) ?_
  refine k_iast (f := z0) (ws1 := ([(b, .inr (4, [.int (nI 0), .ref q1, .ref q2, .ref q3, .int (nI 0), .ref q4, .int (nI 0), .int (nI 0), .int (nI 0), .ref q5, .int (nI 0), .long 0]))] ++ ([(q1, .inl (g.2.1, 120, .inl (upd z0 0 (nI 20))))] ++ ([(q2, .inl (g.2.1, 120, .inl z0))] ++ ([(q3, .inl (g.2.1, 720, .inl z0))] ++ ([(q4, .inl (g.2.1, 60, .inl z0))] ++ [(q5, .inl (g.2.1, 96, .inl z0))])))))) hx hb hE hP hD hS 1 rfl 0 rfl (by decide) (by decide) rfl dX4_init_57 (fun H locs hP hD hS => ?_)
  refine lv_aload_n hx hb dX4_init_58 rfl (lv_at hl 0 rfl) ?_
  refine va_get (D := g.1) (ci := 4) (v := .ref q1) (C := RX4) (T := TX4) (N := 12) hx hb hts hiX4 hown hE.1 hP 0 rfl rfl 1 (by decide) f7 (fun _ h9 => h9) rfl dX4_init_59 ?_
  refine lv_iconst (v := (nI 1)) hx hb dX4_init_62 (by decide) ?_
  refine lv_iconst (v := (nI 3)) hx hb dX4_init_63 (by decide) ?_
  refine k_iast (f := (upd z0 0 (nI 20))) (ws1 := ([(b, .inr (4, [.int (nI 0), .ref q1, .ref q2, .ref q3, .int (nI 0), .ref q4, .int (nI 0), .int (nI 0), .int (nI 0), .ref q5, .int (nI 0), .long 0]))] ++ ([(q1, .inl (g.2.1, 120, .inl (upd (upd z0 0 (nI 20)) 1 (nI 3))))] ++ ([(q2, .inl (g.2.1, 120, .inl z0))] ++ ([(q3, .inl (g.2.1, 720, .inl z0))] ++ ([(q4, .inl (g.2.1, 60, .inl z0))] ++ [(q5, .inl (g.2.1, 96, .inl z0))])))))) hx hb hE hP hD hS 1 rfl 1 rfl (by decide) (by decide) rfl dX4_init_64 (fun H locs hP hD hS => ?_)
  refine lv_aload_n hx hb dX4_init_65 rfl (lv_at hl 0 rfl) ?_
  refine va_get (D := g.1) (ci := 4) (v := .ref q1) (C := RX4) (T := TX4) (N := 12) hx hb hts hiX4 hown hE.1 hP 0 rfl rfl 1 (by decide) f7 (fun _ h9 => h9) rfl dX4_init_66 ?_
  refine lv_iconst (v := (nI 2)) hx hb dX4_init_69 (by decide) ?_
  refine lv_bipush (v := (nI 10)) hx hb dX4_init_70 (by decide) ?_
  refine k_iast (f := (upd (upd z0 0 (nI 20)) 1 (nI 3))) (ws1 := ([(b, .inr (4, [.int (nI 0), .ref q1, .ref q2, .ref q3, .int (nI 0), .ref q4, .int (nI 0), .int (nI 0), .int (nI 0), .ref q5, .int (nI 0), .long 0]))] ++ ([(q1, .inl (g.2.1, 120, .inl (upd (upd (upd z0 0 (nI 20)) 1 (nI 3)) 2 (nI 10))))] ++ ([(q2, .inl (g.2.1, 120, .inl z0))] ++ ([(q3, .inl (g.2.1, 720, .inl z0))] ++ ([(q4, .inl (g.2.1, 60, .inl z0))] ++ [(q5, .inl (g.2.1, 96, .inl z0))])))))) hx hb hE hP hD hS 1 rfl 2 rfl (by decide) (by decide) rfl dX4_init_72 (fun H locs hP hD hS => ?_)
  exact k_nret (ad6 b q1 q2 q3 q4 q5) hx hb hr hlocks rfl hP hD hS (Nat.le_of_ble_eq_true rfl) (Nat.le_of_ble_eq_true rfl) dX4_init_73
