/-! the law: its rows -/
abbrev wC (g : kG) (u : Nat) (ah at9 a0 : Nat → Nat) (ak : Nat → Nat → Nat) (cs : CSt) : va_W := (wU u (ah 0) (a0 0) (at9 0)) ++ ((wH g ah (ch cs)) ++ ((wT g at9 (csg cs, nI (cn cs))) ++ ((wK0 g a0 ak (nI (cod cs), nI (csz cs))) ++ (wHs g ak (chs cs) 6))))
abbrev wOC (g : kG) (o u : Nat) (ah at9 a0 : Nat → Nat) (ak : Nat → Nat → Nat) (f : Nat → Int64) (cs : CSt) : va_W := (wO g o f) ++ (wC g u ah at9 a0 ak cs)
abbrev wA (g : kG) (o u : Nat) (ah at9 a0 : Nat → Nat) (ak : Nat → Nat → Nat) (am : Nat → Nat) (f : Nat → Int64) (cs : CSt) (m9 : MSt) : va_W := (wM g am m9) ++ (wOC g o u ah at9 a0 ak f cs)
theorem law_pick {g : kG} {o u : Nat} {ah at9 a0 : Nat → Nat} {ak : Nat → Nat → Nat} {cd : Nat} {f : Nat → Int64} {r b : Int32} {cs c2 : CSt} {m2 : MSt} (q2 : cd = 0 → r = b ∧ Sim c2 m2) (q3 : ¬ cd = 0 → Sim cs m2) : ∃ (f1 : Nat → Int64) (c1 : CSt), (if cd = 0 then wOC g o u ah at9 a0 ak (vp_updL f 0 (Int32.toInt64 r)) c2 else wOC g o u ah at9 a0 ak f cs) = wOC g o u ah at9 a0 ak f1 c1 ∧ (cd = 0 → f1 0 = Int32.toInt64 b) ∧ Sim c1 m2 := by
  by_cases h : cd = 0
  · obtain ⟨e, S⟩ := q2 h
    exact ⟨_, _, if_pos h, fun _ => by rw [← e]; exact if_pos rfl, S⟩
  · exact ⟨f, cs, if_neg h, fun z => absurd z h, q3 h⟩
theorem law_pickB {g : kG} {o u : Nat} {ah at9 a0 : Nat → Nat} {ak : Nat → Nat → Nat} {cd : Nat} {f : Nat → Int64} {P : Prop} [Decidable P] {b : Int32} {cs c2 : CSt} {m2 : MSt} (q2 : cd = 0 → bI P = b ∧ Sim c2 m2) (q3 : ¬ cd = 0 → Sim cs m2) : ∃ (f1 : Nat → Int64) (c1 : CSt), (if cd = 0 then wOC g o u ah at9 a0 ak (vp_updL f 0 (bL P)) c2 else wOC g o u ah at9 a0 ak f cs) = wOC g o u ah at9 a0 ak f1 c1 ∧ (cd = 0 → (b = 0 ∧ f1 0 = 0) ∨ (¬ b = 0 ∧ f1 0 = 1)) ∧ Sim c1 m2 := by
  by_cases h : cd = 0
  · obtain ⟨e, S⟩ := q2 h
    refine ⟨_, _, if_pos h, fun _ => ?_, S⟩
    have e2 : vp_updL f 0 (bL P) 0 = bL P := if_pos rfl
    rw [← e, e2]
    by_cases d : P
    · exact Or.inr ⟨bI_ne.mpr d, bL_t d⟩
    · exact Or.inl ⟨bI_eq.mpr d, bL_f d⟩
  · exact ⟨f, cs, if_neg h, fun z => absurd z h, q3 h⟩
theorem pm_last {α : Type} (B R x : List α) : (B ++ (R ++ x)).Perm (x ++ (B ++ R)) := by
  rw [← List.append_assoc]
  exact List.perm_append_comm
section KL9
variable {p : Program} {l : Launch} {e : Env} {R : Room} {s : State} {m : MethodId} {args : Array Value} {below : List Frame} {meth : Method} {c : Code} {H : Heap} {locs : List Loc} {cells slots : Nat} {Q : State → Prop}
variable {cc : ByteArray} {pc : Nat} {ls : Array Slot} {rest : List Value} {g : kG} {A : Nat → Prop} {ws : va_W}
/-- a number of the script -/
theorem k_arg (hx : p.tables.exec = Jvm.exec) (hb : c.code = cc) {b L i k : Nat} {n : Int} {xs : Nat → Int32} (hn : Int32.ofInt n = nI k) (hk : i + k < L) (hL : L ≤ 2048) (hX : va_X b L xs s s.heap) (hbl : b < s.heap.size) (hbA : ¬ A b) (hS : va_S A s.heap H locs) (l0 : ls[0]? = some (.val (.ref b))) (l4 : ls[4]? = some (.val (.int (nI i)))) (d0 : decode cc pc = .ok (.aload_n 0, 1)) (d1 : decode cc (pc + 1) = .ok (.iload 4, 2)) (d3 : decode cc (pc + 1 + 2) = .ok (.iconst n, 1)) (d4 : decode cc (pc + 1 + 2 + 1) = .ok (.iadd, 1)) (d5 : decode cc (pc + 1 + 2 + 1 + 1) = .ok (.iaload, 1))
    (kk : W p l e R s m args below meth c H locs cells slots Q (F0 m (pc + 1 + 2 + 1 + 1 + 1) ls (.int (xs (i + k)) :: rest))) : W p l e R s m args below meth c H locs cells slots Q (F0 m pc ls rest) := by
  refine lv_aload_n hx hb d0 rfl l0 ?_
  refine lv_iload hx hb d1 l4 ?_
  refine lv_iconst (v := nI k) hx hb d3 hn ?_
  refine lv_iadd hx hb d4 ?_
  rw [nI_add]
  refine va_sld hx hb hX hbl hbA hS (vp_in_nI hk (by omega)) d5 ?_
  rw [nI_clamp (by omega)]
  exact kk
/-- a number as a boolean -/
theorem k_boo (hx : p.tables.exec = Jvm.exec) (hb : c.code = cc) {x : Int32} (d0 : decode cc pc = .ok (.ifCond .eq 7, 3)) (d3 : decode cc (pc + 3) = .ok (.iconst 1, 1)) (d4 : decode cc (pc + 3 + 1) = .ok (.goto 4, 3)) (d7 : decode cc (pc + 7) = .ok (.iconst 0, 1))
    (kk : W p l e R s m args below meth c H locs cells slots Q (F0 m (pc + 8) ls (.int (nI (b01 (¬ x = 0))) :: rest))) : W p l e R s m args below meth c H locs cells slots Q (F0 m pc ls (.int x :: rest)) := by
  refine lv_if_eq (tgt := pc + 7) hx hb d0 (by omega) (fun h => ?_) (fun h => ?_)
  · rw [b01_f (not_not_intro h)] at kk
    exact lv_iconst (v := nI 0) hx hb d7 (by decide) kk
  · rw [b01_t h] at kk
    refine lv_iconst (v := nI 1) hx hb d3 (by decide) ?_
    exact lv_goto (tgt := pc + 8) hx hb d4 (by omega) kk
/-- behind both calls: the codes agree, the answers too -/
theorem k_tail (hx : p.tables.exec = Jvm.exec) (hb : c.code = cc) {o cd tgt : Nat} {th bv : Int32} {f1 : Nat → Int64} {off : Int} (d0 : decode cc pc = .ok (.iload 5, 2)) (d2 : decode cc (pc + 2) = .ok (.if_icmp .eq 5, 3)) (d7 : decode cc (pc + 7) = .ok (.iload 5, 2)) (d9 : decode cc (pc + 7 + 2) = .ok (.ifCond .ne 15, 3)) (d12 : decode cc (pc + 7 + 2 + 3) = .ok (.aload_n 3, 1)) (d13 : decode cc (pc + 7 + 2 + 3 + 1) = .ok (.iconst 0, 1)) (d14 : decode cc (pc + 7 + 2 + 3 + 1 + 1) = .ok (.laload, 1)) (d15 : decode cc (pc + 7 + 2 + 3 + 1 + 1 + 1) = .ok (.iload 6, 2)) (d17 : decode cc (pc + 7 + 2 + 3 + 1 + 1 + 1 + 2) = .ok (.i2l, 1)) (d18 : decode cc (pc + 7 + 2 + 3 + 1 + 1 + 1 + 2 + 1) = .ok (.lcmp, 1)) (d19 : decode cc (pc + 7 + 2 + 3 + 1 + 1 + 1 + 2 + 1 + 1) = .ok (.ifCond .eq 5, 3)) (d24 : decode cc (pc + 24) = .ok (.goto off, 3)) (ht : ((pc + 24 : Nat) : Int) + off = (tgt : Int))
    (hE : kE g s) (hP : va_P g.1 vwCl ws H) (he : ws[6]? = some (o, .inl (g.2.2.2.2, 1, .inr (.inl f1)))) (l3 : ls[3]? = some (.val (.ref o))) (l5 : ls[5]? = some (.val (.int (nI cd)))) (l6 : ls[6]? = some (.val (.int bv))) (hcd : cd < 2 ^ 31) (ef : cd = 0 → f1 0 = Int32.toInt64 bv) (eth : th = nI cd)
    (kk : W p l e R s m args below meth c H locs cells slots Q (F0 m tgt ls [])) : W p l e R s m args below meth c H locs cells slots Q (F0 m pc ls [.int th]) := by
  subst eth
  refine lv_iload hx hb d0 l5 ?_
  refine lv_icmp_eq (tgt := pc + 7) hx hb d2 (by omega) (fun _ => ?_) (fun h => absurd rfl h)
  refine lv_iload hx hb d7 l5 ?_
  refine k_ifn0 (tgt := pc + 24) hx hb hcd d9 (by omega) (fun h => ?_) (fun h => ?_)
  · exact lv_goto (tgt := tgt) hx hb d24 ht kk
  · refine lv_aload_n hx hb d12 rfl l3 ?_
    refine lv_iconst (v := nI 0) hx hb d13 (by decide) ?_
    refine k_lald hx hb hE hP 6 he 0 rfl (by decide) (by decide) d14 ?_
    refine lv_iload hx hb d15 l6 ?_
    refine lv_i2l (v := Int32.toInt64 bv) hx hb d17 rfl ?_
    refine W.lcmp hx hb d18 ?_
    refine lv_if_eq (tgt := pc + 24) hx hb d19 (by omega) (fun _ => lv_goto (tgt := tgt) hx hb d24 ht kk) (fun h9 => absurd ((lg_cmp_eq _ _).mpr (ef h)) h9)
/-- the same, the answers booleans -/
theorem k_tailB (hx : p.tables.exec = Jvm.exec) (hb : c.code = cc) {o cd tgt : Nat} {th bv : Int32} {f1 : Nat → Int64} {off : Int} (d0 : decode cc pc = .ok (.iload 5, 2)) (d2 : decode cc (pc + 2) = .ok (.if_icmp .eq 5, 3)) (d7 : decode cc (pc + 7) = .ok (.iload 5, 2)) (d9 : decode cc (pc + 7 + 2) = .ok (.ifCond .ne 22, 3)) (d12 : decode cc (pc + 7 + 2 + 3) = .ok (.aload_n 3, 1)) (d13 : decode cc (pc + 7 + 2 + 3 + 1) = .ok (.iconst 0, 1)) (d14 : decode cc (pc + 7 + 2 + 3 + 1 + 1) = .ok (.laload, 1)) (d15 : decode cc (pc + 7 + 2 + 3 + 1 + 1 + 1) = .ok (.iload 6, 2)) (d17 : decode cc (pc + 17) = .ok (.ifCond .eq 7, 3)) (d20 : decode cc (pc + 17 + 3) = .ok (.lconst 1, 1)) (d21 : decode cc (pc + 17 + 3 + 1) = .ok (.goto 4, 3)) (d24 : decode cc (pc + 24) = .ok (.lconst 0, 1)) (d25 : decode cc (pc + 25) = .ok (.lcmp, 1)) (d26 : decode cc (pc + 25 + 1) = .ok (.ifCond .eq 5, 3)) (d31 : decode cc (pc + 31) = .ok (.goto off, 3)) (ht : ((pc + 31 : Nat) : Int) + off = (tgt : Int))
    (hE : kE g s) (hP : va_P g.1 vwCl ws H) (he : ws[6]? = some (o, .inl (g.2.2.2.2, 1, .inr (.inl f1)))) (l3 : ls[3]? = some (.val (.ref o))) (l5 : ls[5]? = some (.val (.int (nI cd)))) (l6 : ls[6]? = some (.val (.int bv))) (hcd : cd < 2 ^ 31) (ef : cd = 0 → (bv = 0 ∧ f1 0 = 0) ∨ (¬ bv = 0 ∧ f1 0 = 1)) (eth : th = nI cd)
    (kk : W p l e R s m args below meth c H locs cells slots Q (F0 m tgt ls [])) : W p l e R s m args below meth c H locs cells slots Q (F0 m pc ls [.int th]) := by
  subst eth
  refine lv_iload hx hb d0 l5 ?_
  refine lv_icmp_eq (tgt := pc + 7) hx hb d2 (by omega) (fun _ => ?_) (fun h => absurd rfl h)
  refine lv_iload hx hb d7 l5 ?_
  refine k_ifn0 (tgt := pc + 31) hx hb hcd d9 (by omega) (fun h => ?_) (fun h => ?_)
  · exact lv_goto (tgt := tgt) hx hb d31 ht kk
  · refine lv_aload_n hx hb d12 rfl l3 ?_
    refine lv_iconst (v := nI 0) hx hb d13 (by decide) ?_
    refine k_lald hx hb hE hP 6 he 0 rfl (by decide) (by decide) d14 ?_
    refine lv_iload hx hb d15 l6 ?_
    refine lv_if_eq (tgt := pc + 24) hx hb d17 (by omega) (fun h1 => ?_) (fun h1 => ?_)
    · have e0 : f1 0 = 0 := (ef h).elim (fun z => z.2) (fun z => absurd h1 z.1)
      refine lv_lconst (v := 0) hx hb d24 (by decide) ?_
      refine W.lcmp hx hb d25 ?_
      refine lv_if_eq (tgt := pc + 31) hx hb d26 (by omega) (fun _ => lv_goto (tgt := tgt) hx hb d31 ht kk) (fun h9 => absurd ((lg_cmp_eq _ _).mpr e0) h9)
    · have e0 : f1 0 = 1 := (ef h).elim (fun z => absurd z.1 h1) (fun z => z.2)
      refine lv_lconst (v := 1) hx hb d20 (by decide) ?_
      refine lv_goto (tgt := pc + 25) hx hb d21 (by omega) ?_
      refine W.lcmp hx hb d25 ?_
      refine lv_if_eq (tgt := pc + 31) hx hb d26 (by omega) (fun _ => lv_goto (tgt := tgt) hx hb d31 ht kk) (fun h9 => absurd ((lg_cmp_eq _ _).mpr e0) h9)
end KL9
/-- what holds all through the law -/
def LwC (p : Program) (l : Launch) (s : State) (m : MethodId) (c : Code) (g : kG) (sa : Nat → Nat) (b L : Nat) (xs : Nat → Int32) : Prop := CallFix p m c cL_law 9 s #[Value.ref b] wsL_law RL ∧ l.stackTraces = false ∧ kE g s ∧ kS sa s ∧ kZ (fun q : Nat => s.heap.size ≤ q) s s.heap ∧ va_X b L xs s s.heap ∧ b < s.heap.size ∧ L ≤ 2048
/-- where every call of the law goes on -/
def LwK (p : Program) (l : Launch) (e : Env) (s : State) (m : MethodId) (below : List Frame) (meth : Method) (c : Code) (g : kG) (b o u : Nat) (ah at9 a0 : Nat → Nat) (ak : Nat → Nat → Nat) (am : Nat → Nat) (i cells slots : Nat) (Q : State → Prop) : Prop :=
  ∀ (H : Heap) (locs : List Loc) (ls : Array Slot) (f1 : Nat → Int64) (c1 : CSt) (m1 : MSt), Sim c1 m1 → va_P g.1 vwCl (wA g o u ah at9 a0 ak am f1 c1 m1) H → va_D (fun q : Nat => s.heap.size ≤ q) (wA g o u ah at9 a0 ak am f1 c1 m1) → va_S (fun q : Nat => s.heap.size ≤ q) s.heap H locs → lv_has ls 9 [(4, .int (nI i)), (0, .ref b), (1, .ref u), (2, .ref (am 0)), (3, .ref o)] → W p l e room_1 s m #[Value.ref b] below meth c H locs cells slots Q (F0 m 1546 ls [])
/-- where every call of the law begins -/
def LwI (s : State) (g : kG) (b o u : Nat) (ah at9 a0 : Nat → Nat) (ak : Nat → Nat → Nat) (am : Nat → Nat) (i : Nat) (H : Heap) (locs : List Loc) (ls : Array Slot) (f : Nat → Int64) (cs : CSt) (m9 : MSt) : Prop := Sim cs m9 ∧ va_P g.1 vwCl (wA g o u ah at9 a0 ak am f cs m9) H ∧ va_D (fun q : Nat => s.heap.size ≤ q) (wA g o u ah at9 a0 ak am f cs m9) ∧ va_S (fun q : Nat => s.heap.size ≤ q) s.heap H locs ∧ lv_has ls 9 [(4, .int (nI i)), (0, .ref b), (1, .ref u), (2, .ref (am 0)), (3, .ref o)]
