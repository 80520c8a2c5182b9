/-! a cell of the script -/
def cellV (xs : Nat → Int32) (L k : Nat) : Int32 := if L ≤ k then nI 7919 * (nI k + nI 3) * (nI k + nI 11) else xs k
abbrev cPre (b L k : Nat) (xs : Nat → Int32) (sz : Nat) : Array Value → State → Prop := va_Pc [.ref b, .int (nI k)] (fun U => U.heap.size = sz ∧ va_X b L xs U U.heap ∧ b < sz)
theorem cPre.blind {b L k sz : Nat} {xs : Nat → Int32} : FrameBlind (cPre b L k xs sz) := fun a U gg mk q => ⟨q.1, q.2.1, va_X.moved (u := U) (U := U.calling gg mk a) (Vm.Alike.refl U.vm) q.2.2.1, q.2.2.2⟩
set_option maxHeartbeats 4000000 in
set_option maxRecDepth 100000 in
theorem c_L_cell (l : Launch) (g : kG) (b L k : Nat) (xs : Nat → Int32) (hL : L < 2 ^ 31) (hk : k < 2 ^ 31) : ∀ sz, Met l yL_cell wsL_cell ({ frames := 0, cells := 0, slots := 0, locals := 0 }) (cPre b L k xs sz) (kQi g (cellV xs L k) [] (va_A [] sz)) 0 0 (va_A [] sz) := by
  intro sz
  refine Met.ofW (cc := cL_cell) (maxL := 2) (ret := (some .int)) (by decide) rfl ?_
  intro p e s m args below meth c s₁ B hml hv
  obtain ⟨rfl, hsz, hX, hbl⟩ := hv
  subst hsz
  have hl := lv_entry ([.ref b, .int (nI k)]) (n := 2) (Nat.le_of_ble_eq_true rfl)
  rw [lg_entry_eq]
  generalize (lg_sl ([.ref b, .int (nI k)]) ++ List.replicate (2 - (lg_sl ([.ref b, .int (nI k)])).length) Slot.unset).toArray = ls at hl ⊢
  have hl : lv_has ls 2 [(0, .ref b), (1, .int (nI k))] := hl
  have hx := B.exec
  have hb : c.code = cL_cell := B.bytes
  have hr := B.returns
  have hlocks := B.notSynchronized
  have hS : va_S (va_A [] s.heap.size) s.heap s.heap [] := va_S.rf
  have hbA : ¬ va_A [] s.heap.size b := fun z => by
    rcases k_A_mem.mp z with ⟨x, hx9, -⟩ | h
    · exact absurd hx9 List.not_mem_nil
    · omega
  have hP : va_P g.1 vwCl [] s.heap := fun k q h => by simp at h
  have hD : va_D (va_A [] s.heap.size) [] := ⟨fun i j p q h => by simp at h, fun k q h => by simp at h⟩
  refine lv_iload_n hx hb dL_cell_0 rfl (lv_at hl 1 rfl) ?_
  refine lv_aload_n hx hb dL_cell_1 rfl (lv_at hl 0 rfl) ?_
  refine va_slen hx hb hX hbl hbA hS dL_cell_2 ?_
  refine k_top (show Int32.ofNat L = nI L from rfl) ?_
  refine k_geN (tgt := 12) hx hb hk hL dL_cell_3 (by decide) (fun c1 => ?_) (fun c1 => ?_)
  · refine lv_sipush (v := (nI 7919)) hx hb dL_cell_12 (by decide) ?_
    refine lv_iload_n hx hb dL_cell_15 rfl (lv_at hl 1 rfl) ?_
    refine lv_iconst (v := (nI 3)) hx hb dL_cell_16 (by decide) ?_
    refine lv_iadd hx hb dL_cell_17 ?_
    refine lv_imul hx hb dL_cell_18 ?_
    refine lv_iload_n hx hb dL_cell_19 rfl (lv_at hl 1 rfl) ?_
    refine lv_bipush (v := (nI 11)) hx hb dL_cell_20 (by decide) ?_
    refine lv_iadd hx hb dL_cell_22 ?_
    refine lv_imul hx hb dL_cell_23 ?_
    exact k_iret hx hb hr hlocks rfl (if_pos c1).symm hP hD hS (Nat.le_of_ble_eq_true rfl) (Nat.le_of_ble_eq_true rfl) dL_cell_24
  · refine lv_aload_n hx hb dL_cell_6 rfl (lv_at hl 0 rfl) ?_
    refine lv_iload_n hx hb dL_cell_7 rfl (lv_at hl 1 rfl) ?_
    refine va_sld hx hb hX hbl hbA hS (vp_in_nI c1 hL) dL_cell_8 ?_
    refine k_top (show xs (nI k).toNatClampNeg = xs k from by rw [nI_clamp hk]) ?_
    refine lv_goto (tgt := 24) hx hb dL_cell_9 (by decide) ?_
    exact k_iret hx hb hr hlocks rfl (if_neg (Nat.not_le.mpr c1)).symm hP hD hS (Nat.le_of_ble_eq_true rfl) (Nat.le_of_ble_eq_true rfl) dL_cell_24
section KCell
variable {p : Program} {l : Launch} {e : Env} {R : Room} {s : State} {m : MethodId} {args : Array Value} {below : List Frame} {meth : Method} {c : Code} {H : Heap} {locs : List Loc} {cells slots : Nat} {Q : State → Prop}
variable {cc : ByteArray} {pc : Nat} {ls : Array Slot} {rest st0 : List Value} {g : kG} {A : Nat → Prop} {ws : va_W}
theorem k_cell {own : String} {nL b L k index : Nat} {xs : Nat → Int32} {Ts : List Cond} (S : CallFix p m c cc nL s args Ts own) (hL : L < 2 ^ 31) (hk : k < 2 ^ 31) (hX : va_X b L xs s s.heap) (hbl : b < s.heap.size) (hbA : ¬ A b) (cw : CallB R s args own index yL_cell cL_cell 2 (some .int) wsL_cell ({ frames := 0, cells := 0, slots := 0, locals := 0 }) 0 0 2 ∧ (Cond.static yL_cell).before args s = true) (hP : va_P g.1 vwCl ws H) (hD : va_D A ws) (hS : va_S A s.heap H locs) (hA : ∀ q : Nat, s.heap.size ≤ q → A q)
    (hls : ls.size = nL) (hst : st0 = .int (nI k) :: .ref b :: rest) (hW : (rest.map fun v => v.category).sum ≤ 8) (hdg : decode cc pc = .ok (.invokestatic index, 3)) (hf : cells + 0 ≤ R.cells ∧ slots + 0 ≤ R.slots)
    (kk : ∀ (H1 : Heap) (locs1 : List Loc), va_P g.1 vwCl ws H1 → va_D A ws → va_S A s.heap H1 locs1 → W p l e R s m args below meth c H1 locs1 (cells + 0) (slots + 0) Q (F0 m (pc + 3) ls (.int (cellV xs L k) :: rest))) : W p l e R s m args below meth c H locs cells slots Q (F0 m pc ls st0) := by
  subst hst
  have hp : ws.Perm ([] ++ ws) := List.Perm.refl _
  refine va_calli (va_runS (As := [.ref b, .int (nI k)]) (rest := rest) S (c_L_cell l g b L k xs hL hk H.size) cw ⟨cPre.blind, fun U hU hW9 => ⟨rfl, by rw [hU], by rw [hU]; exact ((hX.kept (hS.2.1 b hbl hbA)).moved hW9.alike), Nat.lt_of_lt_of_le hbl hS.1⟩⟩ rfl rfl hls rfl (lv_room hW) hdg hf) hS (fun q _ h => k_free hD hS hA hp q h) (k_free hD hS hA hp) (fun r' u t H1 locs1 ht hvm hw hB hz1 hk1 hS1 => ?_)
  subst hw
  obtain ⟨hP1, hD1⟩ := hB
  rw [ht] at hP1
  have hj := k_join hP hD hS hA hp hp.symm hk1 hP1 hD1
  exact kk H1 locs1 hj.1 hj.2 hS1
end KCell
/-! the state at every turn -/
def GS (T : Nat) (c : CSt) : Prop := cod c < 6 ∧ csz c ≤ 5 ∧ GH T (ch c) ∧ ∀ j, GH T (chs c j)
theorem gs_mono {T : Nat} {c : CSt} (G : GS T c) : GS (T + 1) c := ⟨G.1, G.2.1, G.2.2.1.mono (by omega), fun j => (G.2.2.2 j).mono (by omega)⟩
theorem gh_up {T : Nat} {hs : Nat → HSt} {j0 : Nat} {h : HSt} (h1 : ∀ j, GH T (hs j)) (h2 : GH T h) : ∀ j, GH T (va_up hs j0 h j) := fun j => by
  unfold va_up
  by_cases c : j = j0
  · rw [if_pos c]; exact h2
  · rw [if_neg c]; exact h1 j
theorem gs_k5 {T : Nat} {c : CSt} (G : GS T c) (hz : csz c ≤ 4) {h : HSt} (g : GH (T + 1) h) : GS (T + 1) (k5 c h) := ⟨G.1, by show csz c + 1 ≤ 5; omega, g, gh_up (fun j => (G.2.2.2 j).mono (by omega)) (G.2.2.1.mono (by omega))⟩
theorem gs_p5 {T : Nat} {c : CSt} (G : GS T c) : GS T (p5 c) := ⟨G.1, G.2.1, G.2.2.1, gh_up G.2.2.2 G.2.2.1⟩
abbrev cs00 : CSt := (H0, 0, 0, fun _ => H0, z0, 0)
theorem gh_0 : GH 0 H0 := ⟨⟨fun k _ => ⟨0, by decide, rfl⟩, fun k _ => ⟨0, by decide, rfl⟩, ⟨20, by decide, rfl⟩, ⟨3, by decide, rfl⟩, ⟨10, by decide, rfl⟩, ⟨0, by decide, rfl⟩, ⟨0, by decide, rfl⟩⟩, ⟨Or.inl rfl, Or.inl rfl, Or.inl rfl⟩, 0, 0, rfl, rfl, Nat.le_refl 0⟩
theorem gs_0 : GS 0 cs00 := ⟨by decide, by decide, gh_0, fun _ => gh_0⟩
