/-! what the reference's methods do -/
theorem k_P_ext {D : va_G} {cl : List vw_C} {a n : Nat} {cA : ClassId} {ws ws2 : va_W} {f f2 : Nat → Int32} {H : Heap} (p : Nat) (hq : ws[p]? = some (a, .inl (cA, n, .inl f))) (hw : ws.set p (a, .inl (cA, n, .inl f2)) = ws2) (hf : ∀ k, k < n → f k = f2 k) (hP : va_P D cl ws H) : va_P D cl ws2 H := by
  subst hw
  have hp : p < ws.length := by
    by_cases c : p < ws.length
    · exact c
    · rw [List.getElem?_eq_none (by omega)] at hq; cases hq
  intro k q hq2
  by_cases hk : k = p
  · subst hk
    rw [List.getElem?_set_self hp] at hq2
    cases hq2
    exact k_at_ext hf (hP k _ hq)
  · rw [List.getElem?_set_ne (Ne.symm hk)] at hq2
    exact hP k q hq2
set_option maxHeartbeats 4000000 in
set_option maxRecDepth 100000 in
theorem c_X4_in (l : Launch) (g : kG) (x y z : Int32) : KI l yX4_in wsX4_in ({ frames := 0, cells := 0, slots := 0, locals := 0 }) g [.int x, .int y, .int z] [] (bI (y ≤ x ∧ x ≤ z)) [] 0 0 := by
  refine k_begin (cc := cX4_in) (maxL := 3) (ret := (some .boolean)) (Qc := fun A => kQi g (bI (y ≤ x ∧ x ≤ z)) [] A) (by decide) rfl (Nat.le_of_ble_eq_true rfl) ?_
  intro p e s m below meth c A ls hF hr hlocks hin hE hP hD hS hA hl
  obtain ⟨hx, hb, hml, hown, hts⟩ := id hF
  have hown : s.vm.findClass RX4 = some m.cls := hown
  have hl : lv_has ls 3 [(0, .int x), (1, .int y), (2, .int z)] := hl
  refine lv_iload_n hx hb dX4_in_0 rfl (lv_at hl 0 rfl) ?_
  refine lv_iload_n hx hb dX4_in_1 rfl (lv_at hl 1 rfl) ?_
  refine lv_icmp_lt (tgt := 14) hx hb dX4_in_2 (by decide) (fun c1 => ?_) (fun c1 => ?_)
  ·
    refine lv_iconst (v := (nI 0)) hx hb dX4_in_14 (by decide) ?_
    have hP : va_P g.1 vwCl [] _ := hP
    have hD : va_D A [] := hD
    exact k_iret hx hb hr hlocks rfl (bI_f (fun h9 => absurd ‹_› (Int32.not_lt.mpr h9.1))).symm hP hD hS (Nat.le_of_ble_eq_true rfl) (Nat.le_of_ble_eq_true rfl) dX4_in_15
  ·
    refine lv_iload_n hx hb dX4_in_5 rfl (lv_at hl 0 rfl) ?_
    refine lv_iload_n hx hb dX4_in_6 rfl (lv_at hl 2 rfl) ?_
    refine lv_icmp_gt (tgt := 14) hx hb dX4_in_7 (by decide) (fun c2 => ?_) (fun c2 => ?_)
    ·
      refine lv_iconst (v := (nI 0)) hx hb dX4_in_14 (by decide) ?_
      have hP : va_P g.1 vwCl [] _ := hP
      have hD : va_D A [] := hD
      exact k_iret hx hb hr hlocks rfl (bI_f (fun h9 => absurd ‹_› (Int32.not_lt.mpr h9.2))).symm hP hD hS (Nat.le_of_ble_eq_true rfl) (Nat.le_of_ble_eq_true rfl) dX4_in_15
    ·
      refine lv_iconst (v := (nI 1)) hx hb dX4_in_10 (by decide) ?_
      refine lv_goto (tgt := 15) hx hb dX4_in_11 (by decide) ?_
      have hP : va_P g.1 vwCl [] _ := hP
      have hD : va_D A [] := hD
      exact k_iret hx hb hr hlocks rfl (bI_t ⟨Int32.not_lt.mp ‹_›, Int32.not_lt.mp ‹_›⟩).symm hP hD hS (Nat.le_of_ble_eq_true rfl) (Nat.le_of_ble_eq_true rfl) dX4_in_15
set_option maxHeartbeats 4000000 in
set_option maxRecDepth 100000 in
theorem c_X4_cellOf (l : Launch) (g : kG) (r c9 : Nat) : KI l yX4_cellOf wsX4_cellOf ({ frames := 0, cells := 0, slots := 0, locals := 0 }) g [.int (nI r), .int (nI c9)] [] (nI (6 * r + c9)) [] 0 0 := by
  refine k_begin (cc := cX4_cellOf) (maxL := 2) (ret := (some .int)) (Qc := fun A => kQi g (nI (6 * r + c9)) [] A) (by decide) rfl (Nat.le_of_ble_eq_true rfl) ?_
  intro p e s m below meth c A ls hF hr hlocks hin hE hP hD hS hA hl
  obtain ⟨hx, hb, hml, hown, hts⟩ := id hF
  have hown : s.vm.findClass RX4 = some m.cls := hown
  have hl : lv_has ls 2 [(0, .int (nI r)), (1, .int (nI c9))] := hl
  refine lv_bipush (v := (nI 6)) hx hb dX4_cellOf_0 (by decide) ?_
  refine lv_iload_n hx hb dX4_cellOf_2 rfl (lv_at hl 0 rfl) ?_
  refine lv_imul hx hb dX4_cellOf_3 ?_
  refine k_top (pk_mul _ _) ?_
  refine lv_iload_n hx hb dX4_cellOf_4 rfl (lv_at hl 1 rfl) ?_
  refine lv_iadd hx hb dX4_cellOf_5 ?_
  refine k_top (nI_add _ _) ?_
  have hP : va_P g.1 vwCl [] _ := hP
  have hD : va_D A [] := hD
  exact k_iret hx hb hr hlocks rfl (by first | rfl | (simp only [bI]; done) | (simp only [bI]; rfl) | (simp [bI]; done)) hP hD hS (Nat.le_of_ble_eq_true rfl) (Nat.le_of_ble_eq_true rfl) dX4_cellOf_6
set_option maxHeartbeats 4000000 in
set_option maxRecDepth 100000 in
theorem c_X4_isPair (l : Launch) (g : kG) (row con : Int32) : KI l yX4_isPair wsX4_isPair ({ frames := 1, cells := 0, slots := 0, locals := 22 }) g [.int row, .int con] [] (bI (pairOK row con)) [] 0 0 := by
  refine k_begin (cc := cX4_isPair) (maxL := 2) (ret := (some .boolean)) (Qc := fun A => kQi g (bI (pairOK row con)) [] A) (by decide) rfl (Nat.le_of_ble_eq_true rfl) ?_
  intro p e s m below meth c A ls hF hr hlocks hin hE hP hD hS hA hl
  obtain ⟨hx, hb, hml, hown, hts⟩ := id hF
  have hown : s.vm.findClass RX4 = some m.cls := hown
  have hl : lv_has ls 2 [(0, .int row), (1, .int con)] := hl
  refine lv_iload_n hx hb dX4_isPair_0 rfl (lv_at hl 0 rfl) ?_
  refine lv_iconst (v := (nI 0)) hx hb dX4_isPair_1 (by decide) ?_
  refine lv_bipush (v := (nI 7)) hx hb dX4_isPair_2 (by decide) ?_
  refine k_Si (w0 := []) (w1 := []) (As := [.int row, .int (nI 0), .int (nI 7)]) (r := (bI ((nI 0) ≤ row ∧ row ≤ (nI 7)))) hF (c_X4_in l g row (nI 0) (nI 7)) (va_cwS 3 hts gX4_isPair_X4_in rfl rfl rfl (by decide +kernel) ⟨Nat.le_of_ble_eq_true rfl, Nat.le_of_ble_eq_true rfl⟩) hE hP hD hS hA (List.Perm.refl _) (List.Perm.refl _) rfl hl.1 rfl (Nat.le_of_ble_eq_true rfl) dX4_isPair_4 ⟨Nat.le_of_ble_eq_true rfl, Nat.le_of_ble_eq_true rfl⟩ (fun H locs hP hD hS => ?_)
  have hP : va_P g.1 vwCl [] _ := hP
  have hD : va_D A [] := hD
  refine k_ifeqB (tgt := 23) hx hb dX4_isPair_7 (by decide) (fun c1 => ?_) (fun c1 => ?_)
  ·
    refine lv_iconst (v := (nI 0)) hx hb dX4_isPair_23 (by decide) ?_
    have hP : va_P g.1 vwCl [] _ := hP
    have hD : va_D A [] := hD
    exact k_iret hx hb hr hlocks rfl (bI_f (fun h9 => c1 h9.1)).symm hP hD hS (Nat.le_of_ble_eq_true rfl) (Nat.le_of_ble_eq_true rfl) dX4_isPair_24
  ·
    refine lv_iload_n hx hb dX4_isPair_10 rfl (lv_at hl 1 rfl) ?_
    refine lv_iconst (v := (nI 0)) hx hb dX4_isPair_11 (by decide) ?_
    refine lv_iconst (v := (nI 5)) hx hb dX4_isPair_12 (by decide) ?_
    refine k_Si (w0 := []) (w1 := []) (As := [.int con, .int (nI 0), .int (nI 5)]) (r := (bI ((nI 0) ≤ con ∧ con ≤ (nI 5)))) hF (c_X4_in l g con (nI 0) (nI 5)) (va_cwS 3 hts gX4_isPair_X4_in rfl rfl rfl (by decide +kernel) ⟨Nat.le_of_ble_eq_true rfl, Nat.le_of_ble_eq_true rfl⟩) hE hP hD hS hA (List.Perm.refl _) (List.Perm.refl _) rfl hl.1 rfl (Nat.le_of_ble_eq_true rfl) dX4_isPair_13 ⟨Nat.le_of_ble_eq_true rfl, Nat.le_of_ble_eq_true rfl⟩ (fun H locs hP hD hS => ?_)
    have hP : va_P g.1 vwCl [] _ := hP
    have hD : va_D A [] := hD
    refine k_ifeqB (tgt := 23) hx hb dX4_isPair_16 (by decide) (fun c2 => ?_) (fun c2 => ?_)
    ·
      refine lv_iconst (v := (nI 0)) hx hb dX4_isPair_23 (by decide) ?_
      have hP : va_P g.1 vwCl [] _ := hP
      have hD : va_D A [] := hD
      exact k_iret hx hb hr hlocks rfl (bI_f (fun h9 => c2 h9.2)).symm hP hD hS (Nat.le_of_ble_eq_true rfl) (Nat.le_of_ble_eq_true rfl) dX4_isPair_24
    ·
      refine lv_iconst (v := (nI 1)) hx hb dX4_isPair_19 (by decide) ?_
      refine lv_goto (tgt := 24) hx hb dX4_isPair_20 (by decide) ?_
      have hP : va_P g.1 vwCl [] _ := hP
      have hD : va_D A [] := hD
      exact k_iret hx hb hr hlocks rfl (bI_t (by exact ⟨c1, c2⟩)).symm hP hD hS (Nat.le_of_ble_eq_true rfl) (Nat.le_of_ble_eq_true rfl) dX4_isPair_24
set_option maxHeartbeats 4000000 in
set_option maxRecDepth 100000 in
theorem c_X4_isConcert (l : Launch) (g : kG) (con : Int32) : KI l yX4_isConcert wsX4_isConcert ({ frames := 1, cells := 0, slots := 0, locals := 22 }) g [.int con] [] (bI (nI 0 ≤ con ∧ con ≤ nI 5)) [] 0 0 := by
  refine k_begin (cc := cX4_isConcert) (maxL := 1) (ret := (some .boolean)) (Qc := fun A => kQi g (bI (nI 0 ≤ con ∧ con ≤ nI 5)) [] A) (by decide) rfl (Nat.le_of_ble_eq_true rfl) ?_
  intro p e s m below meth c A ls hF hr hlocks hin hE hP hD hS hA hl
  obtain ⟨hx, hb, hml, hown, hts⟩ := id hF
  have hown : s.vm.findClass RX4 = some m.cls := hown
  have hl : lv_has ls 1 [(0, .int con)] := hl
  refine lv_iload_n hx hb dX4_isConcert_0 rfl (lv_at hl 0 rfl) ?_
  refine lv_iconst (v := (nI 0)) hx hb dX4_isConcert_1 (by decide) ?_
  refine lv_iconst (v := (nI 5)) hx hb dX4_isConcert_2 (by decide) ?_
  refine k_Si (w0 := []) (w1 := []) (As := [.int con, .int (nI 0), .int (nI 5)]) (r := (bI ((nI 0) ≤ con ∧ con ≤ (nI 5)))) hF (c_X4_in l g con (nI 0) (nI 5)) (va_cwS 3 hts gX4_isConcert_X4_in rfl rfl rfl (by decide +kernel) ⟨Nat.le_of_ble_eq_true rfl, Nat.le_of_ble_eq_true rfl⟩) hE hP hD hS hA (List.Perm.refl _) (List.Perm.refl _) rfl hl.1 rfl (Nat.le_of_ble_eq_true rfl) dX4_isConcert_3 ⟨Nat.le_of_ble_eq_true rfl, Nat.le_of_ble_eq_true rfl⟩ (fun H locs hP hD hS => ?_)
  have hP : va_P g.1 vwCl [] _ := hP
  have hD : va_D A [] := hD
  have hP : va_P g.1 vwCl [] _ := hP
  have hD : va_D A [] := hD
  exact k_iret hx hb hr hlocks bI_nar (by first | rfl | (simp only [bI]; done) | (simp only [bI]; rfl) | (simp [bI]; done)) hP hD hS (Nat.le_of_ble_eq_true rfl) (Nat.le_of_ble_eq_true rfl) dX4_isConcert_6
set_option maxHeartbeats 4000000 in
set_option maxRecDepth 100000 in
theorem c_X4_thrown (l : Launch) (g : kG) (a : Nat → Nat) (m9 : MSt) : KI l yX4_thrown wsX4_thrown ({ frames := 0, cells := 0, slots := 0, locals := 0 }) g [.ref (a 0)] (wM g a m9) (mth m9) (wM g a m9) 0 0 := by
  refine k_begin (cc := cX4_thrown) (maxL := 1) (ret := (some .int)) (Qc := fun A => kQi g (mth m9) (wM g a m9) A) (by decide) rfl (Nat.le_of_ble_eq_true rfl) ?_
  intro p e s m below meth c A ls hF hr hlocks hin hE hP hD hS hA hl
  obtain ⟨hx, hb, hml, hown, hts⟩ := id hF
  have hown : s.vm.findClass RX4 = some m.cls := hown
  have hl : lv_has ls 1 [(0, .ref (a 0))] := hl
  have hiX4 : ∀ w ∈ wsX40, w ∈ wsX4_thrown := fun _ h => List.mem_cons_of_mem _ (List.mem_append_right _ (h))
  have f25 : (Cond.fieldLink RX4 25 "ConcertUsherModel" "thrown" "I").before _ s = true := hts _ (List.mem_of_getElem? (i := 1) rfl)
  refine lv_aload_n hx hb dX4_thrown_0 rfl (lv_at hl 0 rfl) ?_
  refine va_get (D := g.1) (ci := 4) (v := .int (mth m9)) (C := RX4) (T := TX4) (N := 12) hx hb hts hiX4 hown hE.1 hP 0 rfl rfl 0 (by decide) f25 (fun _ h9 => h9) rfl dX4_thrown_1 ?_
  have hP : va_P g.1 vwCl (wM g a m9) _ := hP
  have hD : va_D A (wM g a m9) := hD
  exact k_iret hx hb hr hlocks rfl rfl hP hD hS (Nat.le_of_ble_eq_true rfl) (Nat.le_of_ble_eq_true rfl) dX4_thrown_4
set_option maxHeartbeats 4000000 in
set_option maxRecDepth 100000 in
theorem c_X4_fails (l : Launch) (g : kG) (a : Nat → Nat) (m9 : MSt) (x : Int32) : KI l yX4_fails wsX4_fails ({ frames := 0, cells := 0, slots := 0, locals := 0 }) g [.ref (a 0), .int x] (wM g a m9) (nI 0) (wM g a (sMth m9 x)) 0 0 := by
  refine k_begin (cc := cX4_fails) (maxL := 2) (ret := (some .int)) (Qc := fun A => kQi g (nI 0) (wM g a (sMth m9 x)) A) (by decide) rfl (Nat.le_of_ble_eq_true rfl) ?_
  intro p e s m below meth c A ls hF hr hlocks hin hE hP hD hS hA hl
  obtain ⟨hx, hb, hml, hown, hts⟩ := id hF
  have hown : s.vm.findClass RX4 = some m.cls := hown
  have hl : lv_has ls 2 [(0, .ref (a 0)), (1, .int x)] := hl
  have hiX4 : ∀ w ∈ wsX40, w ∈ wsX4_fails := fun _ h => List.mem_cons_of_mem _ (List.mem_append_right _ (h))
  have f25 : (Cond.fieldLink RX4 25 "ConcertUsherModel" "thrown" "I").before _ s = true := hts _ (List.mem_of_getElem? (i := 1) rfl)
  refine lv_aload_n hx hb dX4_fails_0 rfl (lv_at hl 0 rfl) ?_
  refine lv_iload_n hx hb dX4_fails_1 rfl (lv_at hl 1 rfl) ?_
  refine va_put (D := g.1) (ci := 4) (v := .int x) (ty := .int) (C := RX4) (T := TX4) (N := 12) hx hb hts hiX4 tyX4 tyX4_ok nmX4 hown hE.1 hP hD hS 0 rfl rfl 0 (by decide) f25 (fun _ h9 => h9) rfl (tyX4_ok 0 (by decide)) rfl rfl (Nat.le_of_ble_eq_true rfl) dX4_fails_2 (fun H locs hP hD hS => ?_)
  have hP : va_P g.1 vwCl (wM g a (sMth m9 x)) _ := hP
  have hD : va_D A (wM g a (sMth m9 x)) := hD
  refine lv_iconst (v := (nI 0)) hx hb dX4_fails_5 (by decide) ?_
  have hP : va_P g.1 vwCl (wM g a (sMth m9 x)) _ := hP
  have hD : va_D A (wM g a (sMth m9 x)) := hD
  exact k_iret hx hb hr hlocks rfl rfl hP hD hS (Nat.le_of_ble_eq_true rfl) (Nat.le_of_ble_eq_true rfl) dX4_fails_6
set_option maxHeartbeats 4000000 in
set_option maxRecDepth 100000 in
theorem c_X4_calls (l : Launch) (g : kG) (a : Nat → Nat) (m9 : MSt) (k : Nat) (hk : k < 48) : KV l yX4_calls wsX4_calls ({ frames := 0, cells := 0, slots := 0, locals := 0 }) g [.ref (a 0), .int (nI k)] (wM g a m9) (wM g a (sMs m9 (Mcalls k (ms m9)))) 0 0 := by
  refine k_begin (cc := cX4_calls) (maxL := 2) (ret := none) (Qc := fun A => kQv g (wM g a (sMs m9 (Mcalls k (ms m9)))) A) (by decide) rfl (Nat.le_of_ble_eq_true rfl) ?_
  intro p e s m below meth c A ls hF hr hlocks hin hE hP hD hS hA hl
  obtain ⟨hx, hb, hml, hown, hts⟩ := id hF
  have hown : s.vm.findClass RX4 = some m.cls := hown
  have hl : lv_has ls 2 [(0, .ref (a 0)), (1, .int (nI k))] := hl
  have hiX4 : ∀ w ∈ wsX40, w ∈ wsX4_calls := fun _ h => List.mem_cons_of_mem _ (List.mem_append_right _ (h))
  have f7 : (Cond.fieldLink RX4 7 "ConcertUsherModel" "s" "[I").before _ s = true := hts _ (List.mem_of_getElem? (i := 1) rfl)
  refine lv_aload_n hx hb dX4_calls_0 rfl (lv_at hl 0 rfl) ?_
  refine va_get (D := g.1) (ci := 4) (v := .ref (a 1)) (C := RX4) (T := TX4) (N := 12) hx hb hts hiX4 hown hE.1 hP 0 rfl rfl 1 (by decide) f7 (fun _ h9 => h9) rfl dX4_calls_1 ?_
  refine lv_bipush (v := (nI 69)) hx hb dX4_calls_4 (by decide) ?_
  refine lv_iload_n hx hb dX4_calls_6 rfl (lv_at hl 1 rfl) ?_
  refine lv_iadd hx hb dX4_calls_7 ?_
  refine k_top (nI_add _ _) ?_
  refine lv_aload_n hx hb dX4_calls_8 rfl (lv_at hl 0 rfl) ?_
  refine va_get (D := g.1) (ci := 4) (v := .ref (a 1)) (C := RX4) (T := TX4) (N := 12) hx hb hts hiX4 hown hE.1 hP 0 rfl rfl 1 (by decide) f7 (fun _ h9 => h9) rfl dX4_calls_9 ?_
  refine lv_iconst (v := (nI 0)) hx hb dX4_calls_12 (by decide) ?_
  refine k_iald (f := (ms m9)) hx hb hE hP 1 rfl 0 rfl (by decide) (by decide) dX4_calls_13 ?_
  refine k_iast (f := (ms m9)) (ws1 := (wM g a (sMs m9 (upd (ms m9) (69 + k) ((ms m9) 0))))) hx hb hE hP hD hS 1 rfl (69 + k) rfl (by omega) (by decide) rfl dX4_calls_14 (fun H locs hP hD hS => ?_)
  refine lv_aload_n hx hb dX4_calls_15 rfl (lv_at hl 0 rfl) ?_
  refine va_get (D := g.1) (ci := 4) (v := .ref (a 1)) (C := RX4) (T := TX4) (N := 12) hx hb hts hiX4 hown hE.1 hP 0 rfl rfl 1 (by decide) f7 (fun _ h9 => h9) rfl dX4_calls_16 ?_
  refine lv_bipush (v := (nI 12)) hx hb dX4_calls_19 (by decide) ?_
  refine lv_dup2_11 hx hb dX4_calls_21 rfl rfl ?_
  refine k_iald (f := (upd (ms m9) (69 + k) ((ms m9) 0))) hx hb hE hP 1 rfl 12 rfl (by decide) (by decide) dX4_calls_22 ?_
  refine lv_iconst (v := (nI 1)) hx hb dX4_calls_23 (by decide) ?_
  refine lv_iadd hx hb dX4_calls_24 ?_
  refine k_iast (f := (upd (ms m9) (69 + k) ((ms m9) 0))) (ws1 := (wM g a (sMs m9 (upd (upd (ms m9) (69 + k) ((ms m9) 0)) 12 (((upd (ms m9) (69 + k) ((ms m9) 0)) 12) + (nI 1)))))) hx hb hE hP hD hS 1 rfl 12 rfl (by decide) (by decide) rfl dX4_calls_25 (fun H locs hP hD hS => ?_)
  have hP : va_P g.1 vwCl (wM g a (sMs m9 (Mcalls k (ms m9)))) _ := hP
  have hD : va_D A (wM g a (sMs m9 (Mcalls k (ms m9)))) := hD
  exact k_vret hx hb hr hlocks hP hD hS (Nat.le_of_ble_eq_true rfl) (Nat.le_of_ble_eq_true rfl) dX4_calls_26
set_option maxHeartbeats 4000000 in
set_option maxRecDepth 100000 in
theorem c_X4_comes (l : Launch) (g : kG) (a : Nat → Nat) (m9 : MSt) (k : Nat) (hk : k < 48) : KI l yX4_comes wsX4_comes ({ frames := 1, cells := 0, slots := 0, locals := 21 }) g [.ref (a 0), .int (nI k)] (wM g a m9) (Mcomes k (ms m9) (21 + k)) (wM g a (sMs m9 (Mcomes k (ms m9)))) 0 0 := by
  refine k_begin (cc := cX4_comes) (maxL := 2) (ret := (some .int)) (Qc := fun A => kQi g (Mcomes k (ms m9) (21 + k)) (wM g a (sMs m9 (Mcomes k (ms m9)))) A) (by decide) rfl (Nat.le_of_ble_eq_true rfl) ?_
  intro p e s m below meth c A ls hF hr hlocks hin hE hP hD hS hA hl
  obtain ⟨hx, hb, hml, hown, hts⟩ := id hF
  have hown : s.vm.findClass RX4 = some m.cls := hown
  have hl : lv_has ls 2 [(0, .ref (a 0)), (1, .int (nI k))] := hl
  have hiX4 : ∀ w ∈ wsX40, w ∈ wsX4_comes := fun _ h => List.mem_cons_of_mem _ (List.mem_append_right _ (h))
  have f7 : (Cond.fieldLink RX4 7 "ConcertUsherModel" "s" "[I").before _ s = true := hts _ (List.mem_of_getElem? (i := 1) rfl)
  refine lv_aload_n hx hb dX4_comes_0 rfl (lv_at hl 0 rfl) ?_
  refine va_get (D := g.1) (ci := 4) (v := .ref (a 1)) (C := RX4) (T := TX4) (N := 12) hx hb hts hiX4 hown hE.1 hP 0 rfl rfl 1 (by decide) f7 (fun _ h9 => h9) rfl dX4_comes_1 ?_
  refine lv_bipush (v := (nI 21)) hx hb dX4_comes_4 (by decide) ?_
  refine lv_iload_n hx hb dX4_comes_6 rfl (lv_at hl 1 rfl) ?_
  refine lv_iadd hx hb dX4_comes_7 ?_
  refine k_top (nI_add _ _) ?_
  refine lv_dup2_11 hx hb dX4_comes_8 rfl rfl ?_
  refine k_iald (f := (ms m9)) hx hb hE hP 1 rfl (21 + k) rfl (by omega) (by decide) dX4_comes_9 ?_
  refine lv_iconst (v := (nI 1)) hx hb dX4_comes_10 (by decide) ?_
  refine lv_iadd hx hb dX4_comes_11 ?_
  refine k_iast (f := (ms m9)) (ws1 := (wM g a (sMs m9 (upd (ms m9) (21 + k) (((ms m9) (21 + k)) + (nI 1)))))) hx hb hE hP hD hS 1 rfl (21 + k) rfl (by omega) (by decide) rfl dX4_comes_12 (fun H locs hP hD hS => ?_)
  refine lv_aload_n hx hb dX4_comes_13 rfl (lv_at hl 0 rfl) ?_
  refine lv_iload_n hx hb dX4_comes_14 rfl (lv_at hl 1 rfl) ?_
  refine k_Vv (As := [.int (nI k)]) hF (c_X4_calls l g a (sMs m9 (upd (ms m9) (21 + k) (((ms m9) (21 + k)) + (nI 1)))) k (by omega)) (cwV 1 hts gX4_comes_X4_calls rfl rfl rfl (by decide +kernel) ⟨Nat.le_of_ble_eq_true rfl, Nat.le_of_ble_eq_true rfl⟩) hE hP hD hS hA (k_pall _) ((k_pall _).symm) 0 rfl rfl rfl rfl hl.1 rfl (Nat.le_of_ble_eq_true rfl) dX4_comes_15 ⟨Nat.le_of_ble_eq_true rfl, Nat.le_of_ble_eq_true rfl⟩ (fun H locs hP hD hS => ?_)
  have hP : va_P g.1 vwCl (wM g a (sMs m9 (Mcalls k (upd (ms m9) (21 + k) (((ms m9) (21 + k)) + (nI 1)))))) _ := hP
  have hD : va_D A (wM g a (sMs m9 (Mcalls k (upd (ms m9) (21 + k) (((ms m9) (21 + k)) + (nI 1)))))) := hD
  refine lv_aload_n hx hb dX4_comes_18 rfl (lv_at hl 0 rfl) ?_
  refine va_get (D := g.1) (ci := 4) (v := .ref (a 1)) (C := RX4) (T := TX4) (N := 12) hx hb hts hiX4 hown hE.1 hP 0 rfl rfl 1 (by decide) f7 (fun _ h9 => h9) rfl dX4_comes_19 ?_
  refine lv_bipush (v := (nI 21)) hx hb dX4_comes_22 (by decide) ?_
  refine lv_iload_n hx hb dX4_comes_24 rfl (lv_at hl 1 rfl) ?_
  refine lv_iadd hx hb dX4_comes_25 ?_
  refine k_top (nI_add _ _) ?_
  refine k_iald (f := (Mcalls k (upd (ms m9) (21 + k) (((ms m9) (21 + k)) + (nI 1))))) hx hb hE hP 1 rfl (21 + k) rfl (by omega) (by decide) dX4_comes_26 ?_
  have hP : va_P g.1 vwCl (wM g a (sMs m9 (Mcomes k (ms m9)))) _ := hP
  have hD : va_D A (wM g a (sMs m9 (Mcomes k (ms m9)))) := hD
  exact k_iret hx hb hr hlocks rfl (by first | rfl | (simp only [Mcomes, bI]; done) | (simp only [Mcomes, bI]; rfl) | (simp [Mcomes, bI]; done)) hP hD hS (Nat.le_of_ble_eq_true rfl) (Nat.le_of_ble_eq_true rfl) dX4_comes_27
set_option maxHeartbeats 4000000 in
set_option maxRecDepth 100000 in
theorem c_X4_farewell (l : Launch) (g : kG) (a : Nat → Nat) (m9 : MSt) (k : Nat) (hk : k < 48) : KV l yX4_farewell wsX4_farewell ({ frames := 1, cells := 0, slots := 0, locals := 21 }) g [.ref (a 0), .int (nI k)] (wM g a m9) (wM g a (sMs m9 (Mfare k (ms m9)))) 0 0 := by
  refine k_begin (cc := cX4_farewell) (maxL := 2) (ret := none) (Qc := fun A => kQv g (wM g a (sMs m9 (Mfare k (ms m9)))) A) (by decide) rfl (Nat.le_of_ble_eq_true rfl) ?_
  intro p e s m below meth c A ls hF hr hlocks hin hE hP hD hS hA hl
  obtain ⟨hx, hb, hml, hown, hts⟩ := id hF
  have hown : s.vm.findClass RX4 = some m.cls := hown
  have hl : lv_has ls 2 [(0, .ref (a 0)), (1, .int (nI k))] := hl
  have hiX4 : ∀ w ∈ wsX40, w ∈ wsX4_farewell := fun _ h => List.mem_cons_of_mem _ (List.mem_append_right _ (h))
  have f7 : (Cond.fieldLink RX4 7 "ConcertUsherModel" "s" "[I").before _ s = true := hts _ (List.mem_of_getElem? (i := 1) rfl)
  refine lv_aload_n hx hb dX4_farewell_0 rfl (lv_at hl 0 rfl) ?_
  refine va_get (D := g.1) (ci := 4) (v := .ref (a 1)) (C := RX4) (T := TX4) (N := 12) hx hb hts hiX4 hown hE.1 hP 0 rfl rfl 1 (by decide) f7 (fun _ h9 => h9) rfl dX4_farewell_1 ?_
  refine lv_iconst (v := (nI 3)) hx hb dX4_farewell_4 (by decide) ?_
  refine k_iald (f := (ms m9)) hx hb hE hP 1 rfl 3 rfl (by decide) (by decide) dX4_farewell_5 ?_
  refine lv_iconst (v := (nI 1)) hx hb dX4_farewell_6 (by decide) ?_
  refine lv_icmp_ne (tgt := 35) hx hb dX4_farewell_7 (by decide) (fun c1 => ?_) (fun c1 => ?_)
  ·
    refine lv_aload_n hx hb dX4_farewell_35 rfl (lv_at hl 0 rfl) ?_
    refine va_get (D := g.1) (ci := 4) (v := .ref (a 1)) (C := RX4) (T := TX4) (N := 12) hx hb hts hiX4 hown hE.1 hP 0 rfl rfl 1 (by decide) f7 (fun _ h9 => h9) rfl dX4_farewell_36 ?_
    refine lv_bipush (v := (nI 69)) hx hb dX4_farewell_39 (by decide) ?_
    refine lv_iload_n hx hb dX4_farewell_41 rfl (lv_at hl 1 rfl) ?_
    refine lv_iadd hx hb dX4_farewell_42 ?_
    refine k_top (nI_add _ _) ?_
    refine k_iald (f := (ms m9)) hx hb hE hP 1 rfl (69 + k) rfl (by omega) (by decide) dX4_farewell_43 ?_
    refine lv_aload_n hx hb dX4_farewell_44 rfl (lv_at hl 0 rfl) ?_
    refine va_get (D := g.1) (ci := 4) (v := .ref (a 1)) (C := RX4) (T := TX4) (N := 12) hx hb hts hiX4 hown hE.1 hP 0 rfl rfl 1 (by decide) f7 (fun _ h9 => h9) rfl dX4_farewell_45 ?_
    refine lv_iconst (v := (nI 1)) hx hb dX4_farewell_48 (by decide) ?_
    refine k_iald (f := (ms m9)) hx hb hE hP 1 rfl 1 rfl (by decide) (by decide) dX4_farewell_49 ?_
    refine lv_icmp_le (tgt := 96) hx hb dX4_farewell_50 (by decide) (fun c2 => ?_) (fun c2 => ?_)
    ·
      have e3 : (sMs m9 (Mfare k (ms m9))) = m9 := (by first | (simp only [Mfare, Mfare2, Mask, if_neg c1, if_pos c1, if_pos c2, if_neg (not_not_intro c2)]; done) | (simp only [Mfare, Mfare2, Mask, if_neg c1, if_pos c1, if_pos c2, if_neg (not_not_intro c2)]; rfl) | rfl | (simp [Mfare, Mfare2, Mask, if_neg c1, if_pos c1, if_pos c2, if_neg (not_not_intro c2)]; done))
      have hP : va_P g.1 vwCl (wM g a (sMs m9 (Mfare k (ms m9)))) s.heap := by rw [e3]; exact hP
      have hD : va_D A (wM g a (sMs m9 (Mfare k (ms m9)))) := by rw [e3]; exact hD
      exact k_vret hx hb hr hlocks hP hD hS (Nat.le_of_ble_eq_true rfl) (Nat.le_of_ble_eq_true rfl) dX4_farewell_96
    ·
      refine lv_aload_n hx hb dX4_farewell_53 rfl (lv_at hl 0 rfl) ?_
      refine va_get (D := g.1) (ci := 4) (v := .ref (a 1)) (C := RX4) (T := TX4) (N := 12) hx hb hts hiX4 hown hE.1 hP 0 rfl rfl 1 (by decide) f7 (fun _ h9 => h9) rfl dX4_farewell_54 ?_
      refine lv_bipush (v := (nI 69)) hx hb dX4_farewell_57 (by decide) ?_
      refine lv_iload_n hx hb dX4_farewell_59 rfl (lv_at hl 1 rfl) ?_
      refine lv_iadd hx hb dX4_farewell_60 ?_
      refine k_top (nI_add _ _) ?_
      refine lv_aload_n hx hb dX4_farewell_61 rfl (lv_at hl 0 rfl) ?_
      refine va_get (D := g.1) (ci := 4) (v := .ref (a 1)) (C := RX4) (T := TX4) (N := 12) hx hb hts hiX4 hown hE.1 hP 0 rfl rfl 1 (by decide) f7 (fun _ h9 => h9) rfl dX4_farewell_62 ?_
      refine lv_iconst (v := (nI 1)) hx hb dX4_farewell_65 (by decide) ?_
      refine k_iald (f := (ms m9)) hx hb hE hP 1 rfl 1 rfl (by decide) (by decide) dX4_farewell_66 ?_
      refine k_iast (f := (ms m9)) (ws1 := (wM g a (sMs m9 (upd (ms m9) (69 + k) ((ms m9) 1))))) hx hb hE hP hD hS 1 rfl (69 + k) rfl (by omega) (by decide) rfl dX4_farewell_67 (fun H locs hP hD hS => ?_)
      refine lv_aload_n hx hb dX4_farewell_68 rfl (lv_at hl 0 rfl) ?_
      refine va_get (D := g.1) (ci := 4) (v := .ref (a 1)) (C := RX4) (T := TX4) (N := 12) hx hb hts hiX4 hown hE.1 hP 0 rfl rfl 1 (by decide) f7 (fun _ h9 => h9) rfl dX4_farewell_69 ?_
      refine lv_bipush (v := (nI 11)) hx hb dX4_farewell_72 (by decide) ?_
      refine lv_dup2_11 hx hb dX4_farewell_74 rfl rfl ?_
      refine k_iald (f := (upd (ms m9) (69 + k) ((ms m9) 1))) hx hb hE hP 1 rfl 11 rfl (by decide) (by decide) dX4_farewell_75 ?_
      refine lv_iconst (v := (nI 1)) hx hb dX4_farewell_76 (by decide) ?_
      refine lv_iadd hx hb dX4_farewell_77 ?_
      refine k_iast (f := (upd (ms m9) (69 + k) ((ms m9) 1))) (ws1 := (wM g a (sMs m9 (upd (upd (ms m9) (69 + k) ((ms m9) 1)) 11 (((upd (ms m9) (69 + k) ((ms m9) 1)) 11) + (nI 1)))))) hx hb hE hP hD hS 1 rfl 11 rfl (by decide) (by decide) rfl dX4_farewell_78 (fun H locs hP hD hS => ?_)
      refine lv_aload_n hx hb dX4_farewell_79 rfl (lv_at hl 0 rfl) ?_
      refine va_get (D := g.1) (ci := 4) (v := .ref (a 1)) (C := RX4) (T := TX4) (N := 12) hx hb hts hiX4 hown hE.1 hP 0 rfl rfl 1 (by decide) f7 (fun _ h9 => h9) rfl dX4_farewell_80 ?_
      refine lv_bipush (v := (nI 21)) hx hb dX4_farewell_83 (by decide) ?_
      refine lv_iload_n hx hb dX4_farewell_85 rfl (lv_at hl 1 rfl) ?_
      refine lv_iadd hx hb dX4_farewell_86 ?_
      refine k_top (nI_add _ _) ?_
      refine k_iald (f := (upd (upd (ms m9) (69 + k) ((ms m9) 1)) 11 (((upd (ms m9) (69 + k) ((ms m9) 1)) 11) + (nI 1)))) hx hb hE hP 1 rfl (21 + k) rfl (by omega) (by decide) dX4_farewell_87 ?_
      refine lv_if_le (tgt := 96) hx hb dX4_farewell_88 (by decide) (fun c4 => ?_) (fun c4 => ?_)
      ·
        have e5 : (sMs m9 (Mfare k (ms m9))) = (sMs m9 (upd (upd (ms m9) (69 + k) ((ms m9) 1)) 11 (((upd (ms m9) (69 + k) ((ms m9) 1)) 11) + (nI 1)))) := (by first | (simp only [Mfare, Mfare2, Mask, if_neg c1, if_pos c1, if_neg c2, if_pos c2, if_pos c4, if_neg (not_not_intro c4)]; done) | (simp only [Mfare, Mfare2, Mask, if_neg c1, if_pos c1, if_neg c2, if_pos c2, if_pos c4, if_neg (not_not_intro c4)]; rfl) | rfl | (simp [Mfare, Mfare2, Mask, if_neg c1, if_pos c1, if_neg c2, if_pos c2, if_pos c4, if_neg (not_not_intro c4)]; done))
        have hP : va_P g.1 vwCl (wM g a (sMs m9 (Mfare k (ms m9)))) H := by rw [e5]; exact hP
        have hD : va_D A (wM g a (sMs m9 (Mfare k (ms m9)))) := by rw [e5]; exact hD
        exact k_vret hx hb hr hlocks hP hD hS (Nat.le_of_ble_eq_true rfl) (Nat.le_of_ble_eq_true rfl) dX4_farewell_96
      ·
        refine lv_aload_n hx hb dX4_farewell_91 rfl (lv_at hl 0 rfl) ?_
        refine lv_iload_n hx hb dX4_farewell_92 rfl (lv_at hl 1 rfl) ?_
        refine k_Vv (As := [.int (nI k)]) hF (c_X4_calls l g a (sMs m9 (upd (upd (ms m9) (69 + k) ((ms m9) 1)) 11 (((upd (ms m9) (69 + k) ((ms m9) 1)) 11) + (nI 1)))) k (by omega)) (cwV 1 hts gX4_farewell_X4_calls rfl rfl rfl (by decide +kernel) ⟨Nat.le_of_ble_eq_true rfl, Nat.le_of_ble_eq_true rfl⟩) hE hP hD hS hA (k_pall _) ((k_pall _).symm) 0 rfl rfl rfl rfl hl.1 rfl (Nat.le_of_ble_eq_true rfl) dX4_farewell_93 ⟨Nat.le_of_ble_eq_true rfl, Nat.le_of_ble_eq_true rfl⟩ (fun H locs hP hD hS => ?_)
        have hP : va_P g.1 vwCl (wM g a (sMs m9 (Mcalls k (upd (upd (ms m9) (69 + k) ((ms m9) 1)) 11 (((upd (ms m9) (69 + k) ((ms m9) 1)) 11) + (nI 1)))))) _ := hP
        have hD : va_D A (wM g a (sMs m9 (Mcalls k (upd (upd (ms m9) (69 + k) ((ms m9) 1)) 11 (((upd (ms m9) (69 + k) ((ms m9) 1)) 11) + (nI 1)))))) := hD
        have e6 : (sMs m9 (Mfare k (ms m9))) = (sMs m9 (Mcalls k (upd (upd (ms m9) (69 + k) ((ms m9) 1)) 11 (((upd (ms m9) (69 + k) ((ms m9) 1)) 11) + (nI 1))))) := (by first | (simp only [Mfare, Mfare2, Mask, if_neg c1, if_pos c1, if_neg c2, if_pos c2, if_neg c4, if_pos c4]; done) | (simp only [Mfare, Mfare2, Mask, if_neg c1, if_pos c1, if_neg c2, if_pos c2, if_neg c4, if_pos c4]; rfl) | rfl | (simp [Mfare, Mfare2, Mask, if_neg c1, if_pos c1, if_neg c2, if_pos c2, if_neg c4, if_pos c4]; done))
        have hP : va_P g.1 vwCl (wM g a (sMs m9 (Mfare k (ms m9)))) H := by rw [e6]; exact hP
        have hD : va_D A (wM g a (sMs m9 (Mfare k (ms m9)))) := by rw [e6]; exact hD
        exact k_vret hx hb hr hlocks hP hD hS (Nat.le_of_ble_eq_true rfl) (Nat.le_of_ble_eq_true rfl) dX4_farewell_96
  ·
    refine lv_aload_n hx hb dX4_farewell_10 rfl (lv_at hl 0 rfl) ?_
    refine va_get (D := g.1) (ci := 4) (v := .ref (a 1)) (C := RX4) (T := TX4) (N := 12) hx hb hts hiX4 hown hE.1 hP 0 rfl rfl 1 (by decide) f7 (fun _ h9 => h9) rfl dX4_farewell_11 ?_
    refine lv_bipush (v := (nI 21)) hx hb dX4_farewell_14 (by decide) ?_
    refine lv_iload_n hx hb dX4_farewell_16 rfl (lv_at hl 1 rfl) ?_
    refine lv_iadd hx hb dX4_farewell_17 ?_
    refine k_top (nI_add _ _) ?_
    refine k_iald (f := (ms m9)) hx hb hE hP 1 rfl (21 + k) rfl (by omega) (by decide) dX4_farewell_18 ?_
    refine lv_if_ne (tgt := 35) hx hb dX4_farewell_19 (by decide) (fun c7 => ?_) (fun c7 => ?_)
    ·
      refine lv_aload_n hx hb dX4_farewell_35 rfl (lv_at hl 0 rfl) ?_
      refine va_get (D := g.1) (ci := 4) (v := .ref (a 1)) (C := RX4) (T := TX4) (N := 12) hx hb hts hiX4 hown hE.1 hP 0 rfl rfl 1 (by decide) f7 (fun _ h9 => h9) rfl dX4_farewell_36 ?_
      refine lv_bipush (v := (nI 69)) hx hb dX4_farewell_39 (by decide) ?_
      refine lv_iload_n hx hb dX4_farewell_41 rfl (lv_at hl 1 rfl) ?_
      refine lv_iadd hx hb dX4_farewell_42 ?_
      refine k_top (nI_add _ _) ?_
      refine k_iald (f := (ms m9)) hx hb hE hP 1 rfl (69 + k) rfl (by omega) (by decide) dX4_farewell_43 ?_
      refine lv_aload_n hx hb dX4_farewell_44 rfl (lv_at hl 0 rfl) ?_
      refine va_get (D := g.1) (ci := 4) (v := .ref (a 1)) (C := RX4) (T := TX4) (N := 12) hx hb hts hiX4 hown hE.1 hP 0 rfl rfl 1 (by decide) f7 (fun _ h9 => h9) rfl dX4_farewell_45 ?_
      refine lv_iconst (v := (nI 1)) hx hb dX4_farewell_48 (by decide) ?_
      refine k_iald (f := (ms m9)) hx hb hE hP 1 rfl 1 rfl (by decide) (by decide) dX4_farewell_49 ?_
      refine lv_icmp_le (tgt := 96) hx hb dX4_farewell_50 (by decide) (fun c8 => ?_) (fun c8 => ?_)
      ·
        have e9 : (sMs m9 (Mfare k (ms m9))) = m9 := (by first | (simp only [Mfare, Mfare2, Mask, if_pos c1, if_neg (not_not_intro c1), if_neg c7, if_pos c7, if_pos c8, if_neg (not_not_intro c8)]; done) | (simp only [Mfare, Mfare2, Mask, if_pos c1, if_neg (not_not_intro c1), if_neg c7, if_pos c7, if_pos c8, if_neg (not_not_intro c8)]; rfl) | rfl | (simp [Mfare, Mfare2, Mask, if_pos c1, if_neg (not_not_intro c1), if_neg c7, if_pos c7, if_pos c8, if_neg (not_not_intro c8)]; done))
        have hP : va_P g.1 vwCl (wM g a (sMs m9 (Mfare k (ms m9)))) s.heap := by rw [e9]; exact hP
        have hD : va_D A (wM g a (sMs m9 (Mfare k (ms m9)))) := by rw [e9]; exact hD
        exact k_vret hx hb hr hlocks hP hD hS (Nat.le_of_ble_eq_true rfl) (Nat.le_of_ble_eq_true rfl) dX4_farewell_96
      ·
        refine lv_aload_n hx hb dX4_farewell_53 rfl (lv_at hl 0 rfl) ?_
        refine va_get (D := g.1) (ci := 4) (v := .ref (a 1)) (C := RX4) (T := TX4) (N := 12) hx hb hts hiX4 hown hE.1 hP 0 rfl rfl 1 (by decide) f7 (fun _ h9 => h9) rfl dX4_farewell_54 ?_
        refine lv_bipush (v := (nI 69)) hx hb dX4_farewell_57 (by decide) ?_
        refine lv_iload_n hx hb dX4_farewell_59 rfl (lv_at hl 1 rfl) ?_
        refine lv_iadd hx hb dX4_farewell_60 ?_
        refine k_top (nI_add _ _) ?_
        refine lv_aload_n hx hb dX4_farewell_61 rfl (lv_at hl 0 rfl) ?_
        refine va_get (D := g.1) (ci := 4) (v := .ref (a 1)) (C := RX4) (T := TX4) (N := 12) hx hb hts hiX4 hown hE.1 hP 0 rfl rfl 1 (by decide) f7 (fun _ h9 => h9) rfl dX4_farewell_62 ?_
        refine lv_iconst (v := (nI 1)) hx hb dX4_farewell_65 (by decide) ?_
        refine k_iald (f := (ms m9)) hx hb hE hP 1 rfl 1 rfl (by decide) (by decide) dX4_farewell_66 ?_
        refine k_iast (f := (ms m9)) (ws1 := (wM g a (sMs m9 (upd (ms m9) (69 + k) ((ms m9) 1))))) hx hb hE hP hD hS 1 rfl (69 + k) rfl (by omega) (by decide) rfl dX4_farewell_67 (fun H locs hP hD hS => ?_)
        refine lv_aload_n hx hb dX4_farewell_68 rfl (lv_at hl 0 rfl) ?_
        refine va_get (D := g.1) (ci := 4) (v := .ref (a 1)) (C := RX4) (T := TX4) (N := 12) hx hb hts hiX4 hown hE.1 hP 0 rfl rfl 1 (by decide) f7 (fun _ h9 => h9) rfl dX4_farewell_69 ?_
        refine lv_bipush (v := (nI 11)) hx hb dX4_farewell_72 (by decide) ?_
        refine lv_dup2_11 hx hb dX4_farewell_74 rfl rfl ?_
        refine k_iald (f := (upd (ms m9) (69 + k) ((ms m9) 1))) hx hb hE hP 1 rfl 11 rfl (by decide) (by decide) dX4_farewell_75 ?_
        refine lv_iconst (v := (nI 1)) hx hb dX4_farewell_76 (by decide) ?_
        refine lv_iadd hx hb dX4_farewell_77 ?_
        refine k_iast (f := (upd (ms m9) (69 + k) ((ms m9) 1))) (ws1 := (wM g a (sMs m9 (upd (upd (ms m9) (69 + k) ((ms m9) 1)) 11 (((upd (ms m9) (69 + k) ((ms m9) 1)) 11) + (nI 1)))))) hx hb hE hP hD hS 1 rfl 11 rfl (by decide) (by decide) rfl dX4_farewell_78 (fun H locs hP hD hS => ?_)
        refine lv_aload_n hx hb dX4_farewell_79 rfl (lv_at hl 0 rfl) ?_
        refine va_get (D := g.1) (ci := 4) (v := .ref (a 1)) (C := RX4) (T := TX4) (N := 12) hx hb hts hiX4 hown hE.1 hP 0 rfl rfl 1 (by decide) f7 (fun _ h9 => h9) rfl dX4_farewell_80 ?_
        refine lv_bipush (v := (nI 21)) hx hb dX4_farewell_83 (by decide) ?_
        refine lv_iload_n hx hb dX4_farewell_85 rfl (lv_at hl 1 rfl) ?_
        refine lv_iadd hx hb dX4_farewell_86 ?_
        refine k_top (nI_add _ _) ?_
        refine k_iald (f := (upd (upd (ms m9) (69 + k) ((ms m9) 1)) 11 (((upd (ms m9) (69 + k) ((ms m9) 1)) 11) + (nI 1)))) hx hb hE hP 1 rfl (21 + k) rfl (by omega) (by decide) dX4_farewell_87 ?_
        refine lv_if_le (tgt := 96) hx hb dX4_farewell_88 (by decide) (fun c10 => ?_) (fun c10 => ?_)
        ·
          have e11 : (sMs m9 (Mfare k (ms m9))) = (sMs m9 (upd (upd (ms m9) (69 + k) ((ms m9) 1)) 11 (((upd (ms m9) (69 + k) ((ms m9) 1)) 11) + (nI 1)))) := (by first | (simp only [Mfare, Mfare2, Mask, if_pos c1, if_neg (not_not_intro c1), if_neg c7, if_pos c7, if_neg c8, if_pos c8, if_pos c10, if_neg (not_not_intro c10)]; done) | (simp only [Mfare, Mfare2, Mask, if_pos c1, if_neg (not_not_intro c1), if_neg c7, if_pos c7, if_neg c8, if_pos c8, if_pos c10, if_neg (not_not_intro c10)]; rfl) | rfl | (simp [Mfare, Mfare2, Mask, if_pos c1, if_neg (not_not_intro c1), if_neg c7, if_pos c7, if_neg c8, if_pos c8, if_pos c10, if_neg (not_not_intro c10)]; done))
          have hP : va_P g.1 vwCl (wM g a (sMs m9 (Mfare k (ms m9)))) H := by rw [e11]; exact hP
          have hD : va_D A (wM g a (sMs m9 (Mfare k (ms m9)))) := by rw [e11]; exact hD
          exact k_vret hx hb hr hlocks hP hD hS (Nat.le_of_ble_eq_true rfl) (Nat.le_of_ble_eq_true rfl) dX4_farewell_96
        ·
          refine lv_aload_n hx hb dX4_farewell_91 rfl (lv_at hl 0 rfl) ?_
          refine lv_iload_n hx hb dX4_farewell_92 rfl (lv_at hl 1 rfl) ?_
          refine k_Vv (As := [.int (nI k)]) hF (c_X4_calls l g a (sMs m9 (upd (upd (ms m9) (69 + k) ((ms m9) 1)) 11 (((upd (ms m9) (69 + k) ((ms m9) 1)) 11) + (nI 1)))) k (by omega)) (cwV 1 hts gX4_farewell_X4_calls rfl rfl rfl (by decide +kernel) ⟨Nat.le_of_ble_eq_true rfl, Nat.le_of_ble_eq_true rfl⟩) hE hP hD hS hA (k_pall _) ((k_pall _).symm) 0 rfl rfl rfl rfl hl.1 rfl (Nat.le_of_ble_eq_true rfl) dX4_farewell_93 ⟨Nat.le_of_ble_eq_true rfl, Nat.le_of_ble_eq_true rfl⟩ (fun H locs hP hD hS => ?_)
          have hP : va_P g.1 vwCl (wM g a (sMs m9 (Mcalls k (upd (upd (ms m9) (69 + k) ((ms m9) 1)) 11 (((upd (ms m9) (69 + k) ((ms m9) 1)) 11) + (nI 1)))))) _ := hP
          have hD : va_D A (wM g a (sMs m9 (Mcalls k (upd (upd (ms m9) (69 + k) ((ms m9) 1)) 11 (((upd (ms m9) (69 + k) ((ms m9) 1)) 11) + (nI 1)))))) := hD
          have e12 : (sMs m9 (Mfare k (ms m9))) = (sMs m9 (Mcalls k (upd (upd (ms m9) (69 + k) ((ms m9) 1)) 11 (((upd (ms m9) (69 + k) ((ms m9) 1)) 11) + (nI 1))))) := (by first | (simp only [Mfare, Mfare2, Mask, if_pos c1, if_neg (not_not_intro c1), if_neg c7, if_pos c7, if_neg c8, if_pos c8, if_neg c10, if_pos c10]; done) | (simp only [Mfare, Mfare2, Mask, if_pos c1, if_neg (not_not_intro c1), if_neg c7, if_pos c7, if_neg c8, if_pos c8, if_neg c10, if_pos c10]; rfl) | rfl | (simp [Mfare, Mfare2, Mask, if_pos c1, if_neg (not_not_intro c1), if_neg c7, if_pos c7, if_neg c8, if_pos c8, if_neg c10, if_pos c10]; done))
          have hP : va_P g.1 vwCl (wM g a (sMs m9 (Mfare k (ms m9)))) H := by rw [e12]; exact hP
          have hD : va_D A (wM g a (sMs m9 (Mfare k (ms m9)))) := by rw [e12]; exact hD
          exact k_vret hx hb hr hlocks hP hD hS (Nat.le_of_ble_eq_true rfl) (Nat.le_of_ble_eq_true rfl) dX4_farewell_96
    ·
      refine lv_aload_n hx hb dX4_farewell_22 rfl (lv_at hl 0 rfl) ?_
      refine va_get (D := g.1) (ci := 4) (v := .ref (a 1)) (C := RX4) (T := TX4) (N := 12) hx hb hts hiX4 hown hE.1 hP 0 rfl rfl 1 (by decide) f7 (fun _ h9 => h9) rfl dX4_farewell_23 ?_
      refine lv_bipush (v := (nI 69)) hx hb dX4_farewell_26 (by decide) ?_
      refine lv_iload_n hx hb dX4_farewell_28 rfl (lv_at hl 1 rfl) ?_
      refine lv_iadd hx hb dX4_farewell_29 ?_
      refine k_top (nI_add _ _) ?_
      refine lv_iconst (v := (nI 0)) hx hb dX4_farewell_30 (by decide) ?_
      refine k_iast (f := (ms m9)) (ws1 := (wM g a (sMs m9 (upd (ms m9) (69 + k) (nI 0))))) hx hb hE hP hD hS 1 rfl (69 + k) rfl (by omega) (by decide) rfl dX4_farewell_31 (fun H locs hP hD hS => ?_)
      refine lv_goto (tgt := 96) hx hb dX4_farewell_32 (by decide) ?_
      have e13 : (sMs m9 (Mfare k (ms m9))) = (sMs m9 (upd (ms m9) (69 + k) (nI 0))) := (by first | (simp only [Mfare, Mfare2, Mask, if_pos c1, if_neg (not_not_intro c1), if_pos c7, if_neg (not_not_intro c7)]; done) | (simp only [Mfare, Mfare2, Mask, if_pos c1, if_neg (not_not_intro c1), if_pos c7, if_neg (not_not_intro c7)]; rfl) | rfl | (simp [Mfare, Mfare2, Mask, if_pos c1, if_neg (not_not_intro c1), if_pos c7, if_neg (not_not_intro c7)]; done))
      have hP : va_P g.1 vwCl (wM g a (sMs m9 (Mfare k (ms m9)))) H := by rw [e13]; exact hP
      have hD : va_D A (wM g a (sMs m9 (Mfare k (ms m9)))) := by rw [e13]; exact hD
      exact k_vret hx hb hr hlocks hP hD hS (Nat.le_of_ble_eq_true rfl) (Nat.le_of_ble_eq_true rfl) dX4_farewell_96
set_option maxHeartbeats 4000000 in
set_option maxRecDepth 100000 in
theorem c_X4_leaves (l : Launch) (g : kG) (a : Nat → Nat) (m9 : MSt) (k : Nat) (hk : k < 48) (b : Nat) (hb2 : b < 2) : KI l yX4_leaves wsX4_leaves ({ frames := 2, cells := 0, slots := 0, locals := 42 }) g [.ref (a 0), .int (nI k), .int (nI b)] (wM g a m9) (Mleaves k b (ms m9) (21 + k)) (wM g a (sMs m9 (Mleaves k b (ms m9)))) 0 0 := by
  refine k_begin (cc := cX4_leaves) (maxL := 3) (ret := (some .int)) (Qc := fun A => kQi g (Mleaves k b (ms m9) (21 + k)) (wM g a (sMs m9 (Mleaves k b (ms m9)))) A) (by decide) rfl (Nat.le_of_ble_eq_true rfl) ?_
  intro p e s m below meth c A ls hF hr hlocks hin hE hP hD hS hA hl
  obtain ⟨hx, hb, hml, hown, hts⟩ := id hF
  have hown : s.vm.findClass RX4 = some m.cls := hown
  have hl : lv_has ls 3 [(0, .ref (a 0)), (1, .int (nI k)), (2, .int (nI b))] := hl
  have hiX4 : ∀ w ∈ wsX40, w ∈ wsX4_leaves := fun _ h => List.mem_cons_of_mem _ (List.mem_append_right _ (h))
  have f7 : (Cond.fieldLink RX4 7 "ConcertUsherModel" "s" "[I").before _ s = true := hts _ (List.mem_of_getElem? (i := 1) rfl)
  refine lv_aload_n hx hb dX4_leaves_0 rfl (lv_at hl 0 rfl) ?_
  refine va_get (D := g.1) (ci := 4) (v := .ref (a 1)) (C := RX4) (T := TX4) (N := 12) hx hb hts hiX4 hown hE.1 hP 0 rfl rfl 1 (by decide) f7 (fun _ h9 => h9) rfl dX4_leaves_1 ?_
  refine lv_bipush (v := (nI 21)) hx hb dX4_leaves_4 (by decide) ?_
  refine lv_iload_n hx hb dX4_leaves_6 rfl (lv_at hl 1 rfl) ?_
  refine lv_iadd hx hb dX4_leaves_7 ?_
  refine k_top (nI_add _ _) ?_
  refine lv_dup2_11 hx hb dX4_leaves_8 rfl rfl ?_
  refine k_iald (f := (ms m9)) hx hb hE hP 1 rfl (21 + k) rfl (by omega) (by decide) dX4_leaves_9 ?_
  refine lv_iconst (v := (nI 1)) hx hb dX4_leaves_10 (by decide) ?_
  refine lv_isub hx hb dX4_leaves_11 ?_
  refine k_iast (f := (ms m9)) (ws1 := (wM g a (sMs m9 (upd (ms m9) (21 + k) (((ms m9) (21 + k)) - (nI 1)))))) hx hb hE hP hD hS 1 rfl (21 + k) rfl (by omega) (by decide) rfl dX4_leaves_12 (fun H locs hP hD hS => ?_)
  refine lv_iload_n hx hb dX4_leaves_13 rfl (lv_at hl 2 rfl) ?_
  refine k_if0 (tgt := 22) hx hb (by omega) dX4_leaves_14 (by decide) (fun c1 => ?_) (fun c1 => ?_)
  ·
    refine lv_aload_n hx hb dX4_leaves_22 rfl (lv_at hl 0 rfl) ?_
    refine va_get (D := g.1) (ci := 4) (v := .ref (a 1)) (C := RX4) (T := TX4) (N := 12) hx hb hts hiX4 hown hE.1 hP 0 rfl rfl 1 (by decide) f7 (fun _ h9 => h9) rfl dX4_leaves_23 ?_
    refine lv_bipush (v := (nI 21)) hx hb dX4_leaves_26 (by decide) ?_
    refine lv_iload_n hx hb dX4_leaves_28 rfl (lv_at hl 1 rfl) ?_
    refine lv_iadd hx hb dX4_leaves_29 ?_
    refine k_top (nI_add _ _) ?_
    refine k_iald (f := (upd (ms m9) (21 + k) (((ms m9) (21 + k)) - (nI 1)))) hx hb hE hP 1 rfl (21 + k) rfl (by omega) (by decide) dX4_leaves_30 ?_
    have e2 : (sMs m9 (Mleaves k b (ms m9))) = (sMs m9 (upd (ms m9) (21 + k) (((ms m9) (21 + k)) - (nI 1)))) := (by first | (simp only [Mleaves, if_pos c1, if_neg (not_not_intro c1)]; done) | (simp only [Mleaves, if_pos c1, if_neg (not_not_intro c1)]; rfl) | rfl | (simp [Mleaves, if_pos c1, if_neg (not_not_intro c1)]; done))
    have hP : va_P g.1 vwCl (wM g a (sMs m9 (Mleaves k b (ms m9)))) H := by rw [e2]; exact hP
    have hD : va_D A (wM g a (sMs m9 (Mleaves k b (ms m9)))) := by rw [e2]; exact hD
    exact k_iret hx hb hr hlocks rfl (by first | (simp only [Mleaves, bI, if_pos c1, if_neg (not_not_intro c1)]; done) | (simp only [Mleaves, bI, if_pos c1, if_neg (not_not_intro c1)]; rfl) | rfl | (simp [Mleaves, bI, if_pos c1, if_neg (not_not_intro c1)]; done)) hP hD hS (Nat.le_of_ble_eq_true rfl) (Nat.le_of_ble_eq_true rfl) dX4_leaves_31
  ·
    refine lv_aload_n hx hb dX4_leaves_17 rfl (lv_at hl 0 rfl) ?_
    refine lv_iload_n hx hb dX4_leaves_18 rfl (lv_at hl 1 rfl) ?_
    refine k_Vv (As := [.int (nI k)]) hF (c_X4_farewell l g a (sMs m9 (upd (ms m9) (21 + k) (((ms m9) (21 + k)) - (nI 1)))) k (by omega)) (cwV 1 hts gX4_leaves_X4_farewell rfl rfl rfl (by decide +kernel) ⟨Nat.le_of_ble_eq_true rfl, Nat.le_of_ble_eq_true rfl⟩) hE hP hD hS hA (k_pall _) ((k_pall _).symm) 0 rfl rfl rfl rfl hl.1 rfl (Nat.le_of_ble_eq_true rfl) dX4_leaves_19 ⟨Nat.le_of_ble_eq_true rfl, Nat.le_of_ble_eq_true rfl⟩ (fun H locs hP hD hS => ?_)
    have hP : va_P g.1 vwCl (wM g a (sMs m9 (Mfare k (upd (ms m9) (21 + k) (((ms m9) (21 + k)) - (nI 1)))))) _ := hP
    have hD : va_D A (wM g a (sMs m9 (Mfare k (upd (ms m9) (21 + k) (((ms m9) (21 + k)) - (nI 1)))))) := hD
    refine lv_aload_n hx hb dX4_leaves_22 rfl (lv_at hl 0 rfl) ?_
    refine va_get (D := g.1) (ci := 4) (v := .ref (a 1)) (C := RX4) (T := TX4) (N := 12) hx hb hts hiX4 hown hE.1 hP 0 rfl rfl 1 (by decide) f7 (fun _ h9 => h9) rfl dX4_leaves_23 ?_
    refine lv_bipush (v := (nI 21)) hx hb dX4_leaves_26 (by decide) ?_
    refine lv_iload_n hx hb dX4_leaves_28 rfl (lv_at hl 1 rfl) ?_
    refine lv_iadd hx hb dX4_leaves_29 ?_
    refine k_top (nI_add _ _) ?_
    refine k_iald (f := (Mfare k (upd (ms m9) (21 + k) (((ms m9) (21 + k)) - (nI 1))))) hx hb hE hP 1 rfl (21 + k) rfl (by omega) (by decide) dX4_leaves_30 ?_
    have e3 : (sMs m9 (Mleaves k b (ms m9))) = (sMs m9 (Mfare k (upd (ms m9) (21 + k) (((ms m9) (21 + k)) - (nI 1))))) := (by first | (simp only [Mleaves, if_neg c1, if_pos c1]; done) | (simp only [Mleaves, if_neg c1, if_pos c1]; rfl) | rfl | (simp [Mleaves, if_neg c1, if_pos c1]; done))
    have hP : va_P g.1 vwCl (wM g a (sMs m9 (Mleaves k b (ms m9)))) H := by rw [e3]; exact hP
    have hD : va_D A (wM g a (sMs m9 (Mleaves k b (ms m9)))) := by rw [e3]; exact hD
    exact k_iret hx hb hr hlocks rfl (by first | (simp only [Mleaves, bI, if_neg c1, if_pos c1]; done) | (simp only [Mleaves, bI, if_neg c1, if_pos c1]; rfl) | rfl | (simp [Mleaves, bI, if_neg c1, if_pos c1]; done)) hP hD hS (Nat.le_of_ble_eq_true rfl) (Nat.le_of_ble_eq_true rfl) dX4_leaves_31
