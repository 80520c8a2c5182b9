set_option maxHeartbeats 4000000 in
set_option maxRecDepth 100000 in
theorem c_X4_putAside (l : Launch) (g : kG) (a : Nat → Nat) (m9 : MSt) : KV l yX4_putAside wsX4_putAside ({ frames := 0, cells := 0, slots := 0, locals := 0 }) g [.ref (a 0)] (wM g a m9) (wM g a (sMas m9 (ms m9))) 0 0 := by
  refine k_begin (cc := cX4_putAside) (maxL := 2) (ret := none) (Qc := fun A => kQv g (wM g a (sMas m9 (ms m9))) A) (by decide) rfl (Nat.le_of_ble_eq_true rfl) ?_
  intro p e s m below meth c A ls hF hr hlocks hin hE hP hD hS hA hl
  obtain ⟨hx, hb, hml, hown, hts⟩ := id hF
  have hown : s.vm.findClass RX4 = some m.cls := hown
  have hl : lv_has ls 2 [(0, .ref (a 0))] := hl
  have hiX4 : ∀ w ∈ wsX40, w ∈ wsX4_putAside := fun _ h => List.mem_cons_of_mem _ (List.mem_append_right _ (h))
  have f13 : (Cond.fieldLink RX4 13 "ConcertUsherModel" "aside" "[I").before _ s = true := hts _ (List.mem_of_getElem? (i := 1) rfl)
  have f7 : (Cond.fieldLink RX4 7 "ConcertUsherModel" "s" "[I").before _ s = true := hts _ (List.mem_of_getElem? (i := 2) rfl)
  refine lv_iconst (v := (nI 0)) hx hb dX4_putAside_0 (by decide) ?_
  refine lv_istore_n (lv' := [(1, .int (nI 0)), (0, .ref (a 0))]) hx hb dX4_putAside_1 rfl hl (by decide) rfl (fun ls hl => ?_)
  refine k_loop (N := 120) (Inv := fun (i : Nat) (H : Heap) (locs : List Loc) (ls : Array Slot) => va_P g.1 vwCl (wM g a (sMas m9 (cpN (ms m9) (mas m9) i))) H ∧ va_D A (wM g a (sMas m9 (cpN (ms m9) (mas m9) i))) ∧ va_S A s.heap H locs ∧ lv_has ls 2 [(1, .int (nI i)), (0, .ref (a 0))]) 0 (Nat.zero_le _) ⟨hP, hD, hS, lv_sub hl [0, 1] rfl⟩ (fun i hle2 ih1 H locs ls hinv => ?_)
  obtain ⟨hP, hD, hS, hl⟩ := hinv
  refine lv_iload_n hx hb dX4_putAside_2 rfl (lv_at hl 0 rfl) ?_
  refine lv_bipush (v := (nI 120)) hx hb dX4_putAside_3 (by decide) ?_
  refine k_geN (tgt := 26) hx hb (by omega) (by decide) dX4_putAside_5 (by decide) (fun c3 => ?_) (fun c3 => ?_)
  ·
    obtain rfl : 120 = i := by omega
    have hP : va_P g.1 vwCl (wM g a (sMas m9 (ms m9))) H := k_P_ext (ws := (wM g a (sMas m9 (cpN (ms m9) (mas m9) 120)))) (f := (cpN (ms m9) (mas m9) 120)) (f2 := (ms m9)) 2 rfl rfl (fun k hk => cpN_in hk) hP
    have hD : va_D A (wM g a (sMas m9 (ms m9))) := k_D_ext (ws := (wM g a (sMas m9 (cpN (ms m9) (mas m9) 120)))) 2 rfl rfl hD
    exact k_vret hx hb hr hlocks hP hD hS (Nat.le_of_ble_eq_true rfl) (Nat.le_of_ble_eq_true rfl) dX4_putAside_26
  ·
    refine lv_aload_n hx hb dX4_putAside_8 rfl (lv_at hl 1 rfl) ?_
    refine va_get (D := g.1) (ci := 4) (v := .ref (a 2)) (C := RX4) (T := TX4) (N := 12) hx hb hts hiX4 hown hE.1 hP 0 rfl rfl 2 (by decide) f13 (fun _ h9 => h9) rfl dX4_putAside_9 ?_
    refine lv_iload_n hx hb dX4_putAside_12 rfl (lv_at hl 0 rfl) ?_
    refine lv_aload_n hx hb dX4_putAside_13 rfl (lv_at hl 1 rfl) ?_
    refine va_get (D := g.1) (ci := 4) (v := .ref (a 1)) (C := RX4) (T := TX4) (N := 12) hx hb hts hiX4 hown hE.1 hP 0 rfl rfl 1 (by decide) f7 (fun _ h9 => h9) rfl dX4_putAside_14 ?_
    refine lv_iload_n hx hb dX4_putAside_17 rfl (lv_at hl 0 rfl) ?_
    refine k_iald (f := (ms m9)) hx hb hE hP 1 rfl i rfl (by omega) (by decide) dX4_putAside_18 ?_
    refine k_iast (f := (cpN (ms m9) (mas m9) i)) (ws1 := (wM g a (sMas m9 (upd (cpN (ms m9) (mas m9) i) i ((ms m9) i))))) hx hb hE hP hD hS 2 rfl i rfl (by omega) (by decide) rfl dX4_putAside_19 (fun H locs hP hD hS => ?_)
    refine lv_iinc (v := (nI (i + 1))) (lv' := [(1, .int (nI (i + 1))), (0, .ref (a 0))]) hx hb dX4_putAside_20 hl (k := 0) rfl (k_inc1 _) (by decide) rfl (fun ls hl => ?_)
    refine lv_goto (tgt := 2) hx hb dX4_putAside_23 (by decide) ?_
    have e4 : (sMas m9 (cpN (ms m9) (mas m9) (i + 1))) = (sMas m9 (upd (cpN (ms m9) (mas m9) i) i ((ms m9) i))) := (by first | (simp only [cpN, if_neg (Nat.not_le.mpr c3), if_pos (Nat.not_le.mpr c3)]; done) | (simp only [cpN, if_neg (Nat.not_le.mpr c3), if_pos (Nat.not_le.mpr c3)]; rfl) | rfl | (simp [cpN, if_neg (Nat.not_le.mpr c3), if_pos (Nat.not_le.mpr c3)]; done))
    exact ih1 _ _ _ (by omega) ⟨(by rw [e4]; exact hP), (by rw [e4]; exact hD), hS, lv_sub hl [0, 1] rfl⟩
set_option maxHeartbeats 4000000 in
set_option maxRecDepth 100000 in
theorem c_X4_takeBack (l : Launch) (g : kG) (a : Nat → Nat) (m9 : MSt) : KV l yX4_takeBack wsX4_takeBack ({ frames := 0, cells := 0, slots := 0, locals := 0 }) g [.ref (a 0)] (wM g a m9) (wM g a (sMs m9 (mas m9))) 0 0 := by
  refine k_begin (cc := cX4_takeBack) (maxL := 2) (ret := none) (Qc := fun A => kQv g (wM g a (sMs m9 (mas m9))) A) (by decide) rfl (Nat.le_of_ble_eq_true rfl) ?_
  intro p e s m below meth c A ls hF hr hlocks hin hE hP hD hS hA hl
  obtain ⟨hx, hb, hml, hown, hts⟩ := id hF
  have hown : s.vm.findClass RX4 = some m.cls := hown
  have hl : lv_has ls 2 [(0, .ref (a 0))] := hl
  have hiX4 : ∀ w ∈ wsX40, w ∈ wsX4_takeBack := fun _ h => List.mem_cons_of_mem _ (List.mem_append_right _ (h))
  have f7 : (Cond.fieldLink RX4 7 "ConcertUsherModel" "s" "[I").before _ s = true := hts _ (List.mem_of_getElem? (i := 1) rfl)
  have f13 : (Cond.fieldLink RX4 13 "ConcertUsherModel" "aside" "[I").before _ s = true := hts _ (List.mem_of_getElem? (i := 2) rfl)
  refine lv_iconst (v := (nI 0)) hx hb dX4_takeBack_0 (by decide) ?_
  refine lv_istore_n (lv' := [(1, .int (nI 0)), (0, .ref (a 0))]) hx hb dX4_takeBack_1 rfl hl (by decide) rfl (fun ls hl => ?_)
  refine k_loop (N := 120) (Inv := fun (i : Nat) (H : Heap) (locs : List Loc) (ls : Array Slot) => va_P g.1 vwCl (wM g a (sMs m9 (cpN (mas m9) (ms m9) i))) H ∧ va_D A (wM g a (sMs m9 (cpN (mas m9) (ms m9) i))) ∧ va_S A s.heap H locs ∧ lv_has ls 2 [(1, .int (nI i)), (0, .ref (a 0))]) 0 (Nat.zero_le _) ⟨hP, hD, hS, lv_sub hl [0, 1] rfl⟩ (fun i hle2 ih1 H locs ls hinv => ?_)
  obtain ⟨hP, hD, hS, hl⟩ := hinv
  refine lv_iload_n hx hb dX4_takeBack_2 rfl (lv_at hl 0 rfl) ?_
  refine lv_bipush (v := (nI 120)) hx hb dX4_takeBack_3 (by decide) ?_
  refine k_geN (tgt := 26) hx hb (by omega) (by decide) dX4_takeBack_5 (by decide) (fun c3 => ?_) (fun c3 => ?_)
  ·
    obtain rfl : 120 = i := by omega
    have hP : va_P g.1 vwCl (wM g a (sMs m9 (mas m9))) H := k_P_ext (ws := (wM g a (sMs m9 (cpN (mas m9) (ms m9) 120)))) (f := (cpN (mas m9) (ms m9) 120)) (f2 := (mas m9)) 1 rfl rfl (fun k hk => cpN_in hk) hP
    have hD : va_D A (wM g a (sMs m9 (mas m9))) := k_D_ext (ws := (wM g a (sMs m9 (cpN (mas m9) (ms m9) 120)))) 1 rfl rfl hD
    exact k_vret hx hb hr hlocks hP hD hS (Nat.le_of_ble_eq_true rfl) (Nat.le_of_ble_eq_true rfl) dX4_takeBack_26
  ·
    refine lv_aload_n hx hb dX4_takeBack_8 rfl (lv_at hl 1 rfl) ?_
    refine va_get (D := g.1) (ci := 4) (v := .ref (a 1)) (C := RX4) (T := TX4) (N := 12) hx hb hts hiX4 hown hE.1 hP 0 rfl rfl 1 (by decide) f7 (fun _ h9 => h9) rfl dX4_takeBack_9 ?_
    refine lv_iload_n hx hb dX4_takeBack_12 rfl (lv_at hl 0 rfl) ?_
    refine lv_aload_n hx hb dX4_takeBack_13 rfl (lv_at hl 1 rfl) ?_
    refine va_get (D := g.1) (ci := 4) (v := .ref (a 2)) (C := RX4) (T := TX4) (N := 12) hx hb hts hiX4 hown hE.1 hP 0 rfl rfl 2 (by decide) f13 (fun _ h9 => h9) rfl dX4_takeBack_14 ?_
    refine lv_iload_n hx hb dX4_takeBack_17 rfl (lv_at hl 0 rfl) ?_
    refine k_iald (f := (mas m9)) hx hb hE hP 2 rfl i rfl (by omega) (by decide) dX4_takeBack_18 ?_
    refine k_iast (f := (cpN (mas m9) (ms m9) i)) (ws1 := (wM g a (sMs m9 (upd (cpN (mas m9) (ms m9) i) i ((mas m9) i))))) hx hb hE hP hD hS 1 rfl i rfl (by omega) (by decide) rfl dX4_takeBack_19 (fun H locs hP hD hS => ?_)
    refine lv_iinc (v := (nI (i + 1))) (lv' := [(1, .int (nI (i + 1))), (0, .ref (a 0))]) hx hb dX4_takeBack_20 hl (k := 0) rfl (k_inc1 _) (by decide) rfl (fun ls hl => ?_)
    refine lv_goto (tgt := 2) hx hb dX4_takeBack_23 (by decide) ?_
    have e4 : (sMs m9 (cpN (mas m9) (ms m9) (i + 1))) = (sMs m9 (upd (cpN (mas m9) (ms m9) i) i ((mas m9) i))) := (by first | (simp only [cpN, if_neg (Nat.not_le.mpr c3), if_pos (Nat.not_le.mpr c3)]; done) | (simp only [cpN, if_neg (Nat.not_le.mpr c3), if_pos (Nat.not_le.mpr c3)]; rfl) | rfl | (simp [cpN, if_neg (Nat.not_le.mpr c3), if_pos (Nat.not_le.mpr c3)]; done))
    exact ih1 _ _ _ (by omega) ⟨(by rw [e4]; exact hP), (by rw [e4]; exact hD), hS, lv_sub hl [0, 1] rfl⟩
