set_option maxHeartbeats 4000000 in
set_option maxRecDepth 100000 in
theorem c_X4_goes (l : Launch) (g : kG) (a : Nat → Nat) (m9 : MSt) (r c9 : Nat) (hr8 : r < 8) (hc6 : c9 < 6) : KI l yX4_goes wsX4_goes ({ frames := 1, cells := 0, slots := 0, locals := 21 }) g [.ref (a 0), .int (nI r), .int (nI c9)] (wM g a m9) (bI (Mgoes (ms m9) r c9)) (wM g a m9) 0 0 := by
  refine k_begin (cc := cX4_goes) (maxL := 3) (ret := (some .boolean)) (Qc := fun A => kQi g (bI (Mgoes (ms m9) r c9)) (wM g a m9) A) (by decide) rfl (Nat.le_of_ble_eq_true rfl) ?_
  intro p e s m below meth c A ls hF hr hlocks hin hE hP hD hS hA hl
  obtain ⟨hx, hb, hml, hown, hts⟩ := id hF
  have hown : s.vm.findClass RX4 = some m.cls := hown
  have hl : lv_has ls 3 [(0, .ref (a 0)), (1, .int (nI r)), (2, .int (nI c9))] := hl
  have hiX4 : ∀ w ∈ wsX40, w ∈ wsX4_goes := fun _ h => List.mem_cons_of_mem _ (List.mem_append_right _ (h))
  have f7 : (Cond.fieldLink RX4 7 "ConcertUsherModel" "s" "[I").before _ s = true := hts _ (List.mem_of_getElem? (i := 1) rfl)
  refine lv_aload_n hx hb dX4_goes_0 rfl (lv_at hl 0 rfl) ?_
  refine va_get (D := g.1) (ci := 4) (v := .ref (a 1)) (C := RX4) (T := TX4) (N := 12) hx hb hts hiX4 hown hE.1 hP 0 rfl rfl 1 (by decide) f7 (fun _ h9 => h9) rfl dX4_goes_1 ?_
  refine lv_bipush (v := (nI 13)) hx hb dX4_goes_4 (by decide) ?_
  refine lv_iload_n hx hb dX4_goes_6 rfl (lv_at hl 1 rfl) ?_
  refine lv_iadd hx hb dX4_goes_7 ?_
  refine k_top (nI_add _ _) ?_
  refine k_iald (f := (ms m9)) hx hb hE hP 1 rfl (13 + r) rfl (by omega) (by decide) dX4_goes_8 ?_
  refine lv_iconst (v := (nI 1)) hx hb dX4_goes_9 (by decide) ?_
  refine lv_icmp_eq (tgt := 29) hx hb dX4_goes_10 (by decide) (fun c1 => ?_) (fun c1 => ?_)
  ·
    refine lv_iconst (v := (nI 1)) hx hb dX4_goes_29 (by decide) ?_
    refine lv_goto (tgt := 34) hx hb dX4_goes_30 (by decide) ?_
    have hP : va_P g.1 vwCl (wM g a m9) _ := hP
    have hD : va_D A (wM g a m9) := hD
    exact k_iret hx hb hr hlocks rfl (bI_t (Or.inl c1)).symm hP hD hS (Nat.le_of_ble_eq_true rfl) (Nat.le_of_ble_eq_true rfl) dX4_goes_34
  ·
    refine lv_aload_n hx hb dX4_goes_13 rfl (lv_at hl 0 rfl) ?_
    refine va_get (D := g.1) (ci := 4) (v := .ref (a 1)) (C := RX4) (T := TX4) (N := 12) hx hb hts hiX4 hown hE.1 hP 0 rfl rfl 1 (by decide) f7 (fun _ h9 => h9) rfl dX4_goes_14 ?_
    refine lv_bipush (v := (nI 69)) hx hb dX4_goes_17 (by decide) ?_
    refine lv_iload_n hx hb dX4_goes_19 rfl (lv_at hl 1 rfl) ?_
    refine lv_iload_n hx hb dX4_goes_20 rfl (lv_at hl 2 rfl) ?_
    refine k_Si (w0 := []) (w1 := []) (As := [.int (nI r), .int (nI c9)]) (r := (nI (6 * r + c9))) hF (c_X4_cellOf l g r c9) (va_cwS 2 hts gX4_goes_X4_cellOf rfl rfl rfl (by decide +kernel) ⟨Nat.le_of_ble_eq_true rfl, Nat.le_of_ble_eq_true rfl⟩) hE hP hD hS hA (List.Perm.refl _) (List.Perm.refl _) rfl hl.1 rfl (Nat.le_of_ble_eq_true rfl) dX4_goes_21 ⟨Nat.le_of_ble_eq_true rfl, Nat.le_of_ble_eq_true rfl⟩ (fun H locs hP hD hS => ?_)
    have hP : va_P g.1 vwCl (wM g a m9) _ := hP
    have hD : va_D A (wM g a m9) := hD
    refine lv_iadd hx hb dX4_goes_24 ?_
    refine k_top (nI_add _ _) ?_
    refine k_iald (f := (ms m9)) hx hb hE hP 1 rfl (69 + (6 * r + c9)) rfl (by omega) (by decide) dX4_goes_25 ?_
    refine lv_if_le (tgt := 33) hx hb dX4_goes_26 (by decide) (fun c2 => ?_) (fun c2 => ?_)
    ·
      refine lv_iconst (v := (nI 0)) hx hb dX4_goes_33 (by decide) ?_
      have hP : va_P g.1 vwCl (wM g a m9) _ := hP
      have hD : va_D A (wM g a m9) := hD
      exact k_iret hx hb hr hlocks rfl (bI_f (fun h9 => h9.elim c1 (fun z => z c2))).symm hP hD hS (Nat.le_of_ble_eq_true rfl) (Nat.le_of_ble_eq_true rfl) dX4_goes_34
    ·
      refine lv_iconst (v := (nI 1)) hx hb dX4_goes_29 (by decide) ?_
      refine lv_goto (tgt := 34) hx hb dX4_goes_30 (by decide) ?_
      have hP : va_P g.1 vwCl (wM g a m9) _ := hP
      have hD : va_D A (wM g a m9) := hD
      exact k_iret hx hb hr hlocks rfl (bI_t (Or.inr c2)).symm hP hD hS (Nat.le_of_ble_eq_true rfl) (Nat.le_of_ble_eq_true rfl) dX4_goes_34
set_option maxHeartbeats 4000000 in
set_option maxRecDepth 100000 in
theorem c_X4_wants (l : Launch) (g : kG) (a : Nat → Nat) (m9 : MSt) (r c9 : Nat) (hr8 : r < 8) (hc6 : c9 < 6) : KI l yX4_wants wsX4_wants ({ frames := 1, cells := 0, slots := 0, locals := 21 }) g [.ref (a 0), .int (nI r), .int (nI c9)] (wM g a m9) (bI (Mwants (ms m9) r c9)) (wM g a m9) 0 0 := by
  refine k_begin (cc := cX4_wants) (maxL := 3) (ret := (some .boolean)) (Qc := fun A => kQi g (bI (Mwants (ms m9) r c9)) (wM g a m9) A) (by decide) rfl (Nat.le_of_ble_eq_true rfl) ?_
  intro p e s m below meth c A ls hF hr hlocks hin hE hP hD hS hA hl
  obtain ⟨hx, hb, hml, hown, hts⟩ := id hF
  have hown : s.vm.findClass RX4 = some m.cls := hown
  have hl : lv_has ls 3 [(0, .ref (a 0)), (1, .int (nI r)), (2, .int (nI c9))] := hl
  have hiX4 : ∀ w ∈ wsX40, w ∈ wsX4_wants := fun _ h => List.mem_cons_of_mem _ (List.mem_append_right _ (h))
  have f7 : (Cond.fieldLink RX4 7 "ConcertUsherModel" "s" "[I").before _ s = true := hts _ (List.mem_of_getElem? (i := 1) rfl)
  refine lv_aload_n hx hb dX4_wants_0 rfl (lv_at hl 0 rfl) ?_
  refine va_get (D := g.1) (ci := 4) (v := .ref (a 1)) (C := RX4) (T := TX4) (N := 12) hx hb hts hiX4 hown hE.1 hP 0 rfl rfl 1 (by decide) f7 (fun _ h9 => h9) rfl dX4_wants_1 ?_
  refine lv_bipush (v := (nI 21)) hx hb dX4_wants_4 (by decide) ?_
  refine lv_iload_n hx hb dX4_wants_6 rfl (lv_at hl 1 rfl) ?_
  refine lv_iload_n hx hb dX4_wants_7 rfl (lv_at hl 2 rfl) ?_
  refine k_Si (w0 := []) (w1 := []) (As := [.int (nI r), .int (nI c9)]) (r := (nI (6 * r + c9))) hF (c_X4_cellOf l g r c9) (va_cwS 2 hts gX4_wants_X4_cellOf rfl rfl rfl (by decide +kernel) ⟨Nat.le_of_ble_eq_true rfl, Nat.le_of_ble_eq_true rfl⟩) hE hP hD hS hA (List.Perm.refl _) (List.Perm.refl _) rfl hl.1 rfl (Nat.le_of_ble_eq_true rfl) dX4_wants_8 ⟨Nat.le_of_ble_eq_true rfl, Nat.le_of_ble_eq_true rfl⟩ (fun H locs hP hD hS => ?_)
  have hP : va_P g.1 vwCl (wM g a m9) _ := hP
  have hD : va_D A (wM g a m9) := hD
  refine lv_iadd hx hb dX4_wants_11 ?_
  refine k_top (nI_add _ _) ?_
  refine k_iald (f := (ms m9)) hx hb hE hP 1 rfl (21 + (6 * r + c9)) rfl (by omega) (by decide) dX4_wants_12 ?_
  refine lv_if_le (tgt := 20) hx hb dX4_wants_13 (by decide) (fun c1 => ?_) (fun c1 => ?_)
  ·
    refine lv_iconst (v := (nI 0)) hx hb dX4_wants_20 (by decide) ?_
    have hP : va_P g.1 vwCl (wM g a m9) _ := hP
    have hD : va_D A (wM g a m9) := hD
    exact k_iret hx hb hr hlocks rfl (by first | (simp only [bI, if_pos c1, if_neg (not_not_intro c1)]; done) | (simp only [bI, if_pos c1, if_neg (not_not_intro c1)]; rfl) | rfl | (simp [bI, if_pos c1, if_neg (not_not_intro c1)]; done)) hP hD hS (Nat.le_of_ble_eq_true rfl) (Nat.le_of_ble_eq_true rfl) dX4_wants_21
  ·
    refine lv_iconst (v := (nI 1)) hx hb dX4_wants_16 (by decide) ?_
    refine lv_goto (tgt := 21) hx hb dX4_wants_17 (by decide) ?_
    have hP : va_P g.1 vwCl (wM g a m9) _ := hP
    have hD : va_D A (wM g a m9) := hD
    exact k_iret hx hb hr hlocks rfl (by first | (simp only [bI, if_neg c1, if_pos c1]; done) | (simp only [bI, if_neg c1, if_pos c1]; rfl) | rfl | (simp [bI, if_neg c1, if_pos c1]; done)) hP hD hS (Nat.le_of_ble_eq_true rfl) (Nat.le_of_ble_eq_true rfl) dX4_wants_21
set_option maxHeartbeats 4000000 in
set_option maxRecDepth 100000 in
theorem c_X4_entriesNow (l : Launch) (g : kG) (a : Nat → Nat) (m9 : MSt) : KI l yX4_entriesNow wsX4_entriesNow ({ frames := 0, cells := 0, slots := 0, locals := 0 }) g [.ref (a 0)] (wM g a m9) (Ment (ms m9) 48) (wM g a m9) 0 0 := by
  refine k_begin (cc := cX4_entriesNow) (maxL := 3) (ret := (some .int)) (Qc := fun A => kQi g (Ment (ms m9) 48) (wM g a m9) A) (by decide) rfl (Nat.le_of_ble_eq_true rfl) ?_
  intro p e s m below meth c A ls hF hr hlocks hin hE hP hD hS hA hl
  obtain ⟨hx, hb, hml, hown, hts⟩ := id hF
  have hown : s.vm.findClass RX4 = some m.cls := hown
  have hl : lv_has ls 3 [(0, .ref (a 0))] := hl
  have hiX4 : ∀ w ∈ wsX40, w ∈ wsX4_entriesNow := fun _ h => List.mem_cons_of_mem _ (List.mem_append_right _ (h))
  have f7 : (Cond.fieldLink RX4 7 "ConcertUsherModel" "s" "[I").before _ s = true := hts _ (List.mem_of_getElem? (i := 1) rfl)
  refine lv_iconst (v := (nI 0)) hx hb dX4_entriesNow_0 (by decide) ?_
  refine lv_istore_n (lv' := [(1, .int (nI 0)), (0, .ref (a 0))]) hx hb dX4_entriesNow_1 rfl hl (by decide) rfl (fun ls hl => ?_)
  refine lv_iconst (v := (nI 0)) hx hb dX4_entriesNow_2 (by decide) ?_
  refine lv_istore_n (lv' := [(2, .int (nI 0)), (1, .int (nI 0)), (0, .ref (a 0))]) hx hb dX4_entriesNow_3 rfl hl (by decide) rfl (fun ls hl => ?_)
  refine k_loop (N := 48) (Inv := fun (i : Nat) (H : Heap) (locs : List Loc) (ls : Array Slot) => va_P g.1 vwCl (wM g a m9) H ∧ va_D A (wM g a m9) ∧ va_S A s.heap H locs ∧ lv_has ls 3 [(2, .int (nI i)), (1, .int (Ment (ms m9) i)), (0, .ref (a 0))]) 0 (Nat.zero_le _) ⟨hP, hD, hS, lv_sub hl [0, 1, 2] rfl⟩ (fun i hle2 ih1 H locs ls hinv => ?_)
  obtain ⟨hP, hD, hS, hl⟩ := hinv
  refine lv_iload_n hx hb dX4_entriesNow_4 rfl (lv_at hl 0 rfl) ?_
  refine lv_bipush (v := (nI 48)) hx hb dX4_entriesNow_5 (by decide) ?_
  refine k_geN (tgt := 36) hx hb (by omega) (by decide) dX4_entriesNow_7 (by decide) (fun c3 => ?_) (fun c3 => ?_)
  ·
    obtain rfl : 48 = i := by omega
    refine lv_iload_n hx hb dX4_entriesNow_36 rfl (lv_at hl 1 rfl) ?_
    have hP : va_P g.1 vwCl (wM g a m9) _ := hP
    have hD : va_D A (wM g a m9) := hD
    exact k_iret hx hb hr hlocks rfl rfl hP hD hS (Nat.le_of_ble_eq_true rfl) (Nat.le_of_ble_eq_true rfl) dX4_entriesNow_37
  ·
    refine lv_iload_n hx hb dX4_entriesNow_10 rfl (lv_at hl 1 rfl) ?_
    refine lv_aload_n hx hb dX4_entriesNow_11 rfl (lv_at hl 2 rfl) ?_
    refine va_get (D := g.1) (ci := 4) (v := .ref (a 1)) (C := RX4) (T := TX4) (N := 12) hx hb hts hiX4 hown hE.1 hP 0 rfl rfl 1 (by decide) f7 (fun _ h9 => h9) rfl dX4_entriesNow_12 ?_
    refine lv_bipush (v := (nI 69)) hx hb dX4_entriesNow_15 (by decide) ?_
    refine lv_iload_n hx hb dX4_entriesNow_17 rfl (lv_at hl 0 rfl) ?_
    refine lv_iadd hx hb dX4_entriesNow_18 ?_
    refine k_top (nI_add _ _) ?_
    refine k_iald (f := (ms m9)) hx hb hE hP 1 rfl (69 + i) rfl (by omega) (by decide) dX4_entriesNow_19 ?_
    refine k_meet (x := .int (bI (¬ ((ms m9) (69 + i)) ≤ 0))) (pj := 28) (rest := [.int (Ment (ms m9) i)]) (fun J4 => ?_) ?_
    ·
      refine lv_if_le (tgt := 27) hx hb dX4_entriesNow_20 (by decide) (fun c5 => ?_) (fun c5 => ?_)
      ·
        refine lv_iconst (v := (nI 0)) hx hb dX4_entriesNow_27 (by decide) ?_
        exact k_top (by first | (simp only [bI, if_neg (Nat.not_le.mpr c3), if_pos (Nat.not_le.mpr c3), if_pos c5, if_neg (not_not_intro c5)]; done) | (simp only [bI, if_neg (Nat.not_le.mpr c3), if_pos (Nat.not_le.mpr c3), if_pos c5, if_neg (not_not_intro c5)]; rfl) | rfl | (simp [bI, if_neg (Nat.not_le.mpr c3), if_pos (Nat.not_le.mpr c3), if_pos c5, if_neg (not_not_intro c5)]; done)) J4
      ·
        refine lv_iconst (v := (nI 1)) hx hb dX4_entriesNow_23 (by decide) ?_
        refine lv_goto (tgt := 28) hx hb dX4_entriesNow_24 (by decide) ?_
        exact k_top (by first | (simp only [bI, if_neg (Nat.not_le.mpr c3), if_pos (Nat.not_le.mpr c3), if_neg c5, if_pos c5]; done) | (simp only [bI, if_neg (Nat.not_le.mpr c3), if_pos (Nat.not_le.mpr c3), if_neg c5, if_pos c5]; rfl) | rfl | (simp [bI, if_neg (Nat.not_le.mpr c3), if_pos (Nat.not_le.mpr c3), if_neg c5, if_pos c5]; done)) J4
    ·
      refine lv_iadd hx hb dX4_entriesNow_28 ?_
      refine lv_istore_n (lv' := [(1, .int ((Ment (ms m9) i) + (bI (¬ ((ms m9) (69 + i)) ≤ 0)))), (2, .int (nI i)), (0, .ref (a 0))]) hx hb dX4_entriesNow_29 rfl hl (by decide) rfl (fun ls hl => ?_)
      refine lv_iinc (v := (nI (i + 1))) (lv' := [(2, .int (nI (i + 1))), (1, .int ((Ment (ms m9) i) + (bI (¬ ((ms m9) (69 + i)) ≤ 0)))), (0, .ref (a 0))]) hx hb dX4_entriesNow_30 hl (k := 1) rfl (k_inc1 _) (by decide) rfl (fun ls hl => ?_)
      refine lv_goto (tgt := 4) hx hb dX4_entriesNow_33 (by decide) ?_
      have e6 : (Ment (ms m9) (i + 1)) = ((Ment (ms m9) i) + (bI (¬ ((ms m9) (69 + i)) ≤ 0))) := (by first | (simp only [Ment, bI, if_neg (Nat.not_le.mpr c3), if_pos (Nat.not_le.mpr c3)]; done) | (simp only [Ment, bI, if_neg (Nat.not_le.mpr c3), if_pos (Nat.not_le.mpr c3)]; rfl) | rfl | (simp [Ment, bI, if_neg (Nat.not_le.mpr c3), if_pos (Nat.not_le.mpr c3)]; done))
      exact ih1 _ _ _ (by omega) ⟨hP, hD, hS, (by rw [e6]; exact lv_sub hl [0, 1, 2] rfl)⟩
set_option maxHeartbeats 4000000 in
set_option maxRecDepth 100000 in
theorem c_X4_entries (l : Launch) (g : kG) (a : Nat → Nat) (m9 : MSt) (j : Nat) (hj : j ≤ 6) (hjm : msm m9 = nI j) : KI l yX4_entries wsX4_entries ({ frames := 1, cells := 0, slots := 0, locals := 22 }) g [.ref (a 0)] (wM g a m9) (Ment (ms m9) 48) (wM g a (sMth m9 (nI 0))) 0 0 := by
  refine k_begin (cc := cX4_entries) (maxL := 1) (ret := (some .int)) (Qc := fun A => kQi g (Ment (ms m9) 48) (wM g a (sMth m9 (nI 0))) A) (by decide) rfl (Nat.le_of_ble_eq_true rfl) ?_
  intro p e s m below meth c A ls hF hr hlocks hin hE hP hD hS hA hl
  obtain ⟨hx, hb, hml, hown, hts⟩ := id hF
  have hown : s.vm.findClass RX4 = some m.cls := hown
  have hl : lv_has ls 1 [(0, .ref (a 0))] := hl
  have hiX4 : ∀ w ∈ wsX40, w ∈ wsX4_entries := fun _ h => List.mem_cons_of_mem _ (List.mem_append_right _ (h))
  have f25 : (Cond.fieldLink RX4 25 "ConcertUsherModel" "thrown" "I").before _ s = true := hts _ (List.mem_of_getElem? (i := 1) rfl)
  refine lv_aload_n hx hb dX4_entries_0 rfl (lv_at hl 0 rfl) ?_
  refine lv_iconst (v := (nI 0)) hx hb dX4_entries_1 (by decide) ?_
  refine va_put (D := g.1) (ci := 4) (v := .int (nI 0)) (ty := .int) (C := RX4) (T := TX4) (N := 12) hx hb hts hiX4 tyX4 tyX4_ok nmX4 hown hE.1 hP hD hS 0 rfl rfl 0 (by decide) f25 (fun _ h9 => h9) rfl (tyX4_ok 0 (by decide)) rfl rfl (Nat.le_of_ble_eq_true rfl) dX4_entries_2 (fun H locs hP hD hS => ?_)
  have hP : va_P g.1 vwCl (wM g a (sMth m9 (nI 0))) _ := hP
  have hD : va_D A (wM g a (sMth m9 (nI 0))) := hD
  refine lv_aload_n hx hb dX4_entries_5 rfl (lv_at hl 0 rfl) ?_
  refine k_Vi (As := []) (r := (Ment (ms m9) 48)) hF (c_X4_entriesNow l g a (sMth m9 (nI 0))) (cwV 0 hts gX4_entries_X4_entriesNow rfl rfl rfl (by decide +kernel) ⟨Nat.le_of_ble_eq_true rfl, Nat.le_of_ble_eq_true rfl⟩) hE hP hD hS hA (k_pall _) ((k_pall _).symm) 0 rfl rfl rfl rfl hl.1 rfl (Nat.le_of_ble_eq_true rfl) dX4_entries_6 ⟨Nat.le_of_ble_eq_true rfl, Nat.le_of_ble_eq_true rfl⟩ (fun H locs hP hD hS => ?_)
  have hP : va_P g.1 vwCl (wM g a (sMth m9 (nI 0))) _ := hP
  have hD : va_D A (wM g a (sMth m9 (nI 0))) := hD
  have hP : va_P g.1 vwCl (wM g a (sMth m9 (nI 0))) _ := hP
  have hD : va_D A (wM g a (sMth m9 (nI 0))) := hD
  exact k_iret hx hb hr hlocks rfl rfl hP hD hS (Nat.le_of_ble_eq_true rfl) (Nat.le_of_ble_eq_true rfl) dX4_entries_9
set_option maxHeartbeats 4000000 in
set_option maxRecDepth 100000 in
theorem c_X4_rowsOf (l : Launch) (g : kG) (a : Nat → Nat) (m9 : MSt) (c9 : Nat) (hc6 : c9 < 6) : KI l yX4_rowsOf wsX4_rowsOf ({ frames := 2, cells := 0, slots := 0, locals := 43 }) g [.ref (a 0), .int (nI c9)] (wM g a m9) (Mrow (ms m9) c9 8) (wM g a m9) 0 0 := by
  refine k_begin (cc := cX4_rowsOf) (maxL := 4) (ret := (some .int)) (Qc := fun A => kQi g (Mrow (ms m9) c9 8) (wM g a m9) A) (by decide) rfl (Nat.le_of_ble_eq_true rfl) ?_
  intro p e s m below meth c A ls hF hr hlocks hin hE hP hD hS hA hl
  obtain ⟨hx, hb, hml, hown, hts⟩ := id hF
  have hown : s.vm.findClass RX4 = some m.cls := hown
  have hl : lv_has ls 4 [(0, .ref (a 0)), (1, .int (nI c9))] := hl
  refine lv_iconst (v := (nI 0)) hx hb dX4_rowsOf_0 (by decide) ?_
  refine lv_istore_n (lv' := [(2, .int (nI 0)), (0, .ref (a 0)), (1, .int (nI c9))]) hx hb dX4_rowsOf_1 rfl hl (by decide) rfl (fun ls hl => ?_)
  refine lv_iconst (v := (nI 0)) hx hb dX4_rowsOf_2 (by decide) ?_
  refine lv_istore_n (lv' := [(3, .int (nI 0)), (2, .int (nI 0)), (0, .ref (a 0)), (1, .int (nI c9))]) hx hb dX4_rowsOf_3 rfl hl (by decide) rfl (fun ls hl => ?_)
  refine k_loop (N := 8) (Inv := fun (i : Nat) (H : Heap) (locs : List Loc) (ls : Array Slot) => va_P g.1 vwCl (wM g a m9) H ∧ va_D A (wM g a m9) ∧ va_S A s.heap H locs ∧ lv_has ls 4 [(3, .int (nI i)), (2, .int (Mrow (ms m9) c9 i)), (0, .ref (a 0)), (1, .int (nI c9))]) 0 (Nat.zero_le _) ⟨hP, hD, hS, lv_sub hl [0, 1, 2, 3] rfl⟩ (fun i hle2 ih1 H locs ls hinv => ?_)
  obtain ⟨hP, hD, hS, hl⟩ := hinv
  refine lv_iload_n hx hb dX4_rowsOf_4 rfl (lv_at hl 0 rfl) ?_
  refine lv_bipush (v := (nI 8)) hx hb dX4_rowsOf_5 (by decide) ?_
  refine k_geN (tgt := 35) hx hb (by omega) (by decide) dX4_rowsOf_7 (by decide) (fun c3 => ?_) (fun c3 => ?_)
  ·
    obtain rfl : 8 = i := by omega
    refine lv_iload_n hx hb dX4_rowsOf_35 rfl (lv_at hl 1 rfl) ?_
    have hP : va_P g.1 vwCl (wM g a m9) _ := hP
    have hD : va_D A (wM g a m9) := hD
    exact k_iret hx hb hr hlocks rfl rfl hP hD hS (Nat.le_of_ble_eq_true rfl) (Nat.le_of_ble_eq_true rfl) dX4_rowsOf_36
  ·
    refine lv_iload_n hx hb dX4_rowsOf_10 rfl (lv_at hl 1 rfl) ?_
    refine lv_aload_n hx hb dX4_rowsOf_11 rfl (lv_at hl 2 rfl) ?_
    refine lv_iload_n hx hb dX4_rowsOf_12 rfl (lv_at hl 0 rfl) ?_
    refine lv_iload_n hx hb dX4_rowsOf_13 rfl (lv_at hl 3 rfl) ?_
    refine k_Vi (As := [.int (nI i), .int (nI c9)]) (r := (bI (Mgoes (ms m9) i c9))) hF (c_X4_goes l g a m9 i c9 (by omega) (by omega)) (cwV 2 hts gX4_rowsOf_X4_goes rfl rfl rfl (by decide +kernel) ⟨Nat.le_of_ble_eq_true rfl, Nat.le_of_ble_eq_true rfl⟩) hE hP hD hS hA (k_pall _) ((k_pall _).symm) 0 rfl rfl rfl rfl hl.1 rfl (Nat.le_of_ble_eq_true rfl) dX4_rowsOf_14 ⟨Nat.le_of_ble_eq_true rfl, Nat.le_of_ble_eq_true rfl⟩ (fun H locs hP hD hS => ?_)
    have hP : va_P g.1 vwCl (wM g a m9) _ := hP
    have hD : va_D A (wM g a m9) := hD
    refine k_meet (x := .int (if Mgoes (ms m9) i c9 then (nI 1 <<< (nI i &&& 31)) else nI 0)) (pj := 27) (rest := [.int (Mrow (ms m9) c9 i)]) (fun J4 => ?_) ?_
    ·
      refine k_ifeqB (tgt := 26) hx hb dX4_rowsOf_17 (by decide) (fun c5 => ?_) (fun c5 => ?_)
      ·
        refine lv_iconst (v := (nI 0)) hx hb dX4_rowsOf_26 (by decide) ?_
        exact k_top (by first | (simp only [bI, if_neg (Nat.not_le.mpr c3), if_pos (Nat.not_le.mpr c3), if_neg c5, if_pos c5]; done) | (simp only [bI, if_neg (Nat.not_le.mpr c3), if_pos (Nat.not_le.mpr c3), if_neg c5, if_pos c5]; rfl) | rfl | (simp [bI, if_neg (Nat.not_le.mpr c3), if_pos (Nat.not_le.mpr c3), if_neg c5, if_pos c5]; done)) J4
      ·
        refine lv_iconst (v := (nI 1)) hx hb dX4_rowsOf_20 (by decide) ?_
        refine lv_iload_n hx hb dX4_rowsOf_21 rfl (lv_at hl 0 rfl) ?_
        refine lv_ishl hx hb dX4_rowsOf_22 ?_
        refine lv_goto (tgt := 27) hx hb dX4_rowsOf_23 (by decide) ?_
        exact k_top (by first | (simp only [bI, if_neg (Nat.not_le.mpr c3), if_pos (Nat.not_le.mpr c3), if_pos c5, if_neg (not_not_intro c5)]; done) | (simp only [bI, if_neg (Nat.not_le.mpr c3), if_pos (Nat.not_le.mpr c3), if_pos c5, if_neg (not_not_intro c5)]; rfl) | rfl | (simp [bI, if_neg (Nat.not_le.mpr c3), if_pos (Nat.not_le.mpr c3), if_pos c5, if_neg (not_not_intro c5)]; done)) J4
    ·
      refine lv_ior hx hb dX4_rowsOf_27 ?_
      refine lv_istore_n (lv' := [(2, .int ((Mrow (ms m9) c9 i) ||| (if Mgoes (ms m9) i c9 then (nI 1 <<< (nI i &&& 31)) else nI 0))), (3, .int (nI i)), (0, .ref (a 0)), (1, .int (nI c9))]) hx hb dX4_rowsOf_28 rfl hl (by decide) rfl (fun ls hl => ?_)
      refine lv_iinc (v := (nI (i + 1))) (lv' := [(3, .int (nI (i + 1))), (2, .int ((Mrow (ms m9) c9 i) ||| (if Mgoes (ms m9) i c9 then (nI 1 <<< (nI i &&& 31)) else nI 0))), (0, .ref (a 0)), (1, .int (nI c9))]) hx hb dX4_rowsOf_29 hl (k := 1) rfl (k_inc1 _) (by decide) rfl (fun ls hl => ?_)
      refine lv_goto (tgt := 4) hx hb dX4_rowsOf_32 (by decide) ?_
      have e6 : (Mrow (ms m9) c9 (i + 1)) = ((Mrow (ms m9) c9 i) ||| (if Mgoes (ms m9) i c9 then (nI 1 <<< (nI i &&& 31)) else nI 0)) := (by first | (simp only [Mrow, bI, if_neg (Nat.not_le.mpr c3), if_pos (Nat.not_le.mpr c3)]; done) | (simp only [Mrow, bI, if_neg (Nat.not_le.mpr c3), if_pos (Nat.not_le.mpr c3)]; rfl) | rfl | (simp [Mrow, bI, if_neg (Nat.not_le.mpr c3), if_pos (Nat.not_le.mpr c3)]; done))
      exact ih1 _ _ _ (by omega) ⟨hP, hD, hS, (by rw [e6]; exact lv_sub hl [0, 1, 2, 3] rfl)⟩
set_option maxHeartbeats 4000000 in
set_option maxRecDepth 100000 in
theorem c_X4_wantedOf (l : Launch) (g : kG) (a : Nat → Nat) (m9 : MSt) (c9 : Nat) (hc6 : c9 < 6) : KI l yX4_wantedOf wsX4_wantedOf ({ frames := 2, cells := 0, slots := 0, locals := 43 }) g [.ref (a 0), .int (nI c9)] (wM g a m9) (Mwan (ms m9) c9 8) (wM g a m9) 0 0 := by
  refine k_begin (cc := cX4_wantedOf) (maxL := 4) (ret := (some .int)) (Qc := fun A => kQi g (Mwan (ms m9) c9 8) (wM g a m9) A) (by decide) rfl (Nat.le_of_ble_eq_true rfl) ?_
  intro p e s m below meth c A ls hF hr hlocks hin hE hP hD hS hA hl
  obtain ⟨hx, hb, hml, hown, hts⟩ := id hF
  have hown : s.vm.findClass RX4 = some m.cls := hown
  have hl : lv_has ls 4 [(0, .ref (a 0)), (1, .int (nI c9))] := hl
  refine lv_iconst (v := (nI 0)) hx hb dX4_wantedOf_0 (by decide) ?_
  refine lv_istore_n (lv' := [(2, .int (nI 0)), (0, .ref (a 0)), (1, .int (nI c9))]) hx hb dX4_wantedOf_1 rfl hl (by decide) rfl (fun ls hl => ?_)
  refine lv_iconst (v := (nI 0)) hx hb dX4_wantedOf_2 (by decide) ?_
  refine lv_istore_n (lv' := [(3, .int (nI 0)), (2, .int (nI 0)), (0, .ref (a 0)), (1, .int (nI c9))]) hx hb dX4_wantedOf_3 rfl hl (by decide) rfl (fun ls hl => ?_)
  refine k_loop (N := 8) (Inv := fun (i : Nat) (H : Heap) (locs : List Loc) (ls : Array Slot) => va_P g.1 vwCl (wM g a m9) H ∧ va_D A (wM g a m9) ∧ va_S A s.heap H locs ∧ lv_has ls 4 [(3, .int (nI i)), (2, .int (Mwan (ms m9) c9 i)), (0, .ref (a 0)), (1, .int (nI c9))]) 0 (Nat.zero_le _) ⟨hP, hD, hS, lv_sub hl [0, 1, 2, 3] rfl⟩ (fun i hle2 ih1 H locs ls hinv => ?_)
  obtain ⟨hP, hD, hS, hl⟩ := hinv
  refine lv_iload_n hx hb dX4_wantedOf_4 rfl (lv_at hl 0 rfl) ?_
  refine lv_bipush (v := (nI 8)) hx hb dX4_wantedOf_5 (by decide) ?_
  refine k_geN (tgt := 35) hx hb (by omega) (by decide) dX4_wantedOf_7 (by decide) (fun c3 => ?_) (fun c3 => ?_)
  ·
    obtain rfl : 8 = i := by omega
    refine lv_iload_n hx hb dX4_wantedOf_35 rfl (lv_at hl 1 rfl) ?_
    have hP : va_P g.1 vwCl (wM g a m9) _ := hP
    have hD : va_D A (wM g a m9) := hD
    exact k_iret hx hb hr hlocks rfl rfl hP hD hS (Nat.le_of_ble_eq_true rfl) (Nat.le_of_ble_eq_true rfl) dX4_wantedOf_36
  ·
    refine lv_iload_n hx hb dX4_wantedOf_10 rfl (lv_at hl 1 rfl) ?_
    refine lv_aload_n hx hb dX4_wantedOf_11 rfl (lv_at hl 2 rfl) ?_
    refine lv_iload_n hx hb dX4_wantedOf_12 rfl (lv_at hl 0 rfl) ?_
    refine lv_iload_n hx hb dX4_wantedOf_13 rfl (lv_at hl 3 rfl) ?_
    refine k_Vi (As := [.int (nI i), .int (nI c9)]) (r := (bI (Mwants (ms m9) i c9))) hF (c_X4_wants l g a m9 i c9 (by omega) (by omega)) (cwV 2 hts gX4_wantedOf_X4_wants rfl rfl rfl (by decide +kernel) ⟨Nat.le_of_ble_eq_true rfl, Nat.le_of_ble_eq_true rfl⟩) hE hP hD hS hA (k_pall _) ((k_pall _).symm) 0 rfl rfl rfl rfl hl.1 rfl (Nat.le_of_ble_eq_true rfl) dX4_wantedOf_14 ⟨Nat.le_of_ble_eq_true rfl, Nat.le_of_ble_eq_true rfl⟩ (fun H locs hP hD hS => ?_)
    have hP : va_P g.1 vwCl (wM g a m9) _ := hP
    have hD : va_D A (wM g a m9) := hD
    refine k_meet (x := .int (if Mwants (ms m9) i c9 then (nI 1 <<< (nI i &&& 31)) else nI 0)) (pj := 27) (rest := [.int (Mwan (ms m9) c9 i)]) (fun J4 => ?_) ?_
    ·
      refine k_ifeqB (tgt := 26) hx hb dX4_wantedOf_17 (by decide) (fun c5 => ?_) (fun c5 => ?_)
      ·
        refine lv_iconst (v := (nI 0)) hx hb dX4_wantedOf_26 (by decide) ?_
        exact k_top (by first | (simp only [bI, if_neg (Nat.not_le.mpr c3), if_pos (Nat.not_le.mpr c3), if_neg c5, if_pos c5]; done) | (simp only [bI, if_neg (Nat.not_le.mpr c3), if_pos (Nat.not_le.mpr c3), if_neg c5, if_pos c5]; rfl) | rfl | (simp [bI, if_neg (Nat.not_le.mpr c3), if_pos (Nat.not_le.mpr c3), if_neg c5, if_pos c5]; done)) J4
      ·
        refine lv_iconst (v := (nI 1)) hx hb dX4_wantedOf_20 (by decide) ?_
        refine lv_iload_n hx hb dX4_wantedOf_21 rfl (lv_at hl 0 rfl) ?_
        refine lv_ishl hx hb dX4_wantedOf_22 ?_
        refine lv_goto (tgt := 27) hx hb dX4_wantedOf_23 (by decide) ?_
        exact k_top (by first | (simp only [bI, if_neg (Nat.not_le.mpr c3), if_pos (Nat.not_le.mpr c3), if_pos c5, if_neg (not_not_intro c5)]; done) | (simp only [bI, if_neg (Nat.not_le.mpr c3), if_pos (Nat.not_le.mpr c3), if_pos c5, if_neg (not_not_intro c5)]; rfl) | rfl | (simp [bI, if_neg (Nat.not_le.mpr c3), if_pos (Nat.not_le.mpr c3), if_pos c5, if_neg (not_not_intro c5)]; done)) J4
    ·
      refine lv_ior hx hb dX4_wantedOf_27 ?_
      refine lv_istore_n (lv' := [(2, .int ((Mwan (ms m9) c9 i) ||| (if Mwants (ms m9) i c9 then (nI 1 <<< (nI i &&& 31)) else nI 0))), (3, .int (nI i)), (0, .ref (a 0)), (1, .int (nI c9))]) hx hb dX4_wantedOf_28 rfl hl (by decide) rfl (fun ls hl => ?_)
      refine lv_iinc (v := (nI (i + 1))) (lv' := [(3, .int (nI (i + 1))), (2, .int ((Mwan (ms m9) c9 i) ||| (if Mwants (ms m9) i c9 then (nI 1 <<< (nI i &&& 31)) else nI 0))), (0, .ref (a 0)), (1, .int (nI c9))]) hx hb dX4_wantedOf_29 hl (k := 1) rfl (k_inc1 _) (by decide) rfl (fun ls hl => ?_)
      refine lv_goto (tgt := 4) hx hb dX4_wantedOf_32 (by decide) ?_
      have e6 : (Mwan (ms m9) c9 (i + 1)) = ((Mwan (ms m9) c9 i) ||| (if Mwants (ms m9) i c9 then (nI 1 <<< (nI i &&& 31)) else nI 0)) := (by first | (simp only [Mwan, bI, if_neg (Nat.not_le.mpr c3), if_pos (Nat.not_le.mpr c3)]; done) | (simp only [Mwan, bI, if_neg (Nat.not_le.mpr c3), if_pos (Nat.not_le.mpr c3)]; rfl) | rfl | (simp [Mwan, bI, if_neg (Nat.not_le.mpr c3), if_pos (Nat.not_le.mpr c3)]; done))
      exact ih1 _ _ _ (by omega) ⟨hP, hD, hS, (by rw [e6]; exact lv_sub hl [0, 1, 2, 3] rfl)⟩
set_option maxHeartbeats 4000000 in
set_option maxRecDepth 100000 in
theorem c_X4_rows (l : Launch) (g : kG) (a : Nat → Nat) (m9 : MSt) (j : Nat) (hj : j ≤ 6) (hjm : msm m9 = nI j) (con : Int32) : KI l yX4_rows wsX4_rows ({ frames := 3, cells := 0, slots := 0, locals := 66 }) g [.ref (a 0), .int con] (wM g a m9) (MrowsR con m9) (wM g a (Mcon con m9)) 0 0 := by
  refine k_begin (cc := cX4_rows) (maxL := 2) (ret := (some .int)) (Qc := fun A => kQi g (MrowsR con m9) (wM g a (Mcon con m9)) A) (by decide) rfl (Nat.le_of_ble_eq_true rfl) ?_
  intro p e s m below meth c A ls hF hr hlocks hin hE hP hD hS hA hl
  obtain ⟨hx, hb, hml, hown, hts⟩ := id hF
  have hown : s.vm.findClass RX4 = some m.cls := hown
  have hl : lv_has ls 2 [(0, .ref (a 0)), (1, .int con)] := hl
  have hiX4 : ∀ w ∈ wsX40, w ∈ wsX4_rows := fun _ h => List.mem_cons_of_mem _ (List.mem_append_right _ (h))
  have f25 : (Cond.fieldLink RX4 25 "ConcertUsherModel" "thrown" "I").before _ s = true := hts _ (List.mem_of_getElem? (i := 1) rfl)
  refine lv_aload_n hx hb dX4_rows_0 rfl (lv_at hl 0 rfl) ?_
  refine lv_iconst (v := (nI 0)) hx hb dX4_rows_1 (by decide) ?_
  refine va_put (D := g.1) (ci := 4) (v := .int (nI 0)) (ty := .int) (C := RX4) (T := TX4) (N := 12) hx hb hts hiX4 tyX4 tyX4_ok nmX4 hown hE.1 hP hD hS 0 rfl rfl 0 (by decide) f25 (fun _ h9 => h9) rfl (tyX4_ok 0 (by decide)) rfl rfl (Nat.le_of_ble_eq_true rfl) dX4_rows_2 (fun H locs hP hD hS => ?_)
  have hP : va_P g.1 vwCl (wM g a (sMth m9 (nI 0))) _ := hP
  have hD : va_D A (wM g a (sMth m9 (nI 0))) := hD
  refine lv_iload_n hx hb dX4_rows_5 rfl (lv_at hl 1 rfl) ?_
  refine k_Si (w0 := []) (w1 := []) (As := [.int con]) (r := (bI (nI 0 ≤ con ∧ con ≤ nI 5))) hF (c_X4_isConcert l g con) (va_cwS 1 hts gX4_rows_X4_isConcert rfl rfl rfl (by decide +kernel) ⟨Nat.le_of_ble_eq_true rfl, Nat.le_of_ble_eq_true rfl⟩) hE hP hD hS hA (List.Perm.refl _) (List.Perm.refl _) rfl hl.1 rfl (Nat.le_of_ble_eq_true rfl) dX4_rows_6 ⟨Nat.le_of_ble_eq_true rfl, Nat.le_of_ble_eq_true rfl⟩ (fun H locs hP hD hS => ?_)
  have hP : va_P g.1 vwCl (wM g a (sMth m9 (nI 0))) _ := hP
  have hD : va_D A (wM g a (sMth m9 (nI 0))) := hD
  refine k_ifeqB (tgt := 20) hx hb dX4_rows_9 (by decide) (fun c1 => ?_) (fun c1 => ?_)
  ·
    refine lv_aload_n hx hb dX4_rows_20 rfl (lv_at hl 0 rfl) ?_
    refine lv_iconst (v := (nI 1)) hx hb dX4_rows_21 (by decide) ?_
    refine k_Vi (As := [.int (nI 1)]) (r := (nI 0)) hF (c_X4_fails l g a (sMth m9 (nI 0)) (nI 1)) (cwV 1 hts gX4_rows_X4_fails rfl rfl rfl (by decide +kernel) ⟨Nat.le_of_ble_eq_true rfl, Nat.le_of_ble_eq_true rfl⟩) hE hP hD hS hA (k_pall _) ((k_pall _).symm) 0 rfl rfl rfl rfl hl.1 rfl (Nat.le_of_ble_eq_true rfl) dX4_rows_22 ⟨Nat.le_of_ble_eq_true rfl, Nat.le_of_ble_eq_true rfl⟩ (fun H locs hP hD hS => ?_)
    have hP : va_P g.1 vwCl (wM g a (sMth m9 (nI 1))) _ := hP
    have hD : va_D A (wM g a (sMth m9 (nI 1))) := hD
    have e2 : (Mcon con m9) = (sMth m9 (nI 1)) := (by first | (simp only [Mcon, MrowsR, if_neg c1, if_pos c1]; done) | (simp only [Mcon, MrowsR, if_neg c1, if_pos c1]; rfl) | rfl | (simp [Mcon, MrowsR, if_neg c1, if_pos c1]; done))
    have hP : va_P g.1 vwCl (wM g a (Mcon con m9)) H := by rw [e2]; exact hP
    have hD : va_D A (wM g a (Mcon con m9)) := by rw [e2]; exact hD
    exact k_iret hx hb hr hlocks rfl (by first | (simp only [Mcon, MrowsR, bI, if_neg c1, if_pos c1]; done) | (simp only [Mcon, MrowsR, bI, if_neg c1, if_pos c1]; rfl) | rfl | (simp [Mcon, MrowsR, bI, if_neg c1, if_pos c1]; done)) hP hD hS (Nat.le_of_ble_eq_true rfl) (Nat.le_of_ble_eq_true rfl) dX4_rows_25
  ·
    obtain ⟨c9, hc9, hc9e⟩ := in_nat (by decide) (by decide) c1
    have hc9c : con.toNatClampNeg = c9 := cl_eq hc9e (by omega)
    refine lv_aload_n hx hb dX4_rows_12 rfl (lv_at hl 0 rfl) ?_
    refine lv_iload_n hx hb dX4_rows_13 rfl (lv_at hl 1 rfl) ?_
    refine k_top hc9e ?_
    refine k_Vi (As := [.int (nI c9)]) (r := (Mrow (ms m9) c9 8)) hF (c_X4_rowsOf l g a (sMth m9 (nI 0)) c9 (by omega)) (cwV 1 hts gX4_rows_X4_rowsOf rfl rfl rfl (by decide +kernel) ⟨Nat.le_of_ble_eq_true rfl, Nat.le_of_ble_eq_true rfl⟩) hE hP hD hS hA (k_pall _) ((k_pall _).symm) 0 rfl rfl rfl rfl hl.1 rfl (Nat.le_of_ble_eq_true rfl) dX4_rows_14 ⟨Nat.le_of_ble_eq_true rfl, Nat.le_of_ble_eq_true rfl⟩ (fun H locs hP hD hS => ?_)
    have hP : va_P g.1 vwCl (wM g a (sMth m9 (nI 0))) _ := hP
    have hD : va_D A (wM g a (sMth m9 (nI 0))) := hD
    refine lv_goto (tgt := 25) hx hb dX4_rows_17 (by decide) ?_
    have e3 : (Mcon con m9) = (sMth m9 (nI 0)) := (by first | (simp only [Mcon, MrowsR, if_pos c1, if_neg (not_not_intro c1), hc9c]; done) | (simp only [Mcon, MrowsR, if_pos c1, if_neg (not_not_intro c1), hc9c]; rfl) | rfl | (simp [Mcon, MrowsR, if_pos c1, if_neg (not_not_intro c1), hc9c]; done))
    have hP : va_P g.1 vwCl (wM g a (Mcon con m9)) H := by rw [e3]; exact hP
    have hD : va_D A (wM g a (Mcon con m9)) := by rw [e3]; exact hD
    exact k_iret hx hb hr hlocks rfl (by first | (simp only [Mcon, MrowsR, bI, if_pos c1, if_neg (not_not_intro c1), hc9c]; done) | (simp only [Mcon, MrowsR, bI, if_pos c1, if_neg (not_not_intro c1), hc9c]; rfl) | rfl | (simp [Mcon, MrowsR, bI, if_pos c1, if_neg (not_not_intro c1), hc9c]; done)) hP hD hS (Nat.le_of_ble_eq_true rfl) (Nat.le_of_ble_eq_true rfl) dX4_rows_25
set_option maxHeartbeats 4000000 in
set_option maxRecDepth 100000 in
theorem c_X4_wanted (l : Launch) (g : kG) (a : Nat → Nat) (m9 : MSt) (j : Nat) (hj : j ≤ 6) (hjm : msm m9 = nI j) (con : Int32) : KI l yX4_wanted wsX4_wanted ({ frames := 3, cells := 0, slots := 0, locals := 66 }) g [.ref (a 0), .int con] (wM g a m9) (MwanR con m9) (wM g a (Mcon con m9)) 0 0 := by
  refine k_begin (cc := cX4_wanted) (maxL := 2) (ret := (some .int)) (Qc := fun A => kQi g (MwanR con m9) (wM g a (Mcon con m9)) A) (by decide) rfl (Nat.le_of_ble_eq_true rfl) ?_
  intro p e s m below meth c A ls hF hr hlocks hin hE hP hD hS hA hl
  obtain ⟨hx, hb, hml, hown, hts⟩ := id hF
  have hown : s.vm.findClass RX4 = some m.cls := hown
  have hl : lv_has ls 2 [(0, .ref (a 0)), (1, .int con)] := hl
  have hiX4 : ∀ w ∈ wsX40, w ∈ wsX4_wanted := fun _ h => List.mem_cons_of_mem _ (List.mem_append_right _ (h))
  have f25 : (Cond.fieldLink RX4 25 "ConcertUsherModel" "thrown" "I").before _ s = true := hts _ (List.mem_of_getElem? (i := 1) rfl)
  refine lv_aload_n hx hb dX4_wanted_0 rfl (lv_at hl 0 rfl) ?_
  refine lv_iconst (v := (nI 0)) hx hb dX4_wanted_1 (by decide) ?_
  refine va_put (D := g.1) (ci := 4) (v := .int (nI 0)) (ty := .int) (C := RX4) (T := TX4) (N := 12) hx hb hts hiX4 tyX4 tyX4_ok nmX4 hown hE.1 hP hD hS 0 rfl rfl 0 (by decide) f25 (fun _ h9 => h9) rfl (tyX4_ok 0 (by decide)) rfl rfl (Nat.le_of_ble_eq_true rfl) dX4_wanted_2 (fun H locs hP hD hS => ?_)
  have hP : va_P g.1 vwCl (wM g a (sMth m9 (nI 0))) _ := hP
  have hD : va_D A (wM g a (sMth m9 (nI 0))) := hD
  refine lv_iload_n hx hb dX4_wanted_5 rfl (lv_at hl 1 rfl) ?_
  refine k_Si (w0 := []) (w1 := []) (As := [.int con]) (r := (bI (nI 0 ≤ con ∧ con ≤ nI 5))) hF (c_X4_isConcert l g con) (va_cwS 1 hts gX4_wanted_X4_isConcert rfl rfl rfl (by decide +kernel) ⟨Nat.le_of_ble_eq_true rfl, Nat.le_of_ble_eq_true rfl⟩) hE hP hD hS hA (List.Perm.refl _) (List.Perm.refl _) rfl hl.1 rfl (Nat.le_of_ble_eq_true rfl) dX4_wanted_6 ⟨Nat.le_of_ble_eq_true rfl, Nat.le_of_ble_eq_true rfl⟩ (fun H locs hP hD hS => ?_)
  have hP : va_P g.1 vwCl (wM g a (sMth m9 (nI 0))) _ := hP
  have hD : va_D A (wM g a (sMth m9 (nI 0))) := hD
  refine k_ifeqB (tgt := 20) hx hb dX4_wanted_9 (by decide) (fun c1 => ?_) (fun c1 => ?_)
  ·
    refine lv_aload_n hx hb dX4_wanted_20 rfl (lv_at hl 0 rfl) ?_
    refine lv_iconst (v := (nI 1)) hx hb dX4_wanted_21 (by decide) ?_
    refine k_Vi (As := [.int (nI 1)]) (r := (nI 0)) hF (c_X4_fails l g a (sMth m9 (nI 0)) (nI 1)) (cwV 1 hts gX4_wanted_X4_fails rfl rfl rfl (by decide +kernel) ⟨Nat.le_of_ble_eq_true rfl, Nat.le_of_ble_eq_true rfl⟩) hE hP hD hS hA (k_pall _) ((k_pall _).symm) 0 rfl rfl rfl rfl hl.1 rfl (Nat.le_of_ble_eq_true rfl) dX4_wanted_22 ⟨Nat.le_of_ble_eq_true rfl, Nat.le_of_ble_eq_true rfl⟩ (fun H locs hP hD hS => ?_)
    have hP : va_P g.1 vwCl (wM g a (sMth m9 (nI 1))) _ := hP
    have hD : va_D A (wM g a (sMth m9 (nI 1))) := hD
    have e2 : (Mcon con m9) = (sMth m9 (nI 1)) := (by first | (simp only [Mcon, MwanR, if_neg c1, if_pos c1]; done) | (simp only [Mcon, MwanR, if_neg c1, if_pos c1]; rfl) | rfl | (simp [Mcon, MwanR, if_neg c1, if_pos c1]; done))
    have hP : va_P g.1 vwCl (wM g a (Mcon con m9)) H := by rw [e2]; exact hP
    have hD : va_D A (wM g a (Mcon con m9)) := by rw [e2]; exact hD
    exact k_iret hx hb hr hlocks rfl (by first | (simp only [Mcon, MwanR, bI, if_neg c1, if_pos c1]; done) | (simp only [Mcon, MwanR, bI, if_neg c1, if_pos c1]; rfl) | rfl | (simp [Mcon, MwanR, bI, if_neg c1, if_pos c1]; done)) hP hD hS (Nat.le_of_ble_eq_true rfl) (Nat.le_of_ble_eq_true rfl) dX4_wanted_25
  ·
    obtain ⟨c9, hc9, hc9e⟩ := in_nat (by decide) (by decide) c1
    have hc9c : con.toNatClampNeg = c9 := cl_eq hc9e (by omega)
    refine lv_aload_n hx hb dX4_wanted_12 rfl (lv_at hl 0 rfl) ?_
    refine lv_iload_n hx hb dX4_wanted_13 rfl (lv_at hl 1 rfl) ?_
    refine k_top hc9e ?_
    refine k_Vi (As := [.int (nI c9)]) (r := (Mwan (ms m9) c9 8)) hF (c_X4_wantedOf l g a (sMth m9 (nI 0)) c9 (by omega)) (cwV 1 hts gX4_wanted_X4_wantedOf rfl rfl rfl (by decide +kernel) ⟨Nat.le_of_ble_eq_true rfl, Nat.le_of_ble_eq_true rfl⟩) hE hP hD hS hA (k_pall _) ((k_pall _).symm) 0 rfl rfl rfl rfl hl.1 rfl (Nat.le_of_ble_eq_true rfl) dX4_wanted_14 ⟨Nat.le_of_ble_eq_true rfl, Nat.le_of_ble_eq_true rfl⟩ (fun H locs hP hD hS => ?_)
    have hP : va_P g.1 vwCl (wM g a (sMth m9 (nI 0))) _ := hP
    have hD : va_D A (wM g a (sMth m9 (nI 0))) := hD
    refine lv_goto (tgt := 25) hx hb dX4_wanted_17 (by decide) ?_
    have e3 : (Mcon con m9) = (sMth m9 (nI 0)) := (by first | (simp only [Mcon, MwanR, if_pos c1, if_neg (not_not_intro c1), hc9c]; done) | (simp only [Mcon, MwanR, if_pos c1, if_neg (not_not_intro c1), hc9c]; rfl) | rfl | (simp [Mcon, MwanR, if_pos c1, if_neg (not_not_intro c1), hc9c]; done))
    have hP : va_P g.1 vwCl (wM g a (Mcon con m9)) H := by rw [e3]; exact hP
    have hD : va_D A (wM g a (Mcon con m9)) := by rw [e3]; exact hD
    exact k_iret hx hb hr hlocks rfl (by first | (simp only [Mcon, MwanR, bI, if_pos c1, if_neg (not_not_intro c1), hc9c]; done) | (simp only [Mcon, MwanR, bI, if_pos c1, if_neg (not_not_intro c1), hc9c]; rfl) | rfl | (simp [Mcon, MwanR, bI, if_pos c1, if_neg (not_not_intro c1), hc9c]; done)) hP hD hS (Nat.le_of_ble_eq_true rfl) (Nat.le_of_ble_eq_true rfl) dX4_wanted_25
set_option maxHeartbeats 4000000 in
set_option maxRecDepth 100000 in
theorem c_X4_isOpen (l : Launch) (g : kG) (a : Nat → Nat) (m9 : MSt) (j : Nat) (hj : j ≤ 6) (hjm : msm m9 = nI j) (row : Int32) : KI l yX4_isOpen wsX4_isOpen ({ frames := 1, cells := 0, slots := 0, locals := 22 }) g [.ref (a 0), .int row] (wM g a m9) (MopenR row m9) (wM g a (MopenQ row m9)) 0 0 := by
  refine k_begin (cc := cX4_isOpen) (maxL := 2) (ret := (some .boolean)) (Qc := fun A => kQi g (MopenR row m9) (wM g a (MopenQ row m9)) A) (by decide) rfl (Nat.le_of_ble_eq_true rfl) ?_
  intro p e s m below meth c A ls hF hr hlocks hin hE hP hD hS hA hl
  obtain ⟨hx, hb, hml, hown, hts⟩ := id hF
  have hown : s.vm.findClass RX4 = some m.cls := hown
  have hl : lv_has ls 2 [(0, .ref (a 0)), (1, .int row)] := hl
  have hiX4 : ∀ w ∈ wsX40, w ∈ wsX4_isOpen := fun _ h => List.mem_cons_of_mem _ (List.mem_append_right _ (h))
  have f25 : (Cond.fieldLink RX4 25 "ConcertUsherModel" "thrown" "I").before _ s = true := hts _ (List.mem_of_getElem? (i := 1) rfl)
  have f7 : (Cond.fieldLink RX4 7 "ConcertUsherModel" "s" "[I").before _ s = true := hts _ (List.mem_of_getElem? (i := 2) rfl)
  refine lv_aload_n hx hb dX4_isOpen_0 rfl (lv_at hl 0 rfl) ?_
  refine lv_iconst (v := (nI 0)) hx hb dX4_isOpen_1 (by decide) ?_
  refine va_put (D := g.1) (ci := 4) (v := .int (nI 0)) (ty := .int) (C := RX4) (T := TX4) (N := 12) hx hb hts hiX4 tyX4 tyX4_ok nmX4 hown hE.1 hP hD hS 0 rfl rfl 0 (by decide) f25 (fun _ h9 => h9) rfl (tyX4_ok 0 (by decide)) rfl rfl (Nat.le_of_ble_eq_true rfl) dX4_isOpen_2 (fun H locs hP hD hS => ?_)
  have hP : va_P g.1 vwCl (wM g a (sMth m9 (nI 0))) _ := hP
  have hD : va_D A (wM g a (sMth m9 (nI 0))) := hD
  refine lv_iload_n hx hb dX4_isOpen_5 rfl (lv_at hl 1 rfl) ?_
  refine lv_iconst (v := (nI 0)) hx hb dX4_isOpen_6 (by decide) ?_
  refine lv_bipush (v := (nI 7)) hx hb dX4_isOpen_7 (by decide) ?_
  refine k_Si (w0 := []) (w1 := []) (As := [.int row, .int (nI 0), .int (nI 7)]) (r := (bI ((nI 0) ≤ row ∧ row ≤ (nI 7)))) hF (c_X4_in l g row (nI 0) (nI 7)) (va_cwS 3 hts gX4_isOpen_X4_in rfl rfl rfl (by decide +kernel) ⟨Nat.le_of_ble_eq_true rfl, Nat.le_of_ble_eq_true rfl⟩) hE hP hD hS hA (List.Perm.refl _) (List.Perm.refl _) rfl hl.1 rfl (Nat.le_of_ble_eq_true rfl) dX4_isOpen_9 ⟨Nat.le_of_ble_eq_true rfl, Nat.le_of_ble_eq_true rfl⟩ (fun H locs hP hD hS => ?_)
  have hP : va_P g.1 vwCl (wM g a (sMth m9 (nI 0))) _ := hP
  have hD : va_D A (wM g a (sMth m9 (nI 0))) := hD
  refine k_ifeqB (tgt := 36) hx hb dX4_isOpen_12 (by decide) (fun c1 => ?_) (fun c1 => ?_)
  ·
    refine lv_aload_n hx hb dX4_isOpen_36 rfl (lv_at hl 0 rfl) ?_
    refine lv_iconst (v := (nI 1)) hx hb dX4_isOpen_37 (by decide) ?_
    refine k_Vi (As := [.int (nI 1)]) (r := (nI 0)) hF (c_X4_fails l g a (sMth m9 (nI 0)) (nI 1)) (cwV 1 hts gX4_isOpen_X4_fails rfl rfl rfl (by decide +kernel) ⟨Nat.le_of_ble_eq_true rfl, Nat.le_of_ble_eq_true rfl⟩) hE hP hD hS hA (k_pall _) ((k_pall _).symm) 0 rfl rfl rfl rfl hl.1 rfl (Nat.le_of_ble_eq_true rfl) dX4_isOpen_38 ⟨Nat.le_of_ble_eq_true rfl, Nat.le_of_ble_eq_true rfl⟩ (fun H locs hP hD hS => ?_)
    have hP : va_P g.1 vwCl (wM g a (sMth m9 (nI 1))) _ := hP
    have hD : va_D A (wM g a (sMth m9 (nI 1))) := hD
    refine lv_if_le (tgt := 48) hx hb dX4_isOpen_41 (by decide) (fun c2 => ?_) (fun c2 => ?_)
    ·
      refine lv_iconst (v := (nI 0)) hx hb dX4_isOpen_48 (by decide) ?_
      have e3 : (MopenQ row m9) = (sMth m9 (nI 1)) := (by first | (simp only [MopenQ, MopenR, if_neg c1, if_pos c1, if_pos c2, if_neg (not_not_intro c2)]; done) | (simp only [MopenQ, MopenR, if_neg c1, if_pos c1, if_pos c2, if_neg (not_not_intro c2)]; rfl) | rfl | (simp [MopenQ, MopenR, if_neg c1, if_pos c1, if_pos c2, if_neg (not_not_intro c2)]; done))
      have hP : va_P g.1 vwCl (wM g a (MopenQ row m9)) H := by rw [e3]; exact hP
      have hD : va_D A (wM g a (MopenQ row m9)) := by rw [e3]; exact hD
      exact k_iret hx hb hr hlocks rfl (by first | (simp only [MopenQ, MopenR, bI, if_neg c1, if_pos c1, if_pos c2, if_neg (not_not_intro c2)]; done) | (simp only [MopenQ, MopenR, bI, if_neg c1, if_pos c1, if_pos c2, if_neg (not_not_intro c2)]; rfl) | rfl | (simp [MopenQ, MopenR, bI, if_neg c1, if_pos c1, if_pos c2, if_neg (not_not_intro c2)]; done)) hP hD hS (Nat.le_of_ble_eq_true rfl) (Nat.le_of_ble_eq_true rfl) dX4_isOpen_49
    ·
      exact absurd (by decide) c2
  ·
    obtain ⟨r9, hr9, hr9e⟩ := in_nat (by decide) (by decide) c1
    have hr9c : row.toNatClampNeg = r9 := cl_eq hr9e (by omega)
    refine lv_aload_n hx hb dX4_isOpen_15 rfl (lv_at hl 0 rfl) ?_
    refine va_get (D := g.1) (ci := 4) (v := .ref (a 1)) (C := RX4) (T := TX4) (N := 12) hx hb hts hiX4 hown hE.1 hP 0 rfl rfl 1 (by decide) f7 (fun _ h9 => h9) rfl dX4_isOpen_16 ?_
    refine lv_bipush (v := (nI 13)) hx hb dX4_isOpen_19 (by decide) ?_
    refine lv_iload_n hx hb dX4_isOpen_21 rfl (lv_at hl 1 rfl) ?_
    refine k_top hr9e ?_
    refine lv_iadd hx hb dX4_isOpen_22 ?_
    refine k_top (nI_add _ _) ?_
    refine k_iald (f := (ms m9)) hx hb hE hP 1 rfl (13 + r9) rfl (by omega) (by decide) dX4_isOpen_23 ?_
    refine lv_iconst (v := (nI 1)) hx hb dX4_isOpen_24 (by decide) ?_
    refine lv_icmp_ne (tgt := 32) hx hb dX4_isOpen_25 (by decide) (fun c4 => ?_) (fun c4 => ?_)
    ·
      refine lv_iconst (v := (nI 0)) hx hb dX4_isOpen_32 (by decide) ?_
      refine lv_goto (tgt := 49) hx hb dX4_isOpen_33 (by decide) ?_
      have e5 : (MopenQ row m9) = (sMth m9 (nI 0)) := (by first | (simp only [MopenQ, MopenR, if_pos c1, if_neg (not_not_intro c1), if_neg c4, if_pos c4, hr9c]; done) | (simp only [MopenQ, MopenR, if_pos c1, if_neg (not_not_intro c1), if_neg c4, if_pos c4, hr9c]; rfl) | rfl | (simp [MopenQ, MopenR, if_pos c1, if_neg (not_not_intro c1), if_neg c4, if_pos c4, hr9c]; done))
      have hP : va_P g.1 vwCl (wM g a (MopenQ row m9)) H := by rw [e5]; exact hP
      have hD : va_D A (wM g a (MopenQ row m9)) := by rw [e5]; exact hD
      exact k_iret hx hb hr hlocks rfl (by first | (simp only [MopenQ, MopenR, bI, if_pos c1, if_neg (not_not_intro c1), if_neg c4, if_pos c4, hr9c]; done) | (simp only [MopenQ, MopenR, bI, if_pos c1, if_neg (not_not_intro c1), if_neg c4, if_pos c4, hr9c]; rfl) | rfl | (simp [MopenQ, MopenR, bI, if_pos c1, if_neg (not_not_intro c1), if_neg c4, if_pos c4, hr9c]; done)) hP hD hS (Nat.le_of_ble_eq_true rfl) (Nat.le_of_ble_eq_true rfl) dX4_isOpen_49
    ·
      refine lv_iconst (v := (nI 1)) hx hb dX4_isOpen_28 (by decide) ?_
      refine lv_goto (tgt := 49) hx hb dX4_isOpen_29 (by decide) ?_
      have e6 : (MopenQ row m9) = (sMth m9 (nI 0)) := (by first | (simp only [MopenQ, MopenR, if_pos c1, if_neg (not_not_intro c1), if_pos c4, if_neg (not_not_intro c4), hr9c]; done) | (simp only [MopenQ, MopenR, if_pos c1, if_neg (not_not_intro c1), if_pos c4, if_neg (not_not_intro c4), hr9c]; rfl) | rfl | (simp [MopenQ, MopenR, if_pos c1, if_neg (not_not_intro c1), if_pos c4, if_neg (not_not_intro c4), hr9c]; done))
      have hP : va_P g.1 vwCl (wM g a (MopenQ row m9)) H := by rw [e6]; exact hP
      have hD : va_D A (wM g a (MopenQ row m9)) := by rw [e6]; exact hD
      exact k_iret hx hb hr hlocks rfl (by first | (simp only [MopenQ, MopenR, bI, if_pos c1, if_neg (not_not_intro c1), if_pos c4, if_neg (not_not_intro c4), hr9c]; done) | (simp only [MopenQ, MopenR, bI, if_pos c1, if_neg (not_not_intro c1), if_pos c4, if_neg (not_not_intro c4), hr9c]; rfl) | rfl | (simp [MopenQ, MopenR, bI, if_pos c1, if_neg (not_not_intro c1), if_pos c4, if_neg (not_not_intro c4), hr9c]; done)) hP hD hS (Nat.le_of_ble_eq_true rfl) (Nat.le_of_ble_eq_true rfl) dX4_isOpen_49
set_option maxHeartbeats 4000000 in
set_option maxRecDepth 100000 in
theorem c_X4_due (l : Launch) (g : kG) (a : Nat → Nat) (m9 : MSt) : KI l yX4_due wsX4_due ({ frames := 1, cells := 0, slots := 0, locals := 20 }) g [.ref (a 0)] (wM g a m9) (Mdue (ms m9)) (wM g a m9) 0 0 := by
  refine k_begin (cc := cX4_due) (maxL := 1) (ret := (some .int)) (Qc := fun A => kQi g (Mdue (ms m9)) (wM g a m9) A) (by decide) rfl (Nat.le_of_ble_eq_true rfl) ?_
  intro p e s m below meth c A ls hF hr hlocks hin hE hP hD hS hA hl
  obtain ⟨hx, hb, hml, hown, hts⟩ := id hF
  have hown : s.vm.findClass RX4 = some m.cls := hown
  have hl : lv_has ls 1 [(0, .ref (a 0))] := hl
  have hiX4 : ∀ w ∈ wsX40, w ∈ wsX4_due := fun _ h => List.mem_cons_of_mem _ (List.mem_append_right _ (h))
  have f7 : (Cond.fieldLink RX4 7 "ConcertUsherModel" "s" "[I").before _ s = true := hts _ (List.mem_of_getElem? (i := 1) rfl)
  refine lv_aload_n hx hb dX4_due_0 rfl (lv_at hl 0 rfl) ?_
  refine k_Vi (As := []) (r := (Mchief (ms m9))) hF (c_X4_chiefNow l g a m9) (cwV 0 hts gX4_due_X4_chiefNow rfl rfl rfl (by decide +kernel) ⟨Nat.le_of_ble_eq_true rfl, Nat.le_of_ble_eq_true rfl⟩) hE hP hD hS hA (k_pall _) ((k_pall _).symm) 0 rfl rfl rfl rfl hl.1 rfl (Nat.le_of_ble_eq_true rfl) dX4_due_1 ⟨Nat.le_of_ble_eq_true rfl, Nat.le_of_ble_eq_true rfl⟩ (fun H locs hP hD hS => ?_)
  have hP : va_P g.1 vwCl (wM g a m9) _ := hP
  have hD : va_D A (wM g a m9) := hD
  refine lv_if_ne (tgt := 16) hx hb dX4_due_4 (by decide) (fun c1 => ?_) (fun c1 => ?_)
  ·
    refine lv_iconst (v := (nI 2)) hx hb dX4_due_16 (by decide) ?_
    refine lv_aload_n hx hb dX4_due_17 rfl (lv_at hl 0 rfl) ?_
    refine va_get (D := g.1) (ci := 4) (v := .ref (a 1)) (C := RX4) (T := TX4) (N := 12) hx hb hts hiX4 hown hE.1 hP 0 rfl rfl 1 (by decide) f7 (fun _ h9 => h9) rfl dX4_due_18 ?_
    refine lv_iconst (v := (nI 2)) hx hb dX4_due_21 (by decide) ?_
    refine k_iald (f := (ms m9)) hx hb hE hP 1 rfl 2 rfl (by decide) (by decide) dX4_due_22 ?_
    refine lv_imul hx hb dX4_due_23 ?_
    have hP : va_P g.1 vwCl (wM g a m9) _ := hP
    have hD : va_D A (wM g a m9) := hD
    exact k_iret hx hb hr hlocks rfl (by first | (simp only [Mdue, bI, if_neg c1, if_pos c1]; done) | (simp only [Mdue, bI, if_neg c1, if_pos c1]; rfl) | rfl | (simp [Mdue, bI, if_neg c1, if_pos c1]; done)) hP hD hS (Nat.le_of_ble_eq_true rfl) (Nat.le_of_ble_eq_true rfl) dX4_due_24
  ·
    refine lv_aload_n hx hb dX4_due_7 rfl (lv_at hl 0 rfl) ?_
    refine va_get (D := g.1) (ci := 4) (v := .ref (a 1)) (C := RX4) (T := TX4) (N := 12) hx hb hts hiX4 hown hE.1 hP 0 rfl rfl 1 (by decide) f7 (fun _ h9 => h9) rfl dX4_due_8 ?_
    refine lv_iconst (v := (nI 2)) hx hb dX4_due_11 (by decide) ?_
    refine k_iald (f := (ms m9)) hx hb hE hP 1 rfl 2 rfl (by decide) (by decide) dX4_due_12 ?_
    refine lv_goto (tgt := 24) hx hb dX4_due_13 (by decide) ?_
    have hP : va_P g.1 vwCl (wM g a m9) _ := hP
    have hD : va_D A (wM g a m9) := hD
    exact k_iret hx hb hr hlocks rfl (by first | (simp only [Mdue, bI, if_pos c1, if_neg (not_not_intro c1)]; done) | (simp only [Mdue, bI, if_pos c1, if_neg (not_not_intro c1)]; rfl) | rfl | (simp [Mdue, bI, if_pos c1, if_neg (not_not_intro c1)]; done)) hP hD hS (Nat.le_of_ble_eq_true rfl) (Nat.le_of_ble_eq_true rfl) dX4_due_24
