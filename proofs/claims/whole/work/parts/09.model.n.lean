set_option maxHeartbeats 4000000 in
set_option maxRecDepth 100000 in
theorem c_X4_append (l : Launch) (g : kG) (a : Nat → Nat) (m9 : MSt) (n : Nat) (hn : n ≤ 60) (hln : mln m9 = nI n) (x : Int32) : KI l yX4_append wsX4_append ({ frames := 1, cells := 0, slots := 0, locals := 22 }) g [.ref (a 0), .int x] (wM g a m9) (MappR n x) (wM g a (MappS n x m9)) 0 0 := by
  refine k_begin (cc := cX4_append) (maxL := 2) (ret := (some .int)) (Qc := fun A => kQi g (MappR n x) (wM g a (MappS n x m9)) A) (by decide) rfl (Nat.le_of_ble_eq_true rfl) ?_
  intro p e s m below meth c A ls hF hr hlocks hin hE hP hD hS hA hl
  obtain ⟨hx, hb, hml, hown, hts⟩ := id hF
  have hown : s.vm.findClass RX4 = some m.cls := hown
  have hl : lv_has ls 2 [(0, .ref (a 0)), (1, .int x)] := hl
  have hiX4 : ∀ w ∈ wsX40, w ∈ wsX4_append := fun _ h => List.mem_cons_of_mem _ (List.mem_append_right _ (h))
  have f25 : (Cond.fieldLink RX4 25 "ConcertUsherModel" "thrown" "I").before _ s = true := hts _ (List.mem_of_getElem? (i := 1) rfl)
  have f113 : (Cond.fieldLink RX4 113 "ConcertUsherModel" "length" "I").before _ s = true := hts _ (List.mem_of_getElem? (i := 2) rfl)
  have f19 : (Cond.fieldLink RX4 19 "ConcertUsherModel" "buffer" "[I").before _ s = true := hts _ (List.mem_of_getElem? (i := 3) rfl)
  refine lv_aload_n hx hb dX4_append_0 rfl (lv_at hl 0 rfl) ?_
  refine lv_iconst (v := (nI 0)) hx hb dX4_append_1 (by decide) ?_
  refine va_put (D := g.1) (ci := 4) (v := .int (nI 0)) (ty := .int) (C := RX4) (T := TX4) (N := 12) hx hb hts hiX4 tyX4 tyX4_ok nmX4 hown hE.1 hP hD hS 0 rfl rfl 0 (by decide) f25 (fun _ h9 => h9) rfl (tyX4_ok 0 (by decide)) rfl rfl (Nat.le_of_ble_eq_true rfl) dX4_append_2 (fun H locs hP hD hS => ?_)
  have hP : va_P g.1 vwCl (wM g a (sMth m9 (nI 0))) _ := hP
  have hD : va_D A (wM g a (sMth m9 (nI 0))) := hD
  refine lv_iload_n hx hb dX4_append_5 rfl (lv_at hl 1 rfl) ?_
  refine lv_bipush (v := (nI 33)) hx hb dX4_append_6 (by decide) ?_
  refine lv_bipush (v := (nI 126)) hx hb dX4_append_8 (by decide) ?_
  refine k_Si (w0 := []) (w1 := []) (As := [.int x, .int (nI 33), .int (nI 126)]) (r := (bI ((nI 33) ≤ x ∧ x ≤ (nI 126)))) hF (c_X4_in l g x (nI 33) (nI 126)) (va_cwS 3 hts gX4_append_X4_in rfl rfl rfl (by decide +kernel) ⟨Nat.le_of_ble_eq_true rfl, Nat.le_of_ble_eq_true rfl⟩) hE hP hD hS hA (List.Perm.refl _) (List.Perm.refl _) rfl hl.1 rfl (Nat.le_of_ble_eq_true rfl) dX4_append_10 ⟨Nat.le_of_ble_eq_true rfl, Nat.le_of_ble_eq_true rfl⟩ (fun H locs hP hD hS => ?_)
  have hP : va_P g.1 vwCl (wM g a (sMth m9 (nI 0))) _ := hP
  have hD : va_D A (wM g a (sMth m9 (nI 0))) := hD
  refine k_ifneB (tgt := 22) hx hb dX4_append_13 (by decide) (fun c1 => ?_) (fun c1 => ?_)
  ·
    refine lv_aload_n hx hb dX4_append_22 rfl (lv_at hl 0 rfl) ?_
    refine va_get (D := g.1) (ci := 4) (v := .int (mln m9)) (C := RX4) (T := TX4) (N := 12) hx hb hts hiX4 hown hE.1 hP 0 rfl rfl 6 (by decide) f113 (fun _ h9 => h9) rfl dX4_append_23 ?_
    refine k_top hln ?_
    refine lv_bipush (v := (nI 60)) hx hb dX4_append_26 (by decide) ?_
    refine k_neN (tgt := 37) hx hb (by omega) (by decide) dX4_append_28 (by decide) (fun c2 => ?_) (fun c2 => ?_)
    ·
      refine lv_aload_n hx hb dX4_append_37 rfl (lv_at hl 0 rfl) ?_
      refine va_get (D := g.1) (ci := 4) (v := .ref (a 4)) (C := RX4) (T := TX4) (N := 12) hx hb hts hiX4 hown hE.1 hP 0 rfl rfl 5 (by decide) f19 (fun _ h9 => h9) rfl dX4_append_38 ?_
      refine lv_aload_n hx hb dX4_append_41 rfl (lv_at hl 0 rfl) ?_
      refine va_get (D := g.1) (ci := 4) (v := .int (mln m9)) (C := RX4) (T := TX4) (N := 12) hx hb hts hiX4 hown hE.1 hP 0 rfl rfl 6 (by decide) f113 (fun _ h9 => h9) rfl dX4_append_42 ?_
      refine k_top hln ?_
      refine lv_iload_n hx hb dX4_append_45 rfl (lv_at hl 1 rfl) ?_
      refine k_iast (f := (mbf m9)) (ws1 := (wM g a (sMbf (sMth m9 (nI 0)) (upd (mbf m9) n x)))) hx hb hE hP hD hS 4 rfl n rfl (by omega) (by decide) rfl dX4_append_46 (fun H locs hP hD hS => ?_)
      refine lv_aload_n hx hb dX4_append_47 rfl (lv_at hl 0 rfl) ?_
      refine lv_dup hx hb dX4_append_48 rfl ?_
      refine va_get (D := g.1) (ci := 4) (v := .int (mln m9)) (C := RX4) (T := TX4) (N := 12) hx hb hts hiX4 hown hE.1 hP 0 rfl rfl 6 (by decide) f113 (fun _ h9 => h9) rfl dX4_append_49 ?_
      refine k_top hln ?_
      refine lv_iconst (v := (nI 1)) hx hb dX4_append_52 (by decide) ?_
      refine lv_iadd hx hb dX4_append_53 ?_
      refine k_top (nI_add _ _) ?_
      refine va_put (D := g.1) (ci := 4) (v := .int (nI (n + 1))) (ty := .int) (C := RX4) (T := TX4) (N := 12) hx hb hts hiX4 tyX4 tyX4_ok nmX4 hown hE.1 hP hD hS 0 rfl rfl 6 (by decide) f113 (fun _ h9 => h9) rfl (tyX4_ok 6 (by decide)) rfl rfl (Nat.le_of_ble_eq_true rfl) dX4_append_54 (fun H locs hP hD hS => ?_)
      have hP : va_P g.1 vwCl (wM g a (sMln (sMbf (sMth m9 (nI 0)) (upd (mbf m9) n x)) (nI (n + 1)))) _ := hP
      have hD : va_D A (wM g a (sMln (sMbf (sMth m9 (nI 0)) (upd (mbf m9) n x)) (nI (n + 1)))) := hD
      refine lv_aload_n hx hb dX4_append_57 rfl (lv_at hl 0 rfl) ?_
      refine va_get (D := g.1) (ci := 4) (v := .int (nI (n + 1))) (C := RX4) (T := TX4) (N := 12) hx hb hts hiX4 hown hE.1 hP 0 rfl rfl 6 (by decide) f113 (fun _ h9 => h9) rfl dX4_append_58 ?_
      have e3 : (MappS n x m9) = (sMln (sMbf (sMth m9 (nI 0)) (upd (mbf m9) n x)) (nI (n + 1))) := (by first | (simp only [MappS, MappR, if_pos c1, if_neg (not_not_intro c1), if_neg c2, if_pos c2]; done) | (simp only [MappS, MappR, if_pos c1, if_neg (not_not_intro c1), if_neg c2, if_pos c2]; with_reducible rfl) | with_reducible rfl | (simp [MappS, MappR, if_pos c1, if_neg (not_not_intro c1), if_neg c2, if_pos c2]; done))
      have hP : va_P g.1 vwCl (wM g a (MappS n x m9)) H := by rw [e3]; exact hP
      have hD : va_D A (wM g a (MappS n x m9)) := by rw [e3]; exact hD
      exact k_iret hx hb hr hlocks rfl (by first | (simp only [MappS, MappR, bI, if_pos c1, if_neg (not_not_intro c1), if_neg c2, if_pos c2]; done) | (simp only [MappS, MappR, bI, if_pos c1, if_neg (not_not_intro c1), if_neg c2, if_pos c2]; with_reducible rfl) | with_reducible rfl | (simp [MappS, MappR, bI, if_pos c1, if_neg (not_not_intro c1), if_neg c2, if_pos c2]; done)) hP hD hS (Nat.le_of_ble_eq_true rfl) (Nat.le_of_ble_eq_true rfl) dX4_append_61
    ·
      refine lv_aload_n hx hb dX4_append_31 rfl (lv_at hl 0 rfl) ?_
      refine lv_iconst (v := (nI 2)) hx hb dX4_append_32 (by decide) ?_
      refine k_Vi (As := [.int (nI 2)]) (r := (nI 0)) hF (c_X4_fails l g a (sMth m9 (nI 0)) (nI 2)) (cwV 1 hts gX4_append_X4_fails rfl rfl rfl (by decide +kernel) ⟨Nat.le_of_ble_eq_true rfl, Nat.le_of_ble_eq_true rfl⟩) hE hP hD hS hA (k_pall _) ((k_pall _).symm) 0 rfl rfl rfl rfl hl.1 rfl (Nat.le_of_ble_eq_true rfl) dX4_append_33 ⟨Nat.le_of_ble_eq_true rfl, Nat.le_of_ble_eq_true rfl⟩ (fun H locs hP hD hS => ?_)
      have hP : va_P g.1 vwCl (wM g a (sMth m9 (nI 2))) _ := hP
      have hD : va_D A (wM g a (sMth m9 (nI 2))) := hD
      have e4 : (MappS n x m9) = (sMth m9 (nI 2)) := (by first | (simp only [MappS, MappR, if_pos c1, if_neg (not_not_intro c1), if_pos c2, if_neg (not_not_intro c2)]; done) | (simp only [MappS, MappR, if_pos c1, if_neg (not_not_intro c1), if_pos c2, if_neg (not_not_intro c2)]; with_reducible rfl) | with_reducible rfl | (simp [MappS, MappR, if_pos c1, if_neg (not_not_intro c1), if_pos c2, if_neg (not_not_intro c2)]; done))
      have hP : va_P g.1 vwCl (wM g a (MappS n x m9)) H := by rw [e4]; exact hP
      have hD : va_D A (wM g a (MappS n x m9)) := by rw [e4]; exact hD
      exact k_iret hx hb hr hlocks rfl (by first | (simp only [MappS, MappR, bI, if_pos c1, if_neg (not_not_intro c1), if_pos c2, if_neg (not_not_intro c2)]; done) | (simp only [MappS, MappR, bI, if_pos c1, if_neg (not_not_intro c1), if_pos c2, if_neg (not_not_intro c2)]; with_reducible rfl) | with_reducible rfl | (simp [MappS, MappR, bI, if_pos c1, if_neg (not_not_intro c1), if_pos c2, if_neg (not_not_intro c2)]; done)) hP hD hS (Nat.le_of_ble_eq_true rfl) (Nat.le_of_ble_eq_true rfl) dX4_append_36
  ·
    refine lv_aload_n hx hb dX4_append_16 rfl (lv_at hl 0 rfl) ?_
    refine lv_iconst (v := (nI 1)) hx hb dX4_append_17 (by decide) ?_
    refine k_Vi (As := [.int (nI 1)]) (r := (nI 0)) hF (c_X4_fails l g a (sMth m9 (nI 0)) (nI 1)) (cwV 1 hts gX4_append_X4_fails rfl rfl rfl (by decide +kernel) ⟨Nat.le_of_ble_eq_true rfl, Nat.le_of_ble_eq_true rfl⟩) hE hP hD hS hA (k_pall _) ((k_pall _).symm) 0 rfl rfl rfl rfl hl.1 rfl (Nat.le_of_ble_eq_true rfl) dX4_append_18 ⟨Nat.le_of_ble_eq_true rfl, Nat.le_of_ble_eq_true rfl⟩ (fun H locs hP hD hS => ?_)
    have hP : va_P g.1 vwCl (wM g a (sMth m9 (nI 1))) _ := hP
    have hD : va_D A (wM g a (sMth m9 (nI 1))) := hD
    have e5 : (MappS n x m9) = (sMth m9 (nI 1)) := (by first | (simp only [MappS, MappR, if_neg c1, if_pos c1]; done) | (simp only [MappS, MappR, if_neg c1, if_pos c1]; with_reducible rfl) | with_reducible rfl | (simp [MappS, MappR, if_neg c1, if_pos c1]; done))
    have hP : va_P g.1 vwCl (wM g a (MappS n x m9)) H := by rw [e5]; exact hP
    have hD : va_D A (wM g a (MappS n x m9)) := by rw [e5]; exact hD
    exact k_iret hx hb hr hlocks rfl (by first | (simp only [MappS, MappR, bI, if_neg c1, if_pos c1]; done) | (simp only [MappS, MappR, bI, if_neg c1, if_pos c1]; with_reducible rfl) | with_reducible rfl | (simp [MappS, MappR, bI, if_neg c1, if_pos c1]; done)) hP hD hS (Nat.le_of_ble_eq_true rfl) (Nat.le_of_ble_eq_true rfl) dX4_append_21
set_option maxHeartbeats 4000000 in
set_option maxRecDepth 100000 in
theorem c_X4_clearText (l : Launch) (g : kG) (a : Nat → Nat) (m9 : MSt) (n : Nat) (hn : n ≤ 60) (hln : mln m9 = nI n) : KI l yX4_clearText wsX4_clearText ({ frames := 0, cells := 0, slots := 0, locals := 0 }) g [.ref (a 0)] (wM g a m9) (nI n) (wM g a (sMln (sMth m9 (nI 0)) (nI 0))) 0 0 := by
  refine k_begin (cc := cX4_clearText) (maxL := 2) (ret := (some .int)) (Qc := fun A => kQi g (nI n) (wM g a (sMln (sMth m9 (nI 0)) (nI 0))) A) (by decide) rfl (Nat.le_of_ble_eq_true rfl) ?_
  intro p e s m below meth c A ls hF hr hlocks hin hE hP hD hS hA hl
  obtain ⟨hx, hb, hml, hown, hts⟩ := id hF
  have hown : s.vm.findClass RX4 = some m.cls := hown
  have hl : lv_has ls 2 [(0, .ref (a 0))] := hl
  have hiX4 : ∀ w ∈ wsX40, w ∈ wsX4_clearText := fun _ h => List.mem_cons_of_mem _ (List.mem_append_right _ (h))
  have f25 : (Cond.fieldLink RX4 25 "ConcertUsherModel" "thrown" "I").before _ s = true := hts _ (List.mem_of_getElem? (i := 1) rfl)
  have f113 : (Cond.fieldLink RX4 113 "ConcertUsherModel" "length" "I").before _ s = true := hts _ (List.mem_of_getElem? (i := 2) rfl)
  refine lv_aload_n hx hb dX4_clearText_0 rfl (lv_at hl 0 rfl) ?_
  refine lv_iconst (v := (nI 0)) hx hb dX4_clearText_1 (by decide) ?_
  refine va_put (D := g.1) (ci := 4) (v := .int (nI 0)) (ty := .int) (C := RX4) (T := TX4) (N := 12) hx hb hts hiX4 tyX4 tyX4_ok nmX4 hown hE.1 hP hD hS 0 rfl rfl 0 (by decide) f25 (fun _ h9 => h9) rfl (tyX4_ok 0 (by decide)) rfl rfl (Nat.le_of_ble_eq_true rfl) dX4_clearText_2 (fun H locs hP hD hS => ?_)
  have hP : va_P g.1 vwCl (wM g a (sMth m9 (nI 0))) _ := hP
  have hD : va_D A (wM g a (sMth m9 (nI 0))) := hD
  refine lv_aload_n hx hb dX4_clearText_5 rfl (lv_at hl 0 rfl) ?_
  refine va_get (D := g.1) (ci := 4) (v := .int (mln m9)) (C := RX4) (T := TX4) (N := 12) hx hb hts hiX4 hown hE.1 hP 0 rfl rfl 6 (by decide) f113 (fun _ h9 => h9) rfl dX4_clearText_6 ?_
  refine k_top hln ?_
  refine lv_istore_n (lv' := [(1, .int (nI n)), (0, .ref (a 0))]) hx hb dX4_clearText_9 rfl hl (by decide) rfl (fun ls hl => ?_)
  refine lv_aload_n hx hb dX4_clearText_10 rfl (lv_at hl 1 rfl) ?_
  refine lv_iconst (v := (nI 0)) hx hb dX4_clearText_11 (by decide) ?_
  refine va_put (D := g.1) (ci := 4) (v := .int (nI 0)) (ty := .int) (C := RX4) (T := TX4) (N := 12) hx hb hts hiX4 tyX4 tyX4_ok nmX4 hown hE.1 hP hD hS 0 rfl rfl 6 (by decide) f113 (fun _ h9 => h9) rfl (tyX4_ok 6 (by decide)) rfl rfl (Nat.le_of_ble_eq_true rfl) dX4_clearText_12 (fun H locs hP hD hS => ?_)
  have hP : va_P g.1 vwCl (wM g a (sMln (sMth m9 (nI 0)) (nI 0))) _ := hP
  have hD : va_D A (wM g a (sMln (sMth m9 (nI 0)) (nI 0))) := hD
  refine lv_iload_n hx hb dX4_clearText_15 rfl (lv_at hl 0 rfl) ?_
  have hP : va_P g.1 vwCl (wM g a (sMln (sMth m9 (nI 0)) (nI 0))) _ := hP
  have hD : va_D A (wM g a (sMln (sMth m9 (nI 0)) (nI 0))) := hD
  exact k_iret hx hb hr hlocks rfl rfl hP hD hS (Nat.le_of_ble_eq_true rfl) (Nat.le_of_ble_eq_true rfl) dX4_clearText_16
set_option maxHeartbeats 4000000 in
set_option maxRecDepth 100000 in
theorem c_X4_savedStates (l : Launch) (g : kG) (a : Nat → Nat) (m9 : MSt) (j : Nat) (hj : j ≤ 6) (hjm : msm m9 = nI j) : KI l yX4_savedStates wsX4_savedStates ({ frames := 0, cells := 0, slots := 0, locals := 0 }) g [.ref (a 0)] (wM g a m9) (nI j) (wM g a (sMth m9 (nI 0))) 0 0 := by
  refine k_begin (cc := cX4_savedStates) (maxL := 1) (ret := (some .int)) (Qc := fun A => kQi g (nI j) (wM g a (sMth m9 (nI 0))) A) (by decide) rfl (Nat.le_of_ble_eq_true rfl) ?_
  intro p e s m below meth c A ls hF hr hlocks hin hE hP hD hS hA hl
  obtain ⟨hx, hb, hml, hown, hts⟩ := id hF
  have hown : s.vm.findClass RX4 = some m.cls := hown
  have hl : lv_has ls 1 [(0, .ref (a 0))] := hl
  have hiX4 : ∀ w ∈ wsX40, w ∈ wsX4_savedStates := fun _ h => List.mem_cons_of_mem _ (List.mem_append_right _ (h))
  have f25 : (Cond.fieldLink RX4 25 "ConcertUsherModel" "thrown" "I").before _ s = true := hts _ (List.mem_of_getElem? (i := 1) rfl)
  have f33 : (Cond.fieldLink RX4 33 "ConcertUsherModel" "savedMany" "I").before _ s = true := hts _ (List.mem_of_getElem? (i := 2) rfl)
  refine lv_aload_n hx hb dX4_savedStates_0 rfl (lv_at hl 0 rfl) ?_
  refine lv_iconst (v := (nI 0)) hx hb dX4_savedStates_1 (by decide) ?_
  refine va_put (D := g.1) (ci := 4) (v := .int (nI 0)) (ty := .int) (C := RX4) (T := TX4) (N := 12) hx hb hts hiX4 tyX4 tyX4_ok nmX4 hown hE.1 hP hD hS 0 rfl rfl 0 (by decide) f25 (fun _ h9 => h9) rfl (tyX4_ok 0 (by decide)) rfl rfl (Nat.le_of_ble_eq_true rfl) dX4_savedStates_2 (fun H locs hP hD hS => ?_)
  have hP : va_P g.1 vwCl (wM g a (sMth m9 (nI 0))) _ := hP
  have hD : va_D A (wM g a (sMth m9 (nI 0))) := hD
  refine lv_aload_n hx hb dX4_savedStates_5 rfl (lv_at hl 0 rfl) ?_
  refine va_get (D := g.1) (ci := 4) (v := .int (msm m9)) (C := RX4) (T := TX4) (N := 12) hx hb hts hiX4 hown hE.1 hP 0 rfl rfl 4 (by decide) f33 (fun _ h9 => h9) rfl dX4_savedStates_6 ?_
  refine k_top hjm ?_
  have hP : va_P g.1 vwCl (wM g a (sMth m9 (nI 0))) _ := hP
  have hD : va_D A (wM g a (sMth m9 (nI 0))) := hD
  exact k_iret hx hb hr hlocks rfl rfl hP hD hS (Nat.le_of_ble_eq_true rfl) (Nat.le_of_ble_eq_true rfl) dX4_savedStates_9
set_option maxHeartbeats 4000000 in
set_option maxRecDepth 100000 in
theorem c_X4_undo (l : Launch) (g : kG) (a : Nat → Nat) (m9 : MSt) (j : Nat) (hj : j ≤ 6) (hjm : msm m9 = nI j) : KI l yX4_undo wsX4_undo ({ frames := 1, cells := 0, slots := 0, locals := 21 }) g [.ref (a 0)] (wM g a m9) (MundoR j) (wM g a (MundoS j m9)) 0 0 := by
  refine k_begin (cc := cX4_undo) (maxL := 2) (ret := (some .int)) (Qc := fun A => kQi g (MundoR j) (wM g a (MundoS j m9)) A) (by decide) rfl (Nat.le_of_ble_eq_true rfl) ?_
  intro p e s m below meth c A ls hF hr hlocks hin hE hP hD hS hA hl
  obtain ⟨hx, hb, hml, hown, hts⟩ := id hF
  have hown : s.vm.findClass RX4 = some m.cls := hown
  have hl : lv_has ls 2 [(0, .ref (a 0))] := hl
  have hiX4 : ∀ w ∈ wsX40, w ∈ wsX4_undo := fun _ h => List.mem_cons_of_mem _ (List.mem_append_right _ (h))
  have f25 : (Cond.fieldLink RX4 25 "ConcertUsherModel" "thrown" "I").before _ s = true := hts _ (List.mem_of_getElem? (i := 1) rfl)
  have f33 : (Cond.fieldLink RX4 33 "ConcertUsherModel" "savedMany" "I").before _ s = true := hts _ (List.mem_of_getElem? (i := 2) rfl)
  have f7 : (Cond.fieldLink RX4 7 "ConcertUsherModel" "s" "[I").before _ s = true := hts _ (List.mem_of_getElem? (i := 3) rfl)
  have f16 : (Cond.fieldLink RX4 16 "ConcertUsherModel" "saved" "[I").before _ s = true := hts _ (List.mem_of_getElem? (i := 4) rfl)
  refine lv_aload_n hx hb dX4_undo_0 rfl (lv_at hl 0 rfl) ?_
  refine lv_iconst (v := (nI 0)) hx hb dX4_undo_1 (by decide) ?_
  refine va_put (D := g.1) (ci := 4) (v := .int (nI 0)) (ty := .int) (C := RX4) (T := TX4) (N := 12) hx hb hts hiX4 tyX4 tyX4_ok nmX4 hown hE.1 hP hD hS 0 rfl rfl 0 (by decide) f25 (fun _ h9 => h9) rfl (tyX4_ok 0 (by decide)) rfl rfl (Nat.le_of_ble_eq_true rfl) dX4_undo_2 (fun H locs hP hD hS => ?_)
  have hP : va_P g.1 vwCl (wM g a (sMth m9 (nI 0))) _ := hP
  have hD : va_D A (wM g a (sMth m9 (nI 0))) := hD
  refine lv_aload_n hx hb dX4_undo_5 rfl (lv_at hl 0 rfl) ?_
  refine va_get (D := g.1) (ci := 4) (v := .int (msm m9)) (C := RX4) (T := TX4) (N := 12) hx hb hts hiX4 hown hE.1 hP 0 rfl rfl 4 (by decide) f33 (fun _ h9 => h9) rfl dX4_undo_6 ?_
  refine k_top hjm ?_
  refine k_ifn0 (tgt := 18) hx hb (by omega) dX4_undo_9 (by decide) (fun c1 => ?_) (fun c1 => ?_)
  ·
    refine lv_aload_n hx hb dX4_undo_18 rfl (lv_at hl 0 rfl) ?_
    refine lv_dup hx hb dX4_undo_19 rfl ?_
    refine va_get (D := g.1) (ci := 4) (v := .int (msm m9)) (C := RX4) (T := TX4) (N := 12) hx hb hts hiX4 hown hE.1 hP 0 rfl rfl 4 (by decide) f33 (fun _ h9 => h9) rfl dX4_undo_20 ?_
    refine k_top hjm ?_
    refine lv_iconst (v := (nI 1)) hx hb dX4_undo_23 (by decide) ?_
    refine lv_isub hx hb dX4_undo_24 ?_
    refine k_top (pk_sub (by omega)) ?_
    refine va_put (D := g.1) (ci := 4) (v := .int (nI (j - 1))) (ty := .int) (C := RX4) (T := TX4) (N := 12) hx hb hts hiX4 tyX4 tyX4_ok nmX4 hown hE.1 hP hD hS 0 rfl rfl 4 (by decide) f33 (fun _ h9 => h9) rfl (tyX4_ok 4 (by decide)) rfl rfl (Nat.le_of_ble_eq_true rfl) dX4_undo_25 (fun H locs hP hD hS => ?_)
    have hP : va_P g.1 vwCl (wM g a (sMsm (sMth m9 (nI 0)) (nI (j - 1)))) _ := hP
    have hD : va_D A (wM g a (sMsm (sMth m9 (nI 0)) (nI (j - 1)))) := hD
    refine lv_iconst (v := (nI 0)) hx hb dX4_undo_28 (by decide) ?_
    refine lv_istore_n (lv' := [(1, .int (nI 0)), (0, .ref (a 0))]) hx hb dX4_undo_29 rfl hl (by decide) rfl (fun ls hl => ?_)
    refine k_loop (N := 120) (Inv := fun (i : Nat) (H : Heap) (locs : List Loc) (ls : Array Slot) => va_P g.1 vwCl (wM g a (sMs (sMsm (sMth m9 (nI 0)) (nI (j - 1))) (cpN (fun k => msv m9 (120 * (j - 1) + k)) (ms m9) i))) H ∧ va_D A (wM g a (sMs (sMsm (sMth m9 (nI 0)) (nI (j - 1))) (cpN (fun k => msv m9 (120 * (j - 1) + k)) (ms m9) i))) ∧ va_S A s.heap H locs ∧ lv_has ls 2 [(1, .int (nI i)), (0, .ref (a 0))]) 0 (Nat.zero_le _) ⟨hP, hD, hS, lv_sub hl [0, 1] rfl⟩ (fun i hle3 ih2 H locs ls hinv => ?_)
    obtain ⟨hP, hD, hS, hl⟩ := hinv
    refine lv_iload_n hx hb dX4_undo_30 rfl (lv_at hl 0 rfl) ?_
    refine lv_bipush (v := (nI 120)) hx hb dX4_undo_31 (by decide) ?_
    refine k_geN (tgt := 62) hx hb (by omega) (by decide) dX4_undo_33 (by decide) (fun c4 => ?_) (fun c4 => ?_)
    ·
      obtain rfl : 120 = i := by omega
      refine lv_aload_n hx hb dX4_undo_62 rfl (lv_at hl 1 rfl) ?_
      refine va_get (D := g.1) (ci := 4) (v := .int (nI (j - 1))) (C := RX4) (T := TX4) (N := 12) hx hb hts hiX4 hown hE.1 hP 0 rfl rfl 4 (by decide) f33 (fun _ h9 => h9) rfl dX4_undo_63 ?_
      have e5 : (MundoS j m9) = (sMs (sMsm (sMth m9 (nI 0)) (nI (j - 1))) (cpN (fun k => msv m9 (120 * (j - 1) + k)) (ms m9) 120)) := (by first | (simp only [MundoS, MundoR, if_neg c1, if_pos c1, if_pos c4, if_neg (not_not_intro c4)]; done) | (simp only [MundoS, MundoR, if_neg c1, if_pos c1, if_pos c4, if_neg (not_not_intro c4)]; with_reducible rfl) | with_reducible rfl | (simp [MundoS, MundoR, if_neg c1, if_pos c1, if_pos c4, if_neg (not_not_intro c4)]; done))
      have hP : va_P g.1 vwCl (wM g a (MundoS j m9)) H := by rw [e5]; exact hP
      have hD : va_D A (wM g a (MundoS j m9)) := by rw [e5]; exact hD
      exact k_iret hx hb hr hlocks rfl (by first | (simp only [MundoS, MundoR, bI, if_neg c1, if_pos c1, if_pos c4, if_neg (not_not_intro c4)]; done) | (simp only [MundoS, MundoR, bI, if_neg c1, if_pos c1, if_pos c4, if_neg (not_not_intro c4)]; with_reducible rfl) | with_reducible rfl | (simp [MundoS, MundoR, bI, if_neg c1, if_pos c1, if_pos c4, if_neg (not_not_intro c4)]; done)) hP hD hS (Nat.le_of_ble_eq_true rfl) (Nat.le_of_ble_eq_true rfl) dX4_undo_66
    ·
      refine lv_aload_n hx hb dX4_undo_36 rfl (lv_at hl 1 rfl) ?_
      refine va_get (D := g.1) (ci := 4) (v := .ref (a 1)) (C := RX4) (T := TX4) (N := 12) hx hb hts hiX4 hown hE.1 hP 0 rfl rfl 1 (by decide) f7 (fun _ h9 => h9) rfl dX4_undo_37 ?_
      refine lv_iload_n hx hb dX4_undo_40 rfl (lv_at hl 0 rfl) ?_
      refine lv_aload_n hx hb dX4_undo_41 rfl (lv_at hl 1 rfl) ?_
      refine va_get (D := g.1) (ci := 4) (v := .ref (a 3)) (C := RX4) (T := TX4) (N := 12) hx hb hts hiX4 hown hE.1 hP 0 rfl rfl 3 (by decide) f16 (fun _ h9 => h9) rfl dX4_undo_42 ?_
      refine lv_bipush (v := (nI 120)) hx hb dX4_undo_45 (by decide) ?_
      refine lv_aload_n hx hb dX4_undo_47 rfl (lv_at hl 1 rfl) ?_
      refine va_get (D := g.1) (ci := 4) (v := .int (nI (j - 1))) (C := RX4) (T := TX4) (N := 12) hx hb hts hiX4 hown hE.1 hP 0 rfl rfl 4 (by decide) f33 (fun _ h9 => h9) rfl dX4_undo_48 ?_
      refine lv_imul hx hb dX4_undo_51 ?_
      refine k_top (pk_mul _ _) ?_
      refine lv_iload_n hx hb dX4_undo_52 rfl (lv_at hl 0 rfl) ?_
      refine lv_iadd hx hb dX4_undo_53 ?_
      refine k_top (nI_add _ _) ?_
      refine k_iald (f := (msv m9)) hx hb hE hP 3 rfl ((120 * (j - 1)) + i) rfl (by omega) (by decide) dX4_undo_54 ?_
      refine k_iast (f := (cpN (fun k => msv m9 (120 * (j - 1) + k)) (ms m9) i)) (ws1 := (wM g a (sMs (sMsm (sMth m9 (nI 0)) (nI (j - 1))) (upd (cpN (fun k => msv m9 (120 * (j - 1) + k)) (ms m9) i) i ((msv m9) ((120 * (j - 1)) + i)))))) hx hb hE hP hD hS 1 rfl i rfl (by omega) (by decide) rfl dX4_undo_55 (fun H locs hP hD hS => ?_)
      refine lv_iinc (v := (nI (i + 1))) (lv' := [(1, .int (nI (i + 1))), (0, .ref (a 0))]) hx hb dX4_undo_56 hl (k := 0) rfl (k_inc1 _) (by decide) rfl (fun ls hl => ?_)
      refine lv_goto (tgt := 30) hx hb dX4_undo_59 (by decide) ?_
      have e6 : (sMs (sMsm (sMth m9 (nI 0)) (nI (j - 1))) (cpN (fun k => msv m9 (120 * (j - 1) + k)) (ms m9) (i + 1))) = (sMs (sMsm (sMth m9 (nI 0)) (nI (j - 1))) (upd (cpN (fun k => msv m9 (120 * (j - 1) + k)) (ms m9) i) i ((msv m9) ((120 * (j - 1)) + i)))) := (by first | (simp only [MundoS, MundoR, cpN, if_neg c1, if_pos c1, if_neg (Nat.not_le.mpr c4), if_pos (Nat.not_le.mpr c4)]; done) | (simp only [MundoS, MundoR, cpN, if_neg c1, if_pos c1, if_neg (Nat.not_le.mpr c4), if_pos (Nat.not_le.mpr c4)]; with_reducible rfl) | with_reducible rfl | (simp [MundoS, MundoR, cpN, if_neg c1, if_pos c1, if_neg (Nat.not_le.mpr c4), if_pos (Nat.not_le.mpr c4)]; done))
      exact ih2 _ _ _ (by omega) ⟨(by rw [e6]; exact hP), (by rw [e6]; exact hD), hS, lv_sub hl [0, 1] rfl⟩
  ·
    refine lv_aload_n hx hb dX4_undo_12 rfl (lv_at hl 0 rfl) ?_
    refine lv_iconst (v := (nI 1)) hx hb dX4_undo_13 (by decide) ?_
    refine k_Vi (As := [.int (nI 1)]) (r := (nI 0)) hF (c_X4_fails l g a (sMth m9 (nI 0)) (nI 1)) (cwV 1 hts gX4_undo_X4_fails rfl rfl rfl (by decide +kernel) ⟨Nat.le_of_ble_eq_true rfl, Nat.le_of_ble_eq_true rfl⟩) hE hP hD hS hA (k_pall _) ((k_pall _).symm) 0 rfl rfl rfl rfl hl.1 rfl (Nat.le_of_ble_eq_true rfl) dX4_undo_14 ⟨Nat.le_of_ble_eq_true rfl, Nat.le_of_ble_eq_true rfl⟩ (fun H locs hP hD hS => ?_)
    have hP : va_P g.1 vwCl (wM g a (sMth m9 (nI 1))) _ := hP
    have hD : va_D A (wM g a (sMth m9 (nI 1))) := hD
    have e7 : (MundoS j m9) = (sMth m9 (nI 1)) := (by first | (simp only [MundoS, MundoR, if_pos c1, if_neg (not_not_intro c1)]; done) | (simp only [MundoS, MundoR, if_pos c1, if_neg (not_not_intro c1)]; with_reducible rfl) | with_reducible rfl | (simp [MundoS, MundoR, if_pos c1, if_neg (not_not_intro c1)]; done))
    have hP : va_P g.1 vwCl (wM g a (MundoS j m9)) H := by rw [e7]; exact hP
    have hD : va_D A (wM g a (MundoS j m9)) := by rw [e7]; exact hD
    exact k_iret hx hb hr hlocks rfl (by first | (simp only [MundoS, MundoR, bI, if_pos c1, if_neg (not_not_intro c1)]; done) | (simp only [MundoS, MundoR, bI, if_pos c1, if_neg (not_not_intro c1)]; with_reducible rfl) | with_reducible rfl | (simp [MundoS, MundoR, bI, if_pos c1, if_neg (not_not_intro c1)]; done)) hP hD hS (Nat.le_of_ble_eq_true rfl) (Nat.le_of_ble_eq_true rfl) dX4_undo_17
set_option maxHeartbeats 4000000 in
set_option maxRecDepth 100000 in
theorem c_X4_hashes (l : Launch) (g : kG) (a : Nat → Nat) (m9 : MSt) (v : Int32) : KV l yX4_hashes wsX4_hashes ({ frames := 0, cells := 0, slots := 0, locals := 0 }) g [.ref (a 0), .int v] (wM g a m9) (wM g a (sMhs m9 (mixI (mhs m9) v))) 0 0 := by
  refine k_begin (cc := cX4_hashes) (maxL := 2) (ret := none) (Qc := fun A => kQv g (wM g a (sMhs m9 (mixI (mhs m9) v))) A) (by decide) rfl (Nat.le_of_ble_eq_true rfl) ?_
  intro p e s m below meth c A ls hF hr hlocks hin hE hP hD hS hA hl
  obtain ⟨hx, hb, hml, hown, hts⟩ := id hF
  have hown : s.vm.findClass RX4 = some m.cls := hown
  have hl : lv_has ls 2 [(0, .ref (a 0)), (1, .int v)] := hl
  have hiX4 : ∀ w ∈ wsX40, w ∈ wsX4_hashes := fun _ h => List.mem_cons_of_mem _ (List.mem_append_right _ (h))
  have cst144 : (Cond.constantLong RX4 144 (31)).before _ s = true := hts _ (List.mem_of_getElem? (i := 1) rfl)
  have f146 : (Cond.fieldLink RX4 146 "ConcertUsherModel" "hash" "J").before _ s = true := hts _ (List.mem_of_getElem? (i := 2) rfl)
  refine lv_aload_n hx hb dX4_hashes_0 rfl (lv_at hl 0 rfl) ?_
  refine lv_ldc2 hx hb hown cst144 dX4_hashes_1 ?_
  refine lv_aload_n hx hb dX4_hashes_4 rfl (lv_at hl 0 rfl) ?_
  refine va_get (D := g.1) (ci := 4) (v := .long (mhs m9)) (C := RX4) (T := TX4) (N := 12) hx hb hts hiX4 hown hE.1 hP 0 rfl rfl 11 (by decide) f146 (fun _ h9 => h9) rfl dX4_hashes_5 ?_
  refine lv_lmul hx hb dX4_hashes_8 ?_
  refine lv_iload_n hx hb dX4_hashes_9 rfl (lv_at hl 1 rfl) ?_
  refine lv_i2l (v := (Int32.toInt64 v)) hx hb dX4_hashes_10 rfl ?_
  refine lv_ladd hx hb dX4_hashes_11 ?_
  refine va_put (D := g.1) (ci := 4) (v := .long ((31 * (mhs m9)) + (Int32.toInt64 v))) (ty := .long) (C := RX4) (T := TX4) (N := 12) hx hb hts hiX4 tyX4 tyX4_ok nmX4 hown hE.1 hP hD hS 0 rfl rfl 11 (by decide) f146 (fun _ h9 => h9) rfl (tyX4_ok 11 (by decide)) rfl rfl (Nat.le_of_ble_eq_true rfl) dX4_hashes_12 (fun H locs hP hD hS => ?_)
  have hP : va_P g.1 vwCl (wM g a (sMhs m9 ((31 * (mhs m9)) + (Int32.toInt64 v)))) _ := hP
  have hD : va_D A (wM g a (sMhs m9 ((31 * (mhs m9)) + (Int32.toInt64 v)))) := hD
  have hP : va_P g.1 vwCl (wM g a (sMhs m9 (mixI (mhs m9) v))) _ := hP
  have hD : va_D A (wM g a (sMhs m9 (mixI (mhs m9) v))) := hD
  exact k_vret hx hb hr hlocks hP hD hS (Nat.le_of_ble_eq_true rfl) (Nat.le_of_ble_eq_true rfl) dX4_hashes_15
