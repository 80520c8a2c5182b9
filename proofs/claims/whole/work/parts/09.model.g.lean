set_option maxHeartbeats 4000000 in
set_option maxRecDepth 100000 in
theorem zz1 (l : Launch) (g : kG) (a : Nat → Nat) (m9 : MSt) : KI l yX4_goesBy wsX4_goesBy ({ frames := 2, cells := 0, slots := 0, locals := 40 }) g [.ref (a 0)] (wM g a m9) (bI (Masks (ms m9))) (wM g a (sMs m9 (Mgo (ms m9)))) 0 0 := by
  refine k_begin (cc := cX4_goesBy) (maxL := 3) (ret := (some .boolean)) (Qc := fun A => kQi g (bI (Masks (ms m9))) (wM g a (sMs m9 (Mgo (ms m9)))) A) (by decide) rfl (Nat.le_of_ble_eq_true rfl) ?_
  intro p e s m below meth c A ls hF hr hlocks hin hE hP hD hS hA hl
  obtain ⟨hx, hb, hml, hown, hts⟩ := id hF
  have hown : s.vm.findClass RX4 = some m.cls := hown
  have hl : lv_has ls 3 [(0, .ref (a 0))] := hl
  have hiX4 : ∀ w ∈ wsX40, w ∈ wsX4_goesBy := fun _ h => List.mem_cons_of_mem _ (List.mem_append_right _ (h))
  have f7 : (Cond.fieldLink RX4 7 "ConcertUsherModel" "s" "[I").before _ s = true := hts _ (List.mem_of_getElem? (i := 1) rfl)
  refine lv_iconst (v := (nI 0)) hx hb dX4_goesBy_0 (by decide) ?_
  refine lv_istore_n (lv' := [(1, .int (nI 0)), (0, .ref (a 0))]) hx hb dX4_goesBy_1 rfl hl (by decide) rfl (fun ls hl => ?_)
  refine k_loop (N := 48) (Inv := fun (i : Nat) (H : Heap) (locs : List Loc) (ls : Array Slot) => va_P g.1 vwCl (wM g a (sMs m9 (MfadeN (ms m9) i))) H ∧ va_D A (wM g a (sMs m9 (MfadeN (ms m9) i))) ∧ va_S A s.heap H locs ∧ lv_has ls 3 [(1, .int (nI i)), (0, .ref (a 0))]) 0 (Nat.zero_le _) ⟨hP, hD, hS, lv_sub hl [0, 1] rfl⟩ (fun i hle2 ih1 H locs ls hinv => ?_)
  obtain ⟨hP, hD, hS, hl⟩ := hinv
  refine lv_iload_n hx hb dX4_goesBy_2 rfl (lv_at hl 0 rfl) ?_
  refine lv_bipush (v := (nI 48)) hx hb dX4_goesBy_3 (by decide) ?_
  refine k_geN (tgt := 43) hx hb (by omega) (by decide) dX4_goesBy_5 (by decide) (fun c3 => ?_) (fun c3 => ?_)
  ·
    obtain rfl : 48 = i := by omega
    sorry
  ·
    refine lv_aload_n hx hb dX4_goesBy_8 rfl (lv_at hl 1 rfl) ?_
    refine va_get (D := g.1) (ci := 4) (v := .ref (a 1)) (C := RX4) (T := TX4) (N := 12) hx hb hts hiX4 hown hE.1 hP 0 rfl rfl 1 (by decide) f7 (fun _ h9 => h9) rfl dX4_goesBy_9 ?_
    refine lv_bipush (v := (nI 69)) hx hb dX4_goesBy_12 (by decide) ?_
    refine lv_iload_n hx hb dX4_goesBy_14 rfl (lv_at hl 0 rfl) ?_
    refine lv_iadd hx hb dX4_goesBy_15 ?_
    refine k_top (nI_add _ _) ?_
    refine lv_dup2_11 hx hb dX4_goesBy_16 rfl rfl ?_
    refine k_iald (f := (MfadeN (ms m9) i)) hx hb hE hP 1 rfl (69 + i) rfl (by omega) (by decide) dX4_goesBy_17 ?_
    refine lv_aload_n hx hb dX4_goesBy_18 rfl (lv_at hl 1 rfl) ?_
    refine va_get (D := g.1) (ci := 4) (v := .ref (a 1)) (C := RX4) (T := TX4) (N := 12) hx hb hts hiX4 hown hE.1 hP 0 rfl rfl 1 (by decide) f7 (fun _ h9 => h9) rfl dX4_goesBy_19 ?_
    refine lv_bipush (v := (nI 69)) hx hb dX4_goesBy_22 (by decide) ?_
    refine lv_iload_n hx hb dX4_goesBy_24 rfl (lv_at hl 0 rfl) ?_
    refine lv_iadd hx hb dX4_goesBy_25 ?_
    refine k_top (nI_add _ _) ?_
    refine k_iald (f := (MfadeN (ms m9) i)) hx hb hE hP 1 rfl (69 + i) rfl (by omega) (by decide) dX4_goesBy_26 ?_
    refine k_meet (x := .int (bI (¬ ((MfadeN (ms m9) i) (69 + i)) ≤ 0))) (pj := 35) (rest := [.int ((MfadeN (ms m9) i) (69 + i)), .int (nI (69 + i)), .ref (a 1)]) (fun J15 => ?_) ?_
    ·
      refine lv_if_le (tgt := 34) hx hb dX4_goesBy_27 (by decide) (fun c16 => ?_) (fun c16 => ?_)
      ·
        refine lv_iconst (v := (nI 0)) hx hb dX4_goesBy_34 (by decide) ?_
        exact k_top (by first | (simp only [Mgo, bI, if_neg (Nat.not_le.mpr c3), if_pos (Nat.not_le.mpr c3), if_pos c16, if_neg (not_not_intro c16)]; done) | (simp only [Mgo, bI, if_neg (Nat.not_le.mpr c3), if_pos (Nat.not_le.mpr c3), if_pos c16, if_neg (not_not_intro c16)]; with_reducible rfl) | with_reducible rfl | (simp [Mgo, bI, if_neg (Nat.not_le.mpr c3), if_pos (Nat.not_le.mpr c3), if_pos c16, if_neg (not_not_intro c16)]; done)) J15
      ·
        refine lv_iconst (v := (nI 1)) hx hb dX4_goesBy_30 (by decide) ?_
        refine lv_goto (tgt := 35) hx hb dX4_goesBy_31 (by decide) ?_
        exact k_top (by first | (simp only [Mgo, bI, if_neg (Nat.not_le.mpr c3), if_pos (Nat.not_le.mpr c3), if_neg c16, if_pos c16]; done) | (simp only [Mgo, bI, if_neg (Nat.not_le.mpr c3), if_pos (Nat.not_le.mpr c3), if_neg c16, if_pos c16]; with_reducible rfl) | with_reducible rfl | (simp [Mgo, bI, if_neg (Nat.not_le.mpr c3), if_pos (Nat.not_le.mpr c3), if_neg c16, if_pos c16]; done)) J15
    ·
      refine lv_isub hx hb dX4_goesBy_35 ?_
      refine k_iast (f := (MfadeN (ms m9) i)) (ws1 := (wM g a (sMs m9 (upd (MfadeN (ms m9) i) (69 + i) (((MfadeN (ms m9) i) (69 + i)) - (bI (¬ ((MfadeN (ms m9) i) (69 + i)) ≤ 0))))))) hx hb hE hP hD hS 1 rfl (69 + i) rfl (by omega) (by decide) rfl dX4_goesBy_36 (fun H locs hP hD hS => ?_)
      refine lv_iinc (v := (nI (i + 1))) (lv' := [(1, .int (nI (i + 1))), (0, .ref (a 0))]) hx hb dX4_goesBy_37 hl (k := 0) rfl (k_inc1 _) (by decide) rfl (fun ls hl => ?_)
      refine lv_goto (tgt := 2) hx hb dX4_goesBy_40 (by decide) ?_
      have e17 : (sMs m9 (MfadeN (ms m9) (i + 1))) = (sMs m9 (upd (MfadeN (ms m9) i) (69 + i) (((MfadeN (ms m9) i) (69 + i)) - (bI (¬ ((MfadeN (ms m9) i) (69 + i)) ≤ 0))))) := (by first | (simp only [Mgo, MfadeN, if_neg (Nat.not_le.mpr c3), if_pos (Nat.not_le.mpr c3)]; done) | (simp only [Mgo, MfadeN, if_neg (Nat.not_le.mpr c3), if_pos (Nat.not_le.mpr c3)]; with_reducible rfl) | with_reducible rfl | (simp [Mgo, MfadeN, if_neg (Nat.not_le.mpr c3), if_pos (Nat.not_le.mpr c3)]; done))
      exact ih1 _ _ _ (by omega) ⟨(by rw [e17]; exact hP), (by rw [e17]; exact hD), hS, lv_sub hl [0, 1] rfl⟩
set_option maxHeartbeats 4000000 in
set_option maxRecDepth 100000 in
theorem zz2 (l : Launch) (g : kG) (a : Nat → Nat) (m9 : MSt) : KI l yX4_goesBy wsX4_goesBy ({ frames := 2, cells := 0, slots := 0, locals := 40 }) g [.ref (a 0)] (wM g a m9) (bI (Masks (ms m9))) (wM g a (sMs m9 (Mgo (ms m9)))) 0 0 := by
  refine k_begin (cc := cX4_goesBy) (maxL := 3) (ret := (some .boolean)) (Qc := fun A => kQi g (bI (Masks (ms m9))) (wM g a (sMs m9 (Mgo (ms m9)))) A) (by decide) rfl (Nat.le_of_ble_eq_true rfl) ?_
  intro p e s m below meth c A ls hF hr hlocks hin hE hP hD hS hA hl
  obtain ⟨hx, hb, hml, hown, hts⟩ := id hF
  have hown : s.vm.findClass RX4 = some m.cls := hown
  have hl : lv_has ls 3 [(0, .ref (a 0))] := hl
  have hiX4 : ∀ w ∈ wsX40, w ∈ wsX4_goesBy := fun _ h => List.mem_cons_of_mem _ (List.mem_append_right _ (h))
  have f7 : (Cond.fieldLink RX4 7 "ConcertUsherModel" "s" "[I").before _ s = true := hts _ (List.mem_of_getElem? (i := 1) rfl)
  refine lv_iconst (v := (nI 0)) hx hb dX4_goesBy_0 (by decide) ?_
  refine lv_istore_n (lv' := [(1, .int (nI 0)), (0, .ref (a 0))]) hx hb dX4_goesBy_1 rfl hl (by decide) rfl (fun ls hl => ?_)
  refine k_loop (N := 48) (Inv := fun (i : Nat) (H : Heap) (locs : List Loc) (ls : Array Slot) => va_P g.1 vwCl (wM g a (sMs m9 (MfadeN (ms m9) i))) H ∧ va_D A (wM g a (sMs m9 (MfadeN (ms m9) i))) ∧ va_S A s.heap H locs ∧ lv_has ls 3 [(1, .int (nI i)), (0, .ref (a 0))]) 0 (Nat.zero_le _) ⟨hP, hD, hS, lv_sub hl [0, 1] rfl⟩ (fun i hle2 ih1 H locs ls hinv => ?_)
  obtain ⟨hP, hD, hS, hl⟩ := hinv
  refine lv_iload_n hx hb dX4_goesBy_2 rfl (lv_at hl 0 rfl) ?_
  refine lv_bipush (v := (nI 48)) hx hb dX4_goesBy_3 (by decide) ?_
  refine k_geN (tgt := 43) hx hb (by omega) (by decide) dX4_goesBy_5 (by decide) (fun c3 => ?_) (fun c3 => ?_)
  ·
    obtain rfl : 48 = i := by omega
    refine lv_aload_n hx hb dX4_goesBy_43 rfl (lv_at hl 1 rfl) ?_
    refine va_get (D := g.1) (ci := 4) (v := .ref (a 1)) (C := RX4) (T := TX4) (N := 12) hx hb hts hiX4 hown hE.1 hP 0 rfl rfl 1 (by decide) f7 (fun _ h9 => h9) rfl dX4_goesBy_44 ?_
    refine lv_iconst (v := (nI 5)) hx hb dX4_goesBy_47 (by decide) ?_
    refine lv_dup2_11 hx hb dX4_goesBy_48 rfl rfl ?_
    refine k_iald (f := (MfadeN (ms m9) 48)) hx hb hE hP 1 rfl 5 rfl (by decide) (by decide) dX4_goesBy_49 ?_
    refine lv_iconst (v := (nI 1)) hx hb dX4_goesBy_50 (by decide) ?_
    refine lv_iadd hx hb dX4_goesBy_51 ?_
    refine k_iast (f := (MfadeN (ms m9) 48)) (ws1 := (wM g a (sMs m9 (upd (MfadeN (ms m9) 48) 5 (((MfadeN (ms m9) 48) 5) + (nI 1)))))) hx hb hE hP hD hS 1 rfl 5 rfl (by decide) (by decide) rfl dX4_goesBy_52 (fun H locs hP hD hS => ?_)
    refine lv_aload_n hx hb dX4_goesBy_53 rfl (lv_at hl 1 rfl) ?_
    refine va_get (D := g.1) (ci := 4) (v := .ref (a 1)) (C := RX4) (T := TX4) (N := 12) hx hb hts hiX4 hown hE.1 hP 0 rfl rfl 1 (by decide) f7 (fun _ h9 => h9) rfl dX4_goesBy_54 ?_
    refine lv_bipush (v := (nI 6)) hx hb dX4_goesBy_57 (by decide) ?_
    refine lv_dup2_11 hx hb dX4_goesBy_59 rfl rfl ?_
    refine k_iald (f := (upd (MfadeN (ms m9) 48) 5 (((MfadeN (ms m9) 48) 5) + (nI 1)))) hx hb hE hP 1 rfl 6 rfl (by decide) (by decide) dX4_goesBy_60 ?_
    refine lv_iconst (v := (nI 1)) hx hb dX4_goesBy_61 (by decide) ?_
    refine lv_iadd hx hb dX4_goesBy_62 ?_
    refine k_iast (f := (upd (MfadeN (ms m9) 48) 5 (((MfadeN (ms m9) 48) 5) + (nI 1)))) (ws1 := (wM g a (sMs m9 (upd (upd (MfadeN (ms m9) 48) 5 (((MfadeN (ms m9) 48) 5) + (nI 1))) 6 (((upd (MfadeN (ms m9) 48) 5 (((MfadeN (ms m9) 48) 5) + (nI 1))) 6) + (nI 1)))))) hx hb hE hP hD hS 1 rfl 6 rfl (by decide) (by decide) rfl dX4_goesBy_63 (fun H locs hP hD hS => ?_)
    sorry
  ·
    refine lv_aload_n hx hb dX4_goesBy_8 rfl (lv_at hl 1 rfl) ?_
    refine va_get (D := g.1) (ci := 4) (v := .ref (a 1)) (C := RX4) (T := TX4) (N := 12) hx hb hts hiX4 hown hE.1 hP 0 rfl rfl 1 (by decide) f7 (fun _ h9 => h9) rfl dX4_goesBy_9 ?_
    refine lv_bipush (v := (nI 69)) hx hb dX4_goesBy_12 (by decide) ?_
    refine lv_iload_n hx hb dX4_goesBy_14 rfl (lv_at hl 0 rfl) ?_
    refine lv_iadd hx hb dX4_goesBy_15 ?_
    refine k_top (nI_add _ _) ?_
    refine lv_dup2_11 hx hb dX4_goesBy_16 rfl rfl ?_
    refine k_iald (f := (MfadeN (ms m9) i)) hx hb hE hP 1 rfl (69 + i) rfl (by omega) (by decide) dX4_goesBy_17 ?_
    refine lv_aload_n hx hb dX4_goesBy_18 rfl (lv_at hl 1 rfl) ?_
    refine va_get (D := g.1) (ci := 4) (v := .ref (a 1)) (C := RX4) (T := TX4) (N := 12) hx hb hts hiX4 hown hE.1 hP 0 rfl rfl 1 (by decide) f7 (fun _ h9 => h9) rfl dX4_goesBy_19 ?_
    refine lv_bipush (v := (nI 69)) hx hb dX4_goesBy_22 (by decide) ?_
    refine lv_iload_n hx hb dX4_goesBy_24 rfl (lv_at hl 0 rfl) ?_
    refine lv_iadd hx hb dX4_goesBy_25 ?_
    refine k_top (nI_add _ _) ?_
    refine k_iald (f := (MfadeN (ms m9) i)) hx hb hE hP 1 rfl (69 + i) rfl (by omega) (by decide) dX4_goesBy_26 ?_
    refine k_meet (x := .int (bI (¬ ((MfadeN (ms m9) i) (69 + i)) ≤ 0))) (pj := 35) (rest := [.int ((MfadeN (ms m9) i) (69 + i)), .int (nI (69 + i)), .ref (a 1)]) (fun J15 => ?_) ?_
    ·
      refine lv_if_le (tgt := 34) hx hb dX4_goesBy_27 (by decide) (fun c16 => ?_) (fun c16 => ?_)
      ·
        refine lv_iconst (v := (nI 0)) hx hb dX4_goesBy_34 (by decide) ?_
        exact k_top (by first | (simp only [Mgo, bI, if_neg (Nat.not_le.mpr c3), if_pos (Nat.not_le.mpr c3), if_pos c16, if_neg (not_not_intro c16)]; done) | (simp only [Mgo, bI, if_neg (Nat.not_le.mpr c3), if_pos (Nat.not_le.mpr c3), if_pos c16, if_neg (not_not_intro c16)]; with_reducible rfl) | with_reducible rfl | (simp [Mgo, bI, if_neg (Nat.not_le.mpr c3), if_pos (Nat.not_le.mpr c3), if_pos c16, if_neg (not_not_intro c16)]; done)) J15
      ·
        refine lv_iconst (v := (nI 1)) hx hb dX4_goesBy_30 (by decide) ?_
        refine lv_goto (tgt := 35) hx hb dX4_goesBy_31 (by decide) ?_
        exact k_top (by first | (simp only [Mgo, bI, if_neg (Nat.not_le.mpr c3), if_pos (Nat.not_le.mpr c3), if_neg c16, if_pos c16]; done) | (simp only [Mgo, bI, if_neg (Nat.not_le.mpr c3), if_pos (Nat.not_le.mpr c3), if_neg c16, if_pos c16]; with_reducible rfl) | with_reducible rfl | (simp [Mgo, bI, if_neg (Nat.not_le.mpr c3), if_pos (Nat.not_le.mpr c3), if_neg c16, if_pos c16]; done)) J15
    ·
      refine lv_isub hx hb dX4_goesBy_35 ?_
      refine k_iast (f := (MfadeN (ms m9) i)) (ws1 := (wM g a (sMs m9 (upd (MfadeN (ms m9) i) (69 + i) (((MfadeN (ms m9) i) (69 + i)) - (bI (¬ ((MfadeN (ms m9) i) (69 + i)) ≤ 0))))))) hx hb hE hP hD hS 1 rfl (69 + i) rfl (by omega) (by decide) rfl dX4_goesBy_36 (fun H locs hP hD hS => ?_)
      refine lv_iinc (v := (nI (i + 1))) (lv' := [(1, .int (nI (i + 1))), (0, .ref (a 0))]) hx hb dX4_goesBy_37 hl (k := 0) rfl (k_inc1 _) (by decide) rfl (fun ls hl => ?_)
      refine lv_goto (tgt := 2) hx hb dX4_goesBy_40 (by decide) ?_
      have e17 : (sMs m9 (MfadeN (ms m9) (i + 1))) = (sMs m9 (upd (MfadeN (ms m9) i) (69 + i) (((MfadeN (ms m9) i) (69 + i)) - (bI (¬ ((MfadeN (ms m9) i) (69 + i)) ≤ 0))))) := (by first | (simp only [Mgo, MfadeN, if_neg (Nat.not_le.mpr c3), if_pos (Nat.not_le.mpr c3)]; done) | (simp only [Mgo, MfadeN, if_neg (Nat.not_le.mpr c3), if_pos (Nat.not_le.mpr c3)]; with_reducible rfl) | with_reducible rfl | (simp [Mgo, MfadeN, if_neg (Nat.not_le.mpr c3), if_pos (Nat.not_le.mpr c3)]; done))
      exact ih1 _ _ _ (by omega) ⟨(by rw [e17]; exact hP), (by rw [e17]; exact hD), hS, lv_sub hl [0, 1] rfl⟩
set_option maxHeartbeats 4000000 in
set_option maxRecDepth 100000 in
theorem zz3 (l : Launch) (g : kG) (a : Nat → Nat) (m9 : MSt) : KI l yX4_goesBy wsX4_goesBy ({ frames := 2, cells := 0, slots := 0, locals := 40 }) g [.ref (a 0)] (wM g a m9) (bI (Masks (ms m9))) (wM g a (sMs m9 (Mgo (ms m9)))) 0 0 := by
  refine k_begin (cc := cX4_goesBy) (maxL := 3) (ret := (some .boolean)) (Qc := fun A => kQi g (bI (Masks (ms m9))) (wM g a (sMs m9 (Mgo (ms m9)))) A) (by decide) rfl (Nat.le_of_ble_eq_true rfl) ?_
  intro p e s m below meth c A ls hF hr hlocks hin hE hP hD hS hA hl
  obtain ⟨hx, hb, hml, hown, hts⟩ := id hF
  have hown : s.vm.findClass RX4 = some m.cls := hown
  have hl : lv_has ls 3 [(0, .ref (a 0))] := hl
  have hiX4 : ∀ w ∈ wsX40, w ∈ wsX4_goesBy := fun _ h => List.mem_cons_of_mem _ (List.mem_append_right _ (h))
  have f7 : (Cond.fieldLink RX4 7 "ConcertUsherModel" "s" "[I").before _ s = true := hts _ (List.mem_of_getElem? (i := 1) rfl)
  refine lv_iconst (v := (nI 0)) hx hb dX4_goesBy_0 (by decide) ?_
  refine lv_istore_n (lv' := [(1, .int (nI 0)), (0, .ref (a 0))]) hx hb dX4_goesBy_1 rfl hl (by decide) rfl (fun ls hl => ?_)
  refine k_loop (N := 48) (Inv := fun (i : Nat) (H : Heap) (locs : List Loc) (ls : Array Slot) => va_P g.1 vwCl (wM g a (sMs m9 (MfadeN (ms m9) i))) H ∧ va_D A (wM g a (sMs m9 (MfadeN (ms m9) i))) ∧ va_S A s.heap H locs ∧ lv_has ls 3 [(1, .int (nI i)), (0, .ref (a 0))]) 0 (Nat.zero_le _) ⟨hP, hD, hS, lv_sub hl [0, 1] rfl⟩ (fun i hle2 ih1 H locs ls hinv => ?_)
  obtain ⟨hP, hD, hS, hl⟩ := hinv
  refine lv_iload_n hx hb dX4_goesBy_2 rfl (lv_at hl 0 rfl) ?_
  refine lv_bipush (v := (nI 48)) hx hb dX4_goesBy_3 (by decide) ?_
  refine k_geN (tgt := 43) hx hb (by omega) (by decide) dX4_goesBy_5 (by decide) (fun c3 => ?_) (fun c3 => ?_)
  ·
    obtain rfl : 48 = i := by omega
    refine lv_aload_n hx hb dX4_goesBy_43 rfl (lv_at hl 1 rfl) ?_
    refine va_get (D := g.1) (ci := 4) (v := .ref (a 1)) (C := RX4) (T := TX4) (N := 12) hx hb hts hiX4 hown hE.1 hP 0 rfl rfl 1 (by decide) f7 (fun _ h9 => h9) rfl dX4_goesBy_44 ?_
    refine lv_iconst (v := (nI 5)) hx hb dX4_goesBy_47 (by decide) ?_
    refine lv_dup2_11 hx hb dX4_goesBy_48 rfl rfl ?_
    refine k_iald (f := (MfadeN (ms m9) 48)) hx hb hE hP 1 rfl 5 rfl (by decide) (by decide) dX4_goesBy_49 ?_
    refine lv_iconst (v := (nI 1)) hx hb dX4_goesBy_50 (by decide) ?_
    refine lv_iadd hx hb dX4_goesBy_51 ?_
    refine k_iast (f := (MfadeN (ms m9) 48)) (ws1 := (wM g a (sMs m9 (upd (MfadeN (ms m9) 48) 5 (((MfadeN (ms m9) 48) 5) + (nI 1)))))) hx hb hE hP hD hS 1 rfl 5 rfl (by decide) (by decide) rfl dX4_goesBy_52 (fun H locs hP hD hS => ?_)
    refine lv_aload_n hx hb dX4_goesBy_53 rfl (lv_at hl 1 rfl) ?_
    refine va_get (D := g.1) (ci := 4) (v := .ref (a 1)) (C := RX4) (T := TX4) (N := 12) hx hb hts hiX4 hown hE.1 hP 0 rfl rfl 1 (by decide) f7 (fun _ h9 => h9) rfl dX4_goesBy_54 ?_
    refine lv_bipush (v := (nI 6)) hx hb dX4_goesBy_57 (by decide) ?_
    refine lv_dup2_11 hx hb dX4_goesBy_59 rfl rfl ?_
    refine k_iald (f := (upd (MfadeN (ms m9) 48) 5 (((MfadeN (ms m9) 48) 5) + (nI 1)))) hx hb hE hP 1 rfl 6 rfl (by decide) (by decide) dX4_goesBy_60 ?_
    refine lv_iconst (v := (nI 1)) hx hb dX4_goesBy_61 (by decide) ?_
    refine lv_iadd hx hb dX4_goesBy_62 ?_
    refine k_iast (f := (upd (MfadeN (ms m9) 48) 5 (((MfadeN (ms m9) 48) 5) + (nI 1)))) (ws1 := (wM g a (sMs m9 (upd (upd (MfadeN (ms m9) 48) 5 (((MfadeN (ms m9) 48) 5) + (nI 1))) 6 (((upd (MfadeN (ms m9) 48) 5 (((MfadeN (ms m9) 48) 5) + (nI 1))) 6) + (nI 1)))))) hx hb hE hP hD hS 1 rfl 6 rfl (by decide) (by decide) rfl dX4_goesBy_63 (fun H locs hP hD hS => ?_)
    have hMt : (upd (upd (MfadeN (ms m9) 48) 5 (((MfadeN (ms m9) 48) 5) + (nI 1))) 6 (((upd (MfadeN (ms m9) 48) 5 (((MfadeN (ms m9) 48) 5) + (nI 1))) 6) + (nI 1))) = Mtk (ms m9) := by unfold Mtk Mt1; rfl
    rw [hMt] at hP hD
    sorry
  ·
    refine lv_aload_n hx hb dX4_goesBy_8 rfl (lv_at hl 1 rfl) ?_
    refine va_get (D := g.1) (ci := 4) (v := .ref (a 1)) (C := RX4) (T := TX4) (N := 12) hx hb hts hiX4 hown hE.1 hP 0 rfl rfl 1 (by decide) f7 (fun _ h9 => h9) rfl dX4_goesBy_9 ?_
    refine lv_bipush (v := (nI 69)) hx hb dX4_goesBy_12 (by decide) ?_
    refine lv_iload_n hx hb dX4_goesBy_14 rfl (lv_at hl 0 rfl) ?_
    refine lv_iadd hx hb dX4_goesBy_15 ?_
    refine k_top (nI_add _ _) ?_
    refine lv_dup2_11 hx hb dX4_goesBy_16 rfl rfl ?_
    refine k_iald (f := (MfadeN (ms m9) i)) hx hb hE hP 1 rfl (69 + i) rfl (by omega) (by decide) dX4_goesBy_17 ?_
    refine lv_aload_n hx hb dX4_goesBy_18 rfl (lv_at hl 1 rfl) ?_
    refine va_get (D := g.1) (ci := 4) (v := .ref (a 1)) (C := RX4) (T := TX4) (N := 12) hx hb hts hiX4 hown hE.1 hP 0 rfl rfl 1 (by decide) f7 (fun _ h9 => h9) rfl dX4_goesBy_19 ?_
    refine lv_bipush (v := (nI 69)) hx hb dX4_goesBy_22 (by decide) ?_
    refine lv_iload_n hx hb dX4_goesBy_24 rfl (lv_at hl 0 rfl) ?_
    refine lv_iadd hx hb dX4_goesBy_25 ?_
    refine k_top (nI_add _ _) ?_
    refine k_iald (f := (MfadeN (ms m9) i)) hx hb hE hP 1 rfl (69 + i) rfl (by omega) (by decide) dX4_goesBy_26 ?_
    refine k_meet (x := .int (bI (¬ ((MfadeN (ms m9) i) (69 + i)) ≤ 0))) (pj := 35) (rest := [.int ((MfadeN (ms m9) i) (69 + i)), .int (nI (69 + i)), .ref (a 1)]) (fun J15 => ?_) ?_
    ·
      refine lv_if_le (tgt := 34) hx hb dX4_goesBy_27 (by decide) (fun c16 => ?_) (fun c16 => ?_)
      ·
        refine lv_iconst (v := (nI 0)) hx hb dX4_goesBy_34 (by decide) ?_
        exact k_top (by first | (simp only [Mgo, bI, if_neg (Nat.not_le.mpr c3), if_pos (Nat.not_le.mpr c3), if_pos c16, if_neg (not_not_intro c16)]; done) | (simp only [Mgo, bI, if_neg (Nat.not_le.mpr c3), if_pos (Nat.not_le.mpr c3), if_pos c16, if_neg (not_not_intro c16)]; with_reducible rfl) | with_reducible rfl | (simp [Mgo, bI, if_neg (Nat.not_le.mpr c3), if_pos (Nat.not_le.mpr c3), if_pos c16, if_neg (not_not_intro c16)]; done)) J15
      ·
        refine lv_iconst (v := (nI 1)) hx hb dX4_goesBy_30 (by decide) ?_
        refine lv_goto (tgt := 35) hx hb dX4_goesBy_31 (by decide) ?_
        exact k_top (by first | (simp only [Mgo, bI, if_neg (Nat.not_le.mpr c3), if_pos (Nat.not_le.mpr c3), if_neg c16, if_pos c16]; done) | (simp only [Mgo, bI, if_neg (Nat.not_le.mpr c3), if_pos (Nat.not_le.mpr c3), if_neg c16, if_pos c16]; with_reducible rfl) | with_reducible rfl | (simp [Mgo, bI, if_neg (Nat.not_le.mpr c3), if_pos (Nat.not_le.mpr c3), if_neg c16, if_pos c16]; done)) J15
    ·
      refine lv_isub hx hb dX4_goesBy_35 ?_
      refine k_iast (f := (MfadeN (ms m9) i)) (ws1 := (wM g a (sMs m9 (upd (MfadeN (ms m9) i) (69 + i) (((MfadeN (ms m9) i) (69 + i)) - (bI (¬ ((MfadeN (ms m9) i) (69 + i)) ≤ 0))))))) hx hb hE hP hD hS 1 rfl (69 + i) rfl (by omega) (by decide) rfl dX4_goesBy_36 (fun H locs hP hD hS => ?_)
      refine lv_iinc (v := (nI (i + 1))) (lv' := [(1, .int (nI (i + 1))), (0, .ref (a 0))]) hx hb dX4_goesBy_37 hl (k := 0) rfl (k_inc1 _) (by decide) rfl (fun ls hl => ?_)
      refine lv_goto (tgt := 2) hx hb dX4_goesBy_40 (by decide) ?_
      have e17 : (sMs m9 (MfadeN (ms m9) (i + 1))) = (sMs m9 (upd (MfadeN (ms m9) i) (69 + i) (((MfadeN (ms m9) i) (69 + i)) - (bI (¬ ((MfadeN (ms m9) i) (69 + i)) ≤ 0))))) := (by first | (simp only [Mgo, MfadeN, if_neg (Nat.not_le.mpr c3), if_pos (Nat.not_le.mpr c3)]; done) | (simp only [Mgo, MfadeN, if_neg (Nat.not_le.mpr c3), if_pos (Nat.not_le.mpr c3)]; with_reducible rfl) | with_reducible rfl | (simp [Mgo, MfadeN, if_neg (Nat.not_le.mpr c3), if_pos (Nat.not_le.mpr c3)]; done))
      exact ih1 _ _ _ (by omega) ⟨(by rw [e17]; exact hP), (by rw [e17]; exact hD), hS, lv_sub hl [0, 1] rfl⟩
set_option maxHeartbeats 4000000 in
set_option maxRecDepth 100000 in
theorem zz4 (l : Launch) (g : kG) (a : Nat → Nat) (m9 : MSt) : KI l yX4_goesBy wsX4_goesBy ({ frames := 2, cells := 0, slots := 0, locals := 40 }) g [.ref (a 0)] (wM g a m9) (bI (Masks (ms m9))) (wM g a (sMs m9 (Mgo (ms m9)))) 0 0 := by
  refine k_begin (cc := cX4_goesBy) (maxL := 3) (ret := (some .boolean)) (Qc := fun A => kQi g (bI (Masks (ms m9))) (wM g a (sMs m9 (Mgo (ms m9)))) A) (by decide) rfl (Nat.le_of_ble_eq_true rfl) ?_
  intro p e s m below meth c A ls hF hr hlocks hin hE hP hD hS hA hl
  obtain ⟨hx, hb, hml, hown, hts⟩ := id hF
  have hown : s.vm.findClass RX4 = some m.cls := hown
  have hl : lv_has ls 3 [(0, .ref (a 0))] := hl
  have hiX4 : ∀ w ∈ wsX40, w ∈ wsX4_goesBy := fun _ h => List.mem_cons_of_mem _ (List.mem_append_right _ (h))
  have f7 : (Cond.fieldLink RX4 7 "ConcertUsherModel" "s" "[I").before _ s = true := hts _ (List.mem_of_getElem? (i := 1) rfl)
  refine lv_iconst (v := (nI 0)) hx hb dX4_goesBy_0 (by decide) ?_
  refine lv_istore_n (lv' := [(1, .int (nI 0)), (0, .ref (a 0))]) hx hb dX4_goesBy_1 rfl hl (by decide) rfl (fun ls hl => ?_)
  refine k_loop (N := 48) (Inv := fun (i : Nat) (H : Heap) (locs : List Loc) (ls : Array Slot) => va_P g.1 vwCl (wM g a (sMs m9 (MfadeN (ms m9) i))) H ∧ va_D A (wM g a (sMs m9 (MfadeN (ms m9) i))) ∧ va_S A s.heap H locs ∧ lv_has ls 3 [(1, .int (nI i)), (0, .ref (a 0))]) 0 (Nat.zero_le _) ⟨hP, hD, hS, lv_sub hl [0, 1] rfl⟩ (fun i hle2 ih1 H locs ls hinv => ?_)
  obtain ⟨hP, hD, hS, hl⟩ := hinv
  refine lv_iload_n hx hb dX4_goesBy_2 rfl (lv_at hl 0 rfl) ?_
  refine lv_bipush (v := (nI 48)) hx hb dX4_goesBy_3 (by decide) ?_
  refine k_geN (tgt := 43) hx hb (by omega) (by decide) dX4_goesBy_5 (by decide) (fun c3 => ?_) (fun c3 => ?_)
  ·
    obtain rfl : 48 = i := by omega
    refine lv_aload_n hx hb dX4_goesBy_43 rfl (lv_at hl 1 rfl) ?_
    refine va_get (D := g.1) (ci := 4) (v := .ref (a 1)) (C := RX4) (T := TX4) (N := 12) hx hb hts hiX4 hown hE.1 hP 0 rfl rfl 1 (by decide) f7 (fun _ h9 => h9) rfl dX4_goesBy_44 ?_
    refine lv_iconst (v := (nI 5)) hx hb dX4_goesBy_47 (by decide) ?_
    refine lv_dup2_11 hx hb dX4_goesBy_48 rfl rfl ?_
    refine k_iald (f := (MfadeN (ms m9) 48)) hx hb hE hP 1 rfl 5 rfl (by decide) (by decide) dX4_goesBy_49 ?_
    refine lv_iconst (v := (nI 1)) hx hb dX4_goesBy_50 (by decide) ?_
    refine lv_iadd hx hb dX4_goesBy_51 ?_
    refine k_iast (f := (MfadeN (ms m9) 48)) (ws1 := (wM g a (sMs m9 (upd (MfadeN (ms m9) 48) 5 (((MfadeN (ms m9) 48) 5) + (nI 1)))))) hx hb hE hP hD hS 1 rfl 5 rfl (by decide) (by decide) rfl dX4_goesBy_52 (fun H locs hP hD hS => ?_)
    refine lv_aload_n hx hb dX4_goesBy_53 rfl (lv_at hl 1 rfl) ?_
    refine va_get (D := g.1) (ci := 4) (v := .ref (a 1)) (C := RX4) (T := TX4) (N := 12) hx hb hts hiX4 hown hE.1 hP 0 rfl rfl 1 (by decide) f7 (fun _ h9 => h9) rfl dX4_goesBy_54 ?_
    refine lv_bipush (v := (nI 6)) hx hb dX4_goesBy_57 (by decide) ?_
    refine lv_dup2_11 hx hb dX4_goesBy_59 rfl rfl ?_
    refine k_iald (f := (upd (MfadeN (ms m9) 48) 5 (((MfadeN (ms m9) 48) 5) + (nI 1)))) hx hb hE hP 1 rfl 6 rfl (by decide) (by decide) dX4_goesBy_60 ?_
    refine lv_iconst (v := (nI 1)) hx hb dX4_goesBy_61 (by decide) ?_
    refine lv_iadd hx hb dX4_goesBy_62 ?_
    refine k_iast (f := (upd (MfadeN (ms m9) 48) 5 (((MfadeN (ms m9) 48) 5) + (nI 1)))) (ws1 := (wM g a (sMs m9 (upd (upd (MfadeN (ms m9) 48) 5 (((MfadeN (ms m9) 48) 5) + (nI 1))) 6 (((upd (MfadeN (ms m9) 48) 5 (((MfadeN (ms m9) 48) 5) + (nI 1))) 6) + (nI 1)))))) hx hb hE hP hD hS 1 rfl 6 rfl (by decide) (by decide) rfl dX4_goesBy_63 (fun H locs hP hD hS => ?_)
    have hMt : (upd (upd (MfadeN (ms m9) 48) 5 (((MfadeN (ms m9) 48) 5) + (nI 1))) 6 (((upd (MfadeN (ms m9) 48) 5 (((MfadeN (ms m9) 48) 5) + (nI 1))) 6) + (nI 1))) = Mtk (ms m9) := by unfold Mtk Mt1; rfl
    rw [hMt] at hP hD
    refine lv_aload_n hx hb dX4_goesBy_64 rfl (lv_at hl 1 rfl) ?_
    refine va_get (D := g.1) (ci := 4) (v := .ref (a 1)) (C := RX4) (T := TX4) (N := 12) hx hb hts hiX4 hown hE.1 hP 0 rfl rfl 1 (by decide) f7 (fun _ h9 => h9) rfl dX4_goesBy_65 ?_
    refine lv_bipush (v := (nI 6)) hx hb dX4_goesBy_68 (by decide) ?_
    refine k_iald (f := (Mtk (ms m9))) hx hb hE hP 1 rfl 6 rfl (by decide) (by decide) dX4_goesBy_70 ?_
    refine lv_aload_n hx hb dX4_goesBy_71 rfl (lv_at hl 1 rfl) ?_
    refine k_Vi (As := []) (r := (Mdue (Mtk (ms m9)))) hF (c_X4_due l g a (sMs m9 (Mtk (ms m9)))) (cwV 0 hts gX4_goesBy_X4_due rfl rfl rfl (by decide +kernel) ⟨Nat.le_of_ble_eq_true rfl, Nat.le_of_ble_eq_true rfl⟩) hE hP hD hS hA (k_pall _) ((k_pall _).symm) 0 rfl rfl rfl rfl hl.1 rfl (Nat.le_of_ble_eq_true rfl) dX4_goesBy_72 ⟨Nat.le_of_ble_eq_true rfl, Nat.le_of_ble_eq_true rfl⟩ (fun H locs hP hD hS => ?_)
    have hP : va_P g.1 vwCl (wM g a (sMs m9 (Mtk (ms m9)))) _ := hP
    have hD : va_D A (wM g a (sMs m9 (Mtk (ms m9)))) := hD
    refine k_meet (x := .int (bI (¬ (Mtk (ms m9)) 6 < (Mdue (Mtk (ms m9)))))) (pj := 83) (rest := []) (fun J4 => ?_) ?_
    ·
      sorry
    ·
      refine lv_istore_n (lv' := [(1, .int (bI (¬ (Mtk (ms m9)) 6 < (Mdue (Mtk (ms m9)))))), (0, .ref (a 0))]) hx hb dX4_goesBy_83 rfl hl (by decide) rfl (fun ls hl => ?_)
      refine lv_iload_n hx hb dX4_goesBy_84 rfl (lv_at hl 0 rfl) ?_
      refine k_ifeqB (tgt := 138) hx hb dX4_goesBy_85 (by decide) (fun c6 => ?_) (fun c6 => ?_)
      ·
        refine lv_iload_n hx hb dX4_goesBy_138 rfl (lv_at hl 0 rfl) ?_
        have e7 : (sMs m9 (Mgo (ms m9))) = (sMs m9 (Mtk (ms m9))) := (by first | (simp only [Mgo, if_pos c3, if_neg (not_not_intro c3), if_neg c6, if_pos c6]; done) | (simp only [Mgo, if_pos c3, if_neg (not_not_intro c3), if_neg c6, if_pos c6]; with_reducible rfl) | with_reducible rfl | (simp [Mgo, if_pos c3, if_neg (not_not_intro c3), if_neg c6, if_pos c6]; done))
        have hP : va_P g.1 vwCl (wM g a (sMs m9 (Mgo (ms m9)))) H := by rw [e7]; exact hP
        have hD : va_D A (wM g a (sMs m9 (Mgo (ms m9)))) := by rw [e7]; exact hD
        exact k_iret hx hb hr hlocks bI_nar (by first | (simp only [Mgo, bI, if_pos c3, if_neg (not_not_intro c3), if_neg c6, if_pos c6]; done) | (simp only [Mgo, bI, if_pos c3, if_neg (not_not_intro c3), if_neg c6, if_pos c6]; with_reducible rfl) | with_reducible rfl | (simp [Mgo, bI, if_pos c3, if_neg (not_not_intro c3), if_neg c6, if_pos c6]; done)) hP hD hS (Nat.le_of_ble_eq_true rfl) (Nat.le_of_ble_eq_true rfl) dX4_goesBy_139
      ·
        refine lv_aload_n hx hb dX4_goesBy_88 rfl (lv_at hl 1 rfl) ?_
        refine va_get (D := g.1) (ci := 4) (v := .ref (a 1)) (C := RX4) (T := TX4) (N := 12) hx hb hts hiX4 hown hE.1 hP 0 rfl rfl 1 (by decide) f7 (fun _ h9 => h9) rfl dX4_goesBy_89 ?_
        refine lv_bipush (v := (nI 6)) hx hb dX4_goesBy_92 (by decide) ?_
        refine lv_iconst (v := (nI 0)) hx hb dX4_goesBy_94 (by decide) ?_
        refine k_iast (f := (Mtk (ms m9))) (ws1 := (wM g a (sMs m9 (upd (Mtk (ms m9)) 6 (nI 0))))) hx hb hE hP hD hS 1 rfl 6 rfl (by decide) (by decide) rfl dX4_goesBy_95 (fun H locs hP hD hS => ?_)
        refine lv_aload_n hx hb dX4_goesBy_96 rfl (lv_at hl 1 rfl) ?_
        refine va_get (D := g.1) (ci := 4) (v := .ref (a 1)) (C := RX4) (T := TX4) (N := 12) hx hb hts hiX4 hown hE.1 hP 0 rfl rfl 1 (by decide) f7 (fun _ h9 => h9) rfl dX4_goesBy_97 ?_
        refine lv_bipush (v := (nI 10)) hx hb dX4_goesBy_100 (by decide) ?_
        refine lv_dup2_11 hx hb dX4_goesBy_102 rfl rfl ?_
        refine k_iald (f := (upd (Mtk (ms m9)) 6 (nI 0))) hx hb hE hP 1 rfl 10 rfl (by decide) (by decide) dX4_goesBy_103 ?_
        refine lv_iconst (v := (nI 1)) hx hb dX4_goesBy_104 (by decide) ?_
        refine lv_iadd hx hb dX4_goesBy_105 ?_
        refine k_iast (f := (upd (Mtk (ms m9)) 6 (nI 0))) (ws1 := (wM g a (sMs m9 (upd (upd (Mtk (ms m9)) 6 (nI 0)) 10 (((upd (Mtk (ms m9)) 6 (nI 0)) 10) + (nI 1)))))) hx hb hE hP hD hS 1 rfl 10 rfl (by decide) (by decide) rfl dX4_goesBy_106 (fun H locs hP hD hS => ?_)
        refine lv_iconst (v := (nI 0)) hx hb dX4_goesBy_107 (by decide) ?_
        refine lv_istore_n (lv' := [(2, .int (nI 0)), (1, .int (bI (¬ (Mtk (ms m9)) 6 < (Mdue (Mtk (ms m9)))))), (0, .ref (a 0))]) hx hb dX4_goesBy_108 rfl hl (by decide) rfl (fun ls hl => ?_)
        refine k_loop (N := 48) (Inv := fun (i2 : Nat) (H : Heap) (locs : List Loc) (ls : Array Slot) => va_P g.1 vwCl (wM g a (sMs m9 (MaskN (Mq1 (ms m9)) i2))) H ∧ va_D A (wM g a (sMs m9 (MaskN (Mq1 (ms m9)) i2))) ∧ va_S A s.heap H locs ∧ lv_has ls 3 [(2, .int (nI i2)), (1, .int (bI (¬ (Mtk (ms m9)) 6 < (Mdue (Mtk (ms m9)))))), (0, .ref (a 0))]) 0 (Nat.zero_le _) ⟨hP, hD, hS, lv_sub hl [0, 1, 2] rfl⟩ (fun i2 hle9 ih8 H locs ls hinv => ?_)
        obtain ⟨hP, hD, hS, hl⟩ := hinv
        refine lv_iload_n hx hb dX4_goesBy_109 rfl (lv_at hl 0 rfl) ?_
        refine lv_bipush (v := (nI 48)) hx hb dX4_goesBy_110 (by decide) ?_
        refine k_geN (tgt := 138) hx hb (by omega) (by decide) dX4_goesBy_112 (by decide) (fun c10 => ?_) (fun c10 => ?_)
        ·
          obtain rfl : 48 = i2 := by omega
          refine lv_iload_n hx hb dX4_goesBy_138 rfl (lv_at hl 1 rfl) ?_
          have e11 : (sMs m9 (Mgo (ms m9))) = (sMs m9 (MaskN (Mq1 (ms m9)) 48)) := (by first | (simp only [Mgo, if_pos c3, if_neg (not_not_intro c3), if_pos c6, if_neg (not_not_intro c6), if_pos c10, if_neg (not_not_intro c10)]; done) | (simp only [Mgo, if_pos c3, if_neg (not_not_intro c3), if_pos c6, if_neg (not_not_intro c6), if_pos c10, if_neg (not_not_intro c10)]; with_reducible rfl) | with_reducible rfl | (simp [Mgo, if_pos c3, if_neg (not_not_intro c3), if_pos c6, if_neg (not_not_intro c6), if_pos c10, if_neg (not_not_intro c10)]; done))
          have hP : va_P g.1 vwCl (wM g a (sMs m9 (Mgo (ms m9)))) H := by rw [e11]; exact hP
          have hD : va_D A (wM g a (sMs m9 (Mgo (ms m9)))) := by rw [e11]; exact hD
          exact k_iret hx hb hr hlocks bI_nar (by first | (simp only [Mgo, bI, if_pos c3, if_neg (not_not_intro c3), if_pos c6, if_neg (not_not_intro c6), if_pos c10, if_neg (not_not_intro c10)]; done) | (simp only [Mgo, bI, if_pos c3, if_neg (not_not_intro c3), if_pos c6, if_neg (not_not_intro c6), if_pos c10, if_neg (not_not_intro c10)]; with_reducible rfl) | with_reducible rfl | (simp [Mgo, bI, if_pos c3, if_neg (not_not_intro c3), if_pos c6, if_neg (not_not_intro c6), if_pos c10, if_neg (not_not_intro c10)]; done)) hP hD hS (Nat.le_of_ble_eq_true rfl) (Nat.le_of_ble_eq_true rfl) dX4_goesBy_139
        ·
          refine lv_aload_n hx hb dX4_goesBy_115 rfl (lv_at hl 2 rfl) ?_
          refine va_get (D := g.1) (ci := 4) (v := .ref (a 1)) (C := RX4) (T := TX4) (N := 12) hx hb hts hiX4 hown hE.1 hP 0 rfl rfl 1 (by decide) f7 (fun _ h9 => h9) rfl dX4_goesBy_116 ?_
          refine lv_bipush (v := (nI 21)) hx hb dX4_goesBy_119 (by decide) ?_
          refine lv_iload_n hx hb dX4_goesBy_121 rfl (lv_at hl 0 rfl) ?_
          refine lv_iadd hx hb dX4_goesBy_122 ?_
          refine k_top (nI_add _ _) ?_
          refine k_iald (f := (MaskN (Mq1 (ms m9)) i2)) hx hb hE hP 1 rfl (21 + i2) rfl (by omega) (by decide) dX4_goesBy_123 ?_
          refine lv_if_le (tgt := 132) hx hb dX4_goesBy_124 (by decide) (fun c12 => ?_) (fun c12 => ?_)
          ·
            refine lv_iinc (v := (nI (i2 + 1))) (lv' := [(2, .int (nI (i2 + 1))), (1, .int (bI (¬ (Mtk (ms m9)) 6 < (Mdue (Mtk (ms m9)))))), (0, .ref (a 0))]) hx hb dX4_goesBy_132 hl (k := 0) rfl (k_inc1 _) (by decide) rfl (fun ls hl => ?_)
            refine lv_goto (tgt := 109) hx hb dX4_goesBy_135 (by decide) ?_
            have e13 : (sMs m9 (MaskN (Mq1 (ms m9)) (i2 + 1))) = (sMs m9 (MaskN (Mq1 (ms m9)) i2)) := (by first | (simp only [Mgo, MaskN, if_pos c3, if_neg (not_not_intro c3), if_pos c6, if_neg (not_not_intro c6), if_neg (Nat.not_le.mpr c10), if_pos (Nat.not_le.mpr c10), if_pos c12, if_neg (not_not_intro c12)]; done) | (simp only [Mgo, MaskN, if_pos c3, if_neg (not_not_intro c3), if_pos c6, if_neg (not_not_intro c6), if_neg (Nat.not_le.mpr c10), if_pos (Nat.not_le.mpr c10), if_pos c12, if_neg (not_not_intro c12)]; with_reducible rfl) | with_reducible rfl | (simp [Mgo, MaskN, if_pos c3, if_neg (not_not_intro c3), if_pos c6, if_neg (not_not_intro c6), if_neg (Nat.not_le.mpr c10), if_pos (Nat.not_le.mpr c10), if_pos c12, if_neg (not_not_intro c12)]; done))
            exact ih8 _ _ _ (by omega) ⟨(by rw [e13]; exact hP), (by rw [e13]; exact hD), hS, lv_sub hl [0, 1, 2] rfl⟩
          ·
            refine lv_aload_n hx hb dX4_goesBy_127 rfl (lv_at hl 2 rfl) ?_
            refine lv_iload_n hx hb dX4_goesBy_128 rfl (lv_at hl 0 rfl) ?_
            refine k_Vv (As := [.int (nI i2)]) hF (c_X4_calls l g a (sMs m9 (MaskN (Mq1 (ms m9)) i2)) i2 (by omega)) (cwV 1 hts gX4_goesBy_X4_calls rfl rfl rfl (by decide +kernel) ⟨Nat.le_of_ble_eq_true rfl, Nat.le_of_ble_eq_true rfl⟩) hE hP hD hS hA (k_pall _) ((k_pall _).symm) 0 rfl rfl rfl rfl hl.1 rfl (Nat.le_of_ble_eq_true rfl) dX4_goesBy_129 ⟨Nat.le_of_ble_eq_true rfl, Nat.le_of_ble_eq_true rfl⟩ (fun H locs hP hD hS => ?_)
            have hP : va_P g.1 vwCl (wM g a (sMs m9 (Mcalls i2 (MaskN (Mq1 (ms m9)) i2)))) _ := hP
            have hD : va_D A (wM g a (sMs m9 (Mcalls i2 (MaskN (Mq1 (ms m9)) i2)))) := hD
            refine lv_iinc (v := (nI (i2 + 1))) (lv' := [(2, .int (nI (i2 + 1))), (1, .int (bI (¬ (Mtk (ms m9)) 6 < (Mdue (Mtk (ms m9)))))), (0, .ref (a 0))]) hx hb dX4_goesBy_132 hl (k := 0) rfl (k_inc1 _) (by decide) rfl (fun ls hl => ?_)
            refine lv_goto (tgt := 109) hx hb dX4_goesBy_135 (by decide) ?_
            have e14 : (sMs m9 (MaskN (Mq1 (ms m9)) (i2 + 1))) = (sMs m9 (Mcalls i2 (MaskN (Mq1 (ms m9)) i2))) := (by first | (simp only [Mgo, MaskN, if_pos c3, if_neg (not_not_intro c3), if_pos c6, if_neg (not_not_intro c6), if_neg (Nat.not_le.mpr c10), if_pos (Nat.not_le.mpr c10), if_neg c12, if_pos c12]; done) | (simp only [Mgo, MaskN, if_pos c3, if_neg (not_not_intro c3), if_pos c6, if_neg (not_not_intro c6), if_neg (Nat.not_le.mpr c10), if_pos (Nat.not_le.mpr c10), if_neg c12, if_pos c12]; with_reducible rfl) | with_reducible rfl | (simp [Mgo, MaskN, if_pos c3, if_neg (not_not_intro c3), if_pos c6, if_neg (not_not_intro c6), if_neg (Nat.not_le.mpr c10), if_pos (Nat.not_le.mpr c10), if_neg c12, if_pos c12]; done))
            exact ih8 _ _ _ (by omega) ⟨(by rw [e14]; exact hP), (by rw [e14]; exact hD), hS, lv_sub hl [0, 1, 2] rfl⟩
  ·
    refine lv_aload_n hx hb dX4_goesBy_8 rfl (lv_at hl 1 rfl) ?_
    refine va_get (D := g.1) (ci := 4) (v := .ref (a 1)) (C := RX4) (T := TX4) (N := 12) hx hb hts hiX4 hown hE.1 hP 0 rfl rfl 1 (by decide) f7 (fun _ h9 => h9) rfl dX4_goesBy_9 ?_
    refine lv_bipush (v := (nI 69)) hx hb dX4_goesBy_12 (by decide) ?_
    refine lv_iload_n hx hb dX4_goesBy_14 rfl (lv_at hl 0 rfl) ?_
    refine lv_iadd hx hb dX4_goesBy_15 ?_
    refine k_top (nI_add _ _) ?_
    refine lv_dup2_11 hx hb dX4_goesBy_16 rfl rfl ?_
    refine k_iald (f := (MfadeN (ms m9) i)) hx hb hE hP 1 rfl (69 + i) rfl (by omega) (by decide) dX4_goesBy_17 ?_
    refine lv_aload_n hx hb dX4_goesBy_18 rfl (lv_at hl 1 rfl) ?_
    refine va_get (D := g.1) (ci := 4) (v := .ref (a 1)) (C := RX4) (T := TX4) (N := 12) hx hb hts hiX4 hown hE.1 hP 0 rfl rfl 1 (by decide) f7 (fun _ h9 => h9) rfl dX4_goesBy_19 ?_
    refine lv_bipush (v := (nI 69)) hx hb dX4_goesBy_22 (by decide) ?_
    refine lv_iload_n hx hb dX4_goesBy_24 rfl (lv_at hl 0 rfl) ?_
    refine lv_iadd hx hb dX4_goesBy_25 ?_
    refine k_top (nI_add _ _) ?_
    refine k_iald (f := (MfadeN (ms m9) i)) hx hb hE hP 1 rfl (69 + i) rfl (by omega) (by decide) dX4_goesBy_26 ?_
    refine k_meet (x := .int (bI (¬ ((MfadeN (ms m9) i) (69 + i)) ≤ 0))) (pj := 35) (rest := [.int ((MfadeN (ms m9) i) (69 + i)), .int (nI (69 + i)), .ref (a 1)]) (fun J15 => ?_) ?_
    ·
      refine lv_if_le (tgt := 34) hx hb dX4_goesBy_27 (by decide) (fun c16 => ?_) (fun c16 => ?_)
      ·
        refine lv_iconst (v := (nI 0)) hx hb dX4_goesBy_34 (by decide) ?_
        exact k_top (by first | (simp only [Mgo, bI, if_neg (Nat.not_le.mpr c3), if_pos (Nat.not_le.mpr c3), if_pos c16, if_neg (not_not_intro c16)]; done) | (simp only [Mgo, bI, if_neg (Nat.not_le.mpr c3), if_pos (Nat.not_le.mpr c3), if_pos c16, if_neg (not_not_intro c16)]; with_reducible rfl) | with_reducible rfl | (simp [Mgo, bI, if_neg (Nat.not_le.mpr c3), if_pos (Nat.not_le.mpr c3), if_pos c16, if_neg (not_not_intro c16)]; done)) J15
      ·
        refine lv_iconst (v := (nI 1)) hx hb dX4_goesBy_30 (by decide) ?_
        refine lv_goto (tgt := 35) hx hb dX4_goesBy_31 (by decide) ?_
        exact k_top (by first | (simp only [Mgo, bI, if_neg (Nat.not_le.mpr c3), if_pos (Nat.not_le.mpr c3), if_neg c16, if_pos c16]; done) | (simp only [Mgo, bI, if_neg (Nat.not_le.mpr c3), if_pos (Nat.not_le.mpr c3), if_neg c16, if_pos c16]; with_reducible rfl) | with_reducible rfl | (simp [Mgo, bI, if_neg (Nat.not_le.mpr c3), if_pos (Nat.not_le.mpr c3), if_neg c16, if_pos c16]; done)) J15
    ·
      refine lv_isub hx hb dX4_goesBy_35 ?_
      refine k_iast (f := (MfadeN (ms m9) i)) (ws1 := (wM g a (sMs m9 (upd (MfadeN (ms m9) i) (69 + i) (((MfadeN (ms m9) i) (69 + i)) - (bI (¬ ((MfadeN (ms m9) i) (69 + i)) ≤ 0))))))) hx hb hE hP hD hS 1 rfl (69 + i) rfl (by omega) (by decide) rfl dX4_goesBy_36 (fun H locs hP hD hS => ?_)
      refine lv_iinc (v := (nI (i + 1))) (lv' := [(1, .int (nI (i + 1))), (0, .ref (a 0))]) hx hb dX4_goesBy_37 hl (k := 0) rfl (k_inc1 _) (by decide) rfl (fun ls hl => ?_)
      refine lv_goto (tgt := 2) hx hb dX4_goesBy_40 (by decide) ?_
      have e17 : (sMs m9 (MfadeN (ms m9) (i + 1))) = (sMs m9 (upd (MfadeN (ms m9) i) (69 + i) (((MfadeN (ms m9) i) (69 + i)) - (bI (¬ ((MfadeN (ms m9) i) (69 + i)) ≤ 0))))) := (by first | (simp only [Mgo, MfadeN, if_neg (Nat.not_le.mpr c3), if_pos (Nat.not_le.mpr c3)]; done) | (simp only [Mgo, MfadeN, if_neg (Nat.not_le.mpr c3), if_pos (Nat.not_le.mpr c3)]; with_reducible rfl) | with_reducible rfl | (simp [Mgo, MfadeN, if_neg (Nat.not_le.mpr c3), if_pos (Nat.not_le.mpr c3)]; done))
      exact ih1 _ _ _ (by omega) ⟨(by rw [e17]; exact hP), (by rw [e17]; exact hD), hS, lv_sub hl [0, 1] rfl⟩
set_option maxHeartbeats 4000000 in
set_option maxRecDepth 100000 in
theorem zz5 (l : Launch) (g : kG) (a : Nat → Nat) (m9 : MSt) : KI l yX4_goesBy wsX4_goesBy ({ frames := 2, cells := 0, slots := 0, locals := 40 }) g [.ref (a 0)] (wM g a m9) (bI (Masks (ms m9))) (wM g a (sMs m9 (Mgo (ms m9)))) 0 0 := by
  refine k_begin (cc := cX4_goesBy) (maxL := 3) (ret := (some .boolean)) (Qc := fun A => kQi g (bI (Masks (ms m9))) (wM g a (sMs m9 (Mgo (ms m9)))) A) (by decide) rfl (Nat.le_of_ble_eq_true rfl) ?_
  intro p e s m below meth c A ls hF hr hlocks hin hE hP hD hS hA hl
  obtain ⟨hx, hb, hml, hown, hts⟩ := id hF
  have hown : s.vm.findClass RX4 = some m.cls := hown
  have hl : lv_has ls 3 [(0, .ref (a 0))] := hl
  have hiX4 : ∀ w ∈ wsX40, w ∈ wsX4_goesBy := fun _ h => List.mem_cons_of_mem _ (List.mem_append_right _ (h))
  have f7 : (Cond.fieldLink RX4 7 "ConcertUsherModel" "s" "[I").before _ s = true := hts _ (List.mem_of_getElem? (i := 1) rfl)
  refine lv_iconst (v := (nI 0)) hx hb dX4_goesBy_0 (by decide) ?_
  refine lv_istore_n (lv' := [(1, .int (nI 0)), (0, .ref (a 0))]) hx hb dX4_goesBy_1 rfl hl (by decide) rfl (fun ls hl => ?_)
  refine k_loop (N := 48) (Inv := fun (i : Nat) (H : Heap) (locs : List Loc) (ls : Array Slot) => va_P g.1 vwCl (wM g a (sMs m9 (MfadeN (ms m9) i))) H ∧ va_D A (wM g a (sMs m9 (MfadeN (ms m9) i))) ∧ va_S A s.heap H locs ∧ lv_has ls 3 [(1, .int (nI i)), (0, .ref (a 0))]) 0 (Nat.zero_le _) ⟨hP, hD, hS, lv_sub hl [0, 1] rfl⟩ (fun i hle2 ih1 H locs ls hinv => ?_)
  obtain ⟨hP, hD, hS, hl⟩ := hinv
  refine lv_iload_n hx hb dX4_goesBy_2 rfl (lv_at hl 0 rfl) ?_
  refine lv_bipush (v := (nI 48)) hx hb dX4_goesBy_3 (by decide) ?_
  refine k_geN (tgt := 43) hx hb (by omega) (by decide) dX4_goesBy_5 (by decide) (fun c3 => ?_) (fun c3 => ?_)
  ·
    obtain rfl : 48 = i := by omega
    refine lv_aload_n hx hb dX4_goesBy_43 rfl (lv_at hl 1 rfl) ?_
    refine va_get (D := g.1) (ci := 4) (v := .ref (a 1)) (C := RX4) (T := TX4) (N := 12) hx hb hts hiX4 hown hE.1 hP 0 rfl rfl 1 (by decide) f7 (fun _ h9 => h9) rfl dX4_goesBy_44 ?_
    refine lv_iconst (v := (nI 5)) hx hb dX4_goesBy_47 (by decide) ?_
    refine lv_dup2_11 hx hb dX4_goesBy_48 rfl rfl ?_
    refine k_iald (f := (MfadeN (ms m9) 48)) hx hb hE hP 1 rfl 5 rfl (by decide) (by decide) dX4_goesBy_49 ?_
    refine lv_iconst (v := (nI 1)) hx hb dX4_goesBy_50 (by decide) ?_
    refine lv_iadd hx hb dX4_goesBy_51 ?_
    refine k_iast (f := (MfadeN (ms m9) 48)) (ws1 := (wM g a (sMs m9 (upd (MfadeN (ms m9) 48) 5 (((MfadeN (ms m9) 48) 5) + (nI 1)))))) hx hb hE hP hD hS 1 rfl 5 rfl (by decide) (by decide) rfl dX4_goesBy_52 (fun H locs hP hD hS => ?_)
    refine lv_aload_n hx hb dX4_goesBy_53 rfl (lv_at hl 1 rfl) ?_
    refine va_get (D := g.1) (ci := 4) (v := .ref (a 1)) (C := RX4) (T := TX4) (N := 12) hx hb hts hiX4 hown hE.1 hP 0 rfl rfl 1 (by decide) f7 (fun _ h9 => h9) rfl dX4_goesBy_54 ?_
    refine lv_bipush (v := (nI 6)) hx hb dX4_goesBy_57 (by decide) ?_
    refine lv_dup2_11 hx hb dX4_goesBy_59 rfl rfl ?_
    refine k_iald (f := (upd (MfadeN (ms m9) 48) 5 (((MfadeN (ms m9) 48) 5) + (nI 1)))) hx hb hE hP 1 rfl 6 rfl (by decide) (by decide) dX4_goesBy_60 ?_
    refine lv_iconst (v := (nI 1)) hx hb dX4_goesBy_61 (by decide) ?_
    refine lv_iadd hx hb dX4_goesBy_62 ?_
    refine k_iast (f := (upd (MfadeN (ms m9) 48) 5 (((MfadeN (ms m9) 48) 5) + (nI 1)))) (ws1 := (wM g a (sMs m9 (upd (upd (MfadeN (ms m9) 48) 5 (((MfadeN (ms m9) 48) 5) + (nI 1))) 6 (((upd (MfadeN (ms m9) 48) 5 (((MfadeN (ms m9) 48) 5) + (nI 1))) 6) + (nI 1)))))) hx hb hE hP hD hS 1 rfl 6 rfl (by decide) (by decide) rfl dX4_goesBy_63 (fun H locs hP hD hS => ?_)
    have hMt : (upd (upd (MfadeN (ms m9) 48) 5 (((MfadeN (ms m9) 48) 5) + (nI 1))) 6 (((upd (MfadeN (ms m9) 48) 5 (((MfadeN (ms m9) 48) 5) + (nI 1))) 6) + (nI 1))) = Mtk (ms m9) := by unfold Mtk Mt1; rfl
    rw [hMt] at hP hD
    refine lv_aload_n hx hb dX4_goesBy_64 rfl (lv_at hl 1 rfl) ?_
    refine va_get (D := g.1) (ci := 4) (v := .ref (a 1)) (C := RX4) (T := TX4) (N := 12) hx hb hts hiX4 hown hE.1 hP 0 rfl rfl 1 (by decide) f7 (fun _ h9 => h9) rfl dX4_goesBy_65 ?_
    refine lv_bipush (v := (nI 6)) hx hb dX4_goesBy_68 (by decide) ?_
    refine k_iald (f := (Mtk (ms m9))) hx hb hE hP 1 rfl 6 rfl (by decide) (by decide) dX4_goesBy_70 ?_
    refine lv_aload_n hx hb dX4_goesBy_71 rfl (lv_at hl 1 rfl) ?_
    refine k_Vi (As := []) (r := (Mdue (Mtk (ms m9)))) hF (c_X4_due l g a (sMs m9 (Mtk (ms m9)))) (cwV 0 hts gX4_goesBy_X4_due rfl rfl rfl (by decide +kernel) ⟨Nat.le_of_ble_eq_true rfl, Nat.le_of_ble_eq_true rfl⟩) hE hP hD hS hA (k_pall _) ((k_pall _).symm) 0 rfl rfl rfl rfl hl.1 rfl (Nat.le_of_ble_eq_true rfl) dX4_goesBy_72 ⟨Nat.le_of_ble_eq_true rfl, Nat.le_of_ble_eq_true rfl⟩ (fun H locs hP hD hS => ?_)
    have hP : va_P g.1 vwCl (wM g a (sMs m9 (Mtk (ms m9)))) _ := hP
    have hD : va_D A (wM g a (sMs m9 (Mtk (ms m9)))) := hD
    refine k_meet (x := .int (bI (¬ (Mtk (ms m9)) 6 < (Mdue (Mtk (ms m9)))))) (pj := 83) (rest := []) (fun J4 => ?_) ?_
    ·
      refine lv_icmp_lt (tgt := 82) hx hb dX4_goesBy_75 (by decide) (fun c5 => ?_) (fun c5 => ?_)
      ·
        refine lv_iconst (v := (nI 0)) hx hb dX4_goesBy_82 (by decide) ?_
        exact k_top (by first | (simp only [Mgo, bI, if_pos c3, if_neg (not_not_intro c3), if_pos c5, if_neg (not_not_intro c5)]; done) | (simp only [Mgo, bI, if_pos c3, if_neg (not_not_intro c3), if_pos c5, if_neg (not_not_intro c5)]; with_reducible rfl) | with_reducible rfl | (simp [Mgo, bI, if_pos c3, if_neg (not_not_intro c3), if_pos c5, if_neg (not_not_intro c5)]; done)) J4
      ·
        refine lv_iconst (v := (nI 1)) hx hb dX4_goesBy_78 (by decide) ?_
        refine lv_goto (tgt := 83) hx hb dX4_goesBy_79 (by decide) ?_
        exact k_top (by first | (simp only [Mgo, bI, if_pos c3, if_neg (not_not_intro c3), if_neg c5, if_pos c5]; done) | (simp only [Mgo, bI, if_pos c3, if_neg (not_not_intro c3), if_neg c5, if_pos c5]; with_reducible rfl) | with_reducible rfl | (simp [Mgo, bI, if_pos c3, if_neg (not_not_intro c3), if_neg c5, if_pos c5]; done)) J4
    ·
      refine lv_istore_n (lv' := [(1, .int (bI (¬ (Mtk (ms m9)) 6 < (Mdue (Mtk (ms m9)))))), (0, .ref (a 0))]) hx hb dX4_goesBy_83 rfl hl (by decide) rfl (fun ls hl => ?_)
      refine lv_iload_n hx hb dX4_goesBy_84 rfl (lv_at hl 0 rfl) ?_
      sorry
  ·
    refine lv_aload_n hx hb dX4_goesBy_8 rfl (lv_at hl 1 rfl) ?_
    refine va_get (D := g.1) (ci := 4) (v := .ref (a 1)) (C := RX4) (T := TX4) (N := 12) hx hb hts hiX4 hown hE.1 hP 0 rfl rfl 1 (by decide) f7 (fun _ h9 => h9) rfl dX4_goesBy_9 ?_
    refine lv_bipush (v := (nI 69)) hx hb dX4_goesBy_12 (by decide) ?_
    refine lv_iload_n hx hb dX4_goesBy_14 rfl (lv_at hl 0 rfl) ?_
    refine lv_iadd hx hb dX4_goesBy_15 ?_
    refine k_top (nI_add _ _) ?_
    refine lv_dup2_11 hx hb dX4_goesBy_16 rfl rfl ?_
    refine k_iald (f := (MfadeN (ms m9) i)) hx hb hE hP 1 rfl (69 + i) rfl (by omega) (by decide) dX4_goesBy_17 ?_
    refine lv_aload_n hx hb dX4_goesBy_18 rfl (lv_at hl 1 rfl) ?_
    refine va_get (D := g.1) (ci := 4) (v := .ref (a 1)) (C := RX4) (T := TX4) (N := 12) hx hb hts hiX4 hown hE.1 hP 0 rfl rfl 1 (by decide) f7 (fun _ h9 => h9) rfl dX4_goesBy_19 ?_
    refine lv_bipush (v := (nI 69)) hx hb dX4_goesBy_22 (by decide) ?_
    refine lv_iload_n hx hb dX4_goesBy_24 rfl (lv_at hl 0 rfl) ?_
    refine lv_iadd hx hb dX4_goesBy_25 ?_
    refine k_top (nI_add _ _) ?_
    refine k_iald (f := (MfadeN (ms m9) i)) hx hb hE hP 1 rfl (69 + i) rfl (by omega) (by decide) dX4_goesBy_26 ?_
    refine k_meet (x := .int (bI (¬ ((MfadeN (ms m9) i) (69 + i)) ≤ 0))) (pj := 35) (rest := [.int ((MfadeN (ms m9) i) (69 + i)), .int (nI (69 + i)), .ref (a 1)]) (fun J15 => ?_) ?_
    ·
      refine lv_if_le (tgt := 34) hx hb dX4_goesBy_27 (by decide) (fun c16 => ?_) (fun c16 => ?_)
      ·
        refine lv_iconst (v := (nI 0)) hx hb dX4_goesBy_34 (by decide) ?_
        exact k_top (by first | (simp only [Mgo, bI, if_neg (Nat.not_le.mpr c3), if_pos (Nat.not_le.mpr c3), if_pos c16, if_neg (not_not_intro c16)]; done) | (simp only [Mgo, bI, if_neg (Nat.not_le.mpr c3), if_pos (Nat.not_le.mpr c3), if_pos c16, if_neg (not_not_intro c16)]; with_reducible rfl) | with_reducible rfl | (simp [Mgo, bI, if_neg (Nat.not_le.mpr c3), if_pos (Nat.not_le.mpr c3), if_pos c16, if_neg (not_not_intro c16)]; done)) J15
      ·
        refine lv_iconst (v := (nI 1)) hx hb dX4_goesBy_30 (by decide) ?_
        refine lv_goto (tgt := 35) hx hb dX4_goesBy_31 (by decide) ?_
        exact k_top (by first | (simp only [Mgo, bI, if_neg (Nat.not_le.mpr c3), if_pos (Nat.not_le.mpr c3), if_neg c16, if_pos c16]; done) | (simp only [Mgo, bI, if_neg (Nat.not_le.mpr c3), if_pos (Nat.not_le.mpr c3), if_neg c16, if_pos c16]; with_reducible rfl) | with_reducible rfl | (simp [Mgo, bI, if_neg (Nat.not_le.mpr c3), if_pos (Nat.not_le.mpr c3), if_neg c16, if_pos c16]; done)) J15
    ·
      refine lv_isub hx hb dX4_goesBy_35 ?_
      refine k_iast (f := (MfadeN (ms m9) i)) (ws1 := (wM g a (sMs m9 (upd (MfadeN (ms m9) i) (69 + i) (((MfadeN (ms m9) i) (69 + i)) - (bI (¬ ((MfadeN (ms m9) i) (69 + i)) ≤ 0))))))) hx hb hE hP hD hS 1 rfl (69 + i) rfl (by omega) (by decide) rfl dX4_goesBy_36 (fun H locs hP hD hS => ?_)
      refine lv_iinc (v := (nI (i + 1))) (lv' := [(1, .int (nI (i + 1))), (0, .ref (a 0))]) hx hb dX4_goesBy_37 hl (k := 0) rfl (k_inc1 _) (by decide) rfl (fun ls hl => ?_)
      refine lv_goto (tgt := 2) hx hb dX4_goesBy_40 (by decide) ?_
      have e17 : (sMs m9 (MfadeN (ms m9) (i + 1))) = (sMs m9 (upd (MfadeN (ms m9) i) (69 + i) (((MfadeN (ms m9) i) (69 + i)) - (bI (¬ ((MfadeN (ms m9) i) (69 + i)) ≤ 0))))) := (by first | (simp only [Mgo, MfadeN, if_neg (Nat.not_le.mpr c3), if_pos (Nat.not_le.mpr c3)]; done) | (simp only [Mgo, MfadeN, if_neg (Nat.not_le.mpr c3), if_pos (Nat.not_le.mpr c3)]; with_reducible rfl) | with_reducible rfl | (simp [Mgo, MfadeN, if_neg (Nat.not_le.mpr c3), if_pos (Nat.not_le.mpr c3)]; done))
      exact ih1 _ _ _ (by omega) ⟨(by rw [e17]; exact hP), (by rw [e17]; exact hD), hS, lv_sub hl [0, 1] rfl⟩
set_option maxHeartbeats 4000000 in
set_option maxRecDepth 100000 in
theorem zz6 (l : Launch) (g : kG) (a : Nat → Nat) (m9 : MSt) : KI l yX4_goesBy wsX4_goesBy ({ frames := 2, cells := 0, slots := 0, locals := 40 }) g [.ref (a 0)] (wM g a m9) (bI (Masks (ms m9))) (wM g a (sMs m9 (Mgo (ms m9)))) 0 0 := by
  refine k_begin (cc := cX4_goesBy) (maxL := 3) (ret := (some .boolean)) (Qc := fun A => kQi g (bI (Masks (ms m9))) (wM g a (sMs m9 (Mgo (ms m9)))) A) (by decide) rfl (Nat.le_of_ble_eq_true rfl) ?_
  intro p e s m below meth c A ls hF hr hlocks hin hE hP hD hS hA hl
  obtain ⟨hx, hb, hml, hown, hts⟩ := id hF
  have hown : s.vm.findClass RX4 = some m.cls := hown
  have hl : lv_has ls 3 [(0, .ref (a 0))] := hl
  have hiX4 : ∀ w ∈ wsX40, w ∈ wsX4_goesBy := fun _ h => List.mem_cons_of_mem _ (List.mem_append_right _ (h))
  have f7 : (Cond.fieldLink RX4 7 "ConcertUsherModel" "s" "[I").before _ s = true := hts _ (List.mem_of_getElem? (i := 1) rfl)
  refine lv_iconst (v := (nI 0)) hx hb dX4_goesBy_0 (by decide) ?_
  refine lv_istore_n (lv' := [(1, .int (nI 0)), (0, .ref (a 0))]) hx hb dX4_goesBy_1 rfl hl (by decide) rfl (fun ls hl => ?_)
  refine k_loop (N := 48) (Inv := fun (i : Nat) (H : Heap) (locs : List Loc) (ls : Array Slot) => va_P g.1 vwCl (wM g a (sMs m9 (MfadeN (ms m9) i))) H ∧ va_D A (wM g a (sMs m9 (MfadeN (ms m9) i))) ∧ va_S A s.heap H locs ∧ lv_has ls 3 [(1, .int (nI i)), (0, .ref (a 0))]) 0 (Nat.zero_le _) ⟨hP, hD, hS, lv_sub hl [0, 1] rfl⟩ (fun i hle2 ih1 H locs ls hinv => ?_)
  obtain ⟨hP, hD, hS, hl⟩ := hinv
  refine lv_iload_n hx hb dX4_goesBy_2 rfl (lv_at hl 0 rfl) ?_
  refine lv_bipush (v := (nI 48)) hx hb dX4_goesBy_3 (by decide) ?_
  refine k_geN (tgt := 43) hx hb (by omega) (by decide) dX4_goesBy_5 (by decide) (fun c3 => ?_) (fun c3 => ?_)
  ·
    obtain rfl : 48 = i := by omega
    refine lv_aload_n hx hb dX4_goesBy_43 rfl (lv_at hl 1 rfl) ?_
    refine va_get (D := g.1) (ci := 4) (v := .ref (a 1)) (C := RX4) (T := TX4) (N := 12) hx hb hts hiX4 hown hE.1 hP 0 rfl rfl 1 (by decide) f7 (fun _ h9 => h9) rfl dX4_goesBy_44 ?_
    refine lv_iconst (v := (nI 5)) hx hb dX4_goesBy_47 (by decide) ?_
    refine lv_dup2_11 hx hb dX4_goesBy_48 rfl rfl ?_
    refine k_iald (f := (MfadeN (ms m9) 48)) hx hb hE hP 1 rfl 5 rfl (by decide) (by decide) dX4_goesBy_49 ?_
    refine lv_iconst (v := (nI 1)) hx hb dX4_goesBy_50 (by decide) ?_
    refine lv_iadd hx hb dX4_goesBy_51 ?_
    refine k_iast (f := (MfadeN (ms m9) 48)) (ws1 := (wM g a (sMs m9 (upd (MfadeN (ms m9) 48) 5 (((MfadeN (ms m9) 48) 5) + (nI 1)))))) hx hb hE hP hD hS 1 rfl 5 rfl (by decide) (by decide) rfl dX4_goesBy_52 (fun H locs hP hD hS => ?_)
    refine lv_aload_n hx hb dX4_goesBy_53 rfl (lv_at hl 1 rfl) ?_
    refine va_get (D := g.1) (ci := 4) (v := .ref (a 1)) (C := RX4) (T := TX4) (N := 12) hx hb hts hiX4 hown hE.1 hP 0 rfl rfl 1 (by decide) f7 (fun _ h9 => h9) rfl dX4_goesBy_54 ?_
    refine lv_bipush (v := (nI 6)) hx hb dX4_goesBy_57 (by decide) ?_
    refine lv_dup2_11 hx hb dX4_goesBy_59 rfl rfl ?_
    refine k_iald (f := (upd (MfadeN (ms m9) 48) 5 (((MfadeN (ms m9) 48) 5) + (nI 1)))) hx hb hE hP 1 rfl 6 rfl (by decide) (by decide) dX4_goesBy_60 ?_
    refine lv_iconst (v := (nI 1)) hx hb dX4_goesBy_61 (by decide) ?_
    refine lv_iadd hx hb dX4_goesBy_62 ?_
    refine k_iast (f := (upd (MfadeN (ms m9) 48) 5 (((MfadeN (ms m9) 48) 5) + (nI 1)))) (ws1 := (wM g a (sMs m9 (upd (upd (MfadeN (ms m9) 48) 5 (((MfadeN (ms m9) 48) 5) + (nI 1))) 6 (((upd (MfadeN (ms m9) 48) 5 (((MfadeN (ms m9) 48) 5) + (nI 1))) 6) + (nI 1)))))) hx hb hE hP hD hS 1 rfl 6 rfl (by decide) (by decide) rfl dX4_goesBy_63 (fun H locs hP hD hS => ?_)
    have hMt : (upd (upd (MfadeN (ms m9) 48) 5 (((MfadeN (ms m9) 48) 5) + (nI 1))) 6 (((upd (MfadeN (ms m9) 48) 5 (((MfadeN (ms m9) 48) 5) + (nI 1))) 6) + (nI 1))) = Mtk (ms m9) := by unfold Mtk Mt1; rfl
    rw [hMt] at hP hD
    refine lv_aload_n hx hb dX4_goesBy_64 rfl (lv_at hl 1 rfl) ?_
    refine va_get (D := g.1) (ci := 4) (v := .ref (a 1)) (C := RX4) (T := TX4) (N := 12) hx hb hts hiX4 hown hE.1 hP 0 rfl rfl 1 (by decide) f7 (fun _ h9 => h9) rfl dX4_goesBy_65 ?_
    refine lv_bipush (v := (nI 6)) hx hb dX4_goesBy_68 (by decide) ?_
    refine k_iald (f := (Mtk (ms m9))) hx hb hE hP 1 rfl 6 rfl (by decide) (by decide) dX4_goesBy_70 ?_
    refine lv_aload_n hx hb dX4_goesBy_71 rfl (lv_at hl 1 rfl) ?_
    refine k_Vi (As := []) (r := (Mdue (Mtk (ms m9)))) hF (c_X4_due l g a (sMs m9 (Mtk (ms m9)))) (cwV 0 hts gX4_goesBy_X4_due rfl rfl rfl (by decide +kernel) ⟨Nat.le_of_ble_eq_true rfl, Nat.le_of_ble_eq_true rfl⟩) hE hP hD hS hA (k_pall _) ((k_pall _).symm) 0 rfl rfl rfl rfl hl.1 rfl (Nat.le_of_ble_eq_true rfl) dX4_goesBy_72 ⟨Nat.le_of_ble_eq_true rfl, Nat.le_of_ble_eq_true rfl⟩ (fun H locs hP hD hS => ?_)
    have hP : va_P g.1 vwCl (wM g a (sMs m9 (Mtk (ms m9)))) _ := hP
    have hD : va_D A (wM g a (sMs m9 (Mtk (ms m9)))) := hD
    refine k_meet (x := .int (bI (¬ (Mtk (ms m9)) 6 < (Mdue (Mtk (ms m9)))))) (pj := 83) (rest := []) (fun J4 => ?_) ?_
    ·
      refine lv_icmp_lt (tgt := 82) hx hb dX4_goesBy_75 (by decide) (fun c5 => ?_) (fun c5 => ?_)
      ·
        refine lv_iconst (v := (nI 0)) hx hb dX4_goesBy_82 (by decide) ?_
        exact k_top (by first | (simp only [Mgo, bI, if_pos c3, if_neg (not_not_intro c3), if_pos c5, if_neg (not_not_intro c5)]; done) | (simp only [Mgo, bI, if_pos c3, if_neg (not_not_intro c3), if_pos c5, if_neg (not_not_intro c5)]; with_reducible rfl) | with_reducible rfl | (simp [Mgo, bI, if_pos c3, if_neg (not_not_intro c3), if_pos c5, if_neg (not_not_intro c5)]; done)) J4
      ·
        refine lv_iconst (v := (nI 1)) hx hb dX4_goesBy_78 (by decide) ?_
        refine lv_goto (tgt := 83) hx hb dX4_goesBy_79 (by decide) ?_
        exact k_top (by first | (simp only [Mgo, bI, if_pos c3, if_neg (not_not_intro c3), if_neg c5, if_pos c5]; done) | (simp only [Mgo, bI, if_pos c3, if_neg (not_not_intro c3), if_neg c5, if_pos c5]; with_reducible rfl) | with_reducible rfl | (simp [Mgo, bI, if_pos c3, if_neg (not_not_intro c3), if_neg c5, if_pos c5]; done)) J4
    ·
      refine lv_istore_n (lv' := [(1, .int (bI (¬ (Mtk (ms m9)) 6 < (Mdue (Mtk (ms m9)))))), (0, .ref (a 0))]) hx hb dX4_goesBy_83 rfl hl (by decide) rfl (fun ls hl => ?_)
      refine lv_iload_n hx hb dX4_goesBy_84 rfl (lv_at hl 0 rfl) ?_
      refine k_ifeqB (tgt := 138) hx hb dX4_goesBy_85 (by decide) (fun c6 => ?_) (fun c6 => ?_)
      ·
        refine lv_iload_n hx hb dX4_goesBy_138 rfl (lv_at hl 0 rfl) ?_
        have e7 : (sMs m9 (Mgo (ms m9))) = (sMs m9 (Mtk (ms m9))) := (by first | (simp only [Mgo, if_pos c3, if_neg (not_not_intro c3), if_neg c6, if_pos c6]; done) | (simp only [Mgo, if_pos c3, if_neg (not_not_intro c3), if_neg c6, if_pos c6]; with_reducible rfl) | with_reducible rfl | (simp [Mgo, if_pos c3, if_neg (not_not_intro c3), if_neg c6, if_pos c6]; done))
        have hP : va_P g.1 vwCl (wM g a (sMs m9 (Mgo (ms m9)))) H := by rw [e7]; exact hP
        have hD : va_D A (wM g a (sMs m9 (Mgo (ms m9)))) := by rw [e7]; exact hD
        exact k_iret hx hb hr hlocks bI_nar (by first | (simp only [Mgo, bI, if_pos c3, if_neg (not_not_intro c3), if_neg c6, if_pos c6]; done) | (simp only [Mgo, bI, if_pos c3, if_neg (not_not_intro c3), if_neg c6, if_pos c6]; with_reducible rfl) | with_reducible rfl | (simp [Mgo, bI, if_pos c3, if_neg (not_not_intro c3), if_neg c6, if_pos c6]; done)) hP hD hS (Nat.le_of_ble_eq_true rfl) (Nat.le_of_ble_eq_true rfl) dX4_goesBy_139
      ·
        refine lv_aload_n hx hb dX4_goesBy_88 rfl (lv_at hl 1 rfl) ?_
        refine va_get (D := g.1) (ci := 4) (v := .ref (a 1)) (C := RX4) (T := TX4) (N := 12) hx hb hts hiX4 hown hE.1 hP 0 rfl rfl 1 (by decide) f7 (fun _ h9 => h9) rfl dX4_goesBy_89 ?_
        refine lv_bipush (v := (nI 6)) hx hb dX4_goesBy_92 (by decide) ?_
        refine lv_iconst (v := (nI 0)) hx hb dX4_goesBy_94 (by decide) ?_
        refine k_iast (f := (Mtk (ms m9))) (ws1 := (wM g a (sMs m9 (upd (Mtk (ms m9)) 6 (nI 0))))) hx hb hE hP hD hS 1 rfl 6 rfl (by decide) (by decide) rfl dX4_goesBy_95 (fun H locs hP hD hS => ?_)
        refine lv_aload_n hx hb dX4_goesBy_96 rfl (lv_at hl 1 rfl) ?_
        refine va_get (D := g.1) (ci := 4) (v := .ref (a 1)) (C := RX4) (T := TX4) (N := 12) hx hb hts hiX4 hown hE.1 hP 0 rfl rfl 1 (by decide) f7 (fun _ h9 => h9) rfl dX4_goesBy_97 ?_
        refine lv_bipush (v := (nI 10)) hx hb dX4_goesBy_100 (by decide) ?_
        refine lv_dup2_11 hx hb dX4_goesBy_102 rfl rfl ?_
        refine k_iald (f := (upd (Mtk (ms m9)) 6 (nI 0))) hx hb hE hP 1 rfl 10 rfl (by decide) (by decide) dX4_goesBy_103 ?_
        refine lv_iconst (v := (nI 1)) hx hb dX4_goesBy_104 (by decide) ?_
        refine lv_iadd hx hb dX4_goesBy_105 ?_
        refine k_iast (f := (upd (Mtk (ms m9)) 6 (nI 0))) (ws1 := (wM g a (sMs m9 (upd (upd (Mtk (ms m9)) 6 (nI 0)) 10 (((upd (Mtk (ms m9)) 6 (nI 0)) 10) + (nI 1)))))) hx hb hE hP hD hS 1 rfl 10 rfl (by decide) (by decide) rfl dX4_goesBy_106 (fun H locs hP hD hS => ?_)
        sorry
  ·
    refine lv_aload_n hx hb dX4_goesBy_8 rfl (lv_at hl 1 rfl) ?_
    refine va_get (D := g.1) (ci := 4) (v := .ref (a 1)) (C := RX4) (T := TX4) (N := 12) hx hb hts hiX4 hown hE.1 hP 0 rfl rfl 1 (by decide) f7 (fun _ h9 => h9) rfl dX4_goesBy_9 ?_
    refine lv_bipush (v := (nI 69)) hx hb dX4_goesBy_12 (by decide) ?_
    refine lv_iload_n hx hb dX4_goesBy_14 rfl (lv_at hl 0 rfl) ?_
    refine lv_iadd hx hb dX4_goesBy_15 ?_
    refine k_top (nI_add _ _) ?_
    refine lv_dup2_11 hx hb dX4_goesBy_16 rfl rfl ?_
    refine k_iald (f := (MfadeN (ms m9) i)) hx hb hE hP 1 rfl (69 + i) rfl (by omega) (by decide) dX4_goesBy_17 ?_
    refine lv_aload_n hx hb dX4_goesBy_18 rfl (lv_at hl 1 rfl) ?_
    refine va_get (D := g.1) (ci := 4) (v := .ref (a 1)) (C := RX4) (T := TX4) (N := 12) hx hb hts hiX4 hown hE.1 hP 0 rfl rfl 1 (by decide) f7 (fun _ h9 => h9) rfl dX4_goesBy_19 ?_
    refine lv_bipush (v := (nI 69)) hx hb dX4_goesBy_22 (by decide) ?_
    refine lv_iload_n hx hb dX4_goesBy_24 rfl (lv_at hl 0 rfl) ?_
    refine lv_iadd hx hb dX4_goesBy_25 ?_
    refine k_top (nI_add _ _) ?_
    refine k_iald (f := (MfadeN (ms m9) i)) hx hb hE hP 1 rfl (69 + i) rfl (by omega) (by decide) dX4_goesBy_26 ?_
    refine k_meet (x := .int (bI (¬ ((MfadeN (ms m9) i) (69 + i)) ≤ 0))) (pj := 35) (rest := [.int ((MfadeN (ms m9) i) (69 + i)), .int (nI (69 + i)), .ref (a 1)]) (fun J15 => ?_) ?_
    ·
      refine lv_if_le (tgt := 34) hx hb dX4_goesBy_27 (by decide) (fun c16 => ?_) (fun c16 => ?_)
      ·
        refine lv_iconst (v := (nI 0)) hx hb dX4_goesBy_34 (by decide) ?_
        exact k_top (by first | (simp only [Mgo, bI, if_neg (Nat.not_le.mpr c3), if_pos (Nat.not_le.mpr c3), if_pos c16, if_neg (not_not_intro c16)]; done) | (simp only [Mgo, bI, if_neg (Nat.not_le.mpr c3), if_pos (Nat.not_le.mpr c3), if_pos c16, if_neg (not_not_intro c16)]; with_reducible rfl) | with_reducible rfl | (simp [Mgo, bI, if_neg (Nat.not_le.mpr c3), if_pos (Nat.not_le.mpr c3), if_pos c16, if_neg (not_not_intro c16)]; done)) J15
      ·
        refine lv_iconst (v := (nI 1)) hx hb dX4_goesBy_30 (by decide) ?_
        refine lv_goto (tgt := 35) hx hb dX4_goesBy_31 (by decide) ?_
        exact k_top (by first | (simp only [Mgo, bI, if_neg (Nat.not_le.mpr c3), if_pos (Nat.not_le.mpr c3), if_neg c16, if_pos c16]; done) | (simp only [Mgo, bI, if_neg (Nat.not_le.mpr c3), if_pos (Nat.not_le.mpr c3), if_neg c16, if_pos c16]; with_reducible rfl) | with_reducible rfl | (simp [Mgo, bI, if_neg (Nat.not_le.mpr c3), if_pos (Nat.not_le.mpr c3), if_neg c16, if_pos c16]; done)) J15
    ·
      refine lv_isub hx hb dX4_goesBy_35 ?_
      refine k_iast (f := (MfadeN (ms m9) i)) (ws1 := (wM g a (sMs m9 (upd (MfadeN (ms m9) i) (69 + i) (((MfadeN (ms m9) i) (69 + i)) - (bI (¬ ((MfadeN (ms m9) i) (69 + i)) ≤ 0))))))) hx hb hE hP hD hS 1 rfl (69 + i) rfl (by omega) (by decide) rfl dX4_goesBy_36 (fun H locs hP hD hS => ?_)
      refine lv_iinc (v := (nI (i + 1))) (lv' := [(1, .int (nI (i + 1))), (0, .ref (a 0))]) hx hb dX4_goesBy_37 hl (k := 0) rfl (k_inc1 _) (by decide) rfl (fun ls hl => ?_)
      refine lv_goto (tgt := 2) hx hb dX4_goesBy_40 (by decide) ?_
      have e17 : (sMs m9 (MfadeN (ms m9) (i + 1))) = (sMs m9 (upd (MfadeN (ms m9) i) (69 + i) (((MfadeN (ms m9) i) (69 + i)) - (bI (¬ ((MfadeN (ms m9) i) (69 + i)) ≤ 0))))) := (by first | (simp only [Mgo, MfadeN, if_neg (Nat.not_le.mpr c3), if_pos (Nat.not_le.mpr c3)]; done) | (simp only [Mgo, MfadeN, if_neg (Nat.not_le.mpr c3), if_pos (Nat.not_le.mpr c3)]; with_reducible rfl) | with_reducible rfl | (simp [Mgo, MfadeN, if_neg (Nat.not_le.mpr c3), if_pos (Nat.not_le.mpr c3)]; done))
      exact ih1 _ _ _ (by omega) ⟨(by rw [e17]; exact hP), (by rw [e17]; exact hD), hS, lv_sub hl [0, 1] rfl⟩
set_option maxHeartbeats 4000000 in
set_option maxRecDepth 100000 in
theorem zz7 (l : Launch) (g : kG) (a : Nat → Nat) (m9 : MSt) : KI l yX4_goesBy wsX4_goesBy ({ frames := 2, cells := 0, slots := 0, locals := 40 }) g [.ref (a 0)] (wM g a m9) (bI (Masks (ms m9))) (wM g a (sMs m9 (Mgo (ms m9)))) 0 0 := by
  refine k_begin (cc := cX4_goesBy) (maxL := 3) (ret := (some .boolean)) (Qc := fun A => kQi g (bI (Masks (ms m9))) (wM g a (sMs m9 (Mgo (ms m9)))) A) (by decide) rfl (Nat.le_of_ble_eq_true rfl) ?_
  intro p e s m below meth c A ls hF hr hlocks hin hE hP hD hS hA hl
  obtain ⟨hx, hb, hml, hown, hts⟩ := id hF
  have hown : s.vm.findClass RX4 = some m.cls := hown
  have hl : lv_has ls 3 [(0, .ref (a 0))] := hl
  have hiX4 : ∀ w ∈ wsX40, w ∈ wsX4_goesBy := fun _ h => List.mem_cons_of_mem _ (List.mem_append_right _ (h))
  have f7 : (Cond.fieldLink RX4 7 "ConcertUsherModel" "s" "[I").before _ s = true := hts _ (List.mem_of_getElem? (i := 1) rfl)
  refine lv_iconst (v := (nI 0)) hx hb dX4_goesBy_0 (by decide) ?_
  refine lv_istore_n (lv' := [(1, .int (nI 0)), (0, .ref (a 0))]) hx hb dX4_goesBy_1 rfl hl (by decide) rfl (fun ls hl => ?_)
  refine k_loop (N := 48) (Inv := fun (i : Nat) (H : Heap) (locs : List Loc) (ls : Array Slot) => va_P g.1 vwCl (wM g a (sMs m9 (MfadeN (ms m9) i))) H ∧ va_D A (wM g a (sMs m9 (MfadeN (ms m9) i))) ∧ va_S A s.heap H locs ∧ lv_has ls 3 [(1, .int (nI i)), (0, .ref (a 0))]) 0 (Nat.zero_le _) ⟨hP, hD, hS, lv_sub hl [0, 1] rfl⟩ (fun i hle2 ih1 H locs ls hinv => ?_)
  obtain ⟨hP, hD, hS, hl⟩ := hinv
  refine lv_iload_n hx hb dX4_goesBy_2 rfl (lv_at hl 0 rfl) ?_
  refine lv_bipush (v := (nI 48)) hx hb dX4_goesBy_3 (by decide) ?_
  refine k_geN (tgt := 43) hx hb (by omega) (by decide) dX4_goesBy_5 (by decide) (fun c3 => ?_) (fun c3 => ?_)
  ·
    obtain rfl : 48 = i := by omega
    refine lv_aload_n hx hb dX4_goesBy_43 rfl (lv_at hl 1 rfl) ?_
    refine va_get (D := g.1) (ci := 4) (v := .ref (a 1)) (C := RX4) (T := TX4) (N := 12) hx hb hts hiX4 hown hE.1 hP 0 rfl rfl 1 (by decide) f7 (fun _ h9 => h9) rfl dX4_goesBy_44 ?_
    refine lv_iconst (v := (nI 5)) hx hb dX4_goesBy_47 (by decide) ?_
    refine lv_dup2_11 hx hb dX4_goesBy_48 rfl rfl ?_
    refine k_iald (f := (MfadeN (ms m9) 48)) hx hb hE hP 1 rfl 5 rfl (by decide) (by decide) dX4_goesBy_49 ?_
    refine lv_iconst (v := (nI 1)) hx hb dX4_goesBy_50 (by decide) ?_
    refine lv_iadd hx hb dX4_goesBy_51 ?_
    refine k_iast (f := (MfadeN (ms m9) 48)) (ws1 := (wM g a (sMs m9 (upd (MfadeN (ms m9) 48) 5 (((MfadeN (ms m9) 48) 5) + (nI 1)))))) hx hb hE hP hD hS 1 rfl 5 rfl (by decide) (by decide) rfl dX4_goesBy_52 (fun H locs hP hD hS => ?_)
    refine lv_aload_n hx hb dX4_goesBy_53 rfl (lv_at hl 1 rfl) ?_
    refine va_get (D := g.1) (ci := 4) (v := .ref (a 1)) (C := RX4) (T := TX4) (N := 12) hx hb hts hiX4 hown hE.1 hP 0 rfl rfl 1 (by decide) f7 (fun _ h9 => h9) rfl dX4_goesBy_54 ?_
    refine lv_bipush (v := (nI 6)) hx hb dX4_goesBy_57 (by decide) ?_
    refine lv_dup2_11 hx hb dX4_goesBy_59 rfl rfl ?_
    refine k_iald (f := (upd (MfadeN (ms m9) 48) 5 (((MfadeN (ms m9) 48) 5) + (nI 1)))) hx hb hE hP 1 rfl 6 rfl (by decide) (by decide) dX4_goesBy_60 ?_
    refine lv_iconst (v := (nI 1)) hx hb dX4_goesBy_61 (by decide) ?_
    refine lv_iadd hx hb dX4_goesBy_62 ?_
    refine k_iast (f := (upd (MfadeN (ms m9) 48) 5 (((MfadeN (ms m9) 48) 5) + (nI 1)))) (ws1 := (wM g a (sMs m9 (upd (upd (MfadeN (ms m9) 48) 5 (((MfadeN (ms m9) 48) 5) + (nI 1))) 6 (((upd (MfadeN (ms m9) 48) 5 (((MfadeN (ms m9) 48) 5) + (nI 1))) 6) + (nI 1)))))) hx hb hE hP hD hS 1 rfl 6 rfl (by decide) (by decide) rfl dX4_goesBy_63 (fun H locs hP hD hS => ?_)
    have hMt : (upd (upd (MfadeN (ms m9) 48) 5 (((MfadeN (ms m9) 48) 5) + (nI 1))) 6 (((upd (MfadeN (ms m9) 48) 5 (((MfadeN (ms m9) 48) 5) + (nI 1))) 6) + (nI 1))) = Mtk (ms m9) := by unfold Mtk Mt1; rfl
    rw [hMt] at hP hD
    refine lv_aload_n hx hb dX4_goesBy_64 rfl (lv_at hl 1 rfl) ?_
    refine va_get (D := g.1) (ci := 4) (v := .ref (a 1)) (C := RX4) (T := TX4) (N := 12) hx hb hts hiX4 hown hE.1 hP 0 rfl rfl 1 (by decide) f7 (fun _ h9 => h9) rfl dX4_goesBy_65 ?_
    refine lv_bipush (v := (nI 6)) hx hb dX4_goesBy_68 (by decide) ?_
    refine k_iald (f := (Mtk (ms m9))) hx hb hE hP 1 rfl 6 rfl (by decide) (by decide) dX4_goesBy_70 ?_
    refine lv_aload_n hx hb dX4_goesBy_71 rfl (lv_at hl 1 rfl) ?_
    refine k_Vi (As := []) (r := (Mdue (Mtk (ms m9)))) hF (c_X4_due l g a (sMs m9 (Mtk (ms m9)))) (cwV 0 hts gX4_goesBy_X4_due rfl rfl rfl (by decide +kernel) ⟨Nat.le_of_ble_eq_true rfl, Nat.le_of_ble_eq_true rfl⟩) hE hP hD hS hA (k_pall _) ((k_pall _).symm) 0 rfl rfl rfl rfl hl.1 rfl (Nat.le_of_ble_eq_true rfl) dX4_goesBy_72 ⟨Nat.le_of_ble_eq_true rfl, Nat.le_of_ble_eq_true rfl⟩ (fun H locs hP hD hS => ?_)
    have hP : va_P g.1 vwCl (wM g a (sMs m9 (Mtk (ms m9)))) _ := hP
    have hD : va_D A (wM g a (sMs m9 (Mtk (ms m9)))) := hD
    refine k_meet (x := .int (bI (¬ (Mtk (ms m9)) 6 < (Mdue (Mtk (ms m9)))))) (pj := 83) (rest := []) (fun J4 => ?_) ?_
    ·
      refine lv_icmp_lt (tgt := 82) hx hb dX4_goesBy_75 (by decide) (fun c5 => ?_) (fun c5 => ?_)
      ·
        refine lv_iconst (v := (nI 0)) hx hb dX4_goesBy_82 (by decide) ?_
        exact k_top (by first | (simp only [Mgo, bI, if_pos c3, if_neg (not_not_intro c3), if_pos c5, if_neg (not_not_intro c5)]; done) | (simp only [Mgo, bI, if_pos c3, if_neg (not_not_intro c3), if_pos c5, if_neg (not_not_intro c5)]; with_reducible rfl) | with_reducible rfl | (simp [Mgo, bI, if_pos c3, if_neg (not_not_intro c3), if_pos c5, if_neg (not_not_intro c5)]; done)) J4
      ·
        refine lv_iconst (v := (nI 1)) hx hb dX4_goesBy_78 (by decide) ?_
        refine lv_goto (tgt := 83) hx hb dX4_goesBy_79 (by decide) ?_
        exact k_top (by first | (simp only [Mgo, bI, if_pos c3, if_neg (not_not_intro c3), if_neg c5, if_pos c5]; done) | (simp only [Mgo, bI, if_pos c3, if_neg (not_not_intro c3), if_neg c5, if_pos c5]; with_reducible rfl) | with_reducible rfl | (simp [Mgo, bI, if_pos c3, if_neg (not_not_intro c3), if_neg c5, if_pos c5]; done)) J4
    ·
      refine lv_istore_n (lv' := [(1, .int (bI (¬ (Mtk (ms m9)) 6 < (Mdue (Mtk (ms m9)))))), (0, .ref (a 0))]) hx hb dX4_goesBy_83 rfl hl (by decide) rfl (fun ls hl => ?_)
      refine lv_iload_n hx hb dX4_goesBy_84 rfl (lv_at hl 0 rfl) ?_
      refine k_ifeqB (tgt := 138) hx hb dX4_goesBy_85 (by decide) (fun c6 => ?_) (fun c6 => ?_)
      ·
        refine lv_iload_n hx hb dX4_goesBy_138 rfl (lv_at hl 0 rfl) ?_
        have e7 : (sMs m9 (Mgo (ms m9))) = (sMs m9 (Mtk (ms m9))) := (by first | (simp only [Mgo, if_pos c3, if_neg (not_not_intro c3), if_neg c6, if_pos c6]; done) | (simp only [Mgo, if_pos c3, if_neg (not_not_intro c3), if_neg c6, if_pos c6]; with_reducible rfl) | with_reducible rfl | (simp [Mgo, if_pos c3, if_neg (not_not_intro c3), if_neg c6, if_pos c6]; done))
        have hP : va_P g.1 vwCl (wM g a (sMs m9 (Mgo (ms m9)))) H := by rw [e7]; exact hP
        have hD : va_D A (wM g a (sMs m9 (Mgo (ms m9)))) := by rw [e7]; exact hD
        exact k_iret hx hb hr hlocks bI_nar (by first | (simp only [Mgo, bI, if_pos c3, if_neg (not_not_intro c3), if_neg c6, if_pos c6]; done) | (simp only [Mgo, bI, if_pos c3, if_neg (not_not_intro c3), if_neg c6, if_pos c6]; with_reducible rfl) | with_reducible rfl | (simp [Mgo, bI, if_pos c3, if_neg (not_not_intro c3), if_neg c6, if_pos c6]; done)) hP hD hS (Nat.le_of_ble_eq_true rfl) (Nat.le_of_ble_eq_true rfl) dX4_goesBy_139
      ·
        refine lv_aload_n hx hb dX4_goesBy_88 rfl (lv_at hl 1 rfl) ?_
        refine va_get (D := g.1) (ci := 4) (v := .ref (a 1)) (C := RX4) (T := TX4) (N := 12) hx hb hts hiX4 hown hE.1 hP 0 rfl rfl 1 (by decide) f7 (fun _ h9 => h9) rfl dX4_goesBy_89 ?_
        refine lv_bipush (v := (nI 6)) hx hb dX4_goesBy_92 (by decide) ?_
        refine lv_iconst (v := (nI 0)) hx hb dX4_goesBy_94 (by decide) ?_
        refine k_iast (f := (Mtk (ms m9))) (ws1 := (wM g a (sMs m9 (upd (Mtk (ms m9)) 6 (nI 0))))) hx hb hE hP hD hS 1 rfl 6 rfl (by decide) (by decide) rfl dX4_goesBy_95 (fun H locs hP hD hS => ?_)
        refine lv_aload_n hx hb dX4_goesBy_96 rfl (lv_at hl 1 rfl) ?_
        refine va_get (D := g.1) (ci := 4) (v := .ref (a 1)) (C := RX4) (T := TX4) (N := 12) hx hb hts hiX4 hown hE.1 hP 0 rfl rfl 1 (by decide) f7 (fun _ h9 => h9) rfl dX4_goesBy_97 ?_
        refine lv_bipush (v := (nI 10)) hx hb dX4_goesBy_100 (by decide) ?_
        refine lv_dup2_11 hx hb dX4_goesBy_102 rfl rfl ?_
        refine k_iald (f := (upd (Mtk (ms m9)) 6 (nI 0))) hx hb hE hP 1 rfl 10 rfl (by decide) (by decide) dX4_goesBy_103 ?_
        refine lv_iconst (v := (nI 1)) hx hb dX4_goesBy_104 (by decide) ?_
        refine lv_iadd hx hb dX4_goesBy_105 ?_
        refine k_iast (f := (upd (Mtk (ms m9)) 6 (nI 0))) (ws1 := (wM g a (sMs m9 (upd (upd (Mtk (ms m9)) 6 (nI 0)) 10 (((upd (Mtk (ms m9)) 6 (nI 0)) 10) + (nI 1)))))) hx hb hE hP hD hS 1 rfl 10 rfl (by decide) (by decide) rfl dX4_goesBy_106 (fun H locs hP hD hS => ?_)
        refine lv_iconst (v := (nI 0)) hx hb dX4_goesBy_107 (by decide) ?_
        refine lv_istore_n (lv' := [(2, .int (nI 0)), (1, .int (bI (¬ (Mtk (ms m9)) 6 < (Mdue (Mtk (ms m9)))))), (0, .ref (a 0))]) hx hb dX4_goesBy_108 rfl hl (by decide) rfl (fun ls hl => ?_)
        refine k_loop (N := 48) (Inv := fun (i2 : Nat) (H : Heap) (locs : List Loc) (ls : Array Slot) => va_P g.1 vwCl (wM g a (sMs m9 (MaskN (Mq1 (ms m9)) i2))) H ∧ va_D A (wM g a (sMs m9 (MaskN (Mq1 (ms m9)) i2))) ∧ va_S A s.heap H locs ∧ lv_has ls 3 [(2, .int (nI i2)), (1, .int (bI (¬ (Mtk (ms m9)) 6 < (Mdue (Mtk (ms m9)))))), (0, .ref (a 0))]) 0 (Nat.zero_le _) ⟨hP, hD, hS, lv_sub hl [0, 1, 2] rfl⟩ (fun i2 hle9 ih8 H locs ls hinv => ?_)
        obtain ⟨hP, hD, hS, hl⟩ := hinv
        sorry
  ·
    refine lv_aload_n hx hb dX4_goesBy_8 rfl (lv_at hl 1 rfl) ?_
    refine va_get (D := g.1) (ci := 4) (v := .ref (a 1)) (C := RX4) (T := TX4) (N := 12) hx hb hts hiX4 hown hE.1 hP 0 rfl rfl 1 (by decide) f7 (fun _ h9 => h9) rfl dX4_goesBy_9 ?_
    refine lv_bipush (v := (nI 69)) hx hb dX4_goesBy_12 (by decide) ?_
    refine lv_iload_n hx hb dX4_goesBy_14 rfl (lv_at hl 0 rfl) ?_
    refine lv_iadd hx hb dX4_goesBy_15 ?_
    refine k_top (nI_add _ _) ?_
    refine lv_dup2_11 hx hb dX4_goesBy_16 rfl rfl ?_
    refine k_iald (f := (MfadeN (ms m9) i)) hx hb hE hP 1 rfl (69 + i) rfl (by omega) (by decide) dX4_goesBy_17 ?_
    refine lv_aload_n hx hb dX4_goesBy_18 rfl (lv_at hl 1 rfl) ?_
    refine va_get (D := g.1) (ci := 4) (v := .ref (a 1)) (C := RX4) (T := TX4) (N := 12) hx hb hts hiX4 hown hE.1 hP 0 rfl rfl 1 (by decide) f7 (fun _ h9 => h9) rfl dX4_goesBy_19 ?_
    refine lv_bipush (v := (nI 69)) hx hb dX4_goesBy_22 (by decide) ?_
    refine lv_iload_n hx hb dX4_goesBy_24 rfl (lv_at hl 0 rfl) ?_
    refine lv_iadd hx hb dX4_goesBy_25 ?_
    refine k_top (nI_add _ _) ?_
    refine k_iald (f := (MfadeN (ms m9) i)) hx hb hE hP 1 rfl (69 + i) rfl (by omega) (by decide) dX4_goesBy_26 ?_
    refine k_meet (x := .int (bI (¬ ((MfadeN (ms m9) i) (69 + i)) ≤ 0))) (pj := 35) (rest := [.int ((MfadeN (ms m9) i) (69 + i)), .int (nI (69 + i)), .ref (a 1)]) (fun J15 => ?_) ?_
    ·
      refine lv_if_le (tgt := 34) hx hb dX4_goesBy_27 (by decide) (fun c16 => ?_) (fun c16 => ?_)
      ·
        refine lv_iconst (v := (nI 0)) hx hb dX4_goesBy_34 (by decide) ?_
        exact k_top (by first | (simp only [Mgo, bI, if_neg (Nat.not_le.mpr c3), if_pos (Nat.not_le.mpr c3), if_pos c16, if_neg (not_not_intro c16)]; done) | (simp only [Mgo, bI, if_neg (Nat.not_le.mpr c3), if_pos (Nat.not_le.mpr c3), if_pos c16, if_neg (not_not_intro c16)]; with_reducible rfl) | with_reducible rfl | (simp [Mgo, bI, if_neg (Nat.not_le.mpr c3), if_pos (Nat.not_le.mpr c3), if_pos c16, if_neg (not_not_intro c16)]; done)) J15
      ·
        refine lv_iconst (v := (nI 1)) hx hb dX4_goesBy_30 (by decide) ?_
        refine lv_goto (tgt := 35) hx hb dX4_goesBy_31 (by decide) ?_
        exact k_top (by first | (simp only [Mgo, bI, if_neg (Nat.not_le.mpr c3), if_pos (Nat.not_le.mpr c3), if_neg c16, if_pos c16]; done) | (simp only [Mgo, bI, if_neg (Nat.not_le.mpr c3), if_pos (Nat.not_le.mpr c3), if_neg c16, if_pos c16]; with_reducible rfl) | with_reducible rfl | (simp [Mgo, bI, if_neg (Nat.not_le.mpr c3), if_pos (Nat.not_le.mpr c3), if_neg c16, if_pos c16]; done)) J15
    ·
      refine lv_isub hx hb dX4_goesBy_35 ?_
      refine k_iast (f := (MfadeN (ms m9) i)) (ws1 := (wM g a (sMs m9 (upd (MfadeN (ms m9) i) (69 + i) (((MfadeN (ms m9) i) (69 + i)) - (bI (¬ ((MfadeN (ms m9) i) (69 + i)) ≤ 0))))))) hx hb hE hP hD hS 1 rfl (69 + i) rfl (by omega) (by decide) rfl dX4_goesBy_36 (fun H locs hP hD hS => ?_)
      refine lv_iinc (v := (nI (i + 1))) (lv' := [(1, .int (nI (i + 1))), (0, .ref (a 0))]) hx hb dX4_goesBy_37 hl (k := 0) rfl (k_inc1 _) (by decide) rfl (fun ls hl => ?_)
      refine lv_goto (tgt := 2) hx hb dX4_goesBy_40 (by decide) ?_
      have e17 : (sMs m9 (MfadeN (ms m9) (i + 1))) = (sMs m9 (upd (MfadeN (ms m9) i) (69 + i) (((MfadeN (ms m9) i) (69 + i)) - (bI (¬ ((MfadeN (ms m9) i) (69 + i)) ≤ 0))))) := (by first | (simp only [Mgo, MfadeN, if_neg (Nat.not_le.mpr c3), if_pos (Nat.not_le.mpr c3)]; done) | (simp only [Mgo, MfadeN, if_neg (Nat.not_le.mpr c3), if_pos (Nat.not_le.mpr c3)]; with_reducible rfl) | with_reducible rfl | (simp [Mgo, MfadeN, if_neg (Nat.not_le.mpr c3), if_pos (Nat.not_le.mpr c3)]; done))
      exact ih1 _ _ _ (by omega) ⟨(by rw [e17]; exact hP), (by rw [e17]; exact hD), hS, lv_sub hl [0, 1] rfl⟩
set_option maxHeartbeats 4000000 in
set_option maxRecDepth 100000 in
theorem zz8 (l : Launch) (g : kG) (a : Nat → Nat) (m9 : MSt) : KI l yX4_goesBy wsX4_goesBy ({ frames := 2, cells := 0, slots := 0, locals := 40 }) g [.ref (a 0)] (wM g a m9) (bI (Masks (ms m9))) (wM g a (sMs m9 (Mgo (ms m9)))) 0 0 := by
  refine k_begin (cc := cX4_goesBy) (maxL := 3) (ret := (some .boolean)) (Qc := fun A => kQi g (bI (Masks (ms m9))) (wM g a (sMs m9 (Mgo (ms m9)))) A) (by decide) rfl (Nat.le_of_ble_eq_true rfl) ?_
  intro p e s m below meth c A ls hF hr hlocks hin hE hP hD hS hA hl
  obtain ⟨hx, hb, hml, hown, hts⟩ := id hF
  have hown : s.vm.findClass RX4 = some m.cls := hown
  have hl : lv_has ls 3 [(0, .ref (a 0))] := hl
  have hiX4 : ∀ w ∈ wsX40, w ∈ wsX4_goesBy := fun _ h => List.mem_cons_of_mem _ (List.mem_append_right _ (h))
  have f7 : (Cond.fieldLink RX4 7 "ConcertUsherModel" "s" "[I").before _ s = true := hts _ (List.mem_of_getElem? (i := 1) rfl)
  refine lv_iconst (v := (nI 0)) hx hb dX4_goesBy_0 (by decide) ?_
  refine lv_istore_n (lv' := [(1, .int (nI 0)), (0, .ref (a 0))]) hx hb dX4_goesBy_1 rfl hl (by decide) rfl (fun ls hl => ?_)
  refine k_loop (N := 48) (Inv := fun (i : Nat) (H : Heap) (locs : List Loc) (ls : Array Slot) => va_P g.1 vwCl (wM g a (sMs m9 (MfadeN (ms m9) i))) H ∧ va_D A (wM g a (sMs m9 (MfadeN (ms m9) i))) ∧ va_S A s.heap H locs ∧ lv_has ls 3 [(1, .int (nI i)), (0, .ref (a 0))]) 0 (Nat.zero_le _) ⟨hP, hD, hS, lv_sub hl [0, 1] rfl⟩ (fun i hle2 ih1 H locs ls hinv => ?_)
  obtain ⟨hP, hD, hS, hl⟩ := hinv
  refine lv_iload_n hx hb dX4_goesBy_2 rfl (lv_at hl 0 rfl) ?_
  refine lv_bipush (v := (nI 48)) hx hb dX4_goesBy_3 (by decide) ?_
  refine k_geN (tgt := 43) hx hb (by omega) (by decide) dX4_goesBy_5 (by decide) (fun c3 => ?_) (fun c3 => ?_)
  ·
    obtain rfl : 48 = i := by omega
    refine lv_aload_n hx hb dX4_goesBy_43 rfl (lv_at hl 1 rfl) ?_
    refine va_get (D := g.1) (ci := 4) (v := .ref (a 1)) (C := RX4) (T := TX4) (N := 12) hx hb hts hiX4 hown hE.1 hP 0 rfl rfl 1 (by decide) f7 (fun _ h9 => h9) rfl dX4_goesBy_44 ?_
    refine lv_iconst (v := (nI 5)) hx hb dX4_goesBy_47 (by decide) ?_
    refine lv_dup2_11 hx hb dX4_goesBy_48 rfl rfl ?_
    refine k_iald (f := (MfadeN (ms m9) 48)) hx hb hE hP 1 rfl 5 rfl (by decide) (by decide) dX4_goesBy_49 ?_
    refine lv_iconst (v := (nI 1)) hx hb dX4_goesBy_50 (by decide) ?_
    refine lv_iadd hx hb dX4_goesBy_51 ?_
    refine k_iast (f := (MfadeN (ms m9) 48)) (ws1 := (wM g a (sMs m9 (upd (MfadeN (ms m9) 48) 5 (((MfadeN (ms m9) 48) 5) + (nI 1)))))) hx hb hE hP hD hS 1 rfl 5 rfl (by decide) (by decide) rfl dX4_goesBy_52 (fun H locs hP hD hS => ?_)
    refine lv_aload_n hx hb dX4_goesBy_53 rfl (lv_at hl 1 rfl) ?_
    refine va_get (D := g.1) (ci := 4) (v := .ref (a 1)) (C := RX4) (T := TX4) (N := 12) hx hb hts hiX4 hown hE.1 hP 0 rfl rfl 1 (by decide) f7 (fun _ h9 => h9) rfl dX4_goesBy_54 ?_
    refine lv_bipush (v := (nI 6)) hx hb dX4_goesBy_57 (by decide) ?_
    refine lv_dup2_11 hx hb dX4_goesBy_59 rfl rfl ?_
    refine k_iald (f := (upd (MfadeN (ms m9) 48) 5 (((MfadeN (ms m9) 48) 5) + (nI 1)))) hx hb hE hP 1 rfl 6 rfl (by decide) (by decide) dX4_goesBy_60 ?_
    refine lv_iconst (v := (nI 1)) hx hb dX4_goesBy_61 (by decide) ?_
    refine lv_iadd hx hb dX4_goesBy_62 ?_
    refine k_iast (f := (upd (MfadeN (ms m9) 48) 5 (((MfadeN (ms m9) 48) 5) + (nI 1)))) (ws1 := (wM g a (sMs m9 (upd (upd (MfadeN (ms m9) 48) 5 (((MfadeN (ms m9) 48) 5) + (nI 1))) 6 (((upd (MfadeN (ms m9) 48) 5 (((MfadeN (ms m9) 48) 5) + (nI 1))) 6) + (nI 1)))))) hx hb hE hP hD hS 1 rfl 6 rfl (by decide) (by decide) rfl dX4_goesBy_63 (fun H locs hP hD hS => ?_)
    have hMt : (upd (upd (MfadeN (ms m9) 48) 5 (((MfadeN (ms m9) 48) 5) + (nI 1))) 6 (((upd (MfadeN (ms m9) 48) 5 (((MfadeN (ms m9) 48) 5) + (nI 1))) 6) + (nI 1))) = Mtk (ms m9) := by unfold Mtk Mt1; rfl
    rw [hMt] at hP hD
    refine lv_aload_n hx hb dX4_goesBy_64 rfl (lv_at hl 1 rfl) ?_
    refine va_get (D := g.1) (ci := 4) (v := .ref (a 1)) (C := RX4) (T := TX4) (N := 12) hx hb hts hiX4 hown hE.1 hP 0 rfl rfl 1 (by decide) f7 (fun _ h9 => h9) rfl dX4_goesBy_65 ?_
    refine lv_bipush (v := (nI 6)) hx hb dX4_goesBy_68 (by decide) ?_
    refine k_iald (f := (Mtk (ms m9))) hx hb hE hP 1 rfl 6 rfl (by decide) (by decide) dX4_goesBy_70 ?_
    refine lv_aload_n hx hb dX4_goesBy_71 rfl (lv_at hl 1 rfl) ?_
    refine k_Vi (As := []) (r := (Mdue (Mtk (ms m9)))) hF (c_X4_due l g a (sMs m9 (Mtk (ms m9)))) (cwV 0 hts gX4_goesBy_X4_due rfl rfl rfl (by decide +kernel) ⟨Nat.le_of_ble_eq_true rfl, Nat.le_of_ble_eq_true rfl⟩) hE hP hD hS hA (k_pall _) ((k_pall _).symm) 0 rfl rfl rfl rfl hl.1 rfl (Nat.le_of_ble_eq_true rfl) dX4_goesBy_72 ⟨Nat.le_of_ble_eq_true rfl, Nat.le_of_ble_eq_true rfl⟩ (fun H locs hP hD hS => ?_)
    have hP : va_P g.1 vwCl (wM g a (sMs m9 (Mtk (ms m9)))) _ := hP
    have hD : va_D A (wM g a (sMs m9 (Mtk (ms m9)))) := hD
    refine k_meet (x := .int (bI (¬ (Mtk (ms m9)) 6 < (Mdue (Mtk (ms m9)))))) (pj := 83) (rest := []) (fun J4 => ?_) ?_
    ·
      refine lv_icmp_lt (tgt := 82) hx hb dX4_goesBy_75 (by decide) (fun c5 => ?_) (fun c5 => ?_)
      ·
        refine lv_iconst (v := (nI 0)) hx hb dX4_goesBy_82 (by decide) ?_
        exact k_top (by first | (simp only [Mgo, bI, if_pos c3, if_neg (not_not_intro c3), if_pos c5, if_neg (not_not_intro c5)]; done) | (simp only [Mgo, bI, if_pos c3, if_neg (not_not_intro c3), if_pos c5, if_neg (not_not_intro c5)]; with_reducible rfl) | with_reducible rfl | (simp [Mgo, bI, if_pos c3, if_neg (not_not_intro c3), if_pos c5, if_neg (not_not_intro c5)]; done)) J4
      ·
        refine lv_iconst (v := (nI 1)) hx hb dX4_goesBy_78 (by decide) ?_
        refine lv_goto (tgt := 83) hx hb dX4_goesBy_79 (by decide) ?_
        exact k_top (by first | (simp only [Mgo, bI, if_pos c3, if_neg (not_not_intro c3), if_neg c5, if_pos c5]; done) | (simp only [Mgo, bI, if_pos c3, if_neg (not_not_intro c3), if_neg c5, if_pos c5]; with_reducible rfl) | with_reducible rfl | (simp [Mgo, bI, if_pos c3, if_neg (not_not_intro c3), if_neg c5, if_pos c5]; done)) J4
    ·
      refine lv_istore_n (lv' := [(1, .int (bI (¬ (Mtk (ms m9)) 6 < (Mdue (Mtk (ms m9)))))), (0, .ref (a 0))]) hx hb dX4_goesBy_83 rfl hl (by decide) rfl (fun ls hl => ?_)
      refine lv_iload_n hx hb dX4_goesBy_84 rfl (lv_at hl 0 rfl) ?_
      refine k_ifeqB (tgt := 138) hx hb dX4_goesBy_85 (by decide) (fun c6 => ?_) (fun c6 => ?_)
      ·
        sorry
      ·
        refine lv_aload_n hx hb dX4_goesBy_88 rfl (lv_at hl 1 rfl) ?_
        refine va_get (D := g.1) (ci := 4) (v := .ref (a 1)) (C := RX4) (T := TX4) (N := 12) hx hb hts hiX4 hown hE.1 hP 0 rfl rfl 1 (by decide) f7 (fun _ h9 => h9) rfl dX4_goesBy_89 ?_
        refine lv_bipush (v := (nI 6)) hx hb dX4_goesBy_92 (by decide) ?_
        refine lv_iconst (v := (nI 0)) hx hb dX4_goesBy_94 (by decide) ?_
        refine k_iast (f := (Mtk (ms m9))) (ws1 := (wM g a (sMs m9 (upd (Mtk (ms m9)) 6 (nI 0))))) hx hb hE hP hD hS 1 rfl 6 rfl (by decide) (by decide) rfl dX4_goesBy_95 (fun H locs hP hD hS => ?_)
        refine lv_aload_n hx hb dX4_goesBy_96 rfl (lv_at hl 1 rfl) ?_
        refine va_get (D := g.1) (ci := 4) (v := .ref (a 1)) (C := RX4) (T := TX4) (N := 12) hx hb hts hiX4 hown hE.1 hP 0 rfl rfl 1 (by decide) f7 (fun _ h9 => h9) rfl dX4_goesBy_97 ?_
        refine lv_bipush (v := (nI 10)) hx hb dX4_goesBy_100 (by decide) ?_
        refine lv_dup2_11 hx hb dX4_goesBy_102 rfl rfl ?_
        refine k_iald (f := (upd (Mtk (ms m9)) 6 (nI 0))) hx hb hE hP 1 rfl 10 rfl (by decide) (by decide) dX4_goesBy_103 ?_
        refine lv_iconst (v := (nI 1)) hx hb dX4_goesBy_104 (by decide) ?_
        refine lv_iadd hx hb dX4_goesBy_105 ?_
        refine k_iast (f := (upd (Mtk (ms m9)) 6 (nI 0))) (ws1 := (wM g a (sMs m9 (upd (upd (Mtk (ms m9)) 6 (nI 0)) 10 (((upd (Mtk (ms m9)) 6 (nI 0)) 10) + (nI 1)))))) hx hb hE hP hD hS 1 rfl 10 rfl (by decide) (by decide) rfl dX4_goesBy_106 (fun H locs hP hD hS => ?_)
        refine lv_iconst (v := (nI 0)) hx hb dX4_goesBy_107 (by decide) ?_
        refine lv_istore_n (lv' := [(2, .int (nI 0)), (1, .int (bI (¬ (Mtk (ms m9)) 6 < (Mdue (Mtk (ms m9)))))), (0, .ref (a 0))]) hx hb dX4_goesBy_108 rfl hl (by decide) rfl (fun ls hl => ?_)
        refine k_loop (N := 48) (Inv := fun (i2 : Nat) (H : Heap) (locs : List Loc) (ls : Array Slot) => va_P g.1 vwCl (wM g a (sMs m9 (MaskN (Mq1 (ms m9)) i2))) H ∧ va_D A (wM g a (sMs m9 (MaskN (Mq1 (ms m9)) i2))) ∧ va_S A s.heap H locs ∧ lv_has ls 3 [(2, .int (nI i2)), (1, .int (bI (¬ (Mtk (ms m9)) 6 < (Mdue (Mtk (ms m9)))))), (0, .ref (a 0))]) 0 (Nat.zero_le _) ⟨hP, hD, hS, lv_sub hl [0, 1, 2] rfl⟩ (fun i2 hle9 ih8 H locs ls hinv => ?_)
        obtain ⟨hP, hD, hS, hl⟩ := hinv
        refine lv_iload_n hx hb dX4_goesBy_109 rfl (lv_at hl 0 rfl) ?_
        refine lv_bipush (v := (nI 48)) hx hb dX4_goesBy_110 (by decide) ?_
        refine k_geN (tgt := 138) hx hb (by omega) (by decide) dX4_goesBy_112 (by decide) (fun c10 => ?_) (fun c10 => ?_)
        ·
          obtain rfl : 48 = i2 := by omega
          refine lv_iload_n hx hb dX4_goesBy_138 rfl (lv_at hl 1 rfl) ?_
          have e11 : (sMs m9 (Mgo (ms m9))) = (sMs m9 (MaskN (Mq1 (ms m9)) 48)) := (by first | (simp only [Mgo, if_pos c3, if_neg (not_not_intro c3), if_pos c6, if_neg (not_not_intro c6), if_pos c10, if_neg (not_not_intro c10)]; done) | (simp only [Mgo, if_pos c3, if_neg (not_not_intro c3), if_pos c6, if_neg (not_not_intro c6), if_pos c10, if_neg (not_not_intro c10)]; with_reducible rfl) | with_reducible rfl | (simp [Mgo, if_pos c3, if_neg (not_not_intro c3), if_pos c6, if_neg (not_not_intro c6), if_pos c10, if_neg (not_not_intro c10)]; done))
          have hP : va_P g.1 vwCl (wM g a (sMs m9 (Mgo (ms m9)))) H := by rw [e11]; exact hP
          have hD : va_D A (wM g a (sMs m9 (Mgo (ms m9)))) := by rw [e11]; exact hD
          exact k_iret hx hb hr hlocks bI_nar (by first | (simp only [Mgo, bI, if_pos c3, if_neg (not_not_intro c3), if_pos c6, if_neg (not_not_intro c6), if_pos c10, if_neg (not_not_intro c10)]; done) | (simp only [Mgo, bI, if_pos c3, if_neg (not_not_intro c3), if_pos c6, if_neg (not_not_intro c6), if_pos c10, if_neg (not_not_intro c10)]; with_reducible rfl) | with_reducible rfl | (simp [Mgo, bI, if_pos c3, if_neg (not_not_intro c3), if_pos c6, if_neg (not_not_intro c6), if_pos c10, if_neg (not_not_intro c10)]; done)) hP hD hS (Nat.le_of_ble_eq_true rfl) (Nat.le_of_ble_eq_true rfl) dX4_goesBy_139
        ·
          refine lv_aload_n hx hb dX4_goesBy_115 rfl (lv_at hl 2 rfl) ?_
          refine va_get (D := g.1) (ci := 4) (v := .ref (a 1)) (C := RX4) (T := TX4) (N := 12) hx hb hts hiX4 hown hE.1 hP 0 rfl rfl 1 (by decide) f7 (fun _ h9 => h9) rfl dX4_goesBy_116 ?_
          refine lv_bipush (v := (nI 21)) hx hb dX4_goesBy_119 (by decide) ?_
          refine lv_iload_n hx hb dX4_goesBy_121 rfl (lv_at hl 0 rfl) ?_
          refine lv_iadd hx hb dX4_goesBy_122 ?_
          refine k_top (nI_add _ _) ?_
          refine k_iald (f := (MaskN (Mq1 (ms m9)) i2)) hx hb hE hP 1 rfl (21 + i2) rfl (by omega) (by decide) dX4_goesBy_123 ?_
          refine lv_if_le (tgt := 132) hx hb dX4_goesBy_124 (by decide) (fun c12 => ?_) (fun c12 => ?_)
          ·
            refine lv_iinc (v := (nI (i2 + 1))) (lv' := [(2, .int (nI (i2 + 1))), (1, .int (bI (¬ (Mtk (ms m9)) 6 < (Mdue (Mtk (ms m9)))))), (0, .ref (a 0))]) hx hb dX4_goesBy_132 hl (k := 0) rfl (k_inc1 _) (by decide) rfl (fun ls hl => ?_)
            refine lv_goto (tgt := 109) hx hb dX4_goesBy_135 (by decide) ?_
            have e13 : (sMs m9 (MaskN (Mq1 (ms m9)) (i2 + 1))) = (sMs m9 (MaskN (Mq1 (ms m9)) i2)) := (by first | (simp only [Mgo, MaskN, if_pos c3, if_neg (not_not_intro c3), if_pos c6, if_neg (not_not_intro c6), if_neg (Nat.not_le.mpr c10), if_pos (Nat.not_le.mpr c10), if_pos c12, if_neg (not_not_intro c12)]; done) | (simp only [Mgo, MaskN, if_pos c3, if_neg (not_not_intro c3), if_pos c6, if_neg (not_not_intro c6), if_neg (Nat.not_le.mpr c10), if_pos (Nat.not_le.mpr c10), if_pos c12, if_neg (not_not_intro c12)]; with_reducible rfl) | with_reducible rfl | (simp [Mgo, MaskN, if_pos c3, if_neg (not_not_intro c3), if_pos c6, if_neg (not_not_intro c6), if_neg (Nat.not_le.mpr c10), if_pos (Nat.not_le.mpr c10), if_pos c12, if_neg (not_not_intro c12)]; done))
            exact ih8 _ _ _ (by omega) ⟨(by rw [e13]; exact hP), (by rw [e13]; exact hD), hS, lv_sub hl [0, 1, 2] rfl⟩
          ·
            refine lv_aload_n hx hb dX4_goesBy_127 rfl (lv_at hl 2 rfl) ?_
            refine lv_iload_n hx hb dX4_goesBy_128 rfl (lv_at hl 0 rfl) ?_
            refine k_Vv (As := [.int (nI i2)]) hF (c_X4_calls l g a (sMs m9 (MaskN (Mq1 (ms m9)) i2)) i2 (by omega)) (cwV 1 hts gX4_goesBy_X4_calls rfl rfl rfl (by decide +kernel) ⟨Nat.le_of_ble_eq_true rfl, Nat.le_of_ble_eq_true rfl⟩) hE hP hD hS hA (k_pall _) ((k_pall _).symm) 0 rfl rfl rfl rfl hl.1 rfl (Nat.le_of_ble_eq_true rfl) dX4_goesBy_129 ⟨Nat.le_of_ble_eq_true rfl, Nat.le_of_ble_eq_true rfl⟩ (fun H locs hP hD hS => ?_)
            have hP : va_P g.1 vwCl (wM g a (sMs m9 (Mcalls i2 (MaskN (Mq1 (ms m9)) i2)))) _ := hP
            have hD : va_D A (wM g a (sMs m9 (Mcalls i2 (MaskN (Mq1 (ms m9)) i2)))) := hD
            refine lv_iinc (v := (nI (i2 + 1))) (lv' := [(2, .int (nI (i2 + 1))), (1, .int (bI (¬ (Mtk (ms m9)) 6 < (Mdue (Mtk (ms m9)))))), (0, .ref (a 0))]) hx hb dX4_goesBy_132 hl (k := 0) rfl (k_inc1 _) (by decide) rfl (fun ls hl => ?_)
            refine lv_goto (tgt := 109) hx hb dX4_goesBy_135 (by decide) ?_
            have e14 : (sMs m9 (MaskN (Mq1 (ms m9)) (i2 + 1))) = (sMs m9 (Mcalls i2 (MaskN (Mq1 (ms m9)) i2))) := (by first | (simp only [Mgo, MaskN, if_pos c3, if_neg (not_not_intro c3), if_pos c6, if_neg (not_not_intro c6), if_neg (Nat.not_le.mpr c10), if_pos (Nat.not_le.mpr c10), if_neg c12, if_pos c12]; done) | (simp only [Mgo, MaskN, if_pos c3, if_neg (not_not_intro c3), if_pos c6, if_neg (not_not_intro c6), if_neg (Nat.not_le.mpr c10), if_pos (Nat.not_le.mpr c10), if_neg c12, if_pos c12]; with_reducible rfl) | with_reducible rfl | (simp [Mgo, MaskN, if_pos c3, if_neg (not_not_intro c3), if_pos c6, if_neg (not_not_intro c6), if_neg (Nat.not_le.mpr c10), if_pos (Nat.not_le.mpr c10), if_neg c12, if_pos c12]; done))
            exact ih8 _ _ _ (by omega) ⟨(by rw [e14]; exact hP), (by rw [e14]; exact hD), hS, lv_sub hl [0, 1, 2] rfl⟩
  ·
    refine lv_aload_n hx hb dX4_goesBy_8 rfl (lv_at hl 1 rfl) ?_
    refine va_get (D := g.1) (ci := 4) (v := .ref (a 1)) (C := RX4) (T := TX4) (N := 12) hx hb hts hiX4 hown hE.1 hP 0 rfl rfl 1 (by decide) f7 (fun _ h9 => h9) rfl dX4_goesBy_9 ?_
    refine lv_bipush (v := (nI 69)) hx hb dX4_goesBy_12 (by decide) ?_
    refine lv_iload_n hx hb dX4_goesBy_14 rfl (lv_at hl 0 rfl) ?_
    refine lv_iadd hx hb dX4_goesBy_15 ?_
    refine k_top (nI_add _ _) ?_
    refine lv_dup2_11 hx hb dX4_goesBy_16 rfl rfl ?_
    refine k_iald (f := (MfadeN (ms m9) i)) hx hb hE hP 1 rfl (69 + i) rfl (by omega) (by decide) dX4_goesBy_17 ?_
    refine lv_aload_n hx hb dX4_goesBy_18 rfl (lv_at hl 1 rfl) ?_
    refine va_get (D := g.1) (ci := 4) (v := .ref (a 1)) (C := RX4) (T := TX4) (N := 12) hx hb hts hiX4 hown hE.1 hP 0 rfl rfl 1 (by decide) f7 (fun _ h9 => h9) rfl dX4_goesBy_19 ?_
    refine lv_bipush (v := (nI 69)) hx hb dX4_goesBy_22 (by decide) ?_
    refine lv_iload_n hx hb dX4_goesBy_24 rfl (lv_at hl 0 rfl) ?_
    refine lv_iadd hx hb dX4_goesBy_25 ?_
    refine k_top (nI_add _ _) ?_
    refine k_iald (f := (MfadeN (ms m9) i)) hx hb hE hP 1 rfl (69 + i) rfl (by omega) (by decide) dX4_goesBy_26 ?_
    refine k_meet (x := .int (bI (¬ ((MfadeN (ms m9) i) (69 + i)) ≤ 0))) (pj := 35) (rest := [.int ((MfadeN (ms m9) i) (69 + i)), .int (nI (69 + i)), .ref (a 1)]) (fun J15 => ?_) ?_
    ·
      refine lv_if_le (tgt := 34) hx hb dX4_goesBy_27 (by decide) (fun c16 => ?_) (fun c16 => ?_)
      ·
        refine lv_iconst (v := (nI 0)) hx hb dX4_goesBy_34 (by decide) ?_
        exact k_top (by first | (simp only [Mgo, bI, if_neg (Nat.not_le.mpr c3), if_pos (Nat.not_le.mpr c3), if_pos c16, if_neg (not_not_intro c16)]; done) | (simp only [Mgo, bI, if_neg (Nat.not_le.mpr c3), if_pos (Nat.not_le.mpr c3), if_pos c16, if_neg (not_not_intro c16)]; with_reducible rfl) | with_reducible rfl | (simp [Mgo, bI, if_neg (Nat.not_le.mpr c3), if_pos (Nat.not_le.mpr c3), if_pos c16, if_neg (not_not_intro c16)]; done)) J15
      ·
        refine lv_iconst (v := (nI 1)) hx hb dX4_goesBy_30 (by decide) ?_
        refine lv_goto (tgt := 35) hx hb dX4_goesBy_31 (by decide) ?_
        exact k_top (by first | (simp only [Mgo, bI, if_neg (Nat.not_le.mpr c3), if_pos (Nat.not_le.mpr c3), if_neg c16, if_pos c16]; done) | (simp only [Mgo, bI, if_neg (Nat.not_le.mpr c3), if_pos (Nat.not_le.mpr c3), if_neg c16, if_pos c16]; with_reducible rfl) | with_reducible rfl | (simp [Mgo, bI, if_neg (Nat.not_le.mpr c3), if_pos (Nat.not_le.mpr c3), if_neg c16, if_pos c16]; done)) J15
    ·
      refine lv_isub hx hb dX4_goesBy_35 ?_
      refine k_iast (f := (MfadeN (ms m9) i)) (ws1 := (wM g a (sMs m9 (upd (MfadeN (ms m9) i) (69 + i) (((MfadeN (ms m9) i) (69 + i)) - (bI (¬ ((MfadeN (ms m9) i) (69 + i)) ≤ 0))))))) hx hb hE hP hD hS 1 rfl (69 + i) rfl (by omega) (by decide) rfl dX4_goesBy_36 (fun H locs hP hD hS => ?_)
      refine lv_iinc (v := (nI (i + 1))) (lv' := [(1, .int (nI (i + 1))), (0, .ref (a 0))]) hx hb dX4_goesBy_37 hl (k := 0) rfl (k_inc1 _) (by decide) rfl (fun ls hl => ?_)
      refine lv_goto (tgt := 2) hx hb dX4_goesBy_40 (by decide) ?_
      have e17 : (sMs m9 (MfadeN (ms m9) (i + 1))) = (sMs m9 (upd (MfadeN (ms m9) i) (69 + i) (((MfadeN (ms m9) i) (69 + i)) - (bI (¬ ((MfadeN (ms m9) i) (69 + i)) ≤ 0))))) := (by first | (simp only [Mgo, MfadeN, if_neg (Nat.not_le.mpr c3), if_pos (Nat.not_le.mpr c3)]; done) | (simp only [Mgo, MfadeN, if_neg (Nat.not_le.mpr c3), if_pos (Nat.not_le.mpr c3)]; with_reducible rfl) | with_reducible rfl | (simp [Mgo, MfadeN, if_neg (Nat.not_le.mpr c3), if_pos (Nat.not_le.mpr c3)]; done))
      exact ih1 _ _ _ (by omega) ⟨(by rw [e17]; exact hP), (by rw [e17]; exact hD), hS, lv_sub hl [0, 1] rfl⟩
set_option maxHeartbeats 4000000 in
set_option maxRecDepth 100000 in
theorem zz9 (l : Launch) (g : kG) (a : Nat → Nat) (m9 : MSt) : KI l yX4_goesBy wsX4_goesBy ({ frames := 2, cells := 0, slots := 0, locals := 40 }) g [.ref (a 0)] (wM g a m9) (bI (Masks (ms m9))) (wM g a (sMs m9 (Mgo (ms m9)))) 0 0 := by
  refine k_begin (cc := cX4_goesBy) (maxL := 3) (ret := (some .boolean)) (Qc := fun A => kQi g (bI (Masks (ms m9))) (wM g a (sMs m9 (Mgo (ms m9)))) A) (by decide) rfl (Nat.le_of_ble_eq_true rfl) ?_
  intro p e s m below meth c A ls hF hr hlocks hin hE hP hD hS hA hl
  obtain ⟨hx, hb, hml, hown, hts⟩ := id hF
  have hown : s.vm.findClass RX4 = some m.cls := hown
  have hl : lv_has ls 3 [(0, .ref (a 0))] := hl
  have hiX4 : ∀ w ∈ wsX40, w ∈ wsX4_goesBy := fun _ h => List.mem_cons_of_mem _ (List.mem_append_right _ (h))
  have f7 : (Cond.fieldLink RX4 7 "ConcertUsherModel" "s" "[I").before _ s = true := hts _ (List.mem_of_getElem? (i := 1) rfl)
  refine lv_iconst (v := (nI 0)) hx hb dX4_goesBy_0 (by decide) ?_
  refine lv_istore_n (lv' := [(1, .int (nI 0)), (0, .ref (a 0))]) hx hb dX4_goesBy_1 rfl hl (by decide) rfl (fun ls hl => ?_)
  refine k_loop (N := 48) (Inv := fun (i : Nat) (H : Heap) (locs : List Loc) (ls : Array Slot) => va_P g.1 vwCl (wM g a (sMs m9 (MfadeN (ms m9) i))) H ∧ va_D A (wM g a (sMs m9 (MfadeN (ms m9) i))) ∧ va_S A s.heap H locs ∧ lv_has ls 3 [(1, .int (nI i)), (0, .ref (a 0))]) 0 (Nat.zero_le _) ⟨hP, hD, hS, lv_sub hl [0, 1] rfl⟩ (fun i hle2 ih1 H locs ls hinv => ?_)
  obtain ⟨hP, hD, hS, hl⟩ := hinv
  refine lv_iload_n hx hb dX4_goesBy_2 rfl (lv_at hl 0 rfl) ?_
  refine lv_bipush (v := (nI 48)) hx hb dX4_goesBy_3 (by decide) ?_
  refine k_geN (tgt := 43) hx hb (by omega) (by decide) dX4_goesBy_5 (by decide) (fun c3 => ?_) (fun c3 => ?_)
  ·
    obtain rfl : 48 = i := by omega
    refine lv_aload_n hx hb dX4_goesBy_43 rfl (lv_at hl 1 rfl) ?_
    refine va_get (D := g.1) (ci := 4) (v := .ref (a 1)) (C := RX4) (T := TX4) (N := 12) hx hb hts hiX4 hown hE.1 hP 0 rfl rfl 1 (by decide) f7 (fun _ h9 => h9) rfl dX4_goesBy_44 ?_
    refine lv_iconst (v := (nI 5)) hx hb dX4_goesBy_47 (by decide) ?_
    refine lv_dup2_11 hx hb dX4_goesBy_48 rfl rfl ?_
    refine k_iald (f := (MfadeN (ms m9) 48)) hx hb hE hP 1 rfl 5 rfl (by decide) (by decide) dX4_goesBy_49 ?_
    refine lv_iconst (v := (nI 1)) hx hb dX4_goesBy_50 (by decide) ?_
    refine lv_iadd hx hb dX4_goesBy_51 ?_
    refine k_iast (f := (MfadeN (ms m9) 48)) (ws1 := (wM g a (sMs m9 (upd (MfadeN (ms m9) 48) 5 (((MfadeN (ms m9) 48) 5) + (nI 1)))))) hx hb hE hP hD hS 1 rfl 5 rfl (by decide) (by decide) rfl dX4_goesBy_52 (fun H locs hP hD hS => ?_)
    refine lv_aload_n hx hb dX4_goesBy_53 rfl (lv_at hl 1 rfl) ?_
    refine va_get (D := g.1) (ci := 4) (v := .ref (a 1)) (C := RX4) (T := TX4) (N := 12) hx hb hts hiX4 hown hE.1 hP 0 rfl rfl 1 (by decide) f7 (fun _ h9 => h9) rfl dX4_goesBy_54 ?_
    refine lv_bipush (v := (nI 6)) hx hb dX4_goesBy_57 (by decide) ?_
    refine lv_dup2_11 hx hb dX4_goesBy_59 rfl rfl ?_
    refine k_iald (f := (upd (MfadeN (ms m9) 48) 5 (((MfadeN (ms m9) 48) 5) + (nI 1)))) hx hb hE hP 1 rfl 6 rfl (by decide) (by decide) dX4_goesBy_60 ?_
    refine lv_iconst (v := (nI 1)) hx hb dX4_goesBy_61 (by decide) ?_
    refine lv_iadd hx hb dX4_goesBy_62 ?_
    refine k_iast (f := (upd (MfadeN (ms m9) 48) 5 (((MfadeN (ms m9) 48) 5) + (nI 1)))) (ws1 := (wM g a (sMs m9 (upd (upd (MfadeN (ms m9) 48) 5 (((MfadeN (ms m9) 48) 5) + (nI 1))) 6 (((upd (MfadeN (ms m9) 48) 5 (((MfadeN (ms m9) 48) 5) + (nI 1))) 6) + (nI 1)))))) hx hb hE hP hD hS 1 rfl 6 rfl (by decide) (by decide) rfl dX4_goesBy_63 (fun H locs hP hD hS => ?_)
    have hMt : (upd (upd (MfadeN (ms m9) 48) 5 (((MfadeN (ms m9) 48) 5) + (nI 1))) 6 (((upd (MfadeN (ms m9) 48) 5 (((MfadeN (ms m9) 48) 5) + (nI 1))) 6) + (nI 1))) = Mtk (ms m9) := by unfold Mtk Mt1; rfl
    rw [hMt] at hP hD
    refine lv_aload_n hx hb dX4_goesBy_64 rfl (lv_at hl 1 rfl) ?_
    refine va_get (D := g.1) (ci := 4) (v := .ref (a 1)) (C := RX4) (T := TX4) (N := 12) hx hb hts hiX4 hown hE.1 hP 0 rfl rfl 1 (by decide) f7 (fun _ h9 => h9) rfl dX4_goesBy_65 ?_
    refine lv_bipush (v := (nI 6)) hx hb dX4_goesBy_68 (by decide) ?_
    refine k_iald (f := (Mtk (ms m9))) hx hb hE hP 1 rfl 6 rfl (by decide) (by decide) dX4_goesBy_70 ?_
    refine lv_aload_n hx hb dX4_goesBy_71 rfl (lv_at hl 1 rfl) ?_
    refine k_Vi (As := []) (r := (Mdue (Mtk (ms m9)))) hF (c_X4_due l g a (sMs m9 (Mtk (ms m9)))) (cwV 0 hts gX4_goesBy_X4_due rfl rfl rfl (by decide +kernel) ⟨Nat.le_of_ble_eq_true rfl, Nat.le_of_ble_eq_true rfl⟩) hE hP hD hS hA (k_pall _) ((k_pall _).symm) 0 rfl rfl rfl rfl hl.1 rfl (Nat.le_of_ble_eq_true rfl) dX4_goesBy_72 ⟨Nat.le_of_ble_eq_true rfl, Nat.le_of_ble_eq_true rfl⟩ (fun H locs hP hD hS => ?_)
    have hP : va_P g.1 vwCl (wM g a (sMs m9 (Mtk (ms m9)))) _ := hP
    have hD : va_D A (wM g a (sMs m9 (Mtk (ms m9)))) := hD
    refine k_meet (x := .int (bI (¬ (Mtk (ms m9)) 6 < (Mdue (Mtk (ms m9)))))) (pj := 83) (rest := []) (fun J4 => ?_) ?_
    ·
      refine lv_icmp_lt (tgt := 82) hx hb dX4_goesBy_75 (by decide) (fun c5 => ?_) (fun c5 => ?_)
      ·
        refine lv_iconst (v := (nI 0)) hx hb dX4_goesBy_82 (by decide) ?_
        exact k_top (by first | (simp only [Mgo, bI, if_pos c3, if_neg (not_not_intro c3), if_pos c5, if_neg (not_not_intro c5)]; done) | (simp only [Mgo, bI, if_pos c3, if_neg (not_not_intro c3), if_pos c5, if_neg (not_not_intro c5)]; with_reducible rfl) | with_reducible rfl | (simp [Mgo, bI, if_pos c3, if_neg (not_not_intro c3), if_pos c5, if_neg (not_not_intro c5)]; done)) J4
      ·
        refine lv_iconst (v := (nI 1)) hx hb dX4_goesBy_78 (by decide) ?_
        refine lv_goto (tgt := 83) hx hb dX4_goesBy_79 (by decide) ?_
        exact k_top (by first | (simp only [Mgo, bI, if_pos c3, if_neg (not_not_intro c3), if_neg c5, if_pos c5]; done) | (simp only [Mgo, bI, if_pos c3, if_neg (not_not_intro c3), if_neg c5, if_pos c5]; with_reducible rfl) | with_reducible rfl | (simp [Mgo, bI, if_pos c3, if_neg (not_not_intro c3), if_neg c5, if_pos c5]; done)) J4
    ·
      refine lv_istore_n (lv' := [(1, .int (bI (¬ (Mtk (ms m9)) 6 < (Mdue (Mtk (ms m9)))))), (0, .ref (a 0))]) hx hb dX4_goesBy_83 rfl hl (by decide) rfl (fun ls hl => ?_)
      refine lv_iload_n hx hb dX4_goesBy_84 rfl (lv_at hl 0 rfl) ?_
      refine k_ifeqB (tgt := 138) hx hb dX4_goesBy_85 (by decide) (fun c6 => ?_) (fun c6 => ?_)
      ·
        refine lv_iload_n hx hb dX4_goesBy_138 rfl (lv_at hl 0 rfl) ?_
        have e7 : (sMs m9 (Mgo (ms m9))) = (sMs m9 (Mtk (ms m9))) := (by first | (simp only [Mgo, if_pos c3, if_neg (not_not_intro c3), if_neg c6, if_pos c6]; done) | (simp only [Mgo, if_pos c3, if_neg (not_not_intro c3), if_neg c6, if_pos c6]; with_reducible rfl) | with_reducible rfl | (simp [Mgo, if_pos c3, if_neg (not_not_intro c3), if_neg c6, if_pos c6]; done))
        have hP : va_P g.1 vwCl (wM g a (sMs m9 (Mgo (ms m9)))) H := by rw [e7]; exact hP
        have hD : va_D A (wM g a (sMs m9 (Mgo (ms m9)))) := by rw [e7]; exact hD
        exact k_iret hx hb hr hlocks bI_nar (by first | (simp only [Mgo, bI, if_pos c3, if_neg (not_not_intro c3), if_neg c6, if_pos c6]; done) | (simp only [Mgo, bI, if_pos c3, if_neg (not_not_intro c3), if_neg c6, if_pos c6]; with_reducible rfl) | with_reducible rfl | (simp [Mgo, bI, if_pos c3, if_neg (not_not_intro c3), if_neg c6, if_pos c6]; done)) hP hD hS (Nat.le_of_ble_eq_true rfl) (Nat.le_of_ble_eq_true rfl) dX4_goesBy_139
      ·
        refine lv_aload_n hx hb dX4_goesBy_88 rfl (lv_at hl 1 rfl) ?_
        refine va_get (D := g.1) (ci := 4) (v := .ref (a 1)) (C := RX4) (T := TX4) (N := 12) hx hb hts hiX4 hown hE.1 hP 0 rfl rfl 1 (by decide) f7 (fun _ h9 => h9) rfl dX4_goesBy_89 ?_
        refine lv_bipush (v := (nI 6)) hx hb dX4_goesBy_92 (by decide) ?_
        refine lv_iconst (v := (nI 0)) hx hb dX4_goesBy_94 (by decide) ?_
        refine k_iast (f := (Mtk (ms m9))) (ws1 := (wM g a (sMs m9 (upd (Mtk (ms m9)) 6 (nI 0))))) hx hb hE hP hD hS 1 rfl 6 rfl (by decide) (by decide) rfl dX4_goesBy_95 (fun H locs hP hD hS => ?_)
        refine lv_aload_n hx hb dX4_goesBy_96 rfl (lv_at hl 1 rfl) ?_
        refine va_get (D := g.1) (ci := 4) (v := .ref (a 1)) (C := RX4) (T := TX4) (N := 12) hx hb hts hiX4 hown hE.1 hP 0 rfl rfl 1 (by decide) f7 (fun _ h9 => h9) rfl dX4_goesBy_97 ?_
        refine lv_bipush (v := (nI 10)) hx hb dX4_goesBy_100 (by decide) ?_
        refine lv_dup2_11 hx hb dX4_goesBy_102 rfl rfl ?_
        refine k_iald (f := (upd (Mtk (ms m9)) 6 (nI 0))) hx hb hE hP 1 rfl 10 rfl (by decide) (by decide) dX4_goesBy_103 ?_
        refine lv_iconst (v := (nI 1)) hx hb dX4_goesBy_104 (by decide) ?_
        refine lv_iadd hx hb dX4_goesBy_105 ?_
        refine k_iast (f := (upd (Mtk (ms m9)) 6 (nI 0))) (ws1 := (wM g a (sMs m9 (upd (upd (Mtk (ms m9)) 6 (nI 0)) 10 (((upd (Mtk (ms m9)) 6 (nI 0)) 10) + (nI 1)))))) hx hb hE hP hD hS 1 rfl 10 rfl (by decide) (by decide) rfl dX4_goesBy_106 (fun H locs hP hD hS => ?_)
        refine lv_iconst (v := (nI 0)) hx hb dX4_goesBy_107 (by decide) ?_
        refine lv_istore_n (lv' := [(2, .int (nI 0)), (1, .int (bI (¬ (Mtk (ms m9)) 6 < (Mdue (Mtk (ms m9)))))), (0, .ref (a 0))]) hx hb dX4_goesBy_108 rfl hl (by decide) rfl (fun ls hl => ?_)
        refine k_loop (N := 48) (Inv := fun (i2 : Nat) (H : Heap) (locs : List Loc) (ls : Array Slot) => va_P g.1 vwCl (wM g a (sMs m9 (MaskN (Mq1 (ms m9)) i2))) H ∧ va_D A (wM g a (sMs m9 (MaskN (Mq1 (ms m9)) i2))) ∧ va_S A s.heap H locs ∧ lv_has ls 3 [(2, .int (nI i2)), (1, .int (bI (¬ (Mtk (ms m9)) 6 < (Mdue (Mtk (ms m9)))))), (0, .ref (a 0))]) 0 (Nat.zero_le _) ⟨hP, hD, hS, lv_sub hl [0, 1, 2] rfl⟩ (fun i2 hle9 ih8 H locs ls hinv => ?_)
        obtain ⟨hP, hD, hS, hl⟩ := hinv
        refine lv_iload_n hx hb dX4_goesBy_109 rfl (lv_at hl 0 rfl) ?_
        refine lv_bipush (v := (nI 48)) hx hb dX4_goesBy_110 (by decide) ?_
        refine k_geN (tgt := 138) hx hb (by omega) (by decide) dX4_goesBy_112 (by decide) (fun c10 => ?_) (fun c10 => ?_)
        ·
          obtain rfl : 48 = i2 := by omega
          sorry
        ·
          refine lv_aload_n hx hb dX4_goesBy_115 rfl (lv_at hl 2 rfl) ?_
          refine va_get (D := g.1) (ci := 4) (v := .ref (a 1)) (C := RX4) (T := TX4) (N := 12) hx hb hts hiX4 hown hE.1 hP 0 rfl rfl 1 (by decide) f7 (fun _ h9 => h9) rfl dX4_goesBy_116 ?_
          refine lv_bipush (v := (nI 21)) hx hb dX4_goesBy_119 (by decide) ?_
          refine lv_iload_n hx hb dX4_goesBy_121 rfl (lv_at hl 0 rfl) ?_
          refine lv_iadd hx hb dX4_goesBy_122 ?_
          refine k_top (nI_add _ _) ?_
          refine k_iald (f := (MaskN (Mq1 (ms m9)) i2)) hx hb hE hP 1 rfl (21 + i2) rfl (by omega) (by decide) dX4_goesBy_123 ?_
          refine lv_if_le (tgt := 132) hx hb dX4_goesBy_124 (by decide) (fun c12 => ?_) (fun c12 => ?_)
          ·
            refine lv_iinc (v := (nI (i2 + 1))) (lv' := [(2, .int (nI (i2 + 1))), (1, .int (bI (¬ (Mtk (ms m9)) 6 < (Mdue (Mtk (ms m9)))))), (0, .ref (a 0))]) hx hb dX4_goesBy_132 hl (k := 0) rfl (k_inc1 _) (by decide) rfl (fun ls hl => ?_)
            refine lv_goto (tgt := 109) hx hb dX4_goesBy_135 (by decide) ?_
            have e13 : (sMs m9 (MaskN (Mq1 (ms m9)) (i2 + 1))) = (sMs m9 (MaskN (Mq1 (ms m9)) i2)) := (by first | (simp only [Mgo, MaskN, if_pos c3, if_neg (not_not_intro c3), if_pos c6, if_neg (not_not_intro c6), if_neg (Nat.not_le.mpr c10), if_pos (Nat.not_le.mpr c10), if_pos c12, if_neg (not_not_intro c12)]; done) | (simp only [Mgo, MaskN, if_pos c3, if_neg (not_not_intro c3), if_pos c6, if_neg (not_not_intro c6), if_neg (Nat.not_le.mpr c10), if_pos (Nat.not_le.mpr c10), if_pos c12, if_neg (not_not_intro c12)]; with_reducible rfl) | with_reducible rfl | (simp [Mgo, MaskN, if_pos c3, if_neg (not_not_intro c3), if_pos c6, if_neg (not_not_intro c6), if_neg (Nat.not_le.mpr c10), if_pos (Nat.not_le.mpr c10), if_pos c12, if_neg (not_not_intro c12)]; done))
            exact ih8 _ _ _ (by omega) ⟨(by rw [e13]; exact hP), (by rw [e13]; exact hD), hS, lv_sub hl [0, 1, 2] rfl⟩
          ·
            refine lv_aload_n hx hb dX4_goesBy_127 rfl (lv_at hl 2 rfl) ?_
            refine lv_iload_n hx hb dX4_goesBy_128 rfl (lv_at hl 0 rfl) ?_
            refine k_Vv (As := [.int (nI i2)]) hF (c_X4_calls l g a (sMs m9 (MaskN (Mq1 (ms m9)) i2)) i2 (by omega)) (cwV 1 hts gX4_goesBy_X4_calls rfl rfl rfl (by decide +kernel) ⟨Nat.le_of_ble_eq_true rfl, Nat.le_of_ble_eq_true rfl⟩) hE hP hD hS hA (k_pall _) ((k_pall _).symm) 0 rfl rfl rfl rfl hl.1 rfl (Nat.le_of_ble_eq_true rfl) dX4_goesBy_129 ⟨Nat.le_of_ble_eq_true rfl, Nat.le_of_ble_eq_true rfl⟩ (fun H locs hP hD hS => ?_)
            have hP : va_P g.1 vwCl (wM g a (sMs m9 (Mcalls i2 (MaskN (Mq1 (ms m9)) i2)))) _ := hP
            have hD : va_D A (wM g a (sMs m9 (Mcalls i2 (MaskN (Mq1 (ms m9)) i2)))) := hD
            refine lv_iinc (v := (nI (i2 + 1))) (lv' := [(2, .int (nI (i2 + 1))), (1, .int (bI (¬ (Mtk (ms m9)) 6 < (Mdue (Mtk (ms m9)))))), (0, .ref (a 0))]) hx hb dX4_goesBy_132 hl (k := 0) rfl (k_inc1 _) (by decide) rfl (fun ls hl => ?_)
            refine lv_goto (tgt := 109) hx hb dX4_goesBy_135 (by decide) ?_
            have e14 : (sMs m9 (MaskN (Mq1 (ms m9)) (i2 + 1))) = (sMs m9 (Mcalls i2 (MaskN (Mq1 (ms m9)) i2))) := (by first | (simp only [Mgo, MaskN, if_pos c3, if_neg (not_not_intro c3), if_pos c6, if_neg (not_not_intro c6), if_neg (Nat.not_le.mpr c10), if_pos (Nat.not_le.mpr c10), if_neg c12, if_pos c12]; done) | (simp only [Mgo, MaskN, if_pos c3, if_neg (not_not_intro c3), if_pos c6, if_neg (not_not_intro c6), if_neg (Nat.not_le.mpr c10), if_pos (Nat.not_le.mpr c10), if_neg c12, if_pos c12]; with_reducible rfl) | with_reducible rfl | (simp [Mgo, MaskN, if_pos c3, if_neg (not_not_intro c3), if_pos c6, if_neg (not_not_intro c6), if_neg (Nat.not_le.mpr c10), if_pos (Nat.not_le.mpr c10), if_neg c12, if_pos c12]; done))
            exact ih8 _ _ _ (by omega) ⟨(by rw [e14]; exact hP), (by rw [e14]; exact hD), hS, lv_sub hl [0, 1, 2] rfl⟩
  ·
    refine lv_aload_n hx hb dX4_goesBy_8 rfl (lv_at hl 1 rfl) ?_
    refine va_get (D := g.1) (ci := 4) (v := .ref (a 1)) (C := RX4) (T := TX4) (N := 12) hx hb hts hiX4 hown hE.1 hP 0 rfl rfl 1 (by decide) f7 (fun _ h9 => h9) rfl dX4_goesBy_9 ?_
    refine lv_bipush (v := (nI 69)) hx hb dX4_goesBy_12 (by decide) ?_
    refine lv_iload_n hx hb dX4_goesBy_14 rfl (lv_at hl 0 rfl) ?_
    refine lv_iadd hx hb dX4_goesBy_15 ?_
    refine k_top (nI_add _ _) ?_
    refine lv_dup2_11 hx hb dX4_goesBy_16 rfl rfl ?_
    refine k_iald (f := (MfadeN (ms m9) i)) hx hb hE hP 1 rfl (69 + i) rfl (by omega) (by decide) dX4_goesBy_17 ?_
    refine lv_aload_n hx hb dX4_goesBy_18 rfl (lv_at hl 1 rfl) ?_
    refine va_get (D := g.1) (ci := 4) (v := .ref (a 1)) (C := RX4) (T := TX4) (N := 12) hx hb hts hiX4 hown hE.1 hP 0 rfl rfl 1 (by decide) f7 (fun _ h9 => h9) rfl dX4_goesBy_19 ?_
    refine lv_bipush (v := (nI 69)) hx hb dX4_goesBy_22 (by decide) ?_
    refine lv_iload_n hx hb dX4_goesBy_24 rfl (lv_at hl 0 rfl) ?_
    refine lv_iadd hx hb dX4_goesBy_25 ?_
    refine k_top (nI_add _ _) ?_
    refine k_iald (f := (MfadeN (ms m9) i)) hx hb hE hP 1 rfl (69 + i) rfl (by omega) (by decide) dX4_goesBy_26 ?_
    refine k_meet (x := .int (bI (¬ ((MfadeN (ms m9) i) (69 + i)) ≤ 0))) (pj := 35) (rest := [.int ((MfadeN (ms m9) i) (69 + i)), .int (nI (69 + i)), .ref (a 1)]) (fun J15 => ?_) ?_
    ·
      refine lv_if_le (tgt := 34) hx hb dX4_goesBy_27 (by decide) (fun c16 => ?_) (fun c16 => ?_)
      ·
        refine lv_iconst (v := (nI 0)) hx hb dX4_goesBy_34 (by decide) ?_
        exact k_top (by first | (simp only [Mgo, bI, if_neg (Nat.not_le.mpr c3), if_pos (Nat.not_le.mpr c3), if_pos c16, if_neg (not_not_intro c16)]; done) | (simp only [Mgo, bI, if_neg (Nat.not_le.mpr c3), if_pos (Nat.not_le.mpr c3), if_pos c16, if_neg (not_not_intro c16)]; with_reducible rfl) | with_reducible rfl | (simp [Mgo, bI, if_neg (Nat.not_le.mpr c3), if_pos (Nat.not_le.mpr c3), if_pos c16, if_neg (not_not_intro c16)]; done)) J15
      ·
        refine lv_iconst (v := (nI 1)) hx hb dX4_goesBy_30 (by decide) ?_
        refine lv_goto (tgt := 35) hx hb dX4_goesBy_31 (by decide) ?_
        exact k_top (by first | (simp only [Mgo, bI, if_neg (Nat.not_le.mpr c3), if_pos (Nat.not_le.mpr c3), if_neg c16, if_pos c16]; done) | (simp only [Mgo, bI, if_neg (Nat.not_le.mpr c3), if_pos (Nat.not_le.mpr c3), if_neg c16, if_pos c16]; with_reducible rfl) | with_reducible rfl | (simp [Mgo, bI, if_neg (Nat.not_le.mpr c3), if_pos (Nat.not_le.mpr c3), if_neg c16, if_pos c16]; done)) J15
    ·
      refine lv_isub hx hb dX4_goesBy_35 ?_
      refine k_iast (f := (MfadeN (ms m9) i)) (ws1 := (wM g a (sMs m9 (upd (MfadeN (ms m9) i) (69 + i) (((MfadeN (ms m9) i) (69 + i)) - (bI (¬ ((MfadeN (ms m9) i) (69 + i)) ≤ 0))))))) hx hb hE hP hD hS 1 rfl (69 + i) rfl (by omega) (by decide) rfl dX4_goesBy_36 (fun H locs hP hD hS => ?_)
      refine lv_iinc (v := (nI (i + 1))) (lv' := [(1, .int (nI (i + 1))), (0, .ref (a 0))]) hx hb dX4_goesBy_37 hl (k := 0) rfl (k_inc1 _) (by decide) rfl (fun ls hl => ?_)
      refine lv_goto (tgt := 2) hx hb dX4_goesBy_40 (by decide) ?_
      have e17 : (sMs m9 (MfadeN (ms m9) (i + 1))) = (sMs m9 (upd (MfadeN (ms m9) i) (69 + i) (((MfadeN (ms m9) i) (69 + i)) - (bI (¬ ((MfadeN (ms m9) i) (69 + i)) ≤ 0))))) := (by first | (simp only [Mgo, MfadeN, if_neg (Nat.not_le.mpr c3), if_pos (Nat.not_le.mpr c3)]; done) | (simp only [Mgo, MfadeN, if_neg (Nat.not_le.mpr c3), if_pos (Nat.not_le.mpr c3)]; with_reducible rfl) | with_reducible rfl | (simp [Mgo, MfadeN, if_neg (Nat.not_le.mpr c3), if_pos (Nat.not_le.mpr c3)]; done))
      exact ih1 _ _ _ (by omega) ⟨(by rw [e17]; exact hP), (by rw [e17]; exact hD), hS, lv_sub hl [0, 1] rfl⟩
