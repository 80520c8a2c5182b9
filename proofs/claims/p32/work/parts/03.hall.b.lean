set_option maxHeartbeats 4000000 in
set_option maxRecDepth 100000 in
theorem c_X1_askAllRows (l : Launch) (g : kG) (a : Nat → Nat) (h : HSt) : KV l yX1_askAllRows wsX1_askAllRows ({ frames := 1, cells := 0, slots := 0, locals := 21 }) g [.ref (a 0)] (wH g a h) (wH g a (HaskAll h)) 0 0 := by
  refine k_begin (cc := cX1_askAllRows) (maxL := 2) (ret := none) (Qc := fun A => kQv g (wH g a (HaskAll h)) A) (by decide) rfl (Nat.le_of_ble_eq_true rfl) ?_
  intro p e s m below meth c A ls hF hr hlocks hin hE hP hD hS hA hl
  obtain ⟨hx, hb, hml, hown, hts⟩ := id hF
  have hown : s.vm.findClass RX1 = some m.cls := hown
  have hl : lv_has ls 2 [(0, .ref (a 0))] := hl
  have hiX1 : ∀ w ∈ wsX10, w ∈ wsX1_askAllRows := fun _ h => List.mem_cons_of_mem _ (List.mem_append_right _ (h))
  have f18 : (Cond.fieldLink RX1 18 "ConcertUsher$Hall" "counts" "[I").before _ s = true := hts _ (List.mem_of_getElem? (i := 1) rfl)
  refine lv_aload_n hx hb dX1_askAllRows_0 rfl (lv_at hl 0 rfl) ?_
  refine va_get (D := g.1) (ci := 1) (v := .ref (a 3)) (C := RX1) (T := TX1) (N := 12) hx hb hts hiX1 hown hE.1 hP 0 rfl rfl 2 (by decide) f18 (fun _ h9 => h9) rfl dX1_askAllRows_1 ?_
  refine lv_iconst (v := (nI 3)) hx hb dX1_askAllRows_4 (by decide) ?_
  refine lv_dup2_11 hx hb dX1_askAllRows_5 rfl rfl ?_
  refine k_iald (f := (hC h)) hx hb hE hP 3 rfl 3 rfl (by decide) (by decide) dX1_askAllRows_6 ?_
  refine lv_iconst (v := (nI 1)) hx hb dX1_askAllRows_7 (by decide) ?_
  refine lv_iadd hx hb dX1_askAllRows_8 ?_
  refine k_iast (f := (hC h)) (ws1 := (wH g a (sHC h (upd (hC h) 3 (((hC h) 3) + (nI 1)))))) hx hb hE hP hD hS 3 rfl 3 rfl (by decide) (by decide) rfl dX1_askAllRows_9 (fun H locs hP hD hS => ?_)
  refine lv_iconst (v := (nI 0)) hx hb dX1_askAllRows_10 (by decide) ?_
  refine lv_istore_n (lv' := [(1, .int (nI 0)), (0, .ref (a 0))]) hx hb dX1_askAllRows_11 rfl hl (by decide) rfl (fun ls hl => ?_)
  refine k_loop (N := 48) (Inv := fun (i : Nat) (H : Heap) (locs : List Loc) (ls : Array Slot) => va_P g.1 vwCl (wH g a (HaskN (Hcnt 3 h) i)) H ∧ va_D A (wH g a (HaskN (Hcnt 3 h) i)) ∧ va_S A s.heap H locs ∧ lv_has ls 2 [(1, .int (nI i)), (0, .ref (a 0))]) 0 (Nat.zero_le _) ⟨hP, hD, hS, lv_sub hl [0, 1] rfl⟩ (fun i hle2 ih1 H locs ls hinv => ?_)
  obtain ⟨hP, hD, hS, hl⟩ := hinv
  obtain ⟨z3, ez3⟩ : ∃ x : HSt, (HaskN (Hcnt 3 h) i) = x := ⟨_, rfl⟩
  rw [ez3] at hP hD
  refine lv_iload_n hx hb dX1_askAllRows_12 rfl (lv_at hl 0 rfl) ?_
  refine lv_bipush (v := (nI 48)) hx hb dX1_askAllRows_13 (by decide) ?_
  refine k_geN (tgt := 29) hx hb (by omega) (by decide) dX1_askAllRows_15 (by decide) (fun c4 => ?_) (fun c4 => ?_)
  ·
    obtain rfl : 48 = i := by omega
    have e5 : (HaskAll h) = z3 := (by subst ez3; first | (simp only [HaskAll, if_pos c4, if_neg (not_not_intro c4)]; done) | (simp only [HaskAll, if_pos c4, if_neg (not_not_intro c4)]; rfl) | rfl | (simp [HaskAll, if_pos c4, if_neg (not_not_intro c4)]; done))
    have hP : va_P g.1 vwCl (wH g a (HaskAll h)) H := by rw [e5]; exact hP
    have hD : va_D A (wH g a (HaskAll h)) := by rw [e5]; exact hD
    exact k_vret hx hb hr hlocks hP hD hS (Nat.le_of_ble_eq_true rfl) (Nat.le_of_ble_eq_true rfl) dX1_askAllRows_29
  ·
    refine lv_aload_n hx hb dX1_askAllRows_18 rfl (lv_at hl 1 rfl) ?_
    refine lv_iload_n hx hb dX1_askAllRows_19 rfl (lv_at hl 0 rfl) ?_
    refine k_Vv (As := [.int (nI i)]) hF (c_X1_hearCall l g a z3 i (by omega)) (cwV 1 hts gX1_askAllRows_X1_hearCall rfl rfl rfl (by decide +kernel) ⟨Nat.le_of_ble_eq_true rfl, Nat.le_of_ble_eq_true rfl⟩) hE hP hD hS hA (k_pall _) ((k_pall _).symm) 0 rfl rfl rfl rfl hl.1 rfl (Nat.le_of_ble_eq_true rfl) dX1_askAllRows_20 ⟨Nat.le_of_ble_eq_true rfl, Nat.le_of_ble_eq_true rfl⟩ (fun H locs hP hD hS => ?_)
    have hP : va_P g.1 vwCl (wH g a (Hhear i z3)) _ := hP
    have hD : va_D A (wH g a (Hhear i z3)) := hD
    obtain ⟨z6, ez6⟩ : ∃ x : HSt, (Hhear i z3) = x := ⟨_, rfl⟩
    rw [ez6] at hP hD
    refine lv_iinc (v := (nI (i + 1))) (lv' := [(1, .int (nI (i + 1))), (0, .ref (a 0))]) hx hb dX1_askAllRows_23 hl (k := 0) rfl (k_inc1 _) (by decide) rfl (fun ls hl => ?_)
    refine lv_goto (tgt := 12) hx hb dX1_askAllRows_26 (by decide) ?_
    have e7 : (HaskN (Hcnt 3 h) (i + 1)) = z6 := (by subst ez6; subst ez3; rfl)
    exact ih1 _ _ _ (by omega) ⟨(by rw [e7]; exact hP), (by rw [e7]; exact hD), hS, lv_sub hl [0, 1] rfl⟩
set_option maxHeartbeats 4000000 in
set_option maxRecDepth 100000 in
theorem c_X1_isRowOpen (l : Launch) (g : kG) (a : Nat → Nat) (h : HSt) (r : Nat) (hr8 : r < 8) : KI l yX1_isRowOpen wsX1_isRowOpen ({ frames := 0, cells := 0, slots := 0, locals := 0 }) g [.ref (a 0), .int (nI r)] (wH g a h) (bI (Hopen h r)) (wH g a h) 0 0 := by
  refine k_begin (cc := cX1_isRowOpen) (maxL := 2) (ret := (some .boolean)) (Qc := fun A => kQi g (bI (Hopen h r)) (wH g a h) A) (by decide) rfl (Nat.le_of_ble_eq_true rfl) ?_
  intro p e s m below meth c A ls hF hr hlocks hin hE hP hD hS hA hl
  obtain ⟨hx, hb, hml, hown, hts⟩ := id hF
  have hown : s.vm.findClass RX1 = some m.cls := hown
  have hl : lv_has ls 2 [(0, .ref (a 0)), (1, .int (nI r))] := hl
  have hiX1 : ∀ w ∈ wsX10, w ∈ wsX1_isRowOpen := fun _ h => List.mem_cons_of_mem _ (List.mem_append_right _ (h))
  have f21 : (Cond.fieldLink RX1 21 "ConcertUsher$Hall" "openRows" "I").before _ s = true := hts _ (List.mem_of_getElem? (i := 1) rfl)
  refine lv_aload_n hx hb dX1_isRowOpen_0 rfl (lv_at hl 0 rfl) ?_
  refine va_get (D := g.1) (ci := 1) (v := .int (hop h)) (C := RX1) (T := TX1) (N := 12) hx hb hts hiX1 hown hE.1 hP 0 rfl rfl 3 (by decide) f21 (fun _ h9 => h9) rfl dX1_isRowOpen_1 ?_
  refine lv_iload_n hx hb dX1_isRowOpen_4 rfl (lv_at hl 1 rfl) ?_
  refine lv_ishr hx hb dX1_isRowOpen_5 ?_
  refine lv_iconst (v := (nI 1)) hx hb dX1_isRowOpen_6 (by decide) ?_
  refine lv_iand hx hb dX1_isRowOpen_7 ?_
  refine lv_iconst (v := (nI 1)) hx hb dX1_isRowOpen_8 (by decide) ?_
  refine lv_icmp_ne (tgt := 16) hx hb dX1_isRowOpen_9 (by decide) (fun c1 => ?_) (fun c1 => ?_)
  ·
    refine lv_iconst (v := (nI 0)) hx hb dX1_isRowOpen_16 (by decide) ?_
    have hP : va_P g.1 vwCl (wH g a h) _ := hP
    have hD : va_D A (wH g a h) := hD
    exact k_iret hx hb hr hlocks rfl (by first | (simp only [bI, if_neg c1, if_pos c1]; done) | (simp only [bI, if_neg c1, if_pos c1]; rfl) | rfl | (simp [bI, if_neg c1, if_pos c1]; done)) hP hD hS (Nat.le_of_ble_eq_true rfl) (Nat.le_of_ble_eq_true rfl) dX1_isRowOpen_17
  ·
    refine lv_iconst (v := (nI 1)) hx hb dX1_isRowOpen_12 (by decide) ?_
    refine lv_goto (tgt := 17) hx hb dX1_isRowOpen_13 (by decide) ?_
    have hP : va_P g.1 vwCl (wH g a h) _ := hP
    have hD : va_D A (wH g a h) := hD
    exact k_iret hx hb hr hlocks rfl (by first | (simp only [bI, if_pos c1, if_neg (not_not_intro c1)]; done) | (simp only [bI, if_pos c1, if_neg (not_not_intro c1)]; rfl) | rfl | (simp [bI, if_pos c1, if_neg (not_not_intro c1)]; done)) hP hD hS (Nat.le_of_ble_eq_true rfl) (Nat.le_of_ble_eq_true rfl) dX1_isRowOpen_17
set_option maxHeartbeats 4000000 in
set_option maxRecDepth 100000 in
theorem c_X1_turnRow (l : Launch) (g : kG) (a : Nat → Nat) (h : HSt) (r : Nat) (hr8 : r < 8) : KV l yX1_turnRow wsX1_turnRow ({ frames := 0, cells := 0, slots := 0, locals := 0 }) g [.ref (a 0), .int (nI r)] (wH g a h) (wH g a (Hturn r h)) 0 0 := by
  refine k_begin (cc := cX1_turnRow) (maxL := 2) (ret := none) (Qc := fun A => kQv g (wH g a (Hturn r h)) A) (by decide) rfl (Nat.le_of_ble_eq_true rfl) ?_
  intro p e s m below meth c A ls hF hr hlocks hin hE hP hD hS hA hl
  obtain ⟨hx, hb, hml, hown, hts⟩ := id hF
  have hown : s.vm.findClass RX1 = some m.cls := hown
  have hl : lv_has ls 2 [(0, .ref (a 0)), (1, .int (nI r))] := hl
  have hiX1 : ∀ w ∈ wsX10, w ∈ wsX1_turnRow := fun _ h => List.mem_cons_of_mem _ (List.mem_append_right _ (h))
  have f21 : (Cond.fieldLink RX1 21 "ConcertUsher$Hall" "openRows" "I").before _ s = true := hts _ (List.mem_of_getElem? (i := 1) rfl)
  refine lv_aload_n hx hb dX1_turnRow_0 rfl (lv_at hl 0 rfl) ?_
  refine lv_dup hx hb dX1_turnRow_1 rfl ?_
  refine va_get (D := g.1) (ci := 1) (v := .int (hop h)) (C := RX1) (T := TX1) (N := 12) hx hb hts hiX1 hown hE.1 hP 0 rfl rfl 3 (by decide) f21 (fun _ h9 => h9) rfl dX1_turnRow_2 ?_
  refine lv_iconst (v := (nI 1)) hx hb dX1_turnRow_5 (by decide) ?_
  refine lv_iload_n hx hb dX1_turnRow_6 rfl (lv_at hl 1 rfl) ?_
  refine lv_ishl hx hb dX1_turnRow_7 ?_
  refine lv_ixor hx hb dX1_turnRow_8 ?_
  refine va_put (D := g.1) (ci := 1) (v := .int ((hop h) ^^^ ((nI 1) <<< ((nI r) &&& 31)))) (ty := .int) (C := RX1) (T := TX1) (N := 12) hx hb hts hiX1 tyX1 tyX1_ok nmX1 hown hE.1 hP hD hS 0 rfl rfl 3 (by decide) f21 (fun _ h9 => h9) rfl (tyX1_ok 3 (by decide)) rfl rfl (Nat.le_of_ble_eq_true rfl) dX1_turnRow_9 (fun H locs hP hD hS => ?_)
  have hP : va_P g.1 vwCl (wH g a (sHop h ((hop h) ^^^ ((nI 1) <<< ((nI r) &&& 31))))) _ := hP
  have hD : va_D A (wH g a (sHop h ((hop h) ^^^ ((nI 1) <<< ((nI r) &&& 31))))) := hD
  have hP : va_P g.1 vwCl (wH g a (Hturn r h)) _ := hP
  have hD : va_D A (wH g a (Hturn r h)) := hD
  exact k_vret hx hb hr hlocks hP hD hS (Nat.le_of_ble_eq_true rfl) (Nat.le_of_ble_eq_true rfl) dX1_turnRow_12
set_option maxHeartbeats 4000000 in
set_option maxRecDepth 100000 in
theorem c_X1_chiefAsker (l : Launch) (g : kG) (a : Nat → Nat) (h : HSt) : KI l yX1_chiefAsker wsX1_chiefAsker ({ frames := 0, cells := 0, slots := 0, locals := 0 }) g [.ref (a 0)] (wH g a h) (Hchief h) (wH g a h) 0 0 := by
  refine k_begin (cc := cX1_chiefAsker) (maxL := 1) (ret := (some .int)) (Qc := fun A => kQi g (Hchief h) (wH g a h) A) (by decide) rfl (Nat.le_of_ble_eq_true rfl) ?_
  intro p e s m below meth c A ls hF hr hlocks hin hE hP hD hS hA hl
  obtain ⟨hx, hb, hml, hown, hts⟩ := id hF
  have hown : s.vm.findClass RX1 = some m.cls := hown
  have hl : lv_has ls 1 [(0, .ref (a 0))] := hl
  have hiX1 : ∀ w ∈ wsX10, w ∈ wsX1_chiefAsker := fun _ h => List.mem_cons_of_mem _ (List.mem_append_right _ (h))
  have f32 : (Cond.fieldLink RX1 32 "ConcertUsher$Hall" "isSecondPresent" "Z").before _ s = true := hts _ (List.mem_of_getElem? (i := 1) rfl)
  have f29 : (Cond.fieldLink RX1 29 "ConcertUsher$Hall" "isFirstPresent" "Z").before _ s = true := hts _ (List.mem_of_getElem? (i := 2) rfl)
  refine lv_aload_n hx hb dX1_chiefAsker_0 rfl (lv_at hl 0 rfl) ?_
  refine va_get (D := g.1) (ci := 1) (v := .int (hf2 h)) (C := RX1) (T := TX1) (N := 12) hx hb hts hiX1 hown hE.1 hP 0 rfl rfl 6 (by decide) f32 (fun _ h9 => h9) rfl dX1_chiefAsker_1 ?_
  refine lv_if_eq (tgt := 9) hx hb dX1_chiefAsker_4 (by decide) (fun c1 => ?_) (fun c1 => ?_)
  ·
    refine lv_aload_n hx hb dX1_chiefAsker_9 rfl (lv_at hl 0 rfl) ?_
    refine va_get (D := g.1) (ci := 1) (v := .int (hf1 h)) (C := RX1) (T := TX1) (N := 12) hx hb hts hiX1 hown hE.1 hP 0 rfl rfl 5 (by decide) f29 (fun _ h9 => h9) rfl dX1_chiefAsker_10 ?_
    refine lv_if_eq (tgt := 20) hx hb dX1_chiefAsker_13 (by decide) (fun c2 => ?_) (fun c2 => ?_)
    ·
      refine lv_iconst (v := (nI 0)) hx hb dX1_chiefAsker_20 (by decide) ?_
      have hP : va_P g.1 vwCl (wH g a h) _ := hP
      have hD : va_D A (wH g a h) := hD
      exact k_iret hx hb hr hlocks rfl (by first | (simp only [Hchief, bI, if_pos c1, if_neg (not_not_intro c1), if_pos c2, if_neg (not_not_intro c2)]; done) | (simp only [Hchief, bI, if_pos c1, if_neg (not_not_intro c1), if_pos c2, if_neg (not_not_intro c2)]; rfl) | rfl | (simp [Hchief, bI, if_pos c1, if_neg (not_not_intro c1), if_pos c2, if_neg (not_not_intro c2)]; done)) hP hD hS (Nat.le_of_ble_eq_true rfl) (Nat.le_of_ble_eq_true rfl) dX1_chiefAsker_21
    ·
      refine lv_iconst (v := (nI 1)) hx hb dX1_chiefAsker_16 (by decide) ?_
      refine lv_goto (tgt := 21) hx hb dX1_chiefAsker_17 (by decide) ?_
      have hP : va_P g.1 vwCl (wH g a h) _ := hP
      have hD : va_D A (wH g a h) := hD
      exact k_iret hx hb hr hlocks rfl (by first | (simp only [Hchief, bI, if_pos c1, if_neg (not_not_intro c1), if_neg c2, if_pos c2]; done) | (simp only [Hchief, bI, if_pos c1, if_neg (not_not_intro c1), if_neg c2, if_pos c2]; rfl) | rfl | (simp [Hchief, bI, if_pos c1, if_neg (not_not_intro c1), if_neg c2, if_pos c2]; done)) hP hD hS (Nat.le_of_ble_eq_true rfl) (Nat.le_of_ble_eq_true rfl) dX1_chiefAsker_21
  ·
    refine lv_iconst (v := (nI 2)) hx hb dX1_chiefAsker_7 (by decide) ?_
    have hP : va_P g.1 vwCl (wH g a h) _ := hP
    have hD : va_D A (wH g a h) := hD
    exact k_iret hx hb hr hlocks rfl (by first | (simp only [Hchief, bI, if_neg c1, if_pos c1]; done) | (simp only [Hchief, bI, if_neg c1, if_pos c1]; rfl) | rfl | (simp [Hchief, bI, if_neg c1, if_pos c1]; done)) hP hD hS (Nat.le_of_ble_eq_true rfl) (Nat.le_of_ble_eq_true rfl) dX1_chiefAsker_8
set_option maxHeartbeats 4000000 in
set_option maxRecDepth 100000 in
theorem c_X1_entriesInAll (l : Launch) (g : kG) (a : Nat → Nat) (h : HSt) : KI l yX1_entriesInAll wsX1_entriesInAll ({ frames := 0, cells := 0, slots := 0, locals := 0 }) g [.ref (a 0)] (wH g a h) (nI (Hent (hR h) 48)) (wH g a h) 0 0 := by
  refine k_begin (cc := cX1_entriesInAll) (maxL := 3) (ret := (some .int)) (Qc := fun A => kQi g (nI (Hent (hR h) 48)) (wH g a h) A) (by decide) rfl (Nat.le_of_ble_eq_true rfl) ?_
  intro p e s m below meth c A ls hF hr hlocks hin hE hP hD hS hA hl
  obtain ⟨hx, hb, hml, hown, hts⟩ := id hF
  have hown : s.vm.findClass RX1 = some m.cls := hown
  have hl : lv_has ls 3 [(0, .ref (a 0))] := hl
  have hiX1 : ∀ w ∈ wsX10, w ∈ wsX1_entriesInAll := fun _ h => List.mem_cons_of_mem _ (List.mem_append_right _ (h))
  have f15 : (Cond.fieldLink RX1 15 "ConcertUsher$Hall" "rests" "[I").before _ s = true := hts _ (List.mem_of_getElem? (i := 1) rfl)
  refine lv_iconst (v := (nI 0)) hx hb dX1_entriesInAll_0 (by decide) ?_
  refine lv_istore_n (lv' := [(1, .int (nI 0)), (0, .ref (a 0))]) hx hb dX1_entriesInAll_1 rfl hl (by decide) rfl (fun ls hl => ?_)
  refine lv_iconst (v := (nI 0)) hx hb dX1_entriesInAll_2 (by decide) ?_
  refine lv_istore_n (lv' := [(2, .int (nI 0)), (1, .int (nI 0)), (0, .ref (a 0))]) hx hb dX1_entriesInAll_3 rfl hl (by decide) rfl (fun ls hl => ?_)
  refine k_loop (N := 48) (Inv := fun (i : Nat) (H : Heap) (locs : List Loc) (ls : Array Slot) => va_P g.1 vwCl (wH g a h) H ∧ va_D A (wH g a h) ∧ va_S A s.heap H locs ∧ lv_has ls 3 [(2, .int (nI i)), (1, .int (nI (Hent (hR h) i))), (0, .ref (a 0))]) 0 (Nat.zero_le _) ⟨hP, hD, hS, lv_sub hl [0, 1, 2] rfl⟩ (fun i hle2 ih1 H locs ls hinv => ?_)
  obtain ⟨hP, hD, hS, hl⟩ := hinv
  refine lv_iload_n hx hb dX1_entriesInAll_4 rfl (lv_at hl 0 rfl) ?_
  refine lv_bipush (v := (nI 48)) hx hb dX1_entriesInAll_5 (by decide) ?_
  refine k_geN (tgt := 28) hx hb (by omega) (by decide) dX1_entriesInAll_7 (by decide) (fun c3 => ?_) (fun c3 => ?_)
  ·
    obtain rfl : 48 = i := by omega
    refine lv_iload_n hx hb dX1_entriesInAll_28 rfl (lv_at hl 1 rfl) ?_
    have hP : va_P g.1 vwCl (wH g a h) _ := hP
    have hD : va_D A (wH g a h) := hD
    exact k_iret hx hb hr hlocks rfl rfl hP hD hS (Nat.le_of_ble_eq_true rfl) (Nat.le_of_ble_eq_true rfl) dX1_entriesInAll_29
  ·
    refine lv_aload_n hx hb dX1_entriesInAll_10 rfl (lv_at hl 2 rfl) ?_
    refine va_get (D := g.1) (ci := 1) (v := .ref (a 2)) (C := RX1) (T := TX1) (N := 12) hx hb hts hiX1 hown hE.1 hP 0 rfl rfl 1 (by decide) f15 (fun _ h9 => h9) rfl dX1_entriesInAll_11 ?_
    refine lv_iload_n hx hb dX1_entriesInAll_14 rfl (lv_at hl 0 rfl) ?_
    refine k_iald (f := (hR h)) hx hb hE hP 2 rfl i rfl (by omega) (by decide) dX1_entriesInAll_15 ?_
    refine lv_if_le (tgt := 22) hx hb dX1_entriesInAll_16 (by decide) (fun c4 => ?_) (fun c4 => ?_)
    ·
      refine lv_iinc (v := (nI (i + 1))) (lv' := [(2, .int (nI (i + 1))), (1, .int (nI (Hent (hR h) i))), (0, .ref (a 0))]) hx hb dX1_entriesInAll_22 hl (k := 0) rfl (k_inc1 _) (by decide) rfl (fun ls hl => ?_)
      refine lv_goto (tgt := 4) hx hb dX1_entriesInAll_25 (by decide) ?_
      have e5 : (nI (Hent (hR h) (i + 1))) = (nI (Hent (hR h) i)) := (by first | (simp only [Hent, bI, if_neg (Nat.not_le.mpr c3), if_pos (Nat.not_le.mpr c3), if_pos c4, if_neg (not_not_intro c4)]; done) | (simp only [Hent, bI, if_neg (Nat.not_le.mpr c3), if_pos (Nat.not_le.mpr c3), if_pos c4, if_neg (not_not_intro c4)]; rfl) | rfl | (simp [Hent, bI, if_neg (Nat.not_le.mpr c3), if_pos (Nat.not_le.mpr c3), if_pos c4, if_neg (not_not_intro c4)]; done))
      exact ih1 _ _ _ (by omega) ⟨hP, hD, hS, (by rw [e5]; exact lv_sub hl [0, 1, 2] rfl)⟩
    ·
      refine lv_iinc (v := (nI ((Hent (hR h) i) + 1))) (lv' := [(1, .int (nI ((Hent (hR h) i) + 1))), (2, .int (nI i)), (0, .ref (a 0))]) hx hb dX1_entriesInAll_19 hl (k := 1) rfl (k_inc1 _) (by decide) rfl (fun ls hl => ?_)
      refine lv_iinc (v := (nI (i + 1))) (lv' := [(2, .int (nI (i + 1))), (1, .int (nI ((Hent (hR h) i) + 1))), (0, .ref (a 0))]) hx hb dX1_entriesInAll_22 hl (k := 1) rfl (k_inc1 _) (by decide) rfl (fun ls hl => ?_)
      refine lv_goto (tgt := 4) hx hb dX1_entriesInAll_25 (by decide) ?_
      have e6 : (nI (Hent (hR h) (i + 1))) = (nI ((Hent (hR h) i) + 1)) := (by first | (simp only [Hent, bI, if_neg (Nat.not_le.mpr c3), if_pos (Nat.not_le.mpr c3), if_neg c4, if_pos c4]; done) | (simp only [Hent, bI, if_neg (Nat.not_le.mpr c3), if_pos (Nat.not_le.mpr c3), if_neg c4, if_pos c4]; rfl) | rfl | (simp [Hent, bI, if_neg (Nat.not_le.mpr c3), if_pos (Nat.not_le.mpr c3), if_neg c4, if_pos c4]; done))
      exact ih1 _ _ _ (by omega) ⟨hP, hD, hS, (by rw [e6]; exact lv_sub hl [0, 1, 2] rfl)⟩
set_option maxHeartbeats 4000000 in
set_option maxRecDepth 100000 in
theorem c_X1_rowsThatGet (l : Launch) (g : kG) (a : Nat → Nat) (h : HSt) (c0 : Nat) (hc0 : c0 < 6) : KI l yX1_rowsThatGet wsX1_rowsThatGet ({ frames := 1, cells := 0, slots := 0, locals := 21 }) g [.ref (a 0), .int (nI c0)] (wH g a h) (Hget h c0 8) (wH g a h) 0 0 := by
  refine k_begin (cc := cX1_rowsThatGet) (maxL := 4) (ret := (some .int)) (Qc := fun A => kQi g (Hget h c0 8) (wH g a h) A) (by decide) rfl (Nat.le_of_ble_eq_true rfl) ?_
  intro p e s m below meth c A ls hF hr hlocks hin hE hP hD hS hA hl
  obtain ⟨hx, hb, hml, hown, hts⟩ := id hF
  have hown : s.vm.findClass RX1 = some m.cls := hown
  have hl : lv_has ls 4 [(0, .ref (a 0)), (1, .int (nI c0))] := hl
  have hiX1 : ∀ w ∈ wsX10, w ∈ wsX1_rowsThatGet := fun _ h => List.mem_cons_of_mem _ (List.mem_append_right _ (h))
  have f21 : (Cond.fieldLink RX1 21 "ConcertUsher$Hall" "openRows" "I").before _ s = true := hts _ (List.mem_of_getElem? (i := 1) rfl)
  have f15 : (Cond.fieldLink RX1 15 "ConcertUsher$Hall" "rests" "[I").before _ s = true := hts _ (List.mem_of_getElem? (i := 2) rfl)
  have sta_X3_placeOf : (Cond.static yX3_placeOf).before _ s = true := hts _ (List.mem_of_getElem? (i := 3) rfl)
  have ini_X3 : (Cond.initialized RX3).before _ s = true := hts _ (List.mem_of_getElem? (i := 4) rfl)
  refine lv_aload_n hx hb dX1_rowsThatGet_0 rfl (lv_at hl 0 rfl) ?_
  refine va_get (D := g.1) (ci := 1) (v := .int (hop h)) (C := RX1) (T := TX1) (N := 12) hx hb hts hiX1 hown hE.1 hP 0 rfl rfl 3 (by decide) f21 (fun _ h9 => h9) rfl dX1_rowsThatGet_1 ?_
  refine lv_istore_n (lv' := [(2, .int (hop h)), (0, .ref (a 0)), (1, .int (nI c0))]) hx hb dX1_rowsThatGet_4 rfl hl (by decide) rfl (fun ls hl => ?_)
  refine lv_iconst (v := (nI 0)) hx hb dX1_rowsThatGet_5 (by decide) ?_
  refine lv_istore_n (lv' := [(3, .int (nI 0)), (2, .int (hop h)), (0, .ref (a 0)), (1, .int (nI c0))]) hx hb dX1_rowsThatGet_6 rfl hl (by decide) rfl (fun ls hl => ?_)
  refine k_loop (N := 8) (Inv := fun (i : Nat) (H : Heap) (locs : List Loc) (ls : Array Slot) => va_P g.1 vwCl (wH g a h) H ∧ va_D A (wH g a h) ∧ va_S A s.heap H locs ∧ lv_has ls 4 [(3, .int (nI i)), (2, .int (Hget h c0 i)), (0, .ref (a 0)), (1, .int (nI c0))]) 0 (Nat.zero_le _) ⟨hP, hD, hS, lv_sub hl [0, 1, 2, 3] rfl⟩ (fun i hle2 ih1 H locs ls hinv => ?_)
  obtain ⟨hP, hD, hS, hl⟩ := hinv
  refine lv_iload_n hx hb dX1_rowsThatGet_7 rfl (lv_at hl 0 rfl) ?_
  refine lv_bipush (v := (nI 8)) hx hb dX1_rowsThatGet_8 (by decide) ?_
  refine k_geN (tgt := 38) hx hb (by omega) (by decide) dX1_rowsThatGet_10 (by decide) (fun c3 => ?_) (fun c3 => ?_)
  ·
    obtain rfl : 8 = i := by omega
    refine lv_iload_n hx hb dX1_rowsThatGet_38 rfl (lv_at hl 1 rfl) ?_
    have hP : va_P g.1 vwCl (wH g a h) _ := hP
    have hD : va_D A (wH g a h) := hD
    exact k_iret hx hb hr hlocks rfl rfl hP hD hS (Nat.le_of_ble_eq_true rfl) (Nat.le_of_ble_eq_true rfl) dX1_rowsThatGet_39
  ·
    refine lv_aload_n hx hb dX1_rowsThatGet_13 rfl (lv_at hl 2 rfl) ?_
    refine va_get (D := g.1) (ci := 1) (v := .ref (a 2)) (C := RX1) (T := TX1) (N := 12) hx hb hts hiX1 hown hE.1 hP 0 rfl rfl 1 (by decide) f15 (fun _ h9 => h9) rfl dX1_rowsThatGet_14 ?_
    refine lv_iload_n hx hb dX1_rowsThatGet_17 rfl (lv_at hl 0 rfl) ?_
    refine lv_iload_n hx hb dX1_rowsThatGet_18 rfl (lv_at hl 3 rfl) ?_
    refine k_SNi (w0 := []) (w1 := []) (As := [.int (nI i), .int (nI c0)]) (r := (nI (i * 6 + c0))) hF (c_X3_placeOf l g i c0) ⟨va_cnB 2 hts gX1_rowsThatGet_X3_placeOf_n67 rfl rfl rfl hE.2.1.1 ini_X3 (by decide +kernel) ⟨Nat.le_of_ble_eq_true rfl, Nat.le_of_ble_eq_true rfl⟩, sta_X3_placeOf, trivial⟩ hE hP hD hS hA (List.Perm.refl _) (List.Perm.refl _) rfl hl.1 rfl (Nat.le_of_ble_eq_true rfl) dX1_rowsThatGet_19 ⟨Nat.le_of_ble_eq_true rfl, Nat.le_of_ble_eq_true rfl⟩ (fun H locs hP hD hS => ?_)
    have hP : va_P g.1 vwCl (wH g a h) _ := hP
    have hD : va_D A (wH g a h) := hD
    refine k_iald (f := (hR h)) hx hb hE hP 2 rfl (i * 6 + c0) rfl (by omega) (by decide) dX1_rowsThatGet_22 ?_
    refine lv_if_le (tgt := 32) hx hb dX1_rowsThatGet_23 (by decide) (fun c4 => ?_) (fun c4 => ?_)
    ·
      refine lv_iinc (v := (nI (i + 1))) (lv' := [(3, .int (nI (i + 1))), (2, .int (Hget h c0 i)), (0, .ref (a 0)), (1, .int (nI c0))]) hx hb dX1_rowsThatGet_32 hl (k := 0) rfl (k_inc1 _) (by decide) rfl (fun ls hl => ?_)
      refine lv_goto (tgt := 7) hx hb dX1_rowsThatGet_35 (by decide) ?_
      have e5 : (Hget h c0 (i + 1)) = (Hget h c0 i) := (by first | (simp only [Hget, bI, if_neg (Nat.not_le.mpr c3), if_pos (Nat.not_le.mpr c3), if_pos c4, if_neg (not_not_intro c4)]; done) | (simp only [Hget, bI, if_neg (Nat.not_le.mpr c3), if_pos (Nat.not_le.mpr c3), if_pos c4, if_neg (not_not_intro c4)]; rfl) | rfl | (simp [Hget, bI, if_neg (Nat.not_le.mpr c3), if_pos (Nat.not_le.mpr c3), if_pos c4, if_neg (not_not_intro c4)]; done))
      exact ih1 _ _ _ (by omega) ⟨hP, hD, hS, (by rw [e5]; exact lv_sub hl [0, 1, 2, 3] rfl)⟩
    ·
      refine lv_iload_n hx hb dX1_rowsThatGet_26 rfl (lv_at hl 1 rfl) ?_
      refine lv_iconst (v := (nI 1)) hx hb dX1_rowsThatGet_27 (by decide) ?_
      refine lv_iload_n hx hb dX1_rowsThatGet_28 rfl (lv_at hl 0 rfl) ?_
      refine lv_ishl hx hb dX1_rowsThatGet_29 ?_
      refine lv_ior hx hb dX1_rowsThatGet_30 ?_
      refine lv_istore_n (lv' := [(2, .int ((Hget h c0 i) ||| ((nI 1) <<< ((nI i) &&& 31)))), (3, .int (nI i)), (0, .ref (a 0)), (1, .int (nI c0))]) hx hb dX1_rowsThatGet_31 rfl hl (by decide) rfl (fun ls hl => ?_)
      refine lv_iinc (v := (nI (i + 1))) (lv' := [(3, .int (nI (i + 1))), (2, .int ((Hget h c0 i) ||| ((nI 1) <<< ((nI i) &&& 31)))), (0, .ref (a 0)), (1, .int (nI c0))]) hx hb dX1_rowsThatGet_32 hl (k := 1) rfl (k_inc1 _) (by decide) rfl (fun ls hl => ?_)
      refine lv_goto (tgt := 7) hx hb dX1_rowsThatGet_35 (by decide) ?_
      have e6 : (Hget h c0 (i + 1)) = ((Hget h c0 i) ||| ((nI 1) <<< ((nI i) &&& 31))) := (by first | (simp only [Hget, bI, if_neg (Nat.not_le.mpr c3), if_pos (Nat.not_le.mpr c3), if_neg c4, if_pos c4]; done) | (simp only [Hget, bI, if_neg (Nat.not_le.mpr c3), if_pos (Nat.not_le.mpr c3), if_neg c4, if_pos c4]; rfl) | rfl | (simp [Hget, bI, if_neg (Nat.not_le.mpr c3), if_pos (Nat.not_le.mpr c3), if_neg c4, if_pos c4]; done))
      exact ih1 _ _ _ (by omega) ⟨hP, hD, hS, (by rw [e6]; exact lv_sub hl [0, 1, 2, 3] rfl)⟩
set_option maxHeartbeats 4000000 in
set_option maxRecDepth 100000 in
theorem c_X1_rowsThatWant (l : Launch) (g : kG) (a : Nat → Nat) (h : HSt) (c0 : Nat) (hc0 : c0 < 6) : KI l yX1_rowsThatWant wsX1_rowsThatWant ({ frames := 1, cells := 0, slots := 0, locals := 21 }) g [.ref (a 0), .int (nI c0)] (wH g a h) (Hwant h c0 8) (wH g a h) 0 0 := by
  refine k_begin (cc := cX1_rowsThatWant) (maxL := 4) (ret := (some .int)) (Qc := fun A => kQi g (Hwant h c0 8) (wH g a h) A) (by decide) rfl (Nat.le_of_ble_eq_true rfl) ?_
  intro p e s m below meth c A ls hF hr hlocks hin hE hP hD hS hA hl
  obtain ⟨hx, hb, hml, hown, hts⟩ := id hF
  have hown : s.vm.findClass RX1 = some m.cls := hown
  have hl : lv_has ls 4 [(0, .ref (a 0)), (1, .int (nI c0))] := hl
  have sta_X3_placeOf : (Cond.static yX3_placeOf).before _ s = true := hts _ (List.mem_of_getElem? (i := 1) rfl)
  have ini_X3 : (Cond.initialized RX3).before _ s = true := hts _ (List.mem_of_getElem? (i := 2) rfl)
  refine lv_iconst (v := (nI 0)) hx hb dX1_rowsThatWant_0 (by decide) ?_
  refine lv_istore_n (lv' := [(2, .int (nI 0)), (0, .ref (a 0)), (1, .int (nI c0))]) hx hb dX1_rowsThatWant_1 rfl hl (by decide) rfl (fun ls hl => ?_)
  refine lv_iconst (v := (nI 0)) hx hb dX1_rowsThatWant_2 (by decide) ?_
  refine lv_istore_n (lv' := [(3, .int (nI 0)), (2, .int (nI 0)), (0, .ref (a 0)), (1, .int (nI c0))]) hx hb dX1_rowsThatWant_3 rfl hl (by decide) rfl (fun ls hl => ?_)
  refine k_loop (N := 8) (Inv := fun (i : Nat) (H : Heap) (locs : List Loc) (ls : Array Slot) => va_P g.1 vwCl (wH g a h) H ∧ va_D A (wH g a h) ∧ va_S A s.heap H locs ∧ lv_has ls 4 [(3, .int (nI i)), (2, .int (Hwant h c0 i)), (0, .ref (a 0)), (1, .int (nI c0))]) 0 (Nat.zero_le _) ⟨hP, hD, hS, lv_sub hl [0, 1, 2, 3] rfl⟩ (fun i hle2 ih1 H locs ls hinv => ?_)
  obtain ⟨hP, hD, hS, hl⟩ := hinv
  refine lv_iload_n hx hb dX1_rowsThatWant_4 rfl (lv_at hl 0 rfl) ?_
  refine lv_bipush (v := (nI 8)) hx hb dX1_rowsThatWant_5 (by decide) ?_
  refine k_geN (tgt := 34) hx hb (by omega) (by decide) dX1_rowsThatWant_7 (by decide) (fun c3 => ?_) (fun c3 => ?_)
  ·
    obtain rfl : 8 = i := by omega
    refine lv_iload_n hx hb dX1_rowsThatWant_34 rfl (lv_at hl 1 rfl) ?_
    have hP : va_P g.1 vwCl (wH g a h) _ := hP
    have hD : va_D A (wH g a h) := hD
    exact k_iret hx hb hr hlocks rfl rfl hP hD hS (Nat.le_of_ble_eq_true rfl) (Nat.le_of_ble_eq_true rfl) dX1_rowsThatWant_35
  ·
    refine lv_aload_n hx hb dX1_rowsThatWant_10 rfl (lv_at hl 2 rfl) ?_
    refine lv_iload_n hx hb dX1_rowsThatWant_11 rfl (lv_at hl 0 rfl) ?_
    refine lv_iload_n hx hb dX1_rowsThatWant_12 rfl (lv_at hl 3 rfl) ?_
    refine k_SNi (w0 := []) (w1 := []) (As := [.int (nI i), .int (nI c0)]) (r := (nI (i * 6 + c0))) hF (c_X3_placeOf l g i c0) ⟨va_cnB 2 hts gX1_rowsThatWant_X3_placeOf_n67 rfl rfl rfl hE.2.1.1 ini_X3 (by decide +kernel) ⟨Nat.le_of_ble_eq_true rfl, Nat.le_of_ble_eq_true rfl⟩, sta_X3_placeOf, trivial⟩ hE hP hD hS hA (List.Perm.refl _) (List.Perm.refl _) rfl hl.1 rfl (Nat.le_of_ble_eq_true rfl) dX1_rowsThatWant_13 ⟨Nat.le_of_ble_eq_true rfl, Nat.le_of_ble_eq_true rfl⟩ (fun H locs hP hD hS => ?_)
    have hP : va_P g.1 vwCl (wH g a h) _ := hP
    have hD : va_D A (wH g a h) := hD
    refine k_Vi (As := [.int (nI (i * 6 + c0))]) (r := (bI (¬ ((hL h) (i * 6 + c0)) ≤ 0))) hF (c_X1_isWantedAt l g a h (i * 6 + c0) (by omega)) (cwV 1 hts gX1_rowsThatWant_X1_isWantedAt rfl rfl rfl (by decide +kernel) ⟨Nat.le_of_ble_eq_true rfl, Nat.le_of_ble_eq_true rfl⟩) hE hP hD hS hA (k_pall _) ((k_pall _).symm) 0 rfl rfl rfl rfl hl.1 rfl (Nat.le_of_ble_eq_true rfl) dX1_rowsThatWant_16 ⟨Nat.le_of_ble_eq_true rfl, Nat.le_of_ble_eq_true rfl⟩ (fun H locs hP hD hS => ?_)
    have hP : va_P g.1 vwCl (wH g a h) _ := hP
    have hD : va_D A (wH g a h) := hD
    refine k_ifeqB (tgt := 28) hx hb dX1_rowsThatWant_19 (by decide) (fun c4 => ?_) (fun c4 => ?_)
    ·
      refine lv_iinc (v := (nI (i + 1))) (lv' := [(3, .int (nI (i + 1))), (2, .int (Hwant h c0 i)), (0, .ref (a 0)), (1, .int (nI c0))]) hx hb dX1_rowsThatWant_28 hl (k := 0) rfl (k_inc1 _) (by decide) rfl (fun ls hl => ?_)
      refine lv_goto (tgt := 4) hx hb dX1_rowsThatWant_31 (by decide) ?_
      have e5 : (Hwant h c0 (i + 1)) = (Hwant h c0 i) := (by first | (simp only [Hwant, bI, if_neg (Nat.not_le.mpr c3), if_pos (Nat.not_le.mpr c3), if_neg c4, if_pos c4]; done) | (simp only [Hwant, bI, if_neg (Nat.not_le.mpr c3), if_pos (Nat.not_le.mpr c3), if_neg c4, if_pos c4]; rfl) | rfl | (simp [Hwant, bI, if_neg (Nat.not_le.mpr c3), if_pos (Nat.not_le.mpr c3), if_neg c4, if_pos c4]; done))
      exact ih1 _ _ _ (by omega) ⟨hP, hD, hS, (by rw [e5]; exact lv_sub hl [0, 1, 2, 3] rfl)⟩
    ·
      refine lv_iload_n hx hb dX1_rowsThatWant_22 rfl (lv_at hl 1 rfl) ?_
      refine lv_iconst (v := (nI 1)) hx hb dX1_rowsThatWant_23 (by decide) ?_
      refine lv_iload_n hx hb dX1_rowsThatWant_24 rfl (lv_at hl 0 rfl) ?_
      refine lv_ishl hx hb dX1_rowsThatWant_25 ?_
      refine lv_ior hx hb dX1_rowsThatWant_26 ?_
      refine lv_istore_n (lv' := [(2, .int ((Hwant h c0 i) ||| ((nI 1) <<< ((nI i) &&& 31)))), (3, .int (nI i)), (0, .ref (a 0)), (1, .int (nI c0))]) hx hb dX1_rowsThatWant_27 rfl hl (by decide) rfl (fun ls hl => ?_)
      refine lv_iinc (v := (nI (i + 1))) (lv' := [(3, .int (nI (i + 1))), (2, .int ((Hwant h c0 i) ||| ((nI 1) <<< ((nI i) &&& 31)))), (0, .ref (a 0)), (1, .int (nI c0))]) hx hb dX1_rowsThatWant_28 hl (k := 1) rfl (k_inc1 _) (by decide) rfl (fun ls hl => ?_)
      refine lv_goto (tgt := 4) hx hb dX1_rowsThatWant_31 (by decide) ?_
      have e6 : (Hwant h c0 (i + 1)) = ((Hwant h c0 i) ||| ((nI 1) <<< ((nI i) &&& 31))) := (by first | (simp only [Hwant, bI, if_neg (Nat.not_le.mpr c3), if_pos (Nat.not_le.mpr c3), if_pos c4, if_neg (not_not_intro c4)]; done) | (simp only [Hwant, bI, if_neg (Nat.not_le.mpr c3), if_pos (Nat.not_le.mpr c3), if_pos c4, if_neg (not_not_intro c4)]; rfl) | rfl | (simp [Hwant, bI, if_neg (Nat.not_le.mpr c3), if_pos (Nat.not_le.mpr c3), if_pos c4, if_neg (not_not_intro c4)]; done))
      exact ih1 _ _ _ (by omega) ⟨hP, hD, hS, (by rw [e6]; exact lv_sub hl [0, 1, 2, 3] rfl)⟩
set_option maxHeartbeats 4000000 in
set_option maxRecDepth 100000 in
theorem c_X1_fadeEntries (l : Launch) (g : kG) (a : Nat → Nat) (h : HSt) : KV l yX1_fadeEntries wsX1_fadeEntries ({ frames := 0, cells := 0, slots := 0, locals := 0 }) g [.ref (a 0)] (wH g a h) (wH g a (Hfade h)) 0 0 := by
  refine k_begin (cc := cX1_fadeEntries) (maxL := 2) (ret := none) (Qc := fun A => kQv g (wH g a (Hfade h)) A) (by decide) rfl (Nat.le_of_ble_eq_true rfl) ?_
  intro p e s m below meth c A ls hF hr hlocks hin hE hP hD hS hA hl
  obtain ⟨hx, hb, hml, hown, hts⟩ := id hF
  have hown : s.vm.findClass RX1 = some m.cls := hown
  have hl : lv_has ls 2 [(0, .ref (a 0))] := hl
  have hiX1 : ∀ w ∈ wsX10, w ∈ wsX1_fadeEntries := fun _ h => List.mem_cons_of_mem _ (List.mem_append_right _ (h))
  have f15 : (Cond.fieldLink RX1 15 "ConcertUsher$Hall" "rests" "[I").before _ s = true := hts _ (List.mem_of_getElem? (i := 1) rfl)
  refine lv_iconst (v := (nI 0)) hx hb dX1_fadeEntries_0 (by decide) ?_
  refine lv_istore_n (lv' := [(1, .int (nI 0)), (0, .ref (a 0))]) hx hb dX1_fadeEntries_1 rfl hl (by decide) rfl (fun ls hl => ?_)
  refine k_loop (N := 48) (Inv := fun (i : Nat) (H : Heap) (locs : List Loc) (ls : Array Slot) => va_P g.1 vwCl (wH g a (sHR h (HfadeN (hR h) i))) H ∧ va_D A (wH g a (sHR h (HfadeN (hR h) i))) ∧ va_S A s.heap H locs ∧ lv_has ls 2 [(1, .int (nI i)), (0, .ref (a 0))]) 0 (Nat.zero_le _) ⟨hP, hD, hS, lv_sub hl [0, 1] rfl⟩ (fun i hle2 ih1 H locs ls hinv => ?_)
  obtain ⟨hP, hD, hS, hl⟩ := hinv
  refine lv_iload_n hx hb dX1_fadeEntries_2 rfl (lv_at hl 0 rfl) ?_
  refine lv_bipush (v := (nI 48)) hx hb dX1_fadeEntries_3 (by decide) ?_
  refine k_geN (tgt := 33) hx hb (by omega) (by decide) dX1_fadeEntries_5 (by decide) (fun c3 => ?_) (fun c3 => ?_)
  ·
    obtain rfl : 48 = i := by omega
    have e4 : (Hfade h) = (sHR h (HfadeN (hR h) 48)) := (by first | (simp only [Hfade, if_pos c3, if_neg (not_not_intro c3)]; done) | (simp only [Hfade, if_pos c3, if_neg (not_not_intro c3)]; rfl) | rfl | (simp [Hfade, if_pos c3, if_neg (not_not_intro c3)]; done))
    have hP : va_P g.1 vwCl (wH g a (Hfade h)) H := by rw [e4]; exact hP
    have hD : va_D A (wH g a (Hfade h)) := by rw [e4]; exact hD
    exact k_vret hx hb hr hlocks hP hD hS (Nat.le_of_ble_eq_true rfl) (Nat.le_of_ble_eq_true rfl) dX1_fadeEntries_33
  ·
    refine lv_aload_n hx hb dX1_fadeEntries_8 rfl (lv_at hl 1 rfl) ?_
    refine va_get (D := g.1) (ci := 1) (v := .ref (a 2)) (C := RX1) (T := TX1) (N := 12) hx hb hts hiX1 hown hE.1 hP 0 rfl rfl 1 (by decide) f15 (fun _ h9 => h9) rfl dX1_fadeEntries_9 ?_
    refine lv_iload_n hx hb dX1_fadeEntries_12 rfl (lv_at hl 0 rfl) ?_
    refine k_iald (f := (HfadeN (hR h) i)) hx hb hE hP 2 rfl i rfl (by omega) (by decide) dX1_fadeEntries_13 ?_
    refine lv_if_le (tgt := 27) hx hb dX1_fadeEntries_14 (by decide) (fun c5 => ?_) (fun c5 => ?_)
    ·
      refine lv_iinc (v := (nI (i + 1))) (lv' := [(1, .int (nI (i + 1))), (0, .ref (a 0))]) hx hb dX1_fadeEntries_27 hl (k := 0) rfl (k_inc1 _) (by decide) rfl (fun ls hl => ?_)
      refine lv_goto (tgt := 2) hx hb dX1_fadeEntries_30 (by decide) ?_
      have e6 : (sHR h (HfadeN (hR h) (i + 1))) = (sHR h (HfadeN (hR h) i)) := (by first | (simp only [Hfade, HfadeN, if_neg (Nat.not_le.mpr c3), if_pos (Nat.not_le.mpr c3), if_pos c5, if_neg (not_not_intro c5)]; done) | (simp only [Hfade, HfadeN, if_neg (Nat.not_le.mpr c3), if_pos (Nat.not_le.mpr c3), if_pos c5, if_neg (not_not_intro c5)]; rfl) | rfl | (simp [Hfade, HfadeN, if_neg (Nat.not_le.mpr c3), if_pos (Nat.not_le.mpr c3), if_pos c5, if_neg (not_not_intro c5)]; done))
      exact ih1 _ _ _ (by omega) ⟨(by rw [e6]; exact hP), (by rw [e6]; exact hD), hS, lv_sub hl [0, 1] rfl⟩
    ·
      refine lv_aload_n hx hb dX1_fadeEntries_17 rfl (lv_at hl 1 rfl) ?_
      refine va_get (D := g.1) (ci := 1) (v := .ref (a 2)) (C := RX1) (T := TX1) (N := 12) hx hb hts hiX1 hown hE.1 hP 0 rfl rfl 1 (by decide) f15 (fun _ h9 => h9) rfl dX1_fadeEntries_18 ?_
      refine lv_iload_n hx hb dX1_fadeEntries_21 rfl (lv_at hl 0 rfl) ?_
      refine lv_dup2_11 hx hb dX1_fadeEntries_22 rfl rfl ?_
      refine k_iald (f := (HfadeN (hR h) i)) hx hb hE hP 2 rfl i rfl (by omega) (by decide) dX1_fadeEntries_23 ?_
      refine lv_iconst (v := (nI 1)) hx hb dX1_fadeEntries_24 (by decide) ?_
      refine lv_isub hx hb dX1_fadeEntries_25 ?_
      refine k_iast (f := (HfadeN (hR h) i)) (ws1 := (wH g a (sHR h (upd (HfadeN (hR h) i) i (((HfadeN (hR h) i) i) - (nI 1)))))) hx hb hE hP hD hS 2 rfl i rfl (by omega) (by decide) rfl dX1_fadeEntries_26 (fun H locs hP hD hS => ?_)
      refine lv_iinc (v := (nI (i + 1))) (lv' := [(1, .int (nI (i + 1))), (0, .ref (a 0))]) hx hb dX1_fadeEntries_27 hl (k := 0) rfl (k_inc1 _) (by decide) rfl (fun ls hl => ?_)
      refine lv_goto (tgt := 2) hx hb dX1_fadeEntries_30 (by decide) ?_
      have e7 : (sHR h (HfadeN (hR h) (i + 1))) = (sHR h (upd (HfadeN (hR h) i) i (((HfadeN (hR h) i) i) - (nI 1)))) := (by first | (simp only [Hfade, HfadeN, if_neg (Nat.not_le.mpr c3), if_pos (Nat.not_le.mpr c3), if_neg c5, if_pos c5]; done) | (simp only [Hfade, HfadeN, if_neg (Nat.not_le.mpr c3), if_pos (Nat.not_le.mpr c3), if_neg c5, if_pos c5]; rfl) | rfl | (simp [Hfade, HfadeN, if_neg (Nat.not_le.mpr c3), if_pos (Nat.not_le.mpr c3), if_neg c5, if_pos c5]; done))
      exact ih1 _ _ _ (by omega) ⟨(by rw [e7]; exact hP), (by rw [e7]; exact hD), hS, lv_sub hl [0, 1] rfl⟩
set_option maxHeartbeats 4000000 in
set_option maxRecDepth 100000 in
theorem c_X1_timeBetweenQuestions (l : Launch) (g : kG) (a : Nat → Nat) (h : HSt) : KI l yX1_timeBetweenQuestions wsX1_timeBetweenQuestions ({ frames := 1, cells := 0, slots := 0, locals := 20 }) g [.ref (a 0)] (wH g a h) (Htbq h) (wH g a h) 0 0 := by
  refine k_begin (cc := cX1_timeBetweenQuestions) (maxL := 1) (ret := (some .int)) (Qc := fun A => kQi g (Htbq h) (wH g a h) A) (by decide) rfl (Nat.le_of_ble_eq_true rfl) ?_
  intro p e s m below meth c A ls hF hr hlocks hin hE hP hD hS hA hl
  obtain ⟨hx, hb, hml, hown, hts⟩ := id hF
  have hown : s.vm.findClass RX1 = some m.cls := hown
  have hl : lv_has ls 1 [(0, .ref (a 0))] := hl
  have hiX1 : ∀ w ∈ wsX10, w ∈ wsX1_timeBetweenQuestions := fun _ h => List.mem_cons_of_mem _ (List.mem_append_right _ (h))
  have f41 : (Cond.fieldLink RX1 41 "ConcertUsher$Hall" "asking" "I").before _ s = true := hts _ (List.mem_of_getElem? (i := 1) rfl)
  refine lv_aload_n hx hb dX1_timeBetweenQuestions_0 rfl (lv_at hl 0 rfl) ?_
  refine k_Vi (As := []) (r := (Hchief h)) hF (c_X1_chiefAsker l g a h) (cwV 0 hts gX1_timeBetweenQuestions_X1_chiefAsker rfl rfl rfl (by decide +kernel) ⟨Nat.le_of_ble_eq_true rfl, Nat.le_of_ble_eq_true rfl⟩) hE hP hD hS hA (k_pall _) ((k_pall _).symm) 0 rfl rfl rfl rfl hl.1 rfl (Nat.le_of_ble_eq_true rfl) dX1_timeBetweenQuestions_1 ⟨Nat.le_of_ble_eq_true rfl, Nat.le_of_ble_eq_true rfl⟩ (fun H locs hP hD hS => ?_)
  have hP : va_P g.1 vwCl (wH g a h) _ := hP
  have hD : va_D A (wH g a h) := hD
  refine lv_if_ne (tgt := 14) hx hb dX1_timeBetweenQuestions_4 (by decide) (fun c1 => ?_) (fun c1 => ?_)
  ·
    refine lv_iconst (v := (nI 2)) hx hb dX1_timeBetweenQuestions_14 (by decide) ?_
    refine lv_aload_n hx hb dX1_timeBetweenQuestions_15 rfl (lv_at hl 0 rfl) ?_
    refine va_get (D := g.1) (ci := 1) (v := .int (has h)) (C := RX1) (T := TX1) (N := 12) hx hb hts hiX1 hown hE.1 hP 0 rfl rfl 9 (by decide) f41 (fun _ h9 => h9) rfl dX1_timeBetweenQuestions_16 ?_
    refine lv_imul hx hb dX1_timeBetweenQuestions_19 ?_
    have hP : va_P g.1 vwCl (wH g a h) _ := hP
    have hD : va_D A (wH g a h) := hD
    exact k_iret hx hb hr hlocks rfl (by first | (simp only [Htbq, bI, if_neg c1, if_pos c1]; done) | (simp only [Htbq, bI, if_neg c1, if_pos c1]; rfl) | rfl | (simp [Htbq, bI, if_neg c1, if_pos c1]; done)) hP hD hS (Nat.le_of_ble_eq_true rfl) (Nat.le_of_ble_eq_true rfl) dX1_timeBetweenQuestions_20
  ·
    refine lv_aload_n hx hb dX1_timeBetweenQuestions_7 rfl (lv_at hl 0 rfl) ?_
    refine va_get (D := g.1) (ci := 1) (v := .int (has h)) (C := RX1) (T := TX1) (N := 12) hx hb hts hiX1 hown hE.1 hP 0 rfl rfl 9 (by decide) f41 (fun _ h9 => h9) rfl dX1_timeBetweenQuestions_8 ?_
    refine lv_goto (tgt := 20) hx hb dX1_timeBetweenQuestions_11 (by decide) ?_
    have hP : va_P g.1 vwCl (wH g a h) _ := hP
    have hD : va_D A (wH g a h) := hD
    exact k_iret hx hb hr hlocks rfl (by first | (simp only [Htbq, bI, if_pos c1, if_neg (not_not_intro c1)]; done) | (simp only [Htbq, bI, if_pos c1, if_neg (not_not_intro c1)]; rfl) | rfl | (simp [Htbq, bI, if_pos c1, if_neg (not_not_intro c1)]; done)) hP hD hS (Nat.le_of_ble_eq_true rfl) (Nat.le_of_ble_eq_true rfl) dX1_timeBetweenQuestions_20
