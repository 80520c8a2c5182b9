/-! what the hall's methods do, as functions of its state -/
set_option maxHeartbeats 4000000 in
set_option maxRecDepth 100000 in
theorem c_J6_bitCount_0f7a4 (l : Launch) (g : kG) (x : Int32) : KI l yJ6_bitCount_0f7a4 wsJ6_bitCount_0f7a4 ({ frames := 0, cells := 0, slots := 0, locals := 0 }) g [.int x] [] (bc x) [] 0 0 := by
  refine k_begin (cc := cJ6_bitCount_0f7a4) (maxL := 1) (ret := (some .int)) (Qc := fun A => kQi g (bc x) [] A) (by decide) rfl (Nat.le_of_ble_eq_true rfl) ?_
  intro p e s m below meth c A ls hF hr hlocks hin hE hP hD hS hA hl
  obtain ⟨hx, hb, hml, hown, hts⟩ := id hF
  have hown : s.vm.findClass RJ6 = some m.cls := hown
  have hl : lv_has ls 1 [(0, .int x)] := hl
  have cst265 : (Cond.constant RJ6 265 (1431655765)).before _ s = true := hts _ (List.mem_of_getElem? (i := 1) rfl)
  have cst266 : (Cond.constant RJ6 266 (858993459)).before _ s = true := hts _ (List.mem_of_getElem? (i := 2) rfl)
  have cst267 : (Cond.constant RJ6 267 (252645135)).before _ s = true := hts _ (List.mem_of_getElem? (i := 3) rfl)
  refine lv_iload_n hx hb dJ6_bitCount_0f7a4_0 rfl (lv_at hl 0 rfl) ?_
  refine lv_iload_n hx hb dJ6_bitCount_0f7a4_1 rfl (lv_at hl 0 rfl) ?_
  refine lv_iconst (v := (nI 1)) hx hb dJ6_bitCount_0f7a4_2 (by decide) ?_
  refine lv_iushr (v := ((x).toUInt32 >>> (((nI 1)).toUInt32 &&& Int32.toUInt32 31)).toInt32) hx hb dJ6_bitCount_0f7a4_3 rfl ?_
  refine lv_ldcw hx hb hown cst265 dJ6_bitCount_0f7a4_4 ?_
  refine lv_iand hx hb dJ6_bitCount_0f7a4_7 ?_
  refine lv_isub hx hb dJ6_bitCount_0f7a4_8 ?_
  refine k_top rfl ?_
  refine lv_istore_n (lv' := [(0, .int (bc1 x))]) hx hb dJ6_bitCount_0f7a4_9 rfl hl (by decide) rfl (fun ls hl => ?_)
  refine lv_iload_n hx hb dJ6_bitCount_0f7a4_10 rfl (lv_at hl 0 rfl) ?_
  refine lv_ldcw hx hb hown cst266 dJ6_bitCount_0f7a4_11 ?_
  refine lv_iand hx hb dJ6_bitCount_0f7a4_14 ?_
  refine lv_iload_n hx hb dJ6_bitCount_0f7a4_15 rfl (lv_at hl 0 rfl) ?_
  refine lv_iconst (v := (nI 2)) hx hb dJ6_bitCount_0f7a4_16 (by decide) ?_
  refine lv_iushr (v := (((bc1 x)).toUInt32 >>> (((nI 2)).toUInt32 &&& Int32.toUInt32 31)).toInt32) hx hb dJ6_bitCount_0f7a4_17 rfl ?_
  refine lv_ldcw hx hb hown cst266 dJ6_bitCount_0f7a4_18 ?_
  refine lv_iand hx hb dJ6_bitCount_0f7a4_21 ?_
  refine lv_iadd hx hb dJ6_bitCount_0f7a4_22 ?_
  refine k_top rfl ?_
  refine lv_istore_n (lv' := [(0, .int (bc2 (bc1 x)))]) hx hb dJ6_bitCount_0f7a4_23 rfl hl (by decide) rfl (fun ls hl => ?_)
  refine lv_iload_n hx hb dJ6_bitCount_0f7a4_24 rfl (lv_at hl 0 rfl) ?_
  refine lv_iload_n hx hb dJ6_bitCount_0f7a4_25 rfl (lv_at hl 0 rfl) ?_
  refine lv_iconst (v := (nI 4)) hx hb dJ6_bitCount_0f7a4_26 (by decide) ?_
  refine lv_iushr (v := (((bc2 (bc1 x))).toUInt32 >>> (((nI 4)).toUInt32 &&& Int32.toUInt32 31)).toInt32) hx hb dJ6_bitCount_0f7a4_27 rfl ?_
  refine lv_iadd hx hb dJ6_bitCount_0f7a4_28 ?_
  refine lv_ldcw hx hb hown cst267 dJ6_bitCount_0f7a4_29 ?_
  refine lv_iand hx hb dJ6_bitCount_0f7a4_32 ?_
  refine k_top rfl ?_
  refine lv_istore_n (lv' := [(0, .int (bc3 (bc2 (bc1 x))))]) hx hb dJ6_bitCount_0f7a4_33 rfl hl (by decide) rfl (fun ls hl => ?_)
  refine lv_iload_n hx hb dJ6_bitCount_0f7a4_34 rfl (lv_at hl 0 rfl) ?_
  refine lv_iload_n hx hb dJ6_bitCount_0f7a4_35 rfl (lv_at hl 0 rfl) ?_
  refine lv_bipush (v := (nI 8)) hx hb dJ6_bitCount_0f7a4_36 (by decide) ?_
  refine lv_iushr (v := (((bc3 (bc2 (bc1 x)))).toUInt32 >>> (((nI 8)).toUInt32 &&& Int32.toUInt32 31)).toInt32) hx hb dJ6_bitCount_0f7a4_38 rfl ?_
  refine lv_iadd hx hb dJ6_bitCount_0f7a4_39 ?_
  refine k_top rfl ?_
  refine lv_istore_n (lv' := [(0, .int (bc4 (bc3 (bc2 (bc1 x)))))]) hx hb dJ6_bitCount_0f7a4_40 rfl hl (by decide) rfl (fun ls hl => ?_)
  refine lv_iload_n hx hb dJ6_bitCount_0f7a4_41 rfl (lv_at hl 0 rfl) ?_
  refine lv_iload_n hx hb dJ6_bitCount_0f7a4_42 rfl (lv_at hl 0 rfl) ?_
  refine lv_bipush (v := (nI 16)) hx hb dJ6_bitCount_0f7a4_43 (by decide) ?_
  refine lv_iushr (v := (((bc4 (bc3 (bc2 (bc1 x))))).toUInt32 >>> (((nI 16)).toUInt32 &&& Int32.toUInt32 31)).toInt32) hx hb dJ6_bitCount_0f7a4_45 rfl ?_
  refine lv_iadd hx hb dJ6_bitCount_0f7a4_46 ?_
  refine k_top rfl ?_
  refine lv_istore_n (lv' := [(0, .int (bc5 (bc4 (bc3 (bc2 (bc1 x))))))]) hx hb dJ6_bitCount_0f7a4_47 rfl hl (by decide) rfl (fun ls hl => ?_)
  refine lv_iload_n hx hb dJ6_bitCount_0f7a4_48 rfl (lv_at hl 0 rfl) ?_
  refine lv_bipush (v := (nI 63)) hx hb dJ6_bitCount_0f7a4_49 (by decide) ?_
  refine lv_iand hx hb dJ6_bitCount_0f7a4_51 ?_
  have hP : va_P g.1 vwCl [] _ := hP
  have hD : va_D A [] := hD
  exact k_iret hx hb hr hlocks rfl (by first | rfl | (simp only [bc, bc1, bc2, bc3, bc4, bc5, bI]; done) | (simp only [bc, bc1, bc2, bc3, bc4, bc5, bI]; rfl) | (simp [bc, bc1, bc2, bc3, bc4, bc5, bI]; done)) hP hD hS (Nat.le_of_ble_eq_true rfl) (Nat.le_of_ble_eq_true rfl) dJ6_bitCount_0f7a4_52
set_option maxHeartbeats 4000000 in
set_option maxRecDepth 100000 in
theorem c_X3_placeOf (l : Launch) (g : kG) (r9 c9 : Nat) : KI l yX3_placeOf wsX3_placeOf ({ frames := 0, cells := 0, slots := 0, locals := 0 }) g [.int (nI r9), .int (nI c9)] [] (nI (r9 * 6 + c9)) [] 0 0 := by
  refine k_begin (cc := cX3_placeOf) (maxL := 2) (ret := (some .int)) (Qc := fun A => kQi g (nI (r9 * 6 + c9)) [] A) (by decide) rfl (Nat.le_of_ble_eq_true rfl) ?_
  intro p e s m below meth c A ls hF hr hlocks hin hE hP hD hS hA hl
  obtain ⟨hx, hb, hml, hown, hts⟩ := id hF
  have hown : s.vm.findClass RX3 = some m.cls := hown
  have hl : lv_has ls 2 [(0, .int (nI r9)), (1, .int (nI c9))] := hl
  refine lv_iload_n hx hb dX3_placeOf_0 rfl (lv_at hl 0 rfl) ?_
  refine lv_bipush (v := (nI 6)) hx hb dX3_placeOf_1 (by decide) ?_
  refine lv_imul hx hb dX3_placeOf_3 ?_
  refine k_top (pk_mul _ _) ?_
  refine lv_iload_n hx hb dX3_placeOf_4 rfl (lv_at hl 1 rfl) ?_
  refine lv_iadd hx hb dX3_placeOf_5 ?_
  refine k_top (nI_add _ _) ?_
  have hP : va_P g.1 vwCl [] _ := hP
  have hD : va_D A [] := hD
  exact k_iret hx hb hr hlocks rfl (by first | rfl | (simp only [bI]; done) | (simp only [bI]; rfl) | (simp [bI]; done)) hP hD hS (Nat.le_of_ble_eq_true rfl) (Nat.le_of_ble_eq_true rfl) dX3_placeOf_6
set_option maxHeartbeats 4000000 in
set_option maxRecDepth 100000 in
theorem c_X1_hasRoom (l : Launch) (g : kG) (a : Nat → Nat) (h : HSt) (k : Nat) (hk : k < 48) : KI l yX1_hasRoom wsX1_hasRoom ({ frames := 0, cells := 0, slots := 0, locals := 0 }) g [.ref (a 0), .int (nI k)] (wH g a h) (bI (¬ nI 9 ≤ (hL h) k)) (wH g a h) 0 0 := by
  refine k_begin (cc := cX1_hasRoom) (maxL := 2) (ret := (some .boolean)) (Qc := fun A => kQi g (bI (¬ nI 9 ≤ (hL h) k)) (wH g a h) A) (by decide) rfl (Nat.le_of_ble_eq_true rfl) ?_
  intro p e s m below meth c A ls hF hr hlocks hin hE hP hD hS hA hl
  obtain ⟨hx, hb, hml, hown, hts⟩ := id hF
  have hown : s.vm.findClass RX1 = some m.cls := hown
  have hl : lv_has ls 2 [(0, .ref (a 0)), (1, .int (nI k))] := hl
  have hiX1 : ∀ w ∈ wsX10, w ∈ wsX1_hasRoom := fun _ h => List.mem_cons_of_mem _ (List.mem_append_right _ (h))
  have f9 : (Cond.fieldLink RX1 9 "ConcertUsher$Hall" "listeners" "[I").before _ s = true := hts _ (List.mem_of_getElem? (i := 1) rfl)
  refine lv_aload_n hx hb dX1_hasRoom_0 rfl (lv_at hl 0 rfl) ?_
  refine va_get (D := g.1) (ci := 1) (v := .ref (a 1)) (C := RX1) (T := TX1) (N := 12) hx hb hts hiX1 hown hE.1 hP 0 rfl rfl 0 (by decide) f9 (fun _ h9 => h9) rfl dX1_hasRoom_1 ?_
  refine lv_iload_n hx hb dX1_hasRoom_4 rfl (lv_at hl 1 rfl) ?_
  refine k_iald (f := (hL h)) hx hb hE hP 1 rfl k rfl (by omega) (by decide) dX1_hasRoom_5 ?_
  refine lv_bipush (v := (nI 9)) hx hb dX1_hasRoom_6 (by decide) ?_
  refine lv_icmp_ge (tgt := 15) hx hb dX1_hasRoom_8 (by decide) (fun c1 => ?_) (fun c1 => ?_)
  ·
    refine lv_iconst (v := (nI 0)) hx hb dX1_hasRoom_15 (by decide) ?_
    have hP : va_P g.1 vwCl (wH g a h) _ := hP
    have hD : va_D A (wH g a h) := hD
    exact k_iret hx hb hr hlocks rfl (by first | (simp only [bI, if_pos c1, if_neg (not_not_intro c1)]; done) | (simp only [bI, if_pos c1, if_neg (not_not_intro c1)]; rfl) | rfl | (simp [bI, if_pos c1, if_neg (not_not_intro c1)]; done)) hP hD hS (Nat.le_of_ble_eq_true rfl) (Nat.le_of_ble_eq_true rfl) dX1_hasRoom_16
  ·
    refine lv_iconst (v := (nI 1)) hx hb dX1_hasRoom_11 (by decide) ?_
    refine lv_goto (tgt := 16) hx hb dX1_hasRoom_12 (by decide) ?_
    have hP : va_P g.1 vwCl (wH g a h) _ := hP
    have hD : va_D A (wH g a h) := hD
    exact k_iret hx hb hr hlocks rfl (by first | (simp only [bI, if_neg c1, if_pos c1]; done) | (simp only [bI, if_neg c1, if_pos c1]; rfl) | rfl | (simp [bI, if_neg c1, if_pos c1]; done)) hP hD hS (Nat.le_of_ble_eq_true rfl) (Nat.le_of_ble_eq_true rfl) dX1_hasRoom_16
set_option maxHeartbeats 4000000 in
set_option maxRecDepth 100000 in
theorem c_X1_isWantedAt (l : Launch) (g : kG) (a : Nat → Nat) (h : HSt) (k : Nat) (hk : k < 48) : KI l yX1_isWantedAt wsX1_isWantedAt ({ frames := 0, cells := 0, slots := 0, locals := 0 }) g [.ref (a 0), .int (nI k)] (wH g a h) (bI (¬ (hL h) k ≤ 0)) (wH g a h) 0 0 := by
  refine k_begin (cc := cX1_isWantedAt) (maxL := 2) (ret := (some .boolean)) (Qc := fun A => kQi g (bI (¬ (hL h) k ≤ 0)) (wH g a h) A) (by decide) rfl (Nat.le_of_ble_eq_true rfl) ?_
  intro p e s m below meth c A ls hF hr hlocks hin hE hP hD hS hA hl
  obtain ⟨hx, hb, hml, hown, hts⟩ := id hF
  have hown : s.vm.findClass RX1 = some m.cls := hown
  have hl : lv_has ls 2 [(0, .ref (a 0)), (1, .int (nI k))] := hl
  have hiX1 : ∀ w ∈ wsX10, w ∈ wsX1_isWantedAt := fun _ h => List.mem_cons_of_mem _ (List.mem_append_right _ (h))
  have f9 : (Cond.fieldLink RX1 9 "ConcertUsher$Hall" "listeners" "[I").before _ s = true := hts _ (List.mem_of_getElem? (i := 1) rfl)
  refine lv_aload_n hx hb dX1_isWantedAt_0 rfl (lv_at hl 0 rfl) ?_
  refine va_get (D := g.1) (ci := 1) (v := .ref (a 1)) (C := RX1) (T := TX1) (N := 12) hx hb hts hiX1 hown hE.1 hP 0 rfl rfl 0 (by decide) f9 (fun _ h9 => h9) rfl dX1_isWantedAt_1 ?_
  refine lv_iload_n hx hb dX1_isWantedAt_4 rfl (lv_at hl 1 rfl) ?_
  refine k_iald (f := (hL h)) hx hb hE hP 1 rfl k rfl (by omega) (by decide) dX1_isWantedAt_5 ?_
  refine lv_if_le (tgt := 13) hx hb dX1_isWantedAt_6 (by decide) (fun c1 => ?_) (fun c1 => ?_)
  ·
    refine lv_iconst (v := (nI 0)) hx hb dX1_isWantedAt_13 (by decide) ?_
    have hP : va_P g.1 vwCl (wH g a h) _ := hP
    have hD : va_D A (wH g a h) := hD
    exact k_iret hx hb hr hlocks rfl (by first | (simp only [bI, if_pos c1, if_neg (not_not_intro c1)]; done) | (simp only [bI, if_pos c1, if_neg (not_not_intro c1)]; rfl) | rfl | (simp [bI, if_pos c1, if_neg (not_not_intro c1)]; done)) hP hD hS (Nat.le_of_ble_eq_true rfl) (Nat.le_of_ble_eq_true rfl) dX1_isWantedAt_14
  ·
    refine lv_iconst (v := (nI 1)) hx hb dX1_isWantedAt_9 (by decide) ?_
    refine lv_goto (tgt := 14) hx hb dX1_isWantedAt_10 (by decide) ?_
    have hP : va_P g.1 vwCl (wH g a h) _ := hP
    have hD : va_D A (wH g a h) := hD
    exact k_iret hx hb hr hlocks rfl (by first | (simp only [bI, if_neg c1, if_pos c1]; done) | (simp only [bI, if_neg c1, if_pos c1]; rfl) | rfl | (simp [bI, if_neg c1, if_pos c1]; done)) hP hD hS (Nat.le_of_ble_eq_true rfl) (Nat.le_of_ble_eq_true rfl) dX1_isWantedAt_14
set_option maxHeartbeats 4000000 in
set_option maxRecDepth 100000 in
theorem c_X1_hearCall (l : Launch) (g : kG) (a : Nat → Nat) (h : HSt) (k : Nat) (hk : k < 48) : KV l yX1_hearCall wsX1_hearCall ({ frames := 0, cells := 0, slots := 0, locals := 0 }) g [.ref (a 0), .int (nI k)] (wH g a h) (wH g a (Hhear k h)) 0 0 := by
  refine k_begin (cc := cX1_hearCall) (maxL := 2) (ret := none) (Qc := fun A => kQv g (wH g a (Hhear k h)) A) (by decide) rfl (Nat.le_of_ble_eq_true rfl) ?_
  intro p e s m below meth c A ls hF hr hlocks hin hE hP hD hS hA hl
  obtain ⟨hx, hb, hml, hown, hts⟩ := id hF
  have hown : s.vm.findClass RX1 = some m.cls := hown
  have hl : lv_has ls 2 [(0, .ref (a 0)), (1, .int (nI k))] := hl
  have hiX1 : ∀ w ∈ wsX10, w ∈ wsX1_hearCall := fun _ h => List.mem_cons_of_mem _ (List.mem_append_right _ (h))
  have f9 : (Cond.fieldLink RX1 9 "ConcertUsher$Hall" "listeners" "[I").before _ s = true := hts _ (List.mem_of_getElem? (i := 1) rfl)
  have f15 : (Cond.fieldLink RX1 15 "ConcertUsher$Hall" "rests" "[I").before _ s = true := hts _ (List.mem_of_getElem? (i := 2) rfl)
  have f35 : (Cond.fieldLink RX1 35 "ConcertUsher$Hall" "fading" "I").before _ s = true := hts _ (List.mem_of_getElem? (i := 3) rfl)
  have f18 : (Cond.fieldLink RX1 18 "ConcertUsher$Hall" "counts" "[I").before _ s = true := hts _ (List.mem_of_getElem? (i := 4) rfl)
  refine lv_aload_n hx hb dX1_hearCall_0 rfl (lv_at hl 0 rfl) ?_
  refine va_get (D := g.1) (ci := 1) (v := .ref (a 1)) (C := RX1) (T := TX1) (N := 12) hx hb hts hiX1 hown hE.1 hP 0 rfl rfl 0 (by decide) f9 (fun _ h9 => h9) rfl dX1_hearCall_1 ?_
  refine lv_iload_n hx hb dX1_hearCall_4 rfl (lv_at hl 1 rfl) ?_
  refine k_iald (f := (hL h)) hx hb hE hP 1 rfl k rfl (by omega) (by decide) dX1_hearCall_5 ?_
  refine lv_if_le (tgt := 29) hx hb dX1_hearCall_6 (by decide) (fun c1 => ?_) (fun c1 => ?_)
  ·
    have e2 : (Hhear k h) = h := (by first | (simp only [Hhear, Hcall, if_pos c1, if_neg (not_not_intro c1)]; done) | (simp only [Hhear, Hcall, if_pos c1, if_neg (not_not_intro c1)]; rfl) | rfl | (simp [Hhear, Hcall, if_pos c1, if_neg (not_not_intro c1)]; done))
    have hP : va_P g.1 vwCl (wH g a (Hhear k h)) s.heap := by rw [e2]; exact hP
    have hD : va_D A (wH g a (Hhear k h)) := by rw [e2]; exact hD
    exact k_vret hx hb hr hlocks hP hD hS (Nat.le_of_ble_eq_true rfl) (Nat.le_of_ble_eq_true rfl) dX1_hearCall_29
  ·
    refine lv_aload_n hx hb dX1_hearCall_9 rfl (lv_at hl 0 rfl) ?_
    refine va_get (D := g.1) (ci := 1) (v := .ref (a 2)) (C := RX1) (T := TX1) (N := 12) hx hb hts hiX1 hown hE.1 hP 0 rfl rfl 1 (by decide) f15 (fun _ h9 => h9) rfl dX1_hearCall_10 ?_
    refine lv_iload_n hx hb dX1_hearCall_13 rfl (lv_at hl 1 rfl) ?_
    refine lv_aload_n hx hb dX1_hearCall_14 rfl (lv_at hl 0 rfl) ?_
    refine va_get (D := g.1) (ci := 1) (v := .int (hfd h)) (C := RX1) (T := TX1) (N := 12) hx hb hts hiX1 hown hE.1 hP 0 rfl rfl 7 (by decide) f35 (fun _ h9 => h9) rfl dX1_hearCall_15 ?_
    refine k_iast (f := (hR h)) (ws1 := (wH g a (sHR h (upd (hR h) k (hfd h))))) hx hb hE hP hD hS 2 rfl k rfl (by omega) (by decide) rfl dX1_hearCall_18 (fun H locs hP hD hS => ?_)
    refine lv_aload_n hx hb dX1_hearCall_19 rfl (lv_at hl 0 rfl) ?_
    refine va_get (D := g.1) (ci := 1) (v := .ref (a 3)) (C := RX1) (T := TX1) (N := 12) hx hb hts hiX1 hown hE.1 hP 0 rfl rfl 2 (by decide) f18 (fun _ h9 => h9) rfl dX1_hearCall_20 ?_
    refine lv_iconst (v := (nI 5)) hx hb dX1_hearCall_23 (by decide) ?_
    refine lv_dup2_11 hx hb dX1_hearCall_24 rfl rfl ?_
    refine k_iald (f := (hC h)) hx hb hE hP 3 rfl 5 rfl (by decide) (by decide) dX1_hearCall_25 ?_
    refine lv_iconst (v := (nI 1)) hx hb dX1_hearCall_26 (by decide) ?_
    refine lv_iadd hx hb dX1_hearCall_27 ?_
    refine k_iast (f := (hC h)) (ws1 := (wH g a (sHC (sHR h (upd (hR h) k (hfd h))) (upd (hC h) 5 (((hC h) 5) + (nI 1)))))) hx hb hE hP hD hS 3 rfl 5 rfl (by decide) (by decide) rfl dX1_hearCall_28 (fun H locs hP hD hS => ?_)
    have e3 : (Hhear k h) = (sHC (sHR h (upd (hR h) k (hfd h))) (upd (hC h) 5 (((hC h) 5) + (nI 1)))) := (by first | (simp only [Hhear, Hcall, if_neg c1, if_pos c1]; done) | (simp only [Hhear, Hcall, if_neg c1, if_pos c1]; rfl) | rfl | (simp [Hhear, Hcall, if_neg c1, if_pos c1]; done))
    have hP : va_P g.1 vwCl (wH g a (Hhear k h)) H := by rw [e3]; exact hP
    have hD : va_D A (wH g a (Hhear k h)) := by rw [e3]; exact hD
    exact k_vret hx hb hr hlocks hP hD hS (Nat.le_of_ble_eq_true rfl) (Nat.le_of_ble_eq_true rfl) dX1_hearCall_29
set_option maxHeartbeats 4000000 in
set_option maxRecDepth 100000 in
theorem c_X1_seat (l : Launch) (g : kG) (a : Nat → Nat) (h : HSt) (k : Nat) (hk : k < 48) : KV l yX1_seat wsX1_seat ({ frames := 1, cells := 0, slots := 0, locals := 21 }) g [.ref (a 0), .int (nI k)] (wH g a h) (wH g a (Hseat k h)) 0 0 := by
  refine k_begin (cc := cX1_seat) (maxL := 2) (ret := none) (Qc := fun A => kQv g (wH g a (Hseat k h)) A) (by decide) rfl (Nat.le_of_ble_eq_true rfl) ?_
  intro p e s m below meth c A ls hF hr hlocks hin hE hP hD hS hA hl
  obtain ⟨hx, hb, hml, hown, hts⟩ := id hF
  have hown : s.vm.findClass RX1 = some m.cls := hown
  have hl : lv_has ls 2 [(0, .ref (a 0)), (1, .int (nI k))] := hl
  have hiX1 : ∀ w ∈ wsX10, w ∈ wsX1_seat := fun _ h => List.mem_cons_of_mem _ (List.mem_append_right _ (h))
  have f9 : (Cond.fieldLink RX1 9 "ConcertUsher$Hall" "listeners" "[I").before _ s = true := hts _ (List.mem_of_getElem? (i := 1) rfl)
  refine lv_aload_n hx hb dX1_seat_0 rfl (lv_at hl 0 rfl) ?_
  refine va_get (D := g.1) (ci := 1) (v := .ref (a 1)) (C := RX1) (T := TX1) (N := 12) hx hb hts hiX1 hown hE.1 hP 0 rfl rfl 0 (by decide) f9 (fun _ h9 => h9) rfl dX1_seat_1 ?_
  refine lv_iload_n hx hb dX1_seat_4 rfl (lv_at hl 1 rfl) ?_
  refine lv_dup2_11 hx hb dX1_seat_5 rfl rfl ?_
  refine k_iald (f := (hL h)) hx hb hE hP 1 rfl k rfl (by omega) (by decide) dX1_seat_6 ?_
  refine lv_iconst (v := (nI 1)) hx hb dX1_seat_7 (by decide) ?_
  refine lv_iadd hx hb dX1_seat_8 ?_
  refine k_iast (f := (hL h)) (ws1 := (wH g a (sHL h (upd (hL h) k (((hL h) k) + (nI 1)))))) hx hb hE hP hD hS 1 rfl k rfl (by omega) (by decide) rfl dX1_seat_9 (fun H locs hP hD hS => ?_)
  refine lv_aload_n hx hb dX1_seat_10 rfl (lv_at hl 0 rfl) ?_
  refine lv_iload_n hx hb dX1_seat_11 rfl (lv_at hl 1 rfl) ?_
  refine k_Vv (As := [.int (nI k)]) hF (c_X1_hearCall l g a (sHL h (upd (hL h) k (((hL h) k) + (nI 1)))) k (by omega)) (cwV 1 hts gX1_seat_X1_hearCall rfl rfl rfl (by decide +kernel) ⟨Nat.le_of_ble_eq_true rfl, Nat.le_of_ble_eq_true rfl⟩) hE hP hD hS hA (k_pall _) ((k_pall _).symm) 0 rfl rfl rfl rfl hl.1 rfl (Nat.le_of_ble_eq_true rfl) dX1_seat_12 ⟨Nat.le_of_ble_eq_true rfl, Nat.le_of_ble_eq_true rfl⟩ (fun H locs hP hD hS => ?_)
  have hP : va_P g.1 vwCl (wH g a (Hhear k (sHL h (upd (hL h) k (((hL h) k) + (nI 1)))))) _ := hP
  have hD : va_D A (wH g a (Hhear k (sHL h (upd (hL h) k (((hL h) k) + (nI 1)))))) := hD
  obtain ⟨z1, ez1⟩ : ∃ x : HSt, (Hhear k (sHL h (upd (hL h) k (((hL h) k) + (nI 1))))) = x := ⟨_, rfl⟩
  rw [ez1] at hP hD
  have e2 : (Hseat k h) = z1 := (by subst ez1; first | rfl | (simp only [Hseat]; done) | (simp only [Hseat]; rfl) | (simp [Hseat]; done))
  have hP : va_P g.1 vwCl (wH g a (Hseat k h)) H := by rw [e2]; exact hP
  have hD : va_D A (wH g a (Hseat k h)) := by rw [e2]; exact hD
  exact k_vret hx hb hr hlocks hP hD hS (Nat.le_of_ble_eq_true rfl) (Nat.le_of_ble_eq_true rfl) dX1_seat_15
set_option maxHeartbeats 4000000 in
set_option maxRecDepth 100000 in
theorem c_X1_hearFarewell (l : Launch) (g : kG) (a : Nat → Nat) (h : HSt) (k : Nat) (hk : k < 48) : KV l yX1_hearFarewell wsX1_hearFarewell ({ frames := 1, cells := 0, slots := 0, locals := 21 }) g [.ref (a 0), .int (nI k)] (wH g a h) (wH g a (Hfare k h)) 0 0 := by
  refine k_begin (cc := cX1_hearFarewell) (maxL := 2) (ret := none) (Qc := fun A => kQv g (wH g a (Hfare k h)) A) (by decide) rfl (Nat.le_of_ble_eq_true rfl) ?_
  intro p e s m below meth c A ls hF hr hlocks hin hE hP hD hS hA hl
  obtain ⟨hx, hb, hml, hown, hts⟩ := id hF
  have hown : s.vm.findClass RX1 = some m.cls := hown
  have hl : lv_has ls 2 [(0, .ref (a 0)), (1, .int (nI k))] := hl
  have hiX1 : ∀ w ∈ wsX10, w ∈ wsX1_hearFarewell := fun _ h => List.mem_cons_of_mem _ (List.mem_append_right _ (h))
  have f25 : (Cond.fieldLink RX1 25 "ConcertUsher$Hall" "isQuick" "Z").before _ s = true := hts _ (List.mem_of_getElem? (i := 1) rfl)
  have f15 : (Cond.fieldLink RX1 15 "ConcertUsher$Hall" "rests" "[I").before _ s = true := hts _ (List.mem_of_getElem? (i := 2) rfl)
  have f38 : (Cond.fieldLink RX1 38 "ConcertUsher$Hall" "patience" "I").before _ s = true := hts _ (List.mem_of_getElem? (i := 3) rfl)
  have f18 : (Cond.fieldLink RX1 18 "ConcertUsher$Hall" "counts" "[I").before _ s = true := hts _ (List.mem_of_getElem? (i := 4) rfl)
  refine lv_aload_n hx hb dX1_hearFarewell_0 rfl (lv_at hl 0 rfl) ?_
  refine va_get (D := g.1) (ci := 1) (v := .int (hqk h)) (C := RX1) (T := TX1) (N := 12) hx hb hts hiX1 hown hE.1 hP 0 rfl rfl 4 (by decide) f25 (fun _ h9 => h9) rfl dX1_hearFarewell_1 ?_
  refine lv_if_eq (tgt := 25) hx hb dX1_hearFarewell_4 (by decide) (fun c1 => ?_) (fun c1 => ?_)
  ·
    refine lv_aload_n hx hb dX1_hearFarewell_25 rfl (lv_at hl 0 rfl) ?_
    refine va_get (D := g.1) (ci := 1) (v := .ref (a 2)) (C := RX1) (T := TX1) (N := 12) hx hb hts hiX1 hown hE.1 hP 0 rfl rfl 1 (by decide) f15 (fun _ h9 => h9) rfl dX1_hearFarewell_26 ?_
    refine lv_iload_n hx hb dX1_hearFarewell_29 rfl (lv_at hl 1 rfl) ?_
    refine k_iald (f := (hR h)) hx hb hE hP 2 rfl k rfl (by omega) (by decide) dX1_hearFarewell_30 ?_
    refine lv_aload_n hx hb dX1_hearFarewell_31 rfl (lv_at hl 0 rfl) ?_
    refine va_get (D := g.1) (ci := 1) (v := .int (hpt h)) (C := RX1) (T := TX1) (N := 12) hx hb hts hiX1 hown hE.1 hP 0 rfl rfl 8 (by decide) f38 (fun _ h9 => h9) rfl dX1_hearFarewell_32 ?_
    refine lv_icmp_le (tgt := 63) hx hb dX1_hearFarewell_35 (by decide) (fun c2 => ?_) (fun c2 => ?_)
    ·
      have e3 : (Hfare k h) = h := (by first | (simp only [Hfare, Hfare2, Hask_hear, if_pos c1, if_neg (not_not_intro c1), if_pos c2, if_neg (not_not_intro c2)]; done) | (simp only [Hfare, Hfare2, Hask_hear, if_pos c1, if_neg (not_not_intro c1), if_pos c2, if_neg (not_not_intro c2)]; rfl) | rfl | (simp [Hfare, Hfare2, Hask_hear, if_pos c1, if_neg (not_not_intro c1), if_pos c2, if_neg (not_not_intro c2)]; done))
      have hP : va_P g.1 vwCl (wH g a (Hfare k h)) s.heap := by rw [e3]; exact hP
      have hD : va_D A (wH g a (Hfare k h)) := by rw [e3]; exact hD
      exact k_vret hx hb hr hlocks hP hD hS (Nat.le_of_ble_eq_true rfl) (Nat.le_of_ble_eq_true rfl) dX1_hearFarewell_63
    ·
      refine lv_aload_n hx hb dX1_hearFarewell_38 rfl (lv_at hl 0 rfl) ?_
      refine va_get (D := g.1) (ci := 1) (v := .ref (a 2)) (C := RX1) (T := TX1) (N := 12) hx hb hts hiX1 hown hE.1 hP 0 rfl rfl 1 (by decide) f15 (fun _ h9 => h9) rfl dX1_hearFarewell_39 ?_
      refine lv_iload_n hx hb dX1_hearFarewell_42 rfl (lv_at hl 1 rfl) ?_
      refine lv_aload_n hx hb dX1_hearFarewell_43 rfl (lv_at hl 0 rfl) ?_
      refine va_get (D := g.1) (ci := 1) (v := .int (hpt h)) (C := RX1) (T := TX1) (N := 12) hx hb hts hiX1 hown hE.1 hP 0 rfl rfl 8 (by decide) f38 (fun _ h9 => h9) rfl dX1_hearFarewell_44 ?_
      refine k_iast (f := (hR h)) (ws1 := (wH g a (sHR h (upd (hR h) k (hpt h))))) hx hb hE hP hD hS 2 rfl k rfl (by omega) (by decide) rfl dX1_hearFarewell_47 (fun H locs hP hD hS => ?_)
      refine lv_aload_n hx hb dX1_hearFarewell_48 rfl (lv_at hl 0 rfl) ?_
      refine va_get (D := g.1) (ci := 1) (v := .ref (a 3)) (C := RX1) (T := TX1) (N := 12) hx hb hts hiX1 hown hE.1 hP 0 rfl rfl 2 (by decide) f18 (fun _ h9 => h9) rfl dX1_hearFarewell_49 ?_
      refine lv_iconst (v := (nI 4)) hx hb dX1_hearFarewell_52 (by decide) ?_
      refine lv_dup2_11 hx hb dX1_hearFarewell_53 rfl rfl ?_
      refine k_iald (f := (hC h)) hx hb hE hP 3 rfl 4 rfl (by decide) (by decide) dX1_hearFarewell_54 ?_
      refine lv_iconst (v := (nI 1)) hx hb dX1_hearFarewell_55 (by decide) ?_
      refine lv_iadd hx hb dX1_hearFarewell_56 ?_
      refine k_iast (f := (hC h)) (ws1 := (wH g a (sHC (sHR h (upd (hR h) k (hpt h))) (upd (hC h) 4 (((hC h) 4) + (nI 1)))))) hx hb hE hP hD hS 3 rfl 4 rfl (by decide) (by decide) rfl dX1_hearFarewell_57 (fun H locs hP hD hS => ?_)
      refine lv_aload_n hx hb dX1_hearFarewell_58 rfl (lv_at hl 0 rfl) ?_
      refine lv_iload_n hx hb dX1_hearFarewell_59 rfl (lv_at hl 1 rfl) ?_
      refine k_Vv (As := [.int (nI k)]) hF (c_X1_hearCall l g a (sHC (sHR h (upd (hR h) k (hpt h))) (upd (hC h) 4 (((hC h) 4) + (nI 1)))) k (by omega)) (cwV 1 hts gX1_hearFarewell_X1_hearCall rfl rfl rfl (by decide +kernel) ⟨Nat.le_of_ble_eq_true rfl, Nat.le_of_ble_eq_true rfl⟩) hE hP hD hS hA (k_pall _) ((k_pall _).symm) 0 rfl rfl rfl rfl hl.1 rfl (Nat.le_of_ble_eq_true rfl) dX1_hearFarewell_60 ⟨Nat.le_of_ble_eq_true rfl, Nat.le_of_ble_eq_true rfl⟩ (fun H locs hP hD hS => ?_)
      have hP : va_P g.1 vwCl (wH g a (Hhear k (sHC (sHR h (upd (hR h) k (hpt h))) (upd (hC h) 4 (((hC h) 4) + (nI 1)))))) _ := hP
      have hD : va_D A (wH g a (Hhear k (sHC (sHR h (upd (hR h) k (hpt h))) (upd (hC h) 4 (((hC h) 4) + (nI 1)))))) := hD
      obtain ⟨z4, ez4⟩ : ∃ x : HSt, (Hhear k (sHC (sHR h (upd (hR h) k (hpt h))) (upd (hC h) 4 (((hC h) 4) + (nI 1))))) = x := ⟨_, rfl⟩
      rw [ez4] at hP hD
      have e5 : (Hfare k h) = z4 := (by subst ez4; first | (simp only [Hfare, Hfare2, Hask_hear, if_pos c1, if_neg (not_not_intro c1), if_neg c2, if_pos c2]; done) | (simp only [Hfare, Hfare2, Hask_hear, if_pos c1, if_neg (not_not_intro c1), if_neg c2, if_pos c2]; rfl) | rfl | (simp [Hfare, Hfare2, Hask_hear, if_pos c1, if_neg (not_not_intro c1), if_neg c2, if_pos c2]; done))
      have hP : va_P g.1 vwCl (wH g a (Hfare k h)) H := by rw [e5]; exact hP
      have hD : va_D A (wH g a (Hfare k h)) := by rw [e5]; exact hD
      exact k_vret hx hb hr hlocks hP hD hS (Nat.le_of_ble_eq_true rfl) (Nat.le_of_ble_eq_true rfl) dX1_hearFarewell_63
  ·
    refine lv_aload_n hx hb dX1_hearFarewell_7 rfl (lv_at hl 0 rfl) ?_
    refine lv_iload_n hx hb dX1_hearFarewell_8 rfl (lv_at hl 1 rfl) ?_
    refine k_Vi (As := [.int (nI k)]) (r := (bI (¬ ((hL h) k) ≤ 0))) hF (c_X1_isWantedAt l g a h k (by omega)) (cwV 1 hts gX1_hearFarewell_X1_isWantedAt rfl rfl rfl (by decide +kernel) ⟨Nat.le_of_ble_eq_true rfl, Nat.le_of_ble_eq_true rfl⟩) hE hP hD hS hA (k_pall _) ((k_pall _).symm) 0 rfl rfl rfl rfl hl.1 rfl (Nat.le_of_ble_eq_true rfl) dX1_hearFarewell_9 ⟨Nat.le_of_ble_eq_true rfl, Nat.le_of_ble_eq_true rfl⟩ (fun H locs hP hD hS => ?_)
    have hP : va_P g.1 vwCl (wH g a h) _ := hP
    have hD : va_D A (wH g a h) := hD
    refine k_ifneB (tgt := 25) hx hb dX1_hearFarewell_12 (by decide) (fun c6 => ?_) (fun c6 => ?_)
    ·
      refine lv_aload_n hx hb dX1_hearFarewell_25 rfl (lv_at hl 0 rfl) ?_
      refine va_get (D := g.1) (ci := 1) (v := .ref (a 2)) (C := RX1) (T := TX1) (N := 12) hx hb hts hiX1 hown hE.1 hP 0 rfl rfl 1 (by decide) f15 (fun _ h9 => h9) rfl dX1_hearFarewell_26 ?_
      refine lv_iload_n hx hb dX1_hearFarewell_29 rfl (lv_at hl 1 rfl) ?_
      refine k_iald (f := (hR h)) hx hb hE hP 2 rfl k rfl (by omega) (by decide) dX1_hearFarewell_30 ?_
      refine lv_aload_n hx hb dX1_hearFarewell_31 rfl (lv_at hl 0 rfl) ?_
      refine va_get (D := g.1) (ci := 1) (v := .int (hpt h)) (C := RX1) (T := TX1) (N := 12) hx hb hts hiX1 hown hE.1 hP 0 rfl rfl 8 (by decide) f38 (fun _ h9 => h9) rfl dX1_hearFarewell_32 ?_
      refine lv_icmp_le (tgt := 63) hx hb dX1_hearFarewell_35 (by decide) (fun c7 => ?_) (fun c7 => ?_)
      ·
        have e8 : (Hfare k h) = h := (by first | (simp only [Hfare, Hfare2, Hask_hear, if_neg c1, if_pos c1, if_pos c6, if_neg (not_not_intro c6), if_pos c7, if_neg (not_not_intro c7)]; done) | (simp only [Hfare, Hfare2, Hask_hear, if_neg c1, if_pos c1, if_pos c6, if_neg (not_not_intro c6), if_pos c7, if_neg (not_not_intro c7)]; rfl) | rfl | (simp [Hfare, Hfare2, Hask_hear, if_neg c1, if_pos c1, if_pos c6, if_neg (not_not_intro c6), if_pos c7, if_neg (not_not_intro c7)]; done))
        have hP : va_P g.1 vwCl (wH g a (Hfare k h)) H := by rw [e8]; exact hP
        have hD : va_D A (wH g a (Hfare k h)) := by rw [e8]; exact hD
        exact k_vret hx hb hr hlocks hP hD hS (Nat.le_of_ble_eq_true rfl) (Nat.le_of_ble_eq_true rfl) dX1_hearFarewell_63
      ·
        refine lv_aload_n hx hb dX1_hearFarewell_38 rfl (lv_at hl 0 rfl) ?_
        refine va_get (D := g.1) (ci := 1) (v := .ref (a 2)) (C := RX1) (T := TX1) (N := 12) hx hb hts hiX1 hown hE.1 hP 0 rfl rfl 1 (by decide) f15 (fun _ h9 => h9) rfl dX1_hearFarewell_39 ?_
        refine lv_iload_n hx hb dX1_hearFarewell_42 rfl (lv_at hl 1 rfl) ?_
        refine lv_aload_n hx hb dX1_hearFarewell_43 rfl (lv_at hl 0 rfl) ?_
        refine va_get (D := g.1) (ci := 1) (v := .int (hpt h)) (C := RX1) (T := TX1) (N := 12) hx hb hts hiX1 hown hE.1 hP 0 rfl rfl 8 (by decide) f38 (fun _ h9 => h9) rfl dX1_hearFarewell_44 ?_
        refine k_iast (f := (hR h)) (ws1 := (wH g a (sHR h (upd (hR h) k (hpt h))))) hx hb hE hP hD hS 2 rfl k rfl (by omega) (by decide) rfl dX1_hearFarewell_47 (fun H locs hP hD hS => ?_)
        refine lv_aload_n hx hb dX1_hearFarewell_48 rfl (lv_at hl 0 rfl) ?_
        refine va_get (D := g.1) (ci := 1) (v := .ref (a 3)) (C := RX1) (T := TX1) (N := 12) hx hb hts hiX1 hown hE.1 hP 0 rfl rfl 2 (by decide) f18 (fun _ h9 => h9) rfl dX1_hearFarewell_49 ?_
        refine lv_iconst (v := (nI 4)) hx hb dX1_hearFarewell_52 (by decide) ?_
        refine lv_dup2_11 hx hb dX1_hearFarewell_53 rfl rfl ?_
        refine k_iald (f := (hC h)) hx hb hE hP 3 rfl 4 rfl (by decide) (by decide) dX1_hearFarewell_54 ?_
        refine lv_iconst (v := (nI 1)) hx hb dX1_hearFarewell_55 (by decide) ?_
        refine lv_iadd hx hb dX1_hearFarewell_56 ?_
        refine k_iast (f := (hC h)) (ws1 := (wH g a (sHC (sHR h (upd (hR h) k (hpt h))) (upd (hC h) 4 (((hC h) 4) + (nI 1)))))) hx hb hE hP hD hS 3 rfl 4 rfl (by decide) (by decide) rfl dX1_hearFarewell_57 (fun H locs hP hD hS => ?_)
        refine lv_aload_n hx hb dX1_hearFarewell_58 rfl (lv_at hl 0 rfl) ?_
        refine lv_iload_n hx hb dX1_hearFarewell_59 rfl (lv_at hl 1 rfl) ?_
        refine k_Vv (As := [.int (nI k)]) hF (c_X1_hearCall l g a (sHC (sHR h (upd (hR h) k (hpt h))) (upd (hC h) 4 (((hC h) 4) + (nI 1)))) k (by omega)) (cwV 1 hts gX1_hearFarewell_X1_hearCall rfl rfl rfl (by decide +kernel) ⟨Nat.le_of_ble_eq_true rfl, Nat.le_of_ble_eq_true rfl⟩) hE hP hD hS hA (k_pall _) ((k_pall _).symm) 0 rfl rfl rfl rfl hl.1 rfl (Nat.le_of_ble_eq_true rfl) dX1_hearFarewell_60 ⟨Nat.le_of_ble_eq_true rfl, Nat.le_of_ble_eq_true rfl⟩ (fun H locs hP hD hS => ?_)
        have hP : va_P g.1 vwCl (wH g a (Hhear k (sHC (sHR h (upd (hR h) k (hpt h))) (upd (hC h) 4 (((hC h) 4) + (nI 1)))))) _ := hP
        have hD : va_D A (wH g a (Hhear k (sHC (sHR h (upd (hR h) k (hpt h))) (upd (hC h) 4 (((hC h) 4) + (nI 1)))))) := hD
        obtain ⟨z9, ez9⟩ : ∃ x : HSt, (Hhear k (sHC (sHR h (upd (hR h) k (hpt h))) (upd (hC h) 4 (((hC h) 4) + (nI 1))))) = x := ⟨_, rfl⟩
        rw [ez9] at hP hD
        have e10 : (Hfare k h) = z9 := (by subst ez9; first | (simp only [Hfare, Hfare2, Hask_hear, if_neg c1, if_pos c1, if_pos c6, if_neg (not_not_intro c6), if_neg c7, if_pos c7]; done) | (simp only [Hfare, Hfare2, Hask_hear, if_neg c1, if_pos c1, if_pos c6, if_neg (not_not_intro c6), if_neg c7, if_pos c7]; rfl) | rfl | (simp [Hfare, Hfare2, Hask_hear, if_neg c1, if_pos c1, if_pos c6, if_neg (not_not_intro c6), if_neg c7, if_pos c7]; done))
        have hP : va_P g.1 vwCl (wH g a (Hfare k h)) H := by rw [e10]; exact hP
        have hD : va_D A (wH g a (Hfare k h)) := by rw [e10]; exact hD
        exact k_vret hx hb hr hlocks hP hD hS (Nat.le_of_ble_eq_true rfl) (Nat.le_of_ble_eq_true rfl) dX1_hearFarewell_63
    ·
      refine lv_aload_n hx hb dX1_hearFarewell_15 rfl (lv_at hl 0 rfl) ?_
      refine va_get (D := g.1) (ci := 1) (v := .ref (a 2)) (C := RX1) (T := TX1) (N := 12) hx hb hts hiX1 hown hE.1 hP 0 rfl rfl 1 (by decide) f15 (fun _ h9 => h9) rfl dX1_hearFarewell_16 ?_
      refine lv_iload_n hx hb dX1_hearFarewell_19 rfl (lv_at hl 1 rfl) ?_
      refine lv_iconst (v := (nI 0)) hx hb dX1_hearFarewell_20 (by decide) ?_
      refine k_iast (f := (hR h)) (ws1 := (wH g a (sHR h (upd (hR h) k (nI 0))))) hx hb hE hP hD hS 2 rfl k rfl (by omega) (by decide) rfl dX1_hearFarewell_21 (fun H locs hP hD hS => ?_)
      refine lv_goto (tgt := 63) hx hb dX1_hearFarewell_22 (by decide) ?_
      have e11 : (Hfare k h) = (sHR h (upd (hR h) k (nI 0))) := (by first | (simp only [Hfare, Hfare2, Hask_hear, if_neg c1, if_pos c1, if_neg c6, if_pos c6]; done) | (simp only [Hfare, Hfare2, Hask_hear, if_neg c1, if_pos c1, if_neg c6, if_pos c6]; rfl) | rfl | (simp [Hfare, Hfare2, Hask_hear, if_neg c1, if_pos c1, if_neg c6, if_pos c6]; done))
      have hP : va_P g.1 vwCl (wH g a (Hfare k h)) H := by rw [e11]; exact hP
      have hD : va_D A (wH g a (Hfare k h)) := by rw [e11]; exact hD
      exact k_vret hx hb hr hlocks hP hD hS (Nat.le_of_ble_eq_true rfl) (Nat.le_of_ble_eq_true rfl) dX1_hearFarewell_63
set_option maxHeartbeats 4000000 in
set_option maxRecDepth 100000 in
theorem c_X1_unseat (l : Launch) (g : kG) (a : Nat → Nat) (h : HSt) (k : Nat) (hk : k < 48) (b : Nat) (hb2 : b < 2) : KV l yX1_unseat wsX1_unseat ({ frames := 2, cells := 0, slots := 0, locals := 42 }) g [.ref (a 0), .int (nI k), .int (nI b)] (wH g a h) (wH g a (Hunseat k b h)) 0 0 := by
  refine k_begin (cc := cX1_unseat) (maxL := 3) (ret := none) (Qc := fun A => kQv g (wH g a (Hunseat k b h)) A) (by decide) rfl (Nat.le_of_ble_eq_true rfl) ?_
  intro p e s m below meth c A ls hF hr hlocks hin hE hP hD hS hA hl
  obtain ⟨hx, hb, hml, hown, hts⟩ := id hF
  have hown : s.vm.findClass RX1 = some m.cls := hown
  have hl : lv_has ls 3 [(0, .ref (a 0)), (1, .int (nI k)), (2, .int (nI b))] := hl
  have hiX1 : ∀ w ∈ wsX10, w ∈ wsX1_unseat := fun _ h => List.mem_cons_of_mem _ (List.mem_append_right _ (h))
  have f9 : (Cond.fieldLink RX1 9 "ConcertUsher$Hall" "listeners" "[I").before _ s = true := hts _ (List.mem_of_getElem? (i := 1) rfl)
  refine lv_aload_n hx hb dX1_unseat_0 rfl (lv_at hl 0 rfl) ?_
  refine va_get (D := g.1) (ci := 1) (v := .ref (a 1)) (C := RX1) (T := TX1) (N := 12) hx hb hts hiX1 hown hE.1 hP 0 rfl rfl 0 (by decide) f9 (fun _ h9 => h9) rfl dX1_unseat_1 ?_
  refine lv_iload_n hx hb dX1_unseat_4 rfl (lv_at hl 1 rfl) ?_
  refine lv_dup2_11 hx hb dX1_unseat_5 rfl rfl ?_
  refine k_iald (f := (hL h)) hx hb hE hP 1 rfl k rfl (by omega) (by decide) dX1_unseat_6 ?_
  refine lv_iconst (v := (nI 1)) hx hb dX1_unseat_7 (by decide) ?_
  refine lv_isub hx hb dX1_unseat_8 ?_
  refine k_iast (f := (hL h)) (ws1 := (wH g a (sHL h (upd (hL h) k (((hL h) k) - (nI 1)))))) hx hb hE hP hD hS 1 rfl k rfl (by omega) (by decide) rfl dX1_unseat_9 (fun H locs hP hD hS => ?_)
  refine lv_iload_n hx hb dX1_unseat_10 rfl (lv_at hl 2 rfl) ?_
  refine k_if0 (tgt := 19) hx hb (by omega) dX1_unseat_11 (by decide) (fun c1 => ?_) (fun c1 => ?_)
  ·
    have e2 : (Hunseat k b h) = (sHL h (upd (hL h) k (((hL h) k) - (nI 1)))) := (by first | (simp only [Hunseat, if_pos c1, if_neg (not_not_intro c1)]; done) | (simp only [Hunseat, if_pos c1, if_neg (not_not_intro c1)]; rfl) | rfl | (simp [Hunseat, if_pos c1, if_neg (not_not_intro c1)]; done))
    have hP : va_P g.1 vwCl (wH g a (Hunseat k b h)) H := by rw [e2]; exact hP
    have hD : va_D A (wH g a (Hunseat k b h)) := by rw [e2]; exact hD
    exact k_vret hx hb hr hlocks hP hD hS (Nat.le_of_ble_eq_true rfl) (Nat.le_of_ble_eq_true rfl) dX1_unseat_19
  ·
    refine lv_aload_n hx hb dX1_unseat_14 rfl (lv_at hl 0 rfl) ?_
    refine lv_iload_n hx hb dX1_unseat_15 rfl (lv_at hl 1 rfl) ?_
    refine k_Vv (As := [.int (nI k)]) hF (c_X1_hearFarewell l g a (sHL h (upd (hL h) k (((hL h) k) - (nI 1)))) k (by omega)) (cwV 1 hts gX1_unseat_X1_hearFarewell rfl rfl rfl (by decide +kernel) ⟨Nat.le_of_ble_eq_true rfl, Nat.le_of_ble_eq_true rfl⟩) hE hP hD hS hA (k_pall _) ((k_pall _).symm) 0 rfl rfl rfl rfl hl.1 rfl (Nat.le_of_ble_eq_true rfl) dX1_unseat_16 ⟨Nat.le_of_ble_eq_true rfl, Nat.le_of_ble_eq_true rfl⟩ (fun H locs hP hD hS => ?_)
    have hP : va_P g.1 vwCl (wH g a (Hfare k (sHL h (upd (hL h) k (((hL h) k) - (nI 1)))))) _ := hP
    have hD : va_D A (wH g a (Hfare k (sHL h (upd (hL h) k (((hL h) k) - (nI 1)))))) := hD
    obtain ⟨z3, ez3⟩ : ∃ x : HSt, (Hfare k (sHL h (upd (hL h) k (((hL h) k) - (nI 1))))) = x := ⟨_, rfl⟩
    rw [ez3] at hP hD
    have e4 : (Hunseat k b h) = z3 := (by subst ez3; first | (simp only [Hunseat, if_neg c1, if_pos c1]; done) | (simp only [Hunseat, if_neg c1, if_pos c1]; rfl) | rfl | (simp [Hunseat, if_neg c1, if_pos c1]; done))
    have hP : va_P g.1 vwCl (wH g a (Hunseat k b h)) H := by rw [e4]; exact hP
    have hD : va_D A (wH g a (Hunseat k b h)) := by rw [e4]; exact hD
    exact k_vret hx hb hr hlocks hP hD hS (Nat.le_of_ble_eq_true rfl) (Nat.le_of_ble_eq_true rfl) dX1_unseat_19
